theorem dX12_swear_0 : decode cX12_swear 0 = .ok (.iload_n 3, 1) := by decide +kernel
theorem dX12_swear_1 : decode cX12_swear 1 = .ok (.iconst 0, 1) := by decide +kernel
theorem dX12_swear_2 : decode cX12_swear 2 = .ok (.iconst 1, 1) := by decide +kernel
theorem dX12_swear_3 : decode cX12_swear 3 = .ok (.invokestatic 69, 3) := by decide +kernel
theorem dX12_swear_6 : decode cX12_swear 6 = .ok (.ifCond .eq 23, 3) := by decide +kernel
theorem dX12_swear_29 : decode cX12_swear 29 = .ok (.iconst (-1), 1) := by decide +kernel
theorem dX12_swear_30 : decode cX12_swear 30 = .ok (.ireturn, 1) := by decide +kernel
theorem dX12_swear_9 : decode cX12_swear 9 = .ok (.iload 4, 2) := by decide +kernel
theorem dX12_swear_11 : decode cX12_swear 11 = .ok (.iconst 1, 1) := by decide +kernel
theorem dX12_swear_12 : decode cX12_swear 12 = .ok (.bipush 9, 2) := by decide +kernel
theorem dX12_swear_14 : decode cX12_swear 14 = .ok (.invokestatic 69, 3) := by decide +kernel
theorem dX12_swear_17 : decode cX12_swear 17 = .ok (.ifCond .eq 12, 3) := by decide +kernel
theorem dX12_swear_20 : decode cX12_swear 20 = .ok (.aload_n 0, 1) := by decide +kernel
theorem dX12_swear_21 : decode cX12_swear 21 = .ok (.iload_n 1, 1) := by decide +kernel
theorem dX12_swear_22 : decode cX12_swear 22 = .ok (.iload_n 2, 1) := by decide +kernel
theorem dX12_swear_23 : decode cX12_swear 23 = .ok (.invokevirtual 330, 3) := by decide +kernel
theorem cw_X12_canSwear : CWv yX12_canSwear cX12_canSwear 3 (some .boolean) 2 := ⟨⟨⟨List.mem_of_getElem? (i := 137) (by decide +kernel), by decide +kernel⟩, ⟨List.mem_of_getElem? (i := 1784) (by decide +kernel), by decide +kernel⟩, by decide +kernel⟩, ⟨List.mem_of_getElem? (i := 1783) (by decide +kernel), by decide +kernel⟩, ⟨List.mem_of_getElem? (i := 78) (by decide +kernel), by decide +kernel⟩⟩
theorem km12_330 : inW (Cond.methodLink RX12 330 yX12_canSwear) := ⟨List.mem_of_getElem? (i := 1781) (by decide +kernel), by decide +kernel⟩
theorem dX12_swear_26 : decode cX12_swear 26 = .ok (.ifCond .ne 5, 3) := by decide +kernel
theorem dX12_swear_31 : decode cX12_swear 31 = .ok (.aload_n 0, 1) := by decide +kernel
theorem dX12_swear_32 : decode cX12_swear 32 = .ok (.invokevirtual 333, 3) := by decide +kernel
theorem cw_X12_keep : CWv yX12_keep cX12_keep 3 none 0 := ⟨⟨⟨List.mem_of_getElem? (i := 137) (by decide +kernel), by decide +kernel⟩, ⟨List.mem_of_getElem? (i := 1792) (by decide +kernel), by decide +kernel⟩, by decide +kernel⟩, ⟨List.mem_of_getElem? (i := 1791) (by decide +kernel), by decide +kernel⟩, ⟨List.mem_of_getElem? (i := 80) (by decide +kernel), by decide +kernel⟩⟩
theorem km12_333 : inW (Cond.methodLink RX12 333 yX12_keep) := ⟨List.mem_of_getElem? (i := 1789) (by decide +kernel), by decide +kernel⟩
theorem dX12_swear_35 : decode cX12_swear 35 = .ok (.aload_n 0, 1) := by decide +kernel
theorem dX12_swear_36 : decode cX12_swear 36 = .ok (.iload_n 1, 1) := by decide +kernel
theorem dX12_swear_37 : decode cX12_swear 37 = .ok (.iload_n 2, 1) := by decide +kernel
theorem dX12_swear_38 : decode cX12_swear 38 = .ok (.iload_n 3, 1) := by decide +kernel
theorem dX12_swear_39 : decode cX12_swear 39 = .ok (.iload 4, 2) := by decide +kernel
theorem dX12_swear_41 : decode cX12_swear 41 = .ok (.invokevirtual 336, 3) := by decide +kernel
theorem cw_X12_swearNow : CWv yX12_swearNow cX12_swearNow 6 (some .int) 4 := ⟨⟨⟨List.mem_of_getElem? (i := 137) (by decide +kernel), by decide +kernel⟩, ⟨List.mem_of_getElem? (i := 1796) (by decide +kernel), by decide +kernel⟩, by decide +kernel⟩, ⟨List.mem_of_getElem? (i := 1795) (by decide +kernel), by decide +kernel⟩, ⟨List.mem_of_getElem? (i := 81) (by decide +kernel), by decide +kernel⟩⟩
theorem km12_336 : inW (Cond.methodLink RX12 336 yX12_swearNow) := ⟨List.mem_of_getElem? (i := 1793) (by decide +kernel), by decide +kernel⟩
theorem dX12_swear_44 : decode cX12_swear 44 = .ok (.ireturn, 1) := by decide +kernel
theorem dX12_breaks_0 : decode cX12_breaks 0 = .ok (.aload_n 0, 1) := by decide +kernel
theorem dX12_breaks_1 : decode cX12_breaks 1 = .ok (.iload_n 1, 1) := by decide +kernel
theorem dX12_breaks_2 : decode cX12_breaks 2 = .ok (.invokevirtual 339, 3) := by decide +kernel
theorem cw_X12_isOath : CWv yX12_isOath cX12_isOath 2 (some .boolean) 1 := ⟨⟨⟨List.mem_of_getElem? (i := 137) (by decide +kernel), by decide +kernel⟩, ⟨List.mem_of_getElem? (i := 1808) (by decide +kernel), by decide +kernel⟩, by decide +kernel⟩, ⟨List.mem_of_getElem? (i := 1807) (by decide +kernel), by decide +kernel⟩, ⟨List.mem_of_getElem? (i := 83) (by decide +kernel), by decide +kernel⟩⟩
theorem km12_339 : inW (Cond.methodLink RX12 339 yX12_isOath) := ⟨List.mem_of_getElem? (i := 1805) (by decide +kernel), by decide +kernel⟩
theorem dX12_breaks_5 : decode cX12_breaks 5 = .ok (.ifCond .eq 12, 3) := by decide +kernel
theorem dX12_breaks_17 : decode cX12_breaks 17 = .ok (.iconst 0, 1) := by decide +kernel
theorem dX12_breaks_18 : decode cX12_breaks 18 = .ok (.ireturn, 1) := by decide +kernel
theorem dX12_breaks_8 : decode cX12_breaks 8 = .ok (.aload_n 0, 1) := by decide +kernel
theorem dX12_breaks_9 : decode cX12_breaks 9 = .ok (.iload_n 1, 1) := by decide +kernel
theorem dX12_breaks_10 : decode cX12_breaks 10 = .ok (.iconst 4, 1) := by decide +kernel
theorem dX12_breaks_11 : decode cX12_breaks 11 = .ok (.invokevirtual 73, 3) := by decide +kernel
theorem dX12_breaks_14 : decode cX12_breaks 14 = .ok (.ifCond .eq 5, 3) := by decide +kernel
theorem dX12_breaks_19 : decode cX12_breaks 19 = .ok (.aload_n 0, 1) := by decide +kernel
theorem dX12_breaks_20 : decode cX12_breaks 20 = .ok (.invokevirtual 333, 3) := by decide +kernel
theorem dX12_breaks_23 : decode cX12_breaks 23 = .ok (.aload_n 0, 1) := by decide +kernel
theorem dX12_breaks_24 : decode cX12_breaks 24 = .ok (.iload_n 1, 1) := by decide +kernel
theorem dX12_breaks_25 : decode cX12_breaks 25 = .ok (.iconst 4, 1) := by decide +kernel
theorem dX12_breaks_26 : decode cX12_breaks 26 = .ok (.iconst 1, 1) := by decide +kernel
theorem dX12_breaks_27 : decode cX12_breaks 27 = .ok (.invokevirtual 326, 3) := by decide +kernel
theorem dX12_breaks_30 : decode cX12_breaks 30 = .ok (.iconst 1, 1) := by decide +kernel
theorem dX12_breaks_31 : decode cX12_breaks 31 = .ok (.ireturn, 1) := by decide +kernel
theorem dX12_release_0 : decode cX12_release 0 = .ok (.aload_n 0, 1) := by decide +kernel
theorem dX12_release_1 : decode cX12_release 1 = .ok (.iload_n 1, 1) := by decide +kernel
theorem dX12_release_2 : decode cX12_release 2 = .ok (.invokevirtual 339, 3) := by decide +kernel
theorem dX12_release_5 : decode cX12_release 5 = .ok (.ifCond .eq 13, 3) := by decide +kernel
theorem dX12_release_18 : decode cX12_release 18 = .ok (.iconst 0, 1) := by decide +kernel
theorem dX12_release_19 : decode cX12_release 19 = .ok (.ireturn, 1) := by decide +kernel
theorem dX12_release_8 : decode cX12_release 8 = .ok (.aload_n 0, 1) := by decide +kernel
theorem dX12_release_9 : decode cX12_release 9 = .ok (.iload_n 1, 1) := by decide +kernel
theorem dX12_release_10 : decode cX12_release 10 = .ok (.iconst 4, 1) := by decide +kernel
theorem dX12_release_11 : decode cX12_release 11 = .ok (.invokevirtual 73, 3) := by decide +kernel
theorem dX12_release_14 : decode cX12_release 14 = .ok (.iconst 2, 1) := by decide +kernel
theorem dX12_release_15 : decode cX12_release 15 = .ok (.if_icmp .ne 5, 3) := by decide +kernel
theorem dX12_release_20 : decode cX12_release 20 = .ok (.aload_n 0, 1) := by decide +kernel
theorem dX12_release_21 : decode cX12_release 21 = .ok (.invokevirtual 333, 3) := by decide +kernel
theorem dX12_release_24 : decode cX12_release 24 = .ok (.aload_n 0, 1) := by decide +kernel
theorem dX12_release_25 : decode cX12_release 25 = .ok (.iload_n 1, 1) := by decide +kernel
theorem dX12_release_26 : decode cX12_release 26 = .ok (.iconst 4, 1) := by decide +kernel
theorem dX12_release_27 : decode cX12_release 27 = .ok (.iconst 2, 1) := by decide +kernel
theorem dX12_release_28 : decode cX12_release 28 = .ok (.invokevirtual 326, 3) := by decide +kernel
theorem dX12_release_31 : decode cX12_release 31 = .ok (.iconst 1, 1) := by decide +kernel
theorem dX12_release_32 : decode cX12_release 32 = .ok (.ireturn, 1) := by decide +kernel
theorem dX12_kneel_0 : decode cX12_kneel 0 = .ok (.aload_n 0, 1) := by decide +kernel
theorem dX12_kneel_1 : decode cX12_kneel 1 = .ok (.iload_n 1, 1) := by decide +kernel
theorem dX12_kneel_2 : decode cX12_kneel 2 = .ok (.invokevirtual 323, 3) := by decide +kernel
theorem dX12_kneel_5 : decode cX12_kneel 5 = .ok (.ifCond .ne 5, 3) := by decide +kernel
theorem dX12_kneel_10 : decode cX12_kneel 10 = .ok (.aload_n 0, 1) := by decide +kernel
theorem dX12_kneel_11 : decode cX12_kneel 11 = .ok (.invokevirtual 333, 3) := by decide +kernel
theorem dX12_kneel_14 : decode cX12_kneel 14 = .ok (.aload_n 0, 1) := by decide +kernel
theorem dX12_kneel_15 : decode cX12_kneel 15 = .ok (.iload_n 1, 1) := by decide +kernel
theorem dX12_kneel_16 : decode cX12_kneel 16 = .ok (.invokevirtual 345, 3) := by decide +kernel
theorem cw_X12_kneelNow : CWv yX12_kneelNow cX12_kneelNow 3 none 1 := ⟨⟨⟨List.mem_of_getElem? (i := 137) (by decide +kernel), by decide +kernel⟩, ⟨List.mem_of_getElem? (i := 1824) (by decide +kernel), by decide +kernel⟩, by decide +kernel⟩, ⟨List.mem_of_getElem? (i := 1823) (by decide +kernel), by decide +kernel⟩, ⟨List.mem_of_getElem? (i := 85) (by decide +kernel), by decide +kernel⟩⟩
theorem km12_345 : inW (Cond.methodLink RX12 345 yX12_kneelNow) := ⟨List.mem_of_getElem? (i := 1821) (by decide +kernel), by decide +kernel⟩
theorem dX12_kneel_19 : decode cX12_kneel 19 = .ok (.aload_n 0, 1) := by decide +kernel
theorem dX12_kneel_20 : decode cX12_kneel 20 = .ok (.iload_n 1, 1) := by decide +kernel
theorem dX12_kneel_21 : decode cX12_kneel 21 = .ok (.invokevirtual 265, 3) := by decide +kernel
theorem dX12_kneel_24 : decode cX12_kneel 24 = .ok (.invokestatic 268, 3) := by decide +kernel
theorem dX12_kneel_27 : decode cX12_kneel 27 = .ok (.ireturn, 1) := by decide +kernel
theorem dX12_kneel_8 : decode cX12_kneel 8 = .ok (.iconst (-1), 1) := by decide +kernel
theorem dX12_kneel_9 : decode cX12_kneel 9 = .ok (.ireturn, 1) := by decide +kernel
theorem dX12_skate_0 : decode cX12_skate 0 = .ok (.aload_n 0, 1) := by decide +kernel
theorem dX12_skate_1 : decode cX12_skate 1 = .ok (.iload_n 1, 1) := by decide +kernel
theorem dX12_skate_2 : decode cX12_skate 2 = .ok (.invokevirtual 323, 3) := by decide +kernel
theorem dX12_skate_5 : decode cX12_skate 5 = .ok (.ifCond .eq 12, 3) := by decide +kernel
theorem dX12_skate_17 : decode cX12_skate 17 = .ok (.iconst (-1), 1) := by decide +kernel
theorem dX12_skate_18 : decode cX12_skate 18 = .ok (.ireturn, 1) := by decide +kernel
theorem dX12_skate_8 : decode cX12_skate 8 = .ok (.iload_n 2, 1) := by decide +kernel
theorem dX12_skate_9 : decode cX12_skate 9 = .ok (.iconst 0, 1) := by decide +kernel
theorem dX12_skate_10 : decode cX12_skate 10 = .ok (.iconst 1, 1) := by decide +kernel
theorem dX12_skate_11 : decode cX12_skate 11 = .ok (.invokestatic 69, 3) := by decide +kernel
theorem dX12_skate_14 : decode cX12_skate 14 = .ok (.ifCond .ne 5, 3) := by decide +kernel
theorem dX12_skate_19 : decode cX12_skate 19 = .ok (.aload_n 0, 1) := by decide +kernel
theorem dX12_skate_20 : decode cX12_skate 20 = .ok (.invokevirtual 333, 3) := by decide +kernel
theorem dX12_skate_23 : decode cX12_skate 23 = .ok (.aload_n 0, 1) := by decide +kernel
theorem dX12_skate_24 : decode cX12_skate 24 = .ok (.iload_n 1, 1) := by decide +kernel
theorem dX12_skate_25 : decode cX12_skate 25 = .ok (.iload_n 2, 1) := by decide +kernel
theorem dX12_skate_26 : decode cX12_skate 26 = .ok (.invokevirtual 348, 3) := by decide +kernel
theorem cw_X12_skateNow : CWv yX12_skateNow cX12_skateNow 4 none 2 := ⟨⟨⟨List.mem_of_getElem? (i := 137) (by decide +kernel), by decide +kernel⟩, ⟨List.mem_of_getElem? (i := 1892) (by decide +kernel), by decide +kernel⟩, by decide +kernel⟩, ⟨List.mem_of_getElem? (i := 1891) (by decide +kernel), by decide +kernel⟩, ⟨List.mem_of_getElem? (i := 96) (by decide +kernel), by decide +kernel⟩⟩
theorem km12_348 : inW (Cond.methodLink RX12 348 yX12_skateNow) := ⟨List.mem_of_getElem? (i := 1889) (by decide +kernel), by decide +kernel⟩
theorem dX12_skate_29 : decode cX12_skate 29 = .ok (.aload_n 0, 1) := by decide +kernel
theorem dX12_skate_30 : decode cX12_skate 30 = .ok (.iload_n 1, 1) := by decide +kernel
theorem dX12_skate_31 : decode cX12_skate 31 = .ok (.invokevirtual 265, 3) := by decide +kernel
theorem dX12_skate_34 : decode cX12_skate 34 = .ok (.invokestatic 268, 3) := by decide +kernel
theorem dX12_skate_37 : decode cX12_skate 37 = .ok (.ireturn, 1) := by decide +kernel
theorem dX12_arePassed_0 : decode cX12_arePassed 0 = .ok (.iconst 0, 1) := by decide +kernel
theorem dX12_arePassed_1 : decode cX12_arePassed 1 = .ok (.istore_n 2, 1) := by decide +kernel
theorem dX12_arePassed_2 : decode cX12_arePassed 2 = .ok (.iload_n 2, 1) := by decide +kernel
theorem dX12_arePassed_3 : decode cX12_arePassed 3 = .ok (.iload_n 1, 1) := by decide +kernel
theorem dX12_arePassed_4 : decode cX12_arePassed 4 = .ok (.if_icmp .ge 32, 3) := by decide +kernel
theorem dX12_arePassed_36 : decode cX12_arePassed 36 = .ok (.iconst 1, 1) := by decide +kernel
theorem dX12_arePassed_37 : decode cX12_arePassed 37 = .ok (.ireturn, 1) := by decide +kernel
theorem dX12_arePassed_7 : decode cX12_arePassed 7 = .ok (.aload_n 0, 1) := by decide +kernel
theorem dX12_arePassed_8 : decode cX12_arePassed 8 = .ok (.getfield 7, 3) := by decide +kernel
theorem dX12_arePassed_11 : decode cX12_arePassed 11 = .ok (.bipush 10, 2) := by decide +kernel
theorem dX12_arePassed_13 : decode cX12_arePassed 13 = .ok (.iaload, 1) := by decide +kernel
theorem dX12_arePassed_14 : decode cX12_arePassed 14 = .ok (.sipush 9999, 3) := by decide +kernel
theorem dX12_arePassed_17 : decode cX12_arePassed 17 = .ok (.if_icmp .ne 5, 3) := by decide +kernel
theorem dX12_arePassed_22 : decode cX12_arePassed 22 = .ok (.aload_n 0, 1) := by decide +kernel
theorem dX12_arePassed_23 : decode cX12_arePassed 23 = .ok (.invokevirtual 333, 3) := by decide +kernel
theorem dX12_arePassed_26 : decode cX12_arePassed 26 = .ok (.aload_n 0, 1) := by decide +kernel
theorem dX12_arePassed_27 : decode cX12_arePassed 27 = .ok (.invokevirtual 357, 3) := by decide +kernel
theorem cw_X12_pass : CWv yX12_pass cX12_pass 2 none 0 := ⟨⟨⟨List.mem_of_getElem? (i := 137) (by decide +kernel), by decide +kernel⟩, ⟨List.mem_of_getElem? (i := 1916) (by decide +kernel), by decide +kernel⟩, by decide +kernel⟩, ⟨List.mem_of_getElem? (i := 1915) (by decide +kernel), by decide +kernel⟩, ⟨List.mem_of_getElem? (i := 100) (by decide +kernel), by decide +kernel⟩⟩
theorem km12_357 : inW (Cond.methodLink RX12 357 yX12_pass) := ⟨List.mem_of_getElem? (i := 1913) (by decide +kernel), by decide +kernel⟩
theorem dX12_arePassed_30 : decode cX12_arePassed 30 = .ok (.iinc 2 1, 3) := by decide +kernel
theorem dX12_arePassed_33 : decode cX12_arePassed 33 = .ok (.goto (-31), 3) := by decide +kernel
theorem dX12_arePassed_20 : decode cX12_arePassed 20 = .ok (.iconst 0, 1) := by decide +kernel
theorem dX12_arePassed_21 : decode cX12_arePassed 21 = .ok (.ireturn, 1) := by decide +kernel
theorem dX12_day_0 : decode cX12_day 0 = .ok (.iload_n 1, 1) := by decide +kernel
theorem dX12_day_1 : decode cX12_day 1 = .ok (.iconst 1, 1) := by decide +kernel
theorem dX12_day_2 : decode cX12_day 2 = .ok (.bipush 60, 2) := by decide +kernel
theorem dX12_day_4 : decode cX12_day 4 = .ok (.invokestatic 69, 3) := by decide +kernel
theorem dX12_day_7 : decode cX12_day 7 = .ok (.ifCond .eq 36, 3) := by decide +kernel
theorem dX12_day_43 : decode cX12_day 43 = .ok (.iconst (-1), 1) := by decide +kernel
theorem dX12_day_44 : decode cX12_day 44 = .ok (.ireturn, 1) := by decide +kernel
theorem dX12_day_10 : decode cX12_day 10 = .ok (.aload_n 0, 1) := by decide +kernel
theorem dX12_day_11 : decode cX12_day 11 = .ok (.getfield 7, 3) := by decide +kernel
theorem dX12_day_14 : decode cX12_day 14 = .ok (.bipush 10, 2) := by decide +kernel
theorem dX12_day_16 : decode cX12_day 16 = .ok (.iaload, 1) := by decide +kernel
theorem dX12_day_17 : decode cX12_day 17 = .ok (.iload_n 1, 1) := by decide +kernel
theorem dX12_day_18 : decode cX12_day 18 = .ok (.iadd, 1) := by decide +kernel
theorem dX12_day_19 : decode cX12_day 19 = .ok (.sipush 9999, 3) := by decide +kernel
theorem dX12_day_22 : decode cX12_day 22 = .ok (.if_icmp .gt 21, 3) := by decide +kernel
theorem dX12_day_25 : decode cX12_day 25 = .ok (.aload_n 0, 1) := by decide +kernel
theorem dX12_day_26 : decode cX12_day 26 = .ok (.iload_n 1, 1) := by decide +kernel
theorem dX12_day_27 : decode cX12_day 27 = .ok (.invokevirtual 360, 3) := by decide +kernel
theorem cw_X12_arePassed : CWv yX12_arePassed cX12_arePassed 3 (some .boolean) 1 := ⟨⟨⟨List.mem_of_getElem? (i := 137) (by decide +kernel), by decide +kernel⟩, ⟨List.mem_of_getElem? (i := 1912) (by decide +kernel), by decide +kernel⟩, by decide +kernel⟩, ⟨List.mem_of_getElem? (i := 1911) (by decide +kernel), by decide +kernel⟩, ⟨List.mem_of_getElem? (i := 99) (by decide +kernel), by decide +kernel⟩⟩
theorem km12_360 : inW (Cond.methodLink RX12 360 yX12_arePassed) := ⟨List.mem_of_getElem? (i := 1909) (by decide +kernel), by decide +kernel⟩
theorem dX12_day_30 : decode cX12_day 30 = .ok (.ifCond .eq 13, 3) := by decide +kernel
theorem dX12_day_33 : decode cX12_day 33 = .ok (.aload_n 0, 1) := by decide +kernel
theorem dX12_day_34 : decode cX12_day 34 = .ok (.getfield 7, 3) := by decide +kernel
theorem dX12_day_37 : decode cX12_day 37 = .ok (.bipush 11, 2) := by decide +kernel
theorem dX12_day_39 : decode cX12_day 39 = .ok (.iaload, 1) := by decide +kernel
theorem dX12_day_40 : decode cX12_day 40 = .ok (.goto 4, 3) := by decide +kernel
theorem dX12_isPlayed_0 : decode cX12_isPlayed 0 = .ok (.aload_n 0, 1) := by decide +kernel
theorem dX12_isPlayed_1 : decode cX12_isPlayed 1 = .ok (.getfield 16, 3) := by decide +kernel
theorem dX12_isPlayed_4 : decode cX12_isPlayed 4 = .ok (.iload_n 1, 1) := by decide +kernel
theorem dX12_isPlayed_5 : decode cX12_isPlayed 5 = .ok (.iconst 1, 1) := by decide +kernel
theorem dX12_isPlayed_6 : decode cX12_isPlayed 6 = .ok (.iadd, 1) := by decide +kernel
theorem dX12_isPlayed_7 : decode cX12_isPlayed 7 = .ok (.iaload, 1) := by decide +kernel
theorem dX12_isPlayed_8 : decode cX12_isPlayed 8 = .ok (.istore_n 2, 1) := by decide +kernel
theorem dX12_isPlayed_9 : decode cX12_isPlayed 9 = .ok (.aload_n 0, 1) := by decide +kernel
theorem dX12_isPlayed_10 : decode cX12_isPlayed 10 = .ok (.getfield 16, 3) := by decide +kernel
theorem dX12_isPlayed_13 : decode cX12_isPlayed 13 = .ok (.iload_n 1, 1) := by decide +kernel
theorem dX12_isPlayed_14 : decode cX12_isPlayed 14 = .ok (.iconst 2, 1) := by decide +kernel
theorem dX12_isPlayed_15 : decode cX12_isPlayed 15 = .ok (.iadd, 1) := by decide +kernel
theorem dX12_isPlayed_16 : decode cX12_isPlayed 16 = .ok (.iaload, 1) := by decide +kernel
theorem dX12_isPlayed_17 : decode cX12_isPlayed 17 = .ok (.istore_n 3, 1) := by decide +kernel
theorem dX12_isPlayed_18 : decode cX12_isPlayed 18 = .ok (.aload_n 0, 1) := by decide +kernel
theorem dX12_isPlayed_19 : decode cX12_isPlayed 19 = .ok (.getfield 16, 3) := by decide +kernel
theorem dX12_isPlayed_22 : decode cX12_isPlayed 22 = .ok (.iload_n 1, 1) := by decide +kernel
theorem dX12_isPlayed_23 : decode cX12_isPlayed 23 = .ok (.iaload, 1) := by decide +kernel
theorem dX12_isPlayed_24 : decode cX12_isPlayed 24 = .ok (.tableswitch 158 3 10 #[48, 63, 87, 111, 117, 123, 137, 152], 48) := by decide +kernel
theorem swM_3_10 (x : Int32) : x = 3 ∨ x = 4 ∨ x = 5 ∨ x = 6 ∨ x = 7 ∨ x = 8 ∨ x = 9 ∨ x = 10 ∨ (x.toInt < 3 ∨ 10 < x.toInt) := by
  have key : ∀ k : Int32, x.toInt = k.toInt → x = k := fun k h => Int32.toInt_inj.mp h
  by_cases h1 : x.toInt < 3
  · simp [h1]
  by_cases h2 : 10 < x.toInt
  · simp [h2]
  have h3 : x.toInt = 3 ∨ x.toInt = 4 ∨ x.toInt = 5 ∨ x.toInt = 6 ∨ x.toInt = 7 ∨ x.toInt = 8 ∨ x.toInt = 9 ∨ x.toInt = 10 := by omega
  rcases h3 with h | h | h | h | h | h | h | h
  · rw [key 3 (h.trans (by decide))]; decide
  · rw [key 4 (h.trans (by decide))]; decide
  · rw [key 5 (h.trans (by decide))]; decide
  · rw [key 6 (h.trans (by decide))]; decide
  · rw [key 7 (h.trans (by decide))]; decide
  · rw [key 8 (h.trans (by decide))]; decide
  · rw [key 9 (h.trans (by decide))]; decide
  · rw [key 10 (h.trans (by decide))]; decide
theorem dX12_isPlayed_72 : decode cX12_isPlayed 72 = .ok (.aload_n 0, 1) := by decide +kernel
theorem dX12_isPlayed_73 : decode cX12_isPlayed 73 = .ok (.iload_n 2, 1) := by decide +kernel
theorem dX12_isPlayed_74 : decode cX12_isPlayed 74 = .ok (.iload_n 3, 1) := by decide +kernel
theorem dX12_isPlayed_75 : decode cX12_isPlayed 75 = .ok (.invokevirtual 363, 3) := by decide +kernel
theorem cw_X12_one : CWv yX12_one cX12_one 3 (some .int) 2 := ⟨⟨⟨List.mem_of_getElem? (i := 137) (by decide +kernel), by decide +kernel⟩, ⟨List.mem_of_getElem? (i := 1600) (by decide +kernel), by decide +kernel⟩, by decide +kernel⟩, ⟨List.mem_of_getElem? (i := 1598) (by decide +kernel), by decide +kernel⟩, ⟨List.mem_of_getElem? (i := 1599) (by decide +kernel), by decide +kernel⟩⟩
theorem km12_363 : inW (Cond.methodLink RX12 363 yX12_one) := ⟨List.mem_of_getElem? (i := 1940) (by decide +kernel), by decide +kernel⟩
theorem dX12_isPlayed_78 : decode cX12_isPlayed 78 = .ok (.ifCond .lt 7, 3) := by decide +kernel
theorem dX12_isPlayed_85 : decode cX12_isPlayed 85 = .ok (.iconst 0, 1) := by decide +kernel
theorem dX12_isPlayed_86 : decode cX12_isPlayed 86 = .ok (.ireturn, 1) := by decide +kernel
theorem dX12_isPlayed_81 : decode cX12_isPlayed 81 = .ok (.iconst 1, 1) := by decide +kernel
theorem dX12_isPlayed_82 : decode cX12_isPlayed 82 = .ok (.goto 4, 3) := by decide +kernel
theorem dX12_isPlayed_87 : decode cX12_isPlayed 87 = .ok (.aload_n 0, 1) := by decide +kernel
theorem dX12_isPlayed_88 : decode cX12_isPlayed 88 = .ok (.iload_n 2, 1) := by decide +kernel
theorem dX12_isPlayed_89 : decode cX12_isPlayed 89 = .ok (.iload_n 3, 1) := by decide +kernel
theorem dX12_isPlayed_90 : decode cX12_isPlayed 90 = .ok (.iconst 0, 1) := by decide +kernel
theorem dX12_isPlayed_91 : decode cX12_isPlayed 91 = .ok (.aload_n 0, 1) := by decide +kernel
theorem dX12_isPlayed_92 : decode cX12_isPlayed 92 = .ok (.getfield 16, 3) := by decide +kernel
theorem dX12_isPlayed_95 : decode cX12_isPlayed 95 = .ok (.iload_n 1, 1) := by decide +kernel
theorem dX12_isPlayed_96 : decode cX12_isPlayed 96 = .ok (.iconst 3, 1) := by decide +kernel
theorem dX12_isPlayed_97 : decode cX12_isPlayed 97 = .ok (.iadd, 1) := by decide +kernel
theorem dX12_isPlayed_98 : decode cX12_isPlayed 98 = .ok (.iaload, 1) := by decide +kernel
theorem dX12_isPlayed_99 : decode cX12_isPlayed 99 = .ok (.invokevirtual 366, 3) := by decide +kernel
theorem cw_X12_swear : CWv yX12_swear cX12_swear 5 (some .int) 4 := ⟨⟨⟨List.mem_of_getElem? (i := 137) (by decide +kernel), by decide +kernel⟩, ⟨List.mem_of_getElem? (i := 1780) (by decide +kernel), by decide +kernel⟩, by decide +kernel⟩, ⟨List.mem_of_getElem? (i := 1778) (by decide +kernel), by decide +kernel⟩, ⟨List.mem_of_getElem? (i := 1779) (by decide +kernel), by decide +kernel⟩⟩
theorem km12_366 : inW (Cond.methodLink RX12 366 yX12_swear) := ⟨List.mem_of_getElem? (i := 1941) (by decide +kernel), by decide +kernel⟩
theorem dX12_isPlayed_102 : decode cX12_isPlayed 102 = .ok (.ifCond .lt 7, 3) := by decide +kernel
theorem dX12_isPlayed_109 : decode cX12_isPlayed 109 = .ok (.iconst 0, 1) := by decide +kernel
theorem dX12_isPlayed_110 : decode cX12_isPlayed 110 = .ok (.ireturn, 1) := by decide +kernel
theorem dX12_isPlayed_105 : decode cX12_isPlayed 105 = .ok (.iconst 1, 1) := by decide +kernel
theorem dX12_isPlayed_106 : decode cX12_isPlayed 106 = .ok (.goto 4, 3) := by decide +kernel
theorem dX12_isPlayed_111 : decode cX12_isPlayed 111 = .ok (.aload_n 0, 1) := by decide +kernel
theorem dX12_isPlayed_112 : decode cX12_isPlayed 112 = .ok (.iload_n 2, 1) := by decide +kernel
theorem dX12_isPlayed_113 : decode cX12_isPlayed 113 = .ok (.iload_n 3, 1) := by decide +kernel
theorem dX12_isPlayed_114 : decode cX12_isPlayed 114 = .ok (.iconst 1, 1) := by decide +kernel
theorem dX12_isPlayed_115 : decode cX12_isPlayed 115 = .ok (.aload_n 0, 1) := by decide +kernel
theorem dX12_isPlayed_116 : decode cX12_isPlayed 116 = .ok (.getfield 16, 3) := by decide +kernel
theorem dX12_isPlayed_119 : decode cX12_isPlayed 119 = .ok (.iload_n 1, 1) := by decide +kernel
theorem dX12_isPlayed_120 : decode cX12_isPlayed 120 = .ok (.iconst 3, 1) := by decide +kernel
theorem dX12_isPlayed_121 : decode cX12_isPlayed 121 = .ok (.iadd, 1) := by decide +kernel
theorem dX12_isPlayed_122 : decode cX12_isPlayed 122 = .ok (.iaload, 1) := by decide +kernel
theorem dX12_isPlayed_123 : decode cX12_isPlayed 123 = .ok (.invokevirtual 366, 3) := by decide +kernel
theorem dX12_isPlayed_126 : decode cX12_isPlayed 126 = .ok (.ifCond .lt 7, 3) := by decide +kernel
theorem dX12_isPlayed_133 : decode cX12_isPlayed 133 = .ok (.iconst 0, 1) := by decide +kernel
theorem dX12_isPlayed_134 : decode cX12_isPlayed 134 = .ok (.ireturn, 1) := by decide +kernel
theorem dX12_isPlayed_129 : decode cX12_isPlayed 129 = .ok (.iconst 1, 1) := by decide +kernel
theorem dX12_isPlayed_130 : decode cX12_isPlayed 130 = .ok (.goto 4, 3) := by decide +kernel
theorem dX12_isPlayed_135 : decode cX12_isPlayed 135 = .ok (.aload_n 0, 1) := by decide +kernel
theorem dX12_isPlayed_136 : decode cX12_isPlayed 136 = .ok (.iload_n 2, 1) := by decide +kernel
theorem dX12_isPlayed_137 : decode cX12_isPlayed 137 = .ok (.invokevirtual 369, 3) := by decide +kernel
theorem cw_X12_breaks : CWv yX12_breaks cX12_breaks 2 (some .boolean) 1 := ⟨⟨⟨List.mem_of_getElem? (i := 137) (by decide +kernel), by decide +kernel⟩, ⟨List.mem_of_getElem? (i := 1804) (by decide +kernel), by decide +kernel⟩, by decide +kernel⟩, ⟨List.mem_of_getElem? (i := 1802) (by decide +kernel), by decide +kernel⟩, ⟨List.mem_of_getElem? (i := 1803) (by decide +kernel), by decide +kernel⟩⟩
theorem km12_369 : inW (Cond.methodLink RX12 369 yX12_breaks) := ⟨List.mem_of_getElem? (i := 1942) (by decide +kernel), by decide +kernel⟩
theorem dX12_isPlayed_140 : decode cX12_isPlayed 140 = .ok (.ireturn, 1) := by decide +kernel
theorem dX12_isPlayed_141 : decode cX12_isPlayed 141 = .ok (.aload_n 0, 1) := by decide +kernel
theorem dX12_isPlayed_142 : decode cX12_isPlayed 142 = .ok (.iload_n 2, 1) := by decide +kernel
theorem dX12_isPlayed_143 : decode cX12_isPlayed 143 = .ok (.invokevirtual 372, 3) := by decide +kernel
theorem cw_X12_release : CWv yX12_release cX12_release 2 (some .boolean) 1 := ⟨⟨⟨List.mem_of_getElem? (i := 137) (by decide +kernel), by decide +kernel⟩, ⟨List.mem_of_getElem? (i := 1816) (by decide +kernel), by decide +kernel⟩, by decide +kernel⟩, ⟨List.mem_of_getElem? (i := 1814) (by decide +kernel), by decide +kernel⟩, ⟨List.mem_of_getElem? (i := 1815) (by decide +kernel), by decide +kernel⟩⟩
theorem km12_372 : inW (Cond.methodLink RX12 372 yX12_release) := ⟨List.mem_of_getElem? (i := 1943) (by decide +kernel), by decide +kernel⟩
theorem dX12_isPlayed_146 : decode cX12_isPlayed 146 = .ok (.ireturn, 1) := by decide +kernel
theorem dX12_isPlayed_147 : decode cX12_isPlayed 147 = .ok (.aload_n 0, 1) := by decide +kernel
theorem dX12_isPlayed_148 : decode cX12_isPlayed 148 = .ok (.iload_n 2, 1) := by decide +kernel
theorem dX12_isPlayed_149 : decode cX12_isPlayed 149 = .ok (.invokevirtual 375, 3) := by decide +kernel
theorem cw_X12_kneel : CWv yX12_kneel cX12_kneel 2 (some .int) 1 := ⟨⟨⟨List.mem_of_getElem? (i := 137) (by decide +kernel), by decide +kernel⟩, ⟨List.mem_of_getElem? (i := 1820) (by decide +kernel), by decide +kernel⟩, by decide +kernel⟩, ⟨List.mem_of_getElem? (i := 1818) (by decide +kernel), by decide +kernel⟩, ⟨List.mem_of_getElem? (i := 1819) (by decide +kernel), by decide +kernel⟩⟩
theorem km12_375 : inW (Cond.methodLink RX12 375 yX12_kneel) := ⟨List.mem_of_getElem? (i := 1944) (by decide +kernel), by decide +kernel⟩
theorem dX12_isPlayed_152 : decode cX12_isPlayed 152 = .ok (.ifCond .lt 7, 3) := by decide +kernel
theorem dX12_isPlayed_159 : decode cX12_isPlayed 159 = .ok (.iconst 0, 1) := by decide +kernel
theorem dX12_isPlayed_160 : decode cX12_isPlayed 160 = .ok (.ireturn, 1) := by decide +kernel
theorem dX12_isPlayed_155 : decode cX12_isPlayed 155 = .ok (.iconst 1, 1) := by decide +kernel
theorem dX12_isPlayed_156 : decode cX12_isPlayed 156 = .ok (.goto 4, 3) := by decide +kernel
theorem dX12_isPlayed_161 : decode cX12_isPlayed 161 = .ok (.aload_n 0, 1) := by decide +kernel
theorem dX12_isPlayed_162 : decode cX12_isPlayed 162 = .ok (.iload_n 2, 1) := by decide +kernel
theorem dX12_isPlayed_163 : decode cX12_isPlayed 163 = .ok (.iconst 0, 1) := by decide +kernel
theorem dX12_isPlayed_164 : decode cX12_isPlayed 164 = .ok (.invokevirtual 378, 3) := by decide +kernel
theorem cw_X12_skate : CWv yX12_skate cX12_skate 3 (some .int) 2 := ⟨⟨⟨List.mem_of_getElem? (i := 137) (by decide +kernel), by decide +kernel⟩, ⟨List.mem_of_getElem? (i := 1888) (by decide +kernel), by decide +kernel⟩, by decide +kernel⟩, ⟨List.mem_of_getElem? (i := 1886) (by decide +kernel), by decide +kernel⟩, ⟨List.mem_of_getElem? (i := 1887) (by decide +kernel), by decide +kernel⟩⟩
theorem km12_378 : inW (Cond.methodLink RX12 378 yX12_skate) := ⟨List.mem_of_getElem? (i := 1945) (by decide +kernel), by decide +kernel⟩
theorem dX12_isPlayed_167 : decode cX12_isPlayed 167 = .ok (.ifCond .lt 7, 3) := by decide +kernel
theorem dX12_isPlayed_174 : decode cX12_isPlayed 174 = .ok (.iconst 0, 1) := by decide +kernel
theorem dX12_isPlayed_175 : decode cX12_isPlayed 175 = .ok (.ireturn, 1) := by decide +kernel
theorem dX12_isPlayed_170 : decode cX12_isPlayed 170 = .ok (.iconst 1, 1) := by decide +kernel
theorem dX12_isPlayed_171 : decode cX12_isPlayed 171 = .ok (.goto 4, 3) := by decide +kernel
theorem dX12_isPlayed_176 : decode cX12_isPlayed 176 = .ok (.aload_n 0, 1) := by decide +kernel
theorem dX12_isPlayed_177 : decode cX12_isPlayed 177 = .ok (.iload_n 2, 1) := by decide +kernel
theorem dX12_isPlayed_178 : decode cX12_isPlayed 178 = .ok (.invokevirtual 360, 3) := by decide +kernel
theorem dX12_isPlayed_181 : decode cX12_isPlayed 181 = .ok (.ireturn, 1) := by decide +kernel
theorem dX12_isPlayed_182 : decode cX12_isPlayed 182 = .ok (.iconst 1, 1) := by decide +kernel
theorem dX12_isPlayed_183 : decode cX12_isPlayed 183 = .ok (.ireturn, 1) := by decide +kernel
theorem dX12_played_0 : decode cX12_played 0 = .ok (.iload_n 1, 1) := by decide +kernel
theorem dX12_played_1 : decode cX12_played 1 = .ok (.iconst 0, 1) := by decide +kernel
theorem dX12_played_2 : decode cX12_played 2 = .ok (.aload_n 0, 1) := by decide +kernel
theorem dX12_played_3 : decode cX12_played 3 = .ok (.getfield 7, 3) := by decide +kernel
theorem dX12_played_6 : decode cX12_played 6 = .ok (.iconst 1, 1) := by decide +kernel
theorem dX12_played_7 : decode cX12_played 7 = .ok (.iaload, 1) := by decide +kernel
theorem dX12_played_8 : decode cX12_played 8 = .ok (.iconst 1, 1) := by decide +kernel
theorem dX12_played_9 : decode cX12_played 9 = .ok (.isub, 1) := by decide +kernel
theorem dX12_played_10 : decode cX12_played 10 = .ok (.invokestatic 69, 3) := by decide +kernel
theorem dX12_played_13 : decode cX12_played 13 = .ok (.ifCond .ne 6, 3) := by decide +kernel
theorem dX12_played_19 : decode cX12_played 19 = .ok (.iconst 0, 1) := by decide +kernel
theorem dX12_played_20 : decode cX12_played 20 = .ok (.istore_n 2, 1) := by decide +kernel
theorem dX12_played_16 : decode cX12_played 16 = .ok (.bipush (-2), 2) := by decide +kernel
theorem dX12_played_18 : decode cX12_played 18 = .ok (.ireturn, 1) := by decide +kernel
theorem dX12_played_21 : decode cX12_played 21 = .ok (.iload_n 2, 1) := by decide +kernel
theorem dX12_played_22 : decode cX12_played 22 = .ok (.aload_n 0, 1) := by decide +kernel
theorem dX12_played_23 : decode cX12_played 23 = .ok (.getfield 16, 3) := by decide +kernel
theorem dX12_played_26 : decode cX12_played 26 = .ok (.sipush 729, 3) := by decide +kernel
theorem dX12_played_29 : decode cX12_played 29 = .ok (.iload_n 1, 1) := by decide +kernel
theorem dX12_played_30 : decode cX12_played 30 = .ok (.imul, 1) := by decide +kernel
theorem dX12_played_31 : decode cX12_played 31 = .ok (.iaload, 1) := by decide +kernel
theorem dX12_played_32 : decode cX12_played 32 = .ok (.if_icmp .ge 29, 3) := by decide +kernel
theorem dX12_played_61 : decode cX12_played 61 = .ok (.iconst (-1), 1) := by decide +kernel
theorem dX12_played_62 : decode cX12_played 62 = .ok (.ireturn, 1) := by decide +kernel
theorem dX12_played_35 : decode cX12_played 35 = .ok (.aload_n 0, 1) := by decide +kernel
theorem dX12_played_36 : decode cX12_played 36 = .ok (.sipush 729, 3) := by decide +kernel
theorem dX12_played_39 : decode cX12_played 39 = .ok (.iload_n 1, 1) := by decide +kernel
theorem dX12_played_40 : decode cX12_played 40 = .ok (.imul, 1) := by decide +kernel
theorem dX12_played_41 : decode cX12_played 41 = .ok (.iconst 1, 1) := by decide +kernel
theorem dX12_played_42 : decode cX12_played 42 = .ok (.iadd, 1) := by decide +kernel
theorem dX12_played_43 : decode cX12_played 43 = .ok (.iconst 5, 1) := by decide +kernel
theorem dX12_played_44 : decode cX12_played 44 = .ok (.iload_n 2, 1) := by decide +kernel
theorem dX12_played_45 : decode cX12_played 45 = .ok (.imul, 1) := by decide +kernel
theorem dX12_played_46 : decode cX12_played 46 = .ok (.iadd, 1) := by decide +kernel
theorem dX12_played_47 : decode cX12_played 47 = .ok (.invokevirtual 381, 3) := by decide +kernel
theorem cw_X12_isPlayed : CWv yX12_isPlayed cX12_isPlayed 4 (some .boolean) 1 := ⟨⟨⟨List.mem_of_getElem? (i := 137) (by decide +kernel), by decide +kernel⟩, ⟨List.mem_of_getElem? (i := 1939) (by decide +kernel), by decide +kernel⟩, by decide +kernel⟩, ⟨List.mem_of_getElem? (i := 1938) (by decide +kernel), by decide +kernel⟩, ⟨List.mem_of_getElem? (i := 104) (by decide +kernel), by decide +kernel⟩⟩
theorem km12_381 : inW (Cond.methodLink RX12 381 yX12_isPlayed) := ⟨List.mem_of_getElem? (i := 1936) (by decide +kernel), by decide +kernel⟩
theorem dX12_played_50 : decode cX12_played 50 = .ok (.ifCond .ne 5, 3) := by decide +kernel
theorem dX12_played_55 : decode cX12_played 55 = .ok (.iinc 2 1, 3) := by decide +kernel
theorem dX12_played_58 : decode cX12_played 58 = .ok (.goto (-37), 3) := by decide +kernel
theorem dX12_played_53 : decode cX12_played 53 = .ok (.iload_n 2, 1) := by decide +kernel
theorem dX12_played_54 : decode cX12_played 54 = .ok (.ireturn, 1) := by decide +kernel
theorem dX12_happens_0 : decode cX12_happens 0 = .ok (.iload_n 1, 1) := by decide +kernel
theorem dX12_happens_1 : decode cX12_happens 1 = .ok (.aload_n 0, 1) := by decide +kernel
theorem dX12_happens_2 : decode cX12_happens 2 = .ok (.getfield 7, 3) := by decide +kernel
theorem dX12_happens_5 : decode cX12_happens 5 = .ok (.iconst 0, 1) := by decide +kernel
theorem dX12_happens_6 : decode cX12_happens 6 = .ok (.iaload, 1) := by decide +kernel
theorem dX12_happens_7 : decode cX12_happens 7 = .ok (.irem, 1) := by decide +kernel
theorem dX12_happens_8 : decode cX12_happens 8 = .ok (.istore_n 2, 1) := by decide +kernel
theorem dX12_happens_9 : decode cX12_happens 9 = .ok (.aload_n 0, 1) := by decide +kernel
theorem dX12_happens_10 : decode cX12_happens 10 = .ok (.getfield 7, 3) := by decide +kernel
theorem dX12_happens_13 : decode cX12_happens 13 = .ok (.bipush 13, 2) := by decide +kernel
theorem dX12_happens_15 : decode cX12_happens 15 = .ok (.iaload, 1) := by decide +kernel
theorem dX12_happens_16 : decode cX12_happens 16 = .ok (.ifCond .ne 7, 3) := by decide +kernel
theorem dX12_happens_23 : decode cX12_happens 23 = .ok (.iload_n 1, 1) := by decide +kernel
theorem dX12_happens_24 : decode cX12_happens 24 = .ok (.aload_n 0, 1) := by decide +kernel
theorem dX12_happens_25 : decode cX12_happens 25 = .ok (.getfield 7, 3) := by decide +kernel
theorem dX12_happens_28 : decode cX12_happens 28 = .ok (.bipush 13, 2) := by decide +kernel
theorem dX12_happens_30 : decode cX12_happens 30 = .ok (.iaload, 1) := by decide +kernel
theorem dX12_happens_31 : decode cX12_happens 31 = .ok (.irem, 1) := by decide +kernel
theorem dX12_happens_19 : decode cX12_happens 19 = .ok (.iconst (-1), 1) := by decide +kernel
theorem dX12_happens_20 : decode cX12_happens 20 = .ok (.goto 12, 3) := by decide +kernel
theorem dX12_happens_32 : decode cX12_happens 32 = .ok (.istore_n 3, 1) := by decide +kernel
theorem dX12_happens_33 : decode cX12_happens 33 = .ok (.iload_n 1, 1) := by decide +kernel
theorem dX12_happens_34 : decode cX12_happens 34 = .ok (.bipush 7, 2) := by decide +kernel
theorem dX12_happens_36 : decode cX12_happens 36 = .ok (.irem, 1) := by decide +kernel
theorem dX12_happens_37 : decode cX12_happens 37 = .ok (.tableswitch 153 0 4 #[35, 83, 107, 128, 136], 35) := by decide +kernel
theorem swM_0_4 (x : Int32) : x = 0 ∨ x = 1 ∨ x = 2 ∨ x = 3 ∨ x = 4 ∨ (x.toInt < 0 ∨ 4 < x.toInt) := by
  have key : ∀ k : Int32, x.toInt = k.toInt → x = k := fun k h => Int32.toInt_inj.mp h
  by_cases h1 : x.toInt < 0
  · simp [h1]
  by_cases h2 : 4 < x.toInt
  · simp [h2]
  have h3 : x.toInt = 0 ∨ x.toInt = 1 ∨ x.toInt = 2 ∨ x.toInt = 3 ∨ x.toInt = 4 := by omega
  rcases h3 with h | h | h | h | h
  · rw [key 0 (h.trans (by decide))]; decide
  · rw [key 1 (h.trans (by decide))]; decide
  · rw [key 2 (h.trans (by decide))]; decide
  · rw [key 3 (h.trans (by decide))]; decide
  · rw [key 4 (h.trans (by decide))]; decide
theorem dX12_happens_72 : decode cX12_happens 72 = .ok (.aload_n 0, 1) := by decide +kernel
theorem dX12_happens_73 : decode cX12_happens 73 = .ok (.iload_n 2, 1) := by decide +kernel
theorem dX12_happens_74 : decode cX12_happens 74 = .ok (.iload_n 1, 1) := by decide +kernel
theorem dX12_happens_75 : decode cX12_happens 75 = .ok (.bipush 7, 2) := by decide +kernel
theorem dX12_happens_77 : decode cX12_happens 77 = .ok (.idiv, 1) := by decide +kernel
theorem dX12_happens_78 : decode cX12_happens 78 = .ok (.aload_n 0, 1) := by decide +kernel
theorem dX12_happens_79 : decode cX12_happens 79 = .ok (.getfield 7, 3) := by decide +kernel
theorem dX12_happens_82 : decode cX12_happens 82 = .ok (.iconst 0, 1) := by decide +kernel
theorem dX12_happens_83 : decode cX12_happens 83 = .ok (.iaload, 1) := by decide +kernel
theorem dX12_happens_84 : decode cX12_happens 84 = .ok (.irem, 1) := by decide +kernel
theorem dX12_happens_85 : decode cX12_happens 85 = .ok (.invokevirtual 330, 3) := by decide +kernel
theorem dX12_happens_88 : decode cX12_happens 88 = .ok (.ifCond .eq 119, 3) := by decide +kernel
theorem dX12_happens_207 : decode cX12_happens 207 = .ok (.return_, 1) := by decide +kernel
theorem dX12_happens_91 : decode cX12_happens 91 = .ok (.aload_n 0, 1) := by decide +kernel
theorem dX12_happens_92 : decode cX12_happens 92 = .ok (.iload_n 2, 1) := by decide +kernel
theorem dX12_happens_93 : decode cX12_happens 93 = .ok (.iload_n 1, 1) := by decide +kernel
theorem dX12_happens_94 : decode cX12_happens 94 = .ok (.bipush 7, 2) := by decide +kernel
theorem dX12_happens_96 : decode cX12_happens 96 = .ok (.idiv, 1) := by decide +kernel
theorem dX12_happens_97 : decode cX12_happens 97 = .ok (.aload_n 0, 1) := by decide +kernel
theorem dX12_happens_98 : decode cX12_happens 98 = .ok (.getfield 7, 3) := by decide +kernel
theorem dX12_happens_101 : decode cX12_happens 101 = .ok (.iconst 0, 1) := by decide +kernel
theorem dX12_happens_102 : decode cX12_happens 102 = .ok (.iaload, 1) := by decide +kernel
theorem dX12_happens_103 : decode cX12_happens 103 = .ok (.irem, 1) := by decide +kernel
theorem dX12_happens_104 : decode cX12_happens 104 = .ok (.iload_n 1, 1) := by decide +kernel
theorem dX12_happens_105 : decode cX12_happens 105 = .ok (.iconst 2, 1) := by decide +kernel
theorem dX12_happens_106 : decode cX12_happens 106 = .ok (.irem, 1) := by decide +kernel
theorem dX12_happens_107 : decode cX12_happens 107 = .ok (.iconst 1, 1) := by decide +kernel
theorem dX12_happens_108 : decode cX12_happens 108 = .ok (.iload_n 1, 1) := by decide +kernel
theorem dX12_happens_109 : decode cX12_happens 109 = .ok (.bipush 9, 2) := by decide +kernel
theorem dX12_happens_111 : decode cX12_happens 111 = .ok (.irem, 1) := by decide +kernel
theorem dX12_happens_112 : decode cX12_happens 112 = .ok (.iadd, 1) := by decide +kernel
theorem dX12_happens_113 : decode cX12_happens 113 = .ok (.invokevirtual 336, 3) := by decide +kernel
theorem dX12_happens_116 : decode cX12_happens 116 = .ok (.pop, 1) := by decide +kernel
theorem dX12_happens_117 : decode cX12_happens 117 = .ok (.goto 90, 3) := by decide +kernel
theorem dX12_happens_120 : decode cX12_happens 120 = .ok (.iload_n 3, 1) := by decide +kernel
theorem dX12_happens_121 : decode cX12_happens 121 = .ok (.iconst (-1), 1) := by decide +kernel
theorem dX12_happens_122 : decode cX12_happens 122 = .ok (.if_icmp .eq 85, 3) := by decide +kernel
theorem dX12_happens_125 : decode cX12_happens 125 = .ok (.aload_n 0, 1) := by decide +kernel
theorem dX12_happens_126 : decode cX12_happens 126 = .ok (.iload_n 3, 1) := by decide +kernel
theorem dX12_happens_127 : decode cX12_happens 127 = .ok (.iconst 4, 1) := by decide +kernel
theorem dX12_happens_128 : decode cX12_happens 128 = .ok (.invokevirtual 73, 3) := by decide +kernel
theorem dX12_happens_131 : decode cX12_happens 131 = .ok (.ifCond .ne 76, 3) := by decide +kernel
theorem dX12_happens_134 : decode cX12_happens 134 = .ok (.aload_n 0, 1) := by decide +kernel
theorem dX12_happens_135 : decode cX12_happens 135 = .ok (.iload_n 3, 1) := by decide +kernel
theorem dX12_happens_136 : decode cX12_happens 136 = .ok (.iconst 4, 1) := by decide +kernel
theorem dX12_happens_137 : decode cX12_happens 137 = .ok (.iconst 1, 1) := by decide +kernel
theorem dX12_happens_138 : decode cX12_happens 138 = .ok (.invokevirtual 326, 3) := by decide +kernel
theorem dX12_happens_141 : decode cX12_happens 141 = .ok (.goto 66, 3) := by decide +kernel
theorem dX12_happens_144 : decode cX12_happens 144 = .ok (.iload_n 3, 1) := by decide +kernel
theorem dX12_happens_145 : decode cX12_happens 145 = .ok (.iconst (-1), 1) := by decide +kernel
theorem dX12_happens_146 : decode cX12_happens 146 = .ok (.if_icmp .eq 61, 3) := by decide +kernel
theorem dX12_happens_149 : decode cX12_happens 149 = .ok (.iload_n 1, 1) := by decide +kernel
theorem dX12_happens_150 : decode cX12_happens 150 = .ok (.iconst 5, 1) := by decide +kernel
theorem dX12_happens_151 : decode cX12_happens 151 = .ok (.irem, 1) := by decide +kernel
theorem dX12_happens_152 : decode cX12_happens 152 = .ok (.ifCond .ne 55, 3) := by decide +kernel
theorem dX12_happens_155 : decode cX12_happens 155 = .ok (.aload_n 0, 1) := by decide +kernel
theorem dX12_happens_156 : decode cX12_happens 156 = .ok (.iload_n 3, 1) := by decide +kernel
theorem dX12_happens_157 : decode cX12_happens 157 = .ok (.iconst 4, 1) := by decide +kernel
theorem dX12_happens_158 : decode cX12_happens 158 = .ok (.iconst 2, 1) := by decide +kernel
theorem dX12_happens_159 : decode cX12_happens 159 = .ok (.invokevirtual 326, 3) := by decide +kernel
theorem dX12_happens_162 : decode cX12_happens 162 = .ok (.goto 45, 3) := by decide +kernel
theorem dX12_happens_165 : decode cX12_happens 165 = .ok (.aload_n 0, 1) := by decide +kernel
theorem dX12_happens_166 : decode cX12_happens 166 = .ok (.iload_n 2, 1) := by decide +kernel
theorem dX12_happens_167 : decode cX12_happens 167 = .ok (.invokevirtual 345, 3) := by decide +kernel
theorem dX12_happens_170 : decode cX12_happens 170 = .ok (.goto 37, 3) := by decide +kernel
theorem dX12_happens_173 : decode cX12_happens 173 = .ok (.iload_n 1, 1) := by decide +kernel
theorem dX12_happens_174 : decode cX12_happens 174 = .ok (.iconst 3, 1) := by decide +kernel
theorem dX12_happens_175 : decode cX12_happens 175 = .ok (.irem, 1) := by decide +kernel
theorem dX12_happens_176 : decode cX12_happens 176 = .ok (.ifCond .ne 31, 3) := by decide +kernel
theorem dX12_happens_179 : decode cX12_happens 179 = .ok (.aload_n 0, 1) := by decide +kernel
theorem dX12_happens_180 : decode cX12_happens 180 = .ok (.iload_n 2, 1) := by decide +kernel
theorem dX12_happens_181 : decode cX12_happens 181 = .ok (.iload_n 1, 1) := by decide +kernel
theorem dX12_happens_182 : decode cX12_happens 182 = .ok (.iconst 2, 1) := by decide +kernel
theorem dX12_happens_183 : decode cX12_happens 183 = .ok (.irem, 1) := by decide +kernel
theorem dX12_happens_184 : decode cX12_happens 184 = .ok (.invokevirtual 348, 3) := by decide +kernel
theorem dX12_happens_187 : decode cX12_happens 187 = .ok (.goto 20, 3) := by decide +kernel
theorem dX12_happens_190 : decode cX12_happens 190 = .ok (.aload_n 0, 1) := by decide +kernel
theorem dX12_happens_191 : decode cX12_happens 191 = .ok (.getfield 7, 3) := by decide +kernel
theorem dX12_happens_194 : decode cX12_happens 194 = .ok (.bipush 10, 2) := by decide +kernel
theorem dX12_happens_196 : decode cX12_happens 196 = .ok (.iaload, 1) := by decide +kernel
theorem dX12_happens_197 : decode cX12_happens 197 = .ok (.sipush 9999, 3) := by decide +kernel
theorem dX12_happens_200 : decode cX12_happens 200 = .ok (.if_icmp .ge 7, 3) := by decide +kernel
theorem dX12_happens_203 : decode cX12_happens 203 = .ok (.aload_n 0, 1) := by decide +kernel
theorem dX12_happens_204 : decode cX12_happens 204 = .ok (.invokevirtual 357, 3) := by decide +kernel
theorem dX12_years_0 : decode cX12_years 0 = .ok (.iload_n 1, 1) := by decide +kernel
theorem dX12_years_1 : decode cX12_years 1 = .ok (.iconst 0, 1) := by decide +kernel
theorem dX12_years_2 : decode cX12_years 2 = .ok (.sipush 9999, 3) := by decide +kernel
theorem dX12_years_5 : decode cX12_years 5 = .ok (.invokestatic 69, 3) := by decide +kernel
theorem dX12_years_8 : decode cX12_years 8 = .ok (.ifCond .eq 22, 3) := by decide +kernel
theorem dX12_years_30 : decode cX12_years 30 = .ok (.iconst (-1), 1) := by decide +kernel
theorem dX12_years_31 : decode cX12_years 31 = .ok (.ireturn, 1) := by decide +kernel
theorem dX12_years_11 : decode cX12_years 11 = .ok (.iload_n 2, 1) := by decide +kernel
theorem dX12_years_12 : decode cX12_years 12 = .ok (.iconst 1, 1) := by decide +kernel
theorem dX12_years_13 : decode cX12_years 13 = .ok (.bipush 40, 2) := by decide +kernel
theorem dX12_years_15 : decode cX12_years 15 = .ok (.invokestatic 69, 3) := by decide +kernel
theorem dX12_years_18 : decode cX12_years 18 = .ok (.ifCond .eq 12, 3) := by decide +kernel
theorem dX12_years_21 : decode cX12_years 21 = .ok (.aload_n 0, 1) := by decide +kernel
theorem dX12_years_22 : decode cX12_years 22 = .ok (.getfield 7, 3) := by decide +kernel
theorem dX12_years_25 : decode cX12_years 25 = .ok (.iconst 0, 1) := by decide +kernel
theorem dX12_years_26 : decode cX12_years 26 = .ok (.iaload, 1) := by decide +kernel
theorem dX12_years_27 : decode cX12_years 27 = .ok (.ifCond .ne 5, 3) := by decide +kernel
theorem dX12_years_32 : decode cX12_years 32 = .ok (.aload_n 0, 1) := by decide +kernel
theorem dX12_years_33 : decode cX12_years 33 = .ok (.invokevirtual 333, 3) := by decide +kernel
theorem dX12_years_36 : decode cX12_years 36 = .ok (.aload_n 0, 1) := by decide +kernel
theorem dX12_years_37 : decode cX12_years 37 = .ok (.getfield 7, 3) := by decide +kernel
theorem dX12_years_40 : decode cX12_years 40 = .ok (.bipush 12, 2) := by decide +kernel
theorem dX12_years_42 : decode cX12_years 42 = .ok (.iload_n 1, 1) := by decide +kernel
theorem dX12_years_43 : decode cX12_years 43 = .ok (.iconst 2, 1) := by decide +kernel
theorem dX12_years_44 : decode cX12_years 44 = .ok (.imul, 1) := by decide +kernel
theorem dX12_years_45 : decode cX12_years 45 = .ok (.sipush 137, 3) := by decide +kernel
theorem dX12_years_48 : decode cX12_years 48 = .ok (.iadd, 1) := by decide +kernel
theorem dX12_years_49 : decode cX12_years 49 = .ok (.iastore, 1) := by decide +kernel
theorem dX12_years_50 : decode cX12_years 50 = .ok (.iconst 0, 1) := by decide +kernel
theorem dX12_years_51 : decode cX12_years 51 = .ok (.istore_n 3, 1) := by decide +kernel
theorem dX12_years_52 : decode cX12_years 52 = .ok (.iload_n 3, 1) := by decide +kernel
theorem dX12_years_53 : decode cX12_years 53 = .ok (.iload_n 2, 1) := by decide +kernel
theorem dX12_years_54 : decode cX12_years 54 = .ok (.if_icmp .ge 28, 3) := by decide +kernel
theorem dX12_years_57 : decode cX12_years 57 = .ok (.aload_n 0, 1) := by decide +kernel
theorem dX12_years_58 : decode cX12_years 58 = .ok (.getfield 7, 3) := by decide +kernel
theorem dX12_years_61 : decode cX12_years 61 = .ok (.bipush 12, 2) := by decide +kernel
theorem dX12_years_63 : decode cX12_years 63 = .ok (.iaload, 1) := by decide +kernel
theorem dX12_years_64 : decode cX12_years 64 = .ok (.istore 4, 2) := by decide +kernel
theorem dX12_years_66 : decode cX12_years 66 = .ok (.aload_n 0, 1) := by decide +kernel
theorem dX12_years_67 : decode cX12_years 67 = .ok (.invokevirtual 320, 3) := by decide +kernel
theorem dX12_years_70 : decode cX12_years 70 = .ok (.aload_n 0, 1) := by decide +kernel
theorem dX12_years_71 : decode cX12_years 71 = .ok (.iload 4, 2) := by decide +kernel
theorem dX12_years_73 : decode cX12_years 73 = .ok (.invokevirtual 384, 3) := by decide +kernel
theorem cw_X12_happens : CWv yX12_happens cX12_happens 4 none 1 := ⟨⟨⟨List.mem_of_getElem? (i := 137) (by decide +kernel), by decide +kernel⟩, ⟨List.mem_of_getElem? (i := 1953) (by decide +kernel), by decide +kernel⟩, by decide +kernel⟩, ⟨List.mem_of_getElem? (i := 1952) (by decide +kernel), by decide +kernel⟩, ⟨List.mem_of_getElem? (i := 105) (by decide +kernel), by decide +kernel⟩⟩
theorem km12_384 : inW (Cond.methodLink RX12 384 yX12_happens) := ⟨List.mem_of_getElem? (i := 1950) (by decide +kernel), by decide +kernel⟩
theorem dX12_years_76 : decode cX12_years 76 = .ok (.iinc 3 1, 3) := by decide +kernel
theorem dX12_years_79 : decode cX12_years 79 = .ok (.goto (-27), 3) := by decide +kernel
theorem dX12_years_82 : decode cX12_years 82 = .ok (.aload_n 0, 1) := by decide +kernel
theorem dX12_years_83 : decode cX12_years 83 = .ok (.getfield 7, 3) := by decide +kernel
theorem dX12_years_86 : decode cX12_years 86 = .ok (.bipush 10, 2) := by decide +kernel
theorem dX12_years_88 : decode cX12_years 88 = .ok (.iaload, 1) := by decide +kernel
theorem dX12_years_89 : decode cX12_years 89 = .ok (.ireturn, 1) := by decide +kernel
theorem dX12_of_0 : decode cX12_of 0 = .ok (.aload_n 0, 1) := by decide +kernel
theorem dX12_of_1 : decode cX12_of 1 = .ok (.iload_n 1, 1) := by decide +kernel
theorem dX12_of_2 : decode cX12_of 2 = .ok (.invokevirtual 323, 3) := by decide +kernel
theorem dX12_of_5 : decode cX12_of 5 = .ok (.ifCond .ne 7, 3) := by decide +kernel
theorem dX12_of_12 : decode cX12_of 12 = .ok (.iload_n 2, 1) := by decide +kernel
theorem dX12_of_13 : decode cX12_of 13 = .ok (.tableswitch 86 0 5 #[39, 45, 59, 68, 74, 80], 39) := by decide +kernel
theorem swM_0_5 (x : Int32) : x = 0 ∨ x = 1 ∨ x = 2 ∨ x = 3 ∨ x = 4 ∨ x = 5 ∨ (x.toInt < 0 ∨ 5 < x.toInt) := by
  have key : ∀ k : Int32, x.toInt = k.toInt → x = k := fun k h => Int32.toInt_inj.mp h
  by_cases h1 : x.toInt < 0
  · simp [h1]
  by_cases h2 : 5 < x.toInt
  · simp [h2]
  have h3 : x.toInt = 0 ∨ x.toInt = 1 ∨ x.toInt = 2 ∨ x.toInt = 3 ∨ x.toInt = 4 ∨ x.toInt = 5 := by omega
  rcases h3 with h | h | h | h | h | h
  · rw [key 0 (h.trans (by decide))]; decide
  · rw [key 1 (h.trans (by decide))]; decide
  · rw [key 2 (h.trans (by decide))]; decide
  · rw [key 3 (h.trans (by decide))]; decide
  · rw [key 4 (h.trans (by decide))]; decide
  · rw [key 5 (h.trans (by decide))]; decide
theorem dX12_of_52 : decode cX12_of 52 = .ok (.aload_n 0, 1) := by decide +kernel
theorem dX12_of_53 : decode cX12_of 53 = .ok (.iload_n 1, 1) := by decide +kernel
theorem dX12_of_54 : decode cX12_of 54 = .ok (.invokevirtual 295, 3) := by decide +kernel
theorem dX12_of_57 : decode cX12_of 57 = .ok (.ireturn, 1) := by decide +kernel
theorem dX12_of_58 : decode cX12_of 58 = .ok (.aload_n 0, 1) := by decide +kernel
theorem dX12_of_59 : decode cX12_of 59 = .ok (.getfield 7, 3) := by decide +kernel
theorem dX12_of_62 : decode cX12_of 62 = .ok (.bipush 114, 2) := by decide +kernel
theorem dX12_of_64 : decode cX12_of 64 = .ok (.iconst 2, 1) := by decide +kernel
theorem dX12_of_65 : decode cX12_of 65 = .ok (.iload_n 1, 1) := by decide +kernel
theorem dX12_of_66 : decode cX12_of 66 = .ok (.imul, 1) := by decide +kernel
theorem dX12_of_67 : decode cX12_of 67 = .ok (.iadd, 1) := by decide +kernel
theorem dX12_of_68 : decode cX12_of 68 = .ok (.iconst 1, 1) := by decide +kernel
theorem dX12_of_69 : decode cX12_of 69 = .ok (.iadd, 1) := by decide +kernel
theorem dX12_of_70 : decode cX12_of 70 = .ok (.iaload, 1) := by decide +kernel
theorem dX12_of_71 : decode cX12_of 71 = .ok (.ireturn, 1) := by decide +kernel
theorem dX12_of_72 : decode cX12_of 72 = .ok (.aload_n 0, 1) := by decide +kernel
theorem dX12_of_73 : decode cX12_of 73 = .ok (.iload_n 1, 1) := by decide +kernel
theorem dX12_of_74 : decode cX12_of 74 = .ok (.invokevirtual 265, 3) := by decide +kernel
theorem dX12_of_77 : decode cX12_of 77 = .ok (.invokestatic 268, 3) := by decide +kernel
theorem dX12_of_80 : decode cX12_of 80 = .ok (.ireturn, 1) := by decide +kernel
theorem dX12_of_81 : decode cX12_of 81 = .ok (.aload_n 0, 1) := by decide +kernel
theorem dX12_of_82 : decode cX12_of 82 = .ok (.iload_n 1, 1) := by decide +kernel
theorem dX12_of_83 : decode cX12_of 83 = .ok (.invokevirtual 317, 3) := by decide +kernel
theorem dX12_of_86 : decode cX12_of 86 = .ok (.ireturn, 1) := by decide +kernel
theorem dX12_of_87 : decode cX12_of 87 = .ok (.aload_n 0, 1) := by decide +kernel
theorem dX12_of_88 : decode cX12_of 88 = .ok (.iload_n 1, 1) := by decide +kernel
theorem dX12_of_89 : decode cX12_of 89 = .ok (.invokevirtual 387, 3) := by decide +kernel
theorem cw_X12_riskOf : CWv yX12_riskOf cX12_riskOf 2 (some .int) 1 := ⟨⟨⟨List.mem_of_getElem? (i := 137) (by decide +kernel), by decide +kernel⟩, ⟨List.mem_of_getElem? (i := 1961) (by decide +kernel), by decide +kernel⟩, by decide +kernel⟩, ⟨List.mem_of_getElem? (i := 1960) (by decide +kernel), by decide +kernel⟩, ⟨List.mem_of_getElem? (i := 106) (by decide +kernel), by decide +kernel⟩⟩
theorem km12_387 : inW (Cond.methodLink RX12 387 yX12_riskOf) := ⟨List.mem_of_getElem? (i := 1958) (by decide +kernel), by decide +kernel⟩
theorem dX12_of_92 : decode cX12_of 92 = .ok (.ireturn, 1) := by decide +kernel
theorem dX12_of_93 : decode cX12_of 93 = .ok (.aload_n 0, 1) := by decide +kernel
theorem dX12_of_94 : decode cX12_of 94 = .ok (.iload_n 1, 1) := by decide +kernel
theorem dX12_of_95 : decode cX12_of 95 = .ok (.invokevirtual 390, 3) := by decide +kernel
theorem cw_X12_netOf : CWv yX12_netOf cX12_netOf 4 (some .int) 1 := ⟨⟨⟨List.mem_of_getElem? (i := 137) (by decide +kernel), by decide +kernel⟩, ⟨List.mem_of_getElem? (i := 1965) (by decide +kernel), by decide +kernel⟩, by decide +kernel⟩, ⟨List.mem_of_getElem? (i := 1964) (by decide +kernel), by decide +kernel⟩, ⟨List.mem_of_getElem? (i := 107) (by decide +kernel), by decide +kernel⟩⟩
theorem km12_390 : inW (Cond.methodLink RX12 390 yX12_netOf) := ⟨List.mem_of_getElem? (i := 1962) (by decide +kernel), by decide +kernel⟩
theorem dX12_of_98 : decode cX12_of 98 = .ok (.ireturn, 1) := by decide +kernel
theorem dX12_of_99 : decode cX12_of 99 = .ok (.sipush (-1000), 3) := by decide +kernel
theorem dX12_of_102 : decode cX12_of 102 = .ok (.ireturn, 1) := by decide +kernel
theorem dX12_of_8 : decode cX12_of 8 = .ok (.sipush (-1000), 3) := by decide +kernel
theorem dX12_of_11 : decode cX12_of 11 = .ok (.ireturn, 1) := by decide +kernel
theorem dX12_ofOath_0 : decode cX12_ofOath 0 = .ok (.aload_n 0, 1) := by decide +kernel
theorem dX12_ofOath_1 : decode cX12_ofOath 1 = .ok (.iload_n 1, 1) := by decide +kernel
theorem dX12_ofOath_2 : decode cX12_ofOath 2 = .ok (.invokevirtual 339, 3) := by decide +kernel
theorem dX12_ofOath_5 : decode cX12_ofOath 5 = .ok (.ifCond .eq 13, 3) := by decide +kernel
theorem dX12_ofOath_18 : decode cX12_ofOath 18 = .ok (.iconst (-1), 1) := by decide +kernel
theorem dX12_ofOath_19 : decode cX12_ofOath 19 = .ok (.ireturn, 1) := by decide +kernel
theorem dX12_ofOath_8 : decode cX12_ofOath 8 = .ok (.iload_n 2, 1) := by decide +kernel
theorem dX12_ofOath_9 : decode cX12_ofOath 9 = .ok (.iconst 0, 1) := by decide +kernel
theorem dX12_ofOath_10 : decode cX12_ofOath 10 = .ok (.bipush 8, 2) := by decide +kernel
theorem dX12_ofOath_12 : decode cX12_ofOath 12 = .ok (.invokestatic 69, 3) := by decide +kernel
theorem dX12_ofOath_15 : decode cX12_ofOath 15 = .ok (.ifCond .ne 5, 3) := by decide +kernel
theorem dX12_ofOath_20 : decode cX12_ofOath 20 = .ok (.iload_n 2, 1) := by decide +kernel
theorem dX12_ofOath_21 : decode cX12_ofOath 21 = .ok (.bipush 7, 2) := by decide +kernel
theorem dX12_ofOath_23 : decode cX12_ofOath 23 = .ok (.if_icmp .ge 12, 3) := by decide +kernel
theorem dX12_ofOath_35 : decode cX12_ofOath 35 = .ok (.iload_n 2, 1) := by decide +kernel
theorem dX12_ofOath_36 : decode cX12_ofOath 36 = .ok (.bipush 7, 2) := by decide +kernel
theorem dX12_ofOath_38 : decode cX12_ofOath 38 = .ok (.if_icmp .ne 17, 3) := by decide +kernel
theorem dX12_ofOath_55 : decode cX12_ofOath 55 = .ok (.aload_n 0, 1) := by decide +kernel
theorem dX12_ofOath_56 : decode cX12_ofOath 56 = .ok (.iload_n 1, 1) := by decide +kernel
theorem dX12_ofOath_57 : decode cX12_ofOath 57 = .ok (.aload_n 0, 1) := by decide +kernel
theorem dX12_ofOath_58 : decode cX12_ofOath 58 = .ok (.getfield 7, 3) := by decide +kernel
theorem dX12_ofOath_61 : decode cX12_ofOath 61 = .ok (.bipush 11, 2) := by decide +kernel
theorem dX12_ofOath_63 : decode cX12_ofOath 63 = .ok (.iaload, 1) := by decide +kernel
theorem dX12_ofOath_64 : decode cX12_ofOath 64 = .ok (.invokevirtual 308, 3) := by decide +kernel
theorem dX12_ofOath_67 : decode cX12_ofOath 67 = .ok (.ireturn, 1) := by decide +kernel
theorem dX12_ofOath_41 : decode cX12_ofOath 41 = .ok (.aload_n 0, 1) := by decide +kernel
theorem dX12_ofOath_42 : decode cX12_ofOath 42 = .ok (.aload_n 0, 1) := by decide +kernel
theorem dX12_ofOath_43 : decode cX12_ofOath 43 = .ok (.getfield 7, 3) := by decide +kernel
theorem dX12_ofOath_46 : decode cX12_ofOath 46 = .ok (.iconst 2, 1) := by decide +kernel
theorem dX12_ofOath_47 : decode cX12_ofOath 47 = .ok (.iaload, 1) := by decide +kernel
theorem dX12_ofOath_48 : decode cX12_ofOath 48 = .ok (.iload_n 1, 1) := by decide +kernel
theorem dX12_ofOath_49 : decode cX12_ofOath 49 = .ok (.invokevirtual 342, 3) := by decide +kernel
theorem dX12_ofOath_52 : decode cX12_ofOath 52 = .ok (.goto 15, 3) := by decide +kernel
theorem dX12_ofOath_26 : decode cX12_ofOath 26 = .ok (.aload_n 0, 1) := by decide +kernel
theorem dX12_ofOath_27 : decode cX12_ofOath 27 = .ok (.iload_n 1, 1) := by decide +kernel
theorem dX12_ofOath_28 : decode cX12_ofOath 28 = .ok (.iload_n 2, 1) := by decide +kernel
theorem dX12_ofOath_29 : decode cX12_ofOath 29 = .ok (.invokevirtual 73, 3) := by decide +kernel
theorem dX12_ofOath_32 : decode cX12_ofOath 32 = .ok (.goto 35, 3) := by decide +kernel
theorem dX12_is_0 : decode cX12_is 0 = .ok (.iload_n 1, 1) := by decide +kernel
theorem dX12_is_1 : decode cX12_is 1 = .ok (.iconst 0, 1) := by decide +kernel
theorem dX12_is_2 : decode cX12_is 2 = .ok (.iconst 3, 1) := by decide +kernel
theorem dX12_is_3 : decode cX12_is 3 = .ok (.invokestatic 69, 3) := by decide +kernel
theorem dX12_is_6 : decode cX12_is 6 = .ok (.ifCond .eq 15, 3) := by decide +kernel
theorem dX12_is_21 : decode cX12_is 21 = .ok (.bipush (-2), 2) := by decide +kernel
theorem dX12_is_23 : decode cX12_is 23 = .ok (.ireturn, 1) := by decide +kernel
theorem dX12_is_9 : decode cX12_is 9 = .ok (.aload_n 0, 1) := by decide +kernel
theorem dX12_is_10 : decode cX12_is 10 = .ok (.getfield 7, 3) := by decide +kernel
theorem dX12_is_13 : decode cX12_is 13 = .ok (.bipush 10, 2) := by decide +kernel
theorem dX12_is_15 : decode cX12_is 15 = .ok (.iload_n 1, 1) := by decide +kernel
theorem dX12_is_16 : decode cX12_is 16 = .ok (.iadd, 1) := by decide +kernel
theorem dX12_is_17 : decode cX12_is 17 = .ok (.iaload, 1) := by decide +kernel
theorem dX12_is_18 : decode cX12_is 18 = .ok (.goto 5, 3) := by decide +kernel
theorem dX12_entry_0 : decode cX12_entry 0 = .ok (.aload_n 0, 1) := by decide +kernel
theorem dX12_entry_1 : decode cX12_entry 1 = .ok (.getfield 7, 3) := by decide +kernel
theorem dX12_entry_4 : decode cX12_entry 4 = .ok (.sipush 3328, 3) := by decide +kernel
theorem dX12_entry_7 : decode cX12_entry 7 = .ok (.aload_n 0, 1) := by decide +kernel
theorem dX12_entry_8 : decode cX12_entry 8 = .ok (.getfield 7, 3) := by decide +kernel
theorem dX12_entry_11 : decode cX12_entry 11 = .ok (.bipush 14, 2) := by decide +kernel
theorem dX12_entry_13 : decode cX12_entry 13 = .ok (.iaload, 1) := by decide +kernel
theorem dX12_entry_14 : decode cX12_entry 14 = .ok (.aload_n 0, 1) := by decide +kernel
theorem dX12_entry_15 : decode cX12_entry 15 = .ok (.invokevirtual 393, 3) := by decide +kernel
theorem cw_X12_shown : CWv yX12_shown cX12_shown 1 (some .int) 0 := ⟨⟨⟨List.mem_of_getElem? (i := 137) (by decide +kernel), by decide +kernel⟩, ⟨List.mem_of_getElem? (i := 1981) (by decide +kernel), by decide +kernel⟩, by decide +kernel⟩, ⟨List.mem_of_getElem? (i := 1980) (by decide +kernel), by decide +kernel⟩, ⟨List.mem_of_getElem? (i := 108) (by decide +kernel), by decide +kernel⟩⟩
theorem km12_393 : inW (Cond.methodLink RX12 393 yX12_shown) := ⟨List.mem_of_getElem? (i := 1978) (by decide +kernel), by decide +kernel⟩
theorem dX12_entry_18 : decode cX12_entry 18 = .ok (.isub, 1) := by decide +kernel
theorem dX12_entry_19 : decode cX12_entry 19 = .ok (.iload_n 1, 1) := by decide +kernel
theorem dX12_entry_20 : decode cX12_entry 20 = .ok (.iadd, 1) := by decide +kernel
theorem dX12_entry_21 : decode cX12_entry 21 = .ok (.sipush 7240, 3) := by decide +kernel
theorem dX12_entry_24 : decode cX12_entry 24 = .ok (.irem, 1) := by decide +kernel
theorem dX12_entry_25 : decode cX12_entry 25 = .ok (.iadd, 1) := by decide +kernel
theorem dX12_entry_26 : decode cX12_entry 26 = .ok (.iaload, 1) := by decide +kernel
theorem dX12_entry_27 : decode cX12_entry 27 = .ok (.istore_n 3, 1) := by decide +kernel
theorem dX12_entry_28 : decode cX12_entry 28 = .ok (.iload_n 2, 1) := by decide +kernel
theorem dX12_entry_29 : decode cX12_entry 29 = .ok (.ifCond .ne 11, 3) := by decide +kernel
theorem dX12_entry_40 : decode cX12_entry 40 = .ok (.iload_n 2, 1) := by decide +kernel
theorem dX12_entry_41 : decode cX12_entry 41 = .ok (.iconst 1, 1) := by decide +kernel
theorem dX12_entry_42 : decode cX12_entry 42 = .ok (.if_icmp .ne 14, 3) := by decide +kernel
theorem dX12_entry_56 : decode cX12_entry 56 = .ok (.iload_n 3, 1) := by decide +kernel
theorem dX12_entry_57 : decode cX12_entry 57 = .ok (.sipush 2000, 3) := by decide +kernel
theorem dX12_entry_60 : decode cX12_entry 60 = .ok (.irem, 1) := by decide +kernel
theorem dX12_entry_61 : decode cX12_entry 61 = .ok (.ireturn, 1) := by decide +kernel
theorem dX12_entry_45 : decode cX12_entry 45 = .ok (.iload_n 3, 1) := by decide +kernel
theorem dX12_entry_46 : decode cX12_entry 46 = .ok (.sipush 2000, 3) := by decide +kernel
theorem dX12_entry_49 : decode cX12_entry 49 = .ok (.idiv, 1) := by decide +kernel
theorem dX12_entry_50 : decode cX12_entry 50 = .ok (.bipush 8, 2) := by decide +kernel
theorem dX12_entry_52 : decode cX12_entry 52 = .ok (.irem, 1) := by decide +kernel
theorem dX12_entry_53 : decode cX12_entry 53 = .ok (.goto 8, 3) := by decide +kernel
theorem dX12_entry_32 : decode cX12_entry 32 = .ok (.iload_n 3, 1) := by decide +kernel
theorem dX12_entry_33 : decode cX12_entry 33 = .ok (.sipush 16000, 3) := by decide +kernel
theorem dX12_entry_36 : decode cX12_entry 36 = .ok (.idiv, 1) := by decide +kernel
theorem dX12_entry_37 : decode cX12_entry 37 = .ok (.goto 24, 3) := by decide +kernel
theorem dX12_book_0 : decode cX12_book 0 = .ok (.iload_n 1, 1) := by decide +kernel
theorem dX12_book_1 : decode cX12_book 1 = .ok (.iconst (-1), 1) := by decide +kernel
theorem dX12_book_2 : decode cX12_book 2 = .ok (.if_icmp .ne 8, 3) := by decide +kernel
theorem dX12_book_10 : decode cX12_book 10 = .ok (.iload_n 1, 1) := by decide +kernel
theorem dX12_book_11 : decode cX12_book 11 = .ok (.iconst 0, 1) := by decide +kernel
theorem dX12_book_12 : decode cX12_book 12 = .ok (.aload_n 0, 1) := by decide +kernel
theorem dX12_book_13 : decode cX12_book 13 = .ok (.invokevirtual 393, 3) := by decide +kernel
theorem dX12_book_16 : decode cX12_book 16 = .ok (.iconst 1, 1) := by decide +kernel
theorem dX12_book_17 : decode cX12_book 17 = .ok (.isub, 1) := by decide +kernel
theorem dX12_book_18 : decode cX12_book 18 = .ok (.invokestatic 69, 3) := by decide +kernel
theorem dX12_book_21 : decode cX12_book 21 = .ok (.ifCond .eq 21, 3) := by decide +kernel
theorem dX12_book_42 : decode cX12_book 42 = .ok (.bipush (-2), 2) := by decide +kernel
theorem dX12_book_44 : decode cX12_book 44 = .ok (.ireturn, 1) := by decide +kernel
theorem dX12_book_24 : decode cX12_book 24 = .ok (.iload_n 2, 1) := by decide +kernel
theorem dX12_book_25 : decode cX12_book 25 = .ok (.iconst 0, 1) := by decide +kernel
theorem dX12_book_26 : decode cX12_book 26 = .ok (.iconst 2, 1) := by decide +kernel
theorem dX12_book_27 : decode cX12_book 27 = .ok (.invokestatic 69, 3) := by decide +kernel
theorem dX12_book_30 : decode cX12_book 30 = .ok (.ifCond .eq 12, 3) := by decide +kernel
theorem dX12_book_33 : decode cX12_book 33 = .ok (.aload_n 0, 1) := by decide +kernel
theorem dX12_book_34 : decode cX12_book 34 = .ok (.iload_n 1, 1) := by decide +kernel
theorem dX12_book_35 : decode cX12_book 35 = .ok (.iload_n 2, 1) := by decide +kernel
theorem dX12_book_36 : decode cX12_book 36 = .ok (.invokevirtual 396, 3) := by decide +kernel
theorem cw_X12_entry : CWv yX12_entry cX12_entry 4 (some .int) 2 := ⟨⟨⟨List.mem_of_getElem? (i := 137) (by decide +kernel), by decide +kernel⟩, ⟨List.mem_of_getElem? (i := 1985) (by decide +kernel), by decide +kernel⟩, by decide +kernel⟩, ⟨List.mem_of_getElem? (i := 1984) (by decide +kernel), by decide +kernel⟩, ⟨List.mem_of_getElem? (i := 109) (by decide +kernel), by decide +kernel⟩⟩
theorem km12_396 : inW (Cond.methodLink RX12 396 yX12_entry) := ⟨List.mem_of_getElem? (i := 1982) (by decide +kernel), by decide +kernel⟩
theorem dX12_book_39 : decode cX12_book 39 = .ok (.goto 5, 3) := by decide +kernel
theorem dX12_book_5 : decode cX12_book 5 = .ok (.aload_n 0, 1) := by decide +kernel
theorem dX12_book_6 : decode cX12_book 6 = .ok (.invokevirtual 393, 3) := by decide +kernel
theorem dX12_book_9 : decode cX12_book 9 = .ok (.ireturn, 1) := by decide +kernel
theorem dX12_ached_0 : decode cX12_ached 0 = .ok (.iload_n 1, 1) := by decide +kernel
theorem dX12_ached_1 : decode cX12_ached 1 = .ok (.iconst (-1), 1) := by decide +kernel
theorem dX12_ached_2 : decode cX12_ached 2 = .ok (.if_icmp .eq 14, 3) := by decide +kernel
theorem dX12_ached_16 : decode cX12_ached 16 = .ok (.iconst 0, 1) := by decide +kernel
theorem dX12_ached_17 : decode cX12_ached 17 = .ok (.istore_n 2, 1) := by decide +kernel
theorem dX12_ached_18 : decode cX12_ached 18 = .ok (.iconst 0, 1) := by decide +kernel
theorem dX12_ached_19 : decode cX12_ached 19 = .ok (.istore_n 3, 1) := by decide +kernel
theorem dX12_ached_5 : decode cX12_ached 5 = .ok (.aload_n 0, 1) := by decide +kernel
theorem dX12_ached_6 : decode cX12_ached 6 = .ok (.iload_n 1, 1) := by decide +kernel
theorem dX12_ached_7 : decode cX12_ached 7 = .ok (.invokevirtual 323, 3) := by decide +kernel
theorem dX12_ached_10 : decode cX12_ached 10 = .ok (.ifCond .ne 6, 3) := by decide +kernel
theorem dX12_ached_13 : decode cX12_ached 13 = .ok (.bipush (-2), 2) := by decide +kernel
theorem dX12_ached_15 : decode cX12_ached 15 = .ok (.ireturn, 1) := by decide +kernel
theorem dX12_ached_20 : decode cX12_ached 20 = .ok (.iload_n 3, 1) := by decide +kernel
theorem dX12_ached_21 : decode cX12_ached 21 = .ok (.aload_n 0, 1) := by decide +kernel
theorem dX12_ached_22 : decode cX12_ached 22 = .ok (.invokevirtual 393, 3) := by decide +kernel
theorem dX12_ached_25 : decode cX12_ached 25 = .ok (.if_icmp .ge 37, 3) := by decide +kernel
theorem dX12_ached_62 : decode cX12_ached 62 = .ok (.iload_n 2, 1) := by decide +kernel
theorem dX12_ached_63 : decode cX12_ached 63 = .ok (.ireturn, 1) := by decide +kernel
theorem dX12_ached_28 : decode cX12_ached 28 = .ok (.iload_n 2, 1) := by decide +kernel
theorem dX12_ached_29 : decode cX12_ached 29 = .ok (.iload_n 1, 1) := by decide +kernel
theorem dX12_ached_30 : decode cX12_ached 30 = .ok (.iconst (-1), 1) := by decide +kernel
theorem dX12_ached_31 : decode cX12_ached 31 = .ok (.if_icmp .eq 13, 3) := by decide +kernel
theorem dX12_ached_44 : decode cX12_ached 44 = .ok (.aload_n 0, 1) := by decide +kernel
theorem dX12_ached_45 : decode cX12_ached 45 = .ok (.iload_n 3, 1) := by decide +kernel
theorem dX12_ached_46 : decode cX12_ached 46 = .ok (.iconst 2, 1) := by decide +kernel
theorem dX12_ached_47 : decode cX12_ached 47 = .ok (.invokevirtual 396, 3) := by decide +kernel
theorem dX12_ached_50 : decode cX12_ached 50 = .ok (.goto 4, 3) := by decide +kernel
theorem dX12_ached_54 : decode cX12_ached 54 = .ok (.iadd, 1) := by decide +kernel
theorem dX12_ached_55 : decode cX12_ached 55 = .ok (.istore_n 2, 1) := by decide +kernel
theorem dX12_ached_56 : decode cX12_ached 56 = .ok (.iinc 3 1, 3) := by decide +kernel
theorem dX12_ached_59 : decode cX12_ached 59 = .ok (.goto (-39), 3) := by decide +kernel
theorem dX12_ached_34 : decode cX12_ached 34 = .ok (.aload_n 0, 1) := by decide +kernel
theorem dX12_ached_35 : decode cX12_ached 35 = .ok (.iload_n 3, 1) := by decide +kernel
theorem dX12_ached_36 : decode cX12_ached 36 = .ok (.iconst 1, 1) := by decide +kernel
theorem dX12_ached_37 : decode cX12_ached 37 = .ok (.invokevirtual 396, 3) := by decide +kernel
theorem dX12_ached_40 : decode cX12_ached 40 = .ok (.iload_n 1, 1) := by decide +kernel
theorem dX12_ached_41 : decode cX12_ached 41 = .ok (.if_icmp .ne 12, 3) := by decide +kernel
theorem dX12_ached_53 : decode cX12_ached 53 = .ok (.iconst 0, 1) := by decide +kernel
theorem dX12_worstDay_0 : decode cX12_worstDay 0 = .ok (.iconst (-1), 1) := by decide +kernel
theorem dX12_worstDay_1 : decode cX12_worstDay 1 = .ok (.istore_n 1, 1) := by decide +kernel
theorem dX12_worstDay_2 : decode cX12_worstDay 2 = .ok (.iconst 0, 1) := by decide +kernel
theorem dX12_worstDay_3 : decode cX12_worstDay 3 = .ok (.istore_n 2, 1) := by decide +kernel
theorem dX12_worstDay_4 : decode cX12_worstDay 4 = .ok (.iload_n 2, 1) := by decide +kernel
theorem dX12_worstDay_5 : decode cX12_worstDay 5 = .ok (.aload_n 0, 1) := by decide +kernel
theorem dX12_worstDay_6 : decode cX12_worstDay 6 = .ok (.invokevirtual 393, 3) := by decide +kernel
theorem dX12_worstDay_9 : decode cX12_worstDay 9 = .ok (.if_icmp .ge 31, 3) := by decide +kernel
theorem dX12_worstDay_40 : decode cX12_worstDay 40 = .ok (.iload_n 1, 1) := by decide +kernel
theorem dX12_worstDay_41 : decode cX12_worstDay 41 = .ok (.iconst (-1), 1) := by decide +kernel
theorem dX12_worstDay_42 : decode cX12_worstDay 42 = .ok (.if_icmp .ne 7, 3) := by decide +kernel
theorem dX12_worstDay_45 : decode cX12_worstDay 45 = .ok (.iconst (-1), 1) := by decide +kernel
theorem dX12_worstDay_46 : decode cX12_worstDay 46 = .ok (.goto 9, 3) := by decide +kernel
theorem dX12_worstDay_55 : decode cX12_worstDay 55 = .ok (.ireturn, 1) := by decide +kernel
theorem dX12_worstDay_12 : decode cX12_worstDay 12 = .ok (.iload_n 1, 1) := by decide +kernel
theorem dX12_worstDay_13 : decode cX12_worstDay 13 = .ok (.iconst (-1), 1) := by decide +kernel
theorem dX12_worstDay_14 : decode cX12_worstDay 14 = .ok (.if_icmp .eq 18, 3) := by decide +kernel
theorem dX12_worstDay_32 : decode cX12_worstDay 32 = .ok (.iload_n 2, 1) := by decide +kernel
theorem dX12_worstDay_33 : decode cX12_worstDay 33 = .ok (.istore_n 1, 1) := by decide +kernel
theorem dX12_worstDay_34 : decode cX12_worstDay 34 = .ok (.iinc 2 1, 3) := by decide +kernel
theorem dX12_worstDay_37 : decode cX12_worstDay 37 = .ok (.goto (-33), 3) := by decide +kernel
theorem dX12_worstDay_49 : decode cX12_worstDay 49 = .ok (.aload_n 0, 1) := by decide +kernel
theorem dX12_worstDay_50 : decode cX12_worstDay 50 = .ok (.iload_n 1, 1) := by decide +kernel
theorem dX12_worstDay_51 : decode cX12_worstDay 51 = .ok (.iconst 0, 1) := by decide +kernel
theorem dX12_worstDay_52 : decode cX12_worstDay 52 = .ok (.invokevirtual 396, 3) := by decide +kernel
theorem dX12_worstDay_17 : decode cX12_worstDay 17 = .ok (.aload_n 0, 1) := by decide +kernel
theorem dX12_worstDay_18 : decode cX12_worstDay 18 = .ok (.iload_n 2, 1) := by decide +kernel
theorem dX12_worstDay_19 : decode cX12_worstDay 19 = .ok (.iconst 2, 1) := by decide +kernel
theorem dX12_worstDay_20 : decode cX12_worstDay 20 = .ok (.invokevirtual 396, 3) := by decide +kernel
theorem dX12_worstDay_23 : decode cX12_worstDay 23 = .ok (.aload_n 0, 1) := by decide +kernel
theorem dX12_worstDay_24 : decode cX12_worstDay 24 = .ok (.iload_n 1, 1) := by decide +kernel
theorem dX12_worstDay_25 : decode cX12_worstDay 25 = .ok (.iconst 2, 1) := by decide +kernel
theorem dX12_worstDay_26 : decode cX12_worstDay 26 = .ok (.invokevirtual 396, 3) := by decide +kernel
theorem dX12_worstDay_29 : decode cX12_worstDay 29 = .ok (.if_icmp .le 5, 3) := by decide +kernel
theorem dX12_mostSworn_0 : decode cX12_mostSworn 0 = .ok (.iconst (-1), 1) := by decide +kernel
theorem dX12_mostSworn_1 : decode cX12_mostSworn 1 = .ok (.istore_n 1, 1) := by decide +kernel
theorem dX12_mostSworn_2 : decode cX12_mostSworn 2 = .ok (.iconst 0, 1) := by decide +kernel
theorem dX12_mostSworn_3 : decode cX12_mostSworn 3 = .ok (.istore_n 2, 1) := by decide +kernel
theorem dX12_mostSworn_4 : decode cX12_mostSworn 4 = .ok (.iconst 0, 1) := by decide +kernel
theorem dX12_mostSworn_5 : decode cX12_mostSworn 5 = .ok (.istore_n 3, 1) := by decide +kernel
theorem dX12_mostSworn_6 : decode cX12_mostSworn 6 = .ok (.iload_n 3, 1) := by decide +kernel
theorem dX12_mostSworn_7 : decode cX12_mostSworn 7 = .ok (.aload_n 0, 1) := by decide +kernel
theorem dX12_mostSworn_8 : decode cX12_mostSworn 8 = .ok (.getfield 7, 3) := by decide +kernel
theorem dX12_mostSworn_11 : decode cX12_mostSworn 11 = .ok (.iconst 0, 1) := by decide +kernel
theorem dX12_mostSworn_12 : decode cX12_mostSworn 12 = .ok (.iaload, 1) := by decide +kernel
theorem dX12_mostSworn_13 : decode cX12_mostSworn 13 = .ok (.if_icmp .ge 77, 3) := by decide +kernel
theorem dX12_mostSworn_90 : decode cX12_mostSworn 90 = .ok (.iload_n 1, 1) := by decide +kernel
theorem dX12_mostSworn_91 : decode cX12_mostSworn 91 = .ok (.ireturn, 1) := by decide +kernel
theorem dX12_mostSworn_16 : decode cX12_mostSworn 16 = .ok (.iconst 0, 1) := by decide +kernel
theorem dX12_mostSworn_17 : decode cX12_mostSworn 17 = .ok (.istore 4, 2) := by decide +kernel
theorem dX12_mostSworn_19 : decode cX12_mostSworn 19 = .ok (.iconst 0, 1) := by decide +kernel
theorem dX12_mostSworn_20 : decode cX12_mostSworn 20 = .ok (.istore 5, 2) := by decide +kernel
theorem dX12_mostSworn_22 : decode cX12_mostSworn 22 = .ok (.iload 5, 2) := by decide +kernel
theorem dX12_mostSworn_24 : decode cX12_mostSworn 24 = .ok (.aload_n 0, 1) := by decide +kernel
theorem dX12_mostSworn_25 : decode cX12_mostSworn 25 = .ok (.getfield 7, 3) := by decide +kernel
theorem dX12_mostSworn_28 : decode cX12_mostSworn 28 = .ok (.bipush 13, 2) := by decide +kernel
theorem dX12_mostSworn_30 : decode cX12_mostSworn 30 = .ok (.iaload, 1) := by decide +kernel
theorem dX12_mostSworn_31 : decode cX12_mostSworn 31 = .ok (.if_icmp .ge 39, 3) := by decide +kernel
theorem dX12_mostSworn_70 : decode cX12_mostSworn 70 = .ok (.iload 4, 2) := by decide +kernel
theorem dX12_mostSworn_72 : decode cX12_mostSworn 72 = .ok (.iload_n 2, 1) := by decide +kernel
theorem dX12_mostSworn_73 : decode cX12_mostSworn 73 = .ok (.if_icmp .gt 6, 3) := by decide +kernel
theorem dX12_mostSworn_76 : decode cX12_mostSworn 76 = .ok (.goto 8, 3) := by decide +kernel
theorem dX12_mostSworn_84 : decode cX12_mostSworn 84 = .ok (.iinc 3 1, 3) := by decide +kernel
theorem dX12_mostSworn_87 : decode cX12_mostSworn 87 = .ok (.goto (-81), 3) := by decide +kernel
theorem dX12_mostSworn_34 : decode cX12_mostSworn 34 = .ok (.iload 4, 2) := by decide +kernel
theorem dX12_mostSworn_36 : decode cX12_mostSworn 36 = .ok (.aload_n 0, 1) := by decide +kernel
theorem dX12_mostSworn_37 : decode cX12_mostSworn 37 = .ok (.iload 5, 2) := by decide +kernel
theorem dX12_mostSworn_39 : decode cX12_mostSworn 39 = .ok (.iconst 0, 1) := by decide +kernel
theorem dX12_mostSworn_40 : decode cX12_mostSworn 40 = .ok (.invokevirtual 73, 3) := by decide +kernel
theorem dX12_mostSworn_43 : decode cX12_mostSworn 43 = .ok (.iload_n 3, 1) := by decide +kernel
theorem dX12_mostSworn_44 : decode cX12_mostSworn 44 = .ok (.if_icmp .ne 16, 3) := by decide +kernel
theorem dX12_mostSworn_60 : decode cX12_mostSworn 60 = .ok (.iconst 0, 1) := by decide +kernel
theorem dX12_mostSworn_61 : decode cX12_mostSworn 61 = .ok (.iadd, 1) := by decide +kernel
theorem dX12_mostSworn_62 : decode cX12_mostSworn 62 = .ok (.istore 4, 2) := by decide +kernel
theorem dX12_mostSworn_64 : decode cX12_mostSworn 64 = .ok (.iinc 5 1, 3) := by decide +kernel
theorem dX12_mostSworn_67 : decode cX12_mostSworn 67 = .ok (.goto (-45), 3) := by decide +kernel
theorem dX12_mostSworn_47 : decode cX12_mostSworn 47 = .ok (.aload_n 0, 1) := by decide +kernel
theorem dX12_mostSworn_48 : decode cX12_mostSworn 48 = .ok (.iload 5, 2) := by decide +kernel
theorem dX12_mostSworn_50 : decode cX12_mostSworn 50 = .ok (.invokevirtual 77, 3) := by decide +kernel
theorem dX12_mostSworn_53 : decode cX12_mostSworn 53 = .ok (.ifCond .eq 7, 3) := by decide +kernel
theorem dX12_mostSworn_56 : decode cX12_mostSworn 56 = .ok (.iconst 1, 1) := by decide +kernel
theorem dX12_mostSworn_57 : decode cX12_mostSworn 57 = .ok (.goto 4, 3) := by decide +kernel
theorem dX12_mostSworn_79 : decode cX12_mostSworn 79 = .ok (.iload 4, 2) := by decide +kernel
theorem dX12_mostSworn_81 : decode cX12_mostSworn 81 = .ok (.istore_n 2, 1) := by decide +kernel
theorem dX12_mostSworn_82 : decode cX12_mostSworn 82 = .ok (.iload_n 3, 1) := by decide +kernel
theorem dX12_mostSworn_83 : decode cX12_mostSworn 83 = .ok (.istore_n 1, 1) := by decide +kernel
theorem dX12_faithful_0 : decode cX12_faithful 0 = .ok (.iconst 1, 1) := by decide +kernel
theorem dX12_faithful_1 : decode cX12_faithful 1 = .ok (.aload_n 0, 1) := by decide +kernel
theorem dX12_faithful_2 : decode cX12_faithful 2 = .ok (.getfield 7, 3) := by decide +kernel
theorem dX12_faithful_5 : decode cX12_faithful 5 = .ok (.iconst 0, 1) := by decide +kernel
theorem dX12_faithful_6 : decode cX12_faithful 6 = .ok (.iaload, 1) := by decide +kernel
theorem dX12_faithful_7 : decode cX12_faithful 7 = .ok (.ishl, 1) := by decide +kernel
theorem dX12_faithful_8 : decode cX12_faithful 8 = .ok (.iconst 1, 1) := by decide +kernel
theorem dX12_faithful_9 : decode cX12_faithful 9 = .ok (.isub, 1) := by decide +kernel
theorem dX12_faithful_10 : decode cX12_faithful 10 = .ok (.istore_n 1, 1) := by decide +kernel
theorem dX12_faithful_11 : decode cX12_faithful 11 = .ok (.iconst 0, 1) := by decide +kernel
theorem dX12_faithful_12 : decode cX12_faithful 12 = .ok (.istore_n 2, 1) := by decide +kernel
theorem dX12_faithful_13 : decode cX12_faithful 13 = .ok (.iload_n 2, 1) := by decide +kernel
theorem dX12_faithful_14 : decode cX12_faithful 14 = .ok (.aload_n 0, 1) := by decide +kernel
theorem dX12_faithful_15 : decode cX12_faithful 15 = .ok (.getfield 7, 3) := by decide +kernel
theorem dX12_faithful_18 : decode cX12_faithful 18 = .ok (.bipush 13, 2) := by decide +kernel
theorem dX12_faithful_20 : decode cX12_faithful 20 = .ok (.iaload, 1) := by decide +kernel
theorem dX12_faithful_21 : decode cX12_faithful 21 = .ok (.if_icmp .ge 32, 3) := by decide +kernel
theorem dX12_faithful_53 : decode cX12_faithful 53 = .ok (.iload_n 1, 1) := by decide +kernel
theorem dX12_faithful_54 : decode cX12_faithful 54 = .ok (.ireturn, 1) := by decide +kernel
theorem dX12_faithful_24 : decode cX12_faithful 24 = .ok (.aload_n 0, 1) := by decide +kernel
theorem dX12_faithful_25 : decode cX12_faithful 25 = .ok (.iload_n 2, 1) := by decide +kernel
theorem dX12_faithful_26 : decode cX12_faithful 26 = .ok (.iconst 4, 1) := by decide +kernel
theorem dX12_faithful_27 : decode cX12_faithful 27 = .ok (.invokevirtual 73, 3) := by decide +kernel
theorem dX12_faithful_30 : decode cX12_faithful 30 = .ok (.iconst 1, 1) := by decide +kernel
theorem dX12_faithful_31 : decode cX12_faithful 31 = .ok (.if_icmp .ne 16, 3) := by decide +kernel
theorem dX12_faithful_47 : decode cX12_faithful 47 = .ok (.iinc 2 1, 3) := by decide +kernel
theorem dX12_faithful_50 : decode cX12_faithful 50 = .ok (.goto (-37), 3) := by decide +kernel
theorem dX12_faithful_34 : decode cX12_faithful 34 = .ok (.iload_n 1, 1) := by decide +kernel
theorem dX12_faithful_35 : decode cX12_faithful 35 = .ok (.iconst 1, 1) := by decide +kernel
theorem dX12_faithful_36 : decode cX12_faithful 36 = .ok (.aload_n 0, 1) := by decide +kernel
theorem dX12_faithful_37 : decode cX12_faithful 37 = .ok (.iload_n 2, 1) := by decide +kernel
theorem dX12_faithful_38 : decode cX12_faithful 38 = .ok (.iconst 0, 1) := by decide +kernel
theorem dX12_faithful_39 : decode cX12_faithful 39 = .ok (.invokevirtual 73, 3) := by decide +kernel
theorem dX12_faithful_42 : decode cX12_faithful 42 = .ok (.ishl, 1) := by decide +kernel
theorem dX12_faithful_43 : decode cX12_faithful 43 = .ok (.iconst (-1), 1) := by decide +kernel
theorem dX12_faithful_44 : decode cX12_faithful 44 = .ok (.ixor, 1) := by decide +kernel
theorem dX12_faithful_45 : decode cX12_faithful 45 = .ok (.iand, 1) := by decide +kernel
theorem dX12_faithful_46 : decode cX12_faithful 46 = .ok (.istore_n 1, 1) := by decide +kernel
theorem dX12_foretold_0 : decode cX12_foretold 0 = .ok (.iload_n 1, 1) := by decide +kernel
theorem dX12_foretold_1 : decode cX12_foretold 1 = .ok (.iconst 1, 1) := by decide +kernel
theorem dX12_foretold_2 : decode cX12_foretold 2 = .ok (.bipush 60, 2) := by decide +kernel
theorem dX12_foretold_4 : decode cX12_foretold 4 = .ok (.invokestatic 69, 3) := by decide +kernel
theorem dX12_foretold_7 : decode cX12_foretold 7 = .ok (.ifCond .eq 16, 3) := by decide +kernel
theorem dX12_foretold_23 : decode cX12_foretold 23 = .ok (.iconst (-1), 1) := by decide +kernel
theorem dX12_foretold_24 : decode cX12_foretold 24 = .ok (.ireturn, 1) := by decide +kernel
theorem dX12_foretold_10 : decode cX12_foretold 10 = .ok (.iload_n 2, 1) := by decide +kernel
theorem dX12_foretold_11 : decode cX12_foretold 11 = .ok (.iconst (-1), 1) := by decide +kernel
theorem dX12_foretold_12 : decode cX12_foretold 12 = .ok (.if_icmp .eq 13, 3) := by decide +kernel
theorem dX12_foretold_25 : decode cX12_foretold 25 = .ok (.aload_n 0, 1) := by decide +kernel
theorem dX12_foretold_26 : decode cX12_foretold 26 = .ok (.invokevirtual 399, 3) := by decide +kernel
theorem cw_X12_setAside : CWv yX12_setAside cX12_setAside 2 none 0 := ⟨⟨⟨List.mem_of_getElem? (i := 137) (by decide +kernel), by decide +kernel⟩, ⟨List.mem_of_getElem? (i := 2009) (by decide +kernel), by decide +kernel⟩, by decide +kernel⟩, ⟨List.mem_of_getElem? (i := 2008) (by decide +kernel), by decide +kernel⟩, ⟨List.mem_of_getElem? (i := 110) (by decide +kernel), by decide +kernel⟩⟩
theorem km12_399 : inW (Cond.methodLink RX12 399 yX12_setAside) := ⟨List.mem_of_getElem? (i := 2006) (by decide +kernel), by decide +kernel⟩
theorem dX12_foretold_29 : decode cX12_foretold 29 = .ok (.iconst 0, 1) := by decide +kernel
theorem dX12_foretold_30 : decode cX12_foretold 30 = .ok (.istore_n 3, 1) := by decide +kernel
theorem dX12_foretold_31 : decode cX12_foretold 31 = .ok (.iconst 0, 1) := by decide +kernel
theorem dX12_foretold_32 : decode cX12_foretold 32 = .ok (.istore 4, 2) := by decide +kernel
theorem dX12_foretold_15 : decode cX12_foretold 15 = .ok (.aload_n 0, 1) := by decide +kernel
theorem dX12_foretold_16 : decode cX12_foretold 16 = .ok (.iload_n 2, 1) := by decide +kernel
theorem dX12_foretold_17 : decode cX12_foretold 17 = .ok (.invokevirtual 323, 3) := by decide +kernel
theorem dX12_foretold_20 : decode cX12_foretold 20 = .ok (.ifCond .ne 5, 3) := by decide +kernel
theorem dX12_foretold_34 : decode cX12_foretold 34 = .ok (.iload 4, 2) := by decide +kernel
theorem dX12_foretold_36 : decode cX12_foretold 36 = .ok (.iload_n 1, 1) := by decide +kernel
theorem dX12_foretold_37 : decode cX12_foretold 37 = .ok (.if_icmp .ge 47, 3) := by decide +kernel
theorem dX12_foretold_40 : decode cX12_foretold 40 = .ok (.aload_n 0, 1) := by decide +kernel
theorem dX12_foretold_41 : decode cX12_foretold 41 = .ok (.getfield 7, 3) := by decide +kernel
theorem dX12_foretold_44 : decode cX12_foretold 44 = .ok (.bipush 10, 2) := by decide +kernel
theorem dX12_foretold_46 : decode cX12_foretold 46 = .ok (.iaload, 1) := by decide +kernel
theorem dX12_foretold_47 : decode cX12_foretold 47 = .ok (.sipush 9999, 3) := by decide +kernel
theorem dX12_foretold_50 : decode cX12_foretold 50 = .ok (.if_icmp .ne 6, 3) := by decide +kernel
theorem dX12_foretold_56 : decode cX12_foretold 56 = .ok (.aload_n 0, 1) := by decide +kernel
theorem dX12_foretold_57 : decode cX12_foretold 57 = .ok (.invokevirtual 357, 3) := by decide +kernel
theorem dX12_foretold_60 : decode cX12_foretold 60 = .ok (.iload_n 3, 1) := by decide +kernel
theorem dX12_foretold_61 : decode cX12_foretold 61 = .ok (.iload_n 2, 1) := by decide +kernel
theorem dX12_foretold_62 : decode cX12_foretold 62 = .ok (.iconst (-1), 1) := by decide +kernel
theorem dX12_foretold_63 : decode cX12_foretold 63 = .ok (.if_icmp .ne 7, 3) := by decide +kernel
theorem dX12_foretold_70 : decode cX12_foretold 70 = .ok (.aload_n 0, 1) := by decide +kernel
theorem dX12_foretold_71 : decode cX12_foretold 71 = .ok (.getfield 50, 3) := by decide +kernel
theorem dX12_foretold_74 : decode cX12_foretold 74 = .ok (.iload_n 2, 1) := by decide +kernel
theorem dX12_foretold_75 : decode cX12_foretold 75 = .ok (.iaload, 1) := by decide +kernel
theorem dX12_foretold_76 : decode cX12_foretold 76 = .ok (.iadd, 1) := by decide +kernel
theorem dX12_foretold_77 : decode cX12_foretold 77 = .ok (.istore_n 3, 1) := by decide +kernel
theorem dX12_foretold_78 : decode cX12_foretold 78 = .ok (.iinc 4 1, 3) := by decide +kernel
theorem dX12_foretold_81 : decode cX12_foretold 81 = .ok (.goto (-47), 3) := by decide +kernel
theorem dX12_foretold_66 : decode cX12_foretold 66 = .ok (.iconst 0, 1) := by decide +kernel
theorem dX12_foretold_67 : decode cX12_foretold 67 = .ok (.goto 9, 3) := by decide +kernel
theorem dX12_foretold_53 : decode cX12_foretold 53 = .ok (.goto 25, 3) := by decide +kernel
theorem dX12_foretold_84 : decode cX12_foretold 84 = .ok (.iload_n 2, 1) := by decide +kernel
theorem dX12_foretold_85 : decode cX12_foretold 85 = .ok (.iconst (-1), 1) := by decide +kernel
theorem dX12_foretold_86 : decode cX12_foretold 86 = .ok (.if_icmp .ne 13, 3) := by decide +kernel
theorem dX12_foretold_99 : decode cX12_foretold 99 = .ok (.iload_n 3, 1) := by decide +kernel
theorem dX12_foretold_100 : decode cX12_foretold 100 = .ok (.istore 4, 2) := by decide +kernel
theorem dX12_foretold_102 : decode cX12_foretold 102 = .ok (.aload_n 0, 1) := by decide +kernel
theorem dX12_foretold_103 : decode cX12_foretold 103 = .ok (.invokevirtual 402, 3) := by decide +kernel
theorem cw_X12_putBack : CWv yX12_putBack cX12_putBack 2 none 0 := ⟨⟨⟨List.mem_of_getElem? (i := 137) (by decide +kernel), by decide +kernel⟩, ⟨List.mem_of_getElem? (i := 2013) (by decide +kernel), by decide +kernel⟩, by decide +kernel⟩, ⟨List.mem_of_getElem? (i := 2012) (by decide +kernel), by decide +kernel⟩, ⟨List.mem_of_getElem? (i := 111) (by decide +kernel), by decide +kernel⟩⟩
theorem km12_402 : inW (Cond.methodLink RX12 402 yX12_putBack) := ⟨List.mem_of_getElem? (i := 2010) (by decide +kernel), by decide +kernel⟩
theorem dX12_foretold_106 : decode cX12_foretold 106 = .ok (.iload 4, 2) := by decide +kernel
theorem dX12_foretold_108 : decode cX12_foretold 108 = .ok (.ireturn, 1) := by decide +kernel
theorem dX12_foretold_89 : decode cX12_foretold 89 = .ok (.aload_n 0, 1) := by decide +kernel
theorem dX12_foretold_90 : decode cX12_foretold 90 = .ok (.getfield 7, 3) := by decide +kernel
theorem dX12_foretold_93 : decode cX12_foretold 93 = .ok (.bipush 11, 2) := by decide +kernel
theorem dX12_foretold_95 : decode cX12_foretold 95 = .ok (.iaload, 1) := by decide +kernel
theorem dX12_foretold_96 : decode cX12_foretold 96 = .ok (.goto 4, 3) := by decide +kernel
theorem dX12_firstAche_0 : decode cX12_firstAche 0 = .ok (.aload_n 0, 1) := by decide +kernel
theorem dX12_firstAche_1 : decode cX12_firstAche 1 = .ok (.iload_n 1, 1) := by decide +kernel
theorem dX12_firstAche_2 : decode cX12_firstAche 2 = .ok (.invokevirtual 323, 3) := by decide +kernel
theorem dX12_firstAche_5 : decode cX12_firstAche 5 = .ok (.ifCond .ne 5, 3) := by decide +kernel
theorem dX12_firstAche_10 : decode cX12_firstAche 10 = .ok (.aload_n 0, 1) := by decide +kernel
theorem dX12_firstAche_11 : decode cX12_firstAche 11 = .ok (.invokevirtual 399, 3) := by decide +kernel
theorem dX12_firstAche_14 : decode cX12_firstAche 14 = .ok (.iconst (-1), 1) := by decide +kernel
theorem dX12_firstAche_15 : decode cX12_firstAche 15 = .ok (.istore_n 2, 1) := by decide +kernel
theorem dX12_firstAche_16 : decode cX12_firstAche 16 = .ok (.iconst 1, 1) := by decide +kernel
theorem dX12_firstAche_17 : decode cX12_firstAche 17 = .ok (.istore_n 3, 1) := by decide +kernel
theorem dX12_firstAche_8 : decode cX12_firstAche 8 = .ok (.iconst (-1), 1) := by decide +kernel
theorem dX12_firstAche_9 : decode cX12_firstAche 9 = .ok (.ireturn, 1) := by decide +kernel
theorem dX12_firstAche_18 : decode cX12_firstAche 18 = .ok (.iload_n 3, 1) := by decide +kernel
theorem dX12_firstAche_19 : decode cX12_firstAche 19 = .ok (.bipush 60, 2) := by decide +kernel
theorem dX12_firstAche_21 : decode cX12_firstAche 21 = .ok (.if_icmp .gt 42, 3) := by decide +kernel
theorem dX12_firstAche_24 : decode cX12_firstAche 24 = .ok (.iload_n 2, 1) := by decide +kernel
theorem dX12_firstAche_25 : decode cX12_firstAche 25 = .ok (.iconst (-1), 1) := by decide +kernel
theorem dX12_firstAche_26 : decode cX12_firstAche 26 = .ok (.if_icmp .ne 37, 3) := by decide +kernel
theorem dX12_firstAche_29 : decode cX12_firstAche 29 = .ok (.aload_n 0, 1) := by decide +kernel
theorem dX12_firstAche_30 : decode cX12_firstAche 30 = .ok (.getfield 7, 3) := by decide +kernel
theorem dX12_firstAche_33 : decode cX12_firstAche 33 = .ok (.bipush 10, 2) := by decide +kernel
theorem dX12_firstAche_35 : decode cX12_firstAche 35 = .ok (.iaload, 1) := by decide +kernel
theorem dX12_firstAche_36 : decode cX12_firstAche 36 = .ok (.sipush 9999, 3) := by decide +kernel
theorem dX12_firstAche_39 : decode cX12_firstAche 39 = .ok (.if_icmp .ge 24, 3) := by decide +kernel
theorem dX12_firstAche_63 : decode cX12_firstAche 63 = .ok (.aload_n 0, 1) := by decide +kernel
theorem dX12_firstAche_64 : decode cX12_firstAche 64 = .ok (.invokevirtual 402, 3) := by decide +kernel
theorem dX12_firstAche_67 : decode cX12_firstAche 67 = .ok (.iload_n 2, 1) := by decide +kernel
theorem dX12_firstAche_68 : decode cX12_firstAche 68 = .ok (.ireturn, 1) := by decide +kernel
theorem dX12_firstAche_42 : decode cX12_firstAche 42 = .ok (.aload_n 0, 1) := by decide +kernel
theorem dX12_firstAche_43 : decode cX12_firstAche 43 = .ok (.invokevirtual 357, 3) := by decide +kernel
theorem dX12_firstAche_46 : decode cX12_firstAche 46 = .ok (.aload_n 0, 1) := by decide +kernel
theorem dX12_firstAche_47 : decode cX12_firstAche 47 = .ok (.getfield 50, 3) := by decide +kernel
theorem dX12_firstAche_50 : decode cX12_firstAche 50 = .ok (.iload_n 1, 1) := by decide +kernel
theorem dX12_firstAche_51 : decode cX12_firstAche 51 = .ok (.iaload, 1) := by decide +kernel
theorem dX12_firstAche_52 : decode cX12_firstAche 52 = .ok (.ifCond .le 5, 3) := by decide +kernel
theorem dX12_firstAche_57 : decode cX12_firstAche 57 = .ok (.iinc 3 1, 3) := by decide +kernel
theorem dX12_firstAche_60 : decode cX12_firstAche 60 = .ok (.goto (-42), 3) := by decide +kernel
theorem dX12_firstAche_55 : decode cX12_firstAche 55 = .ok (.iload_n 3, 1) := by decide +kernel
theorem dX12_firstAche_56 : decode cX12_firstAche 56 = .ok (.istore_n 2, 1) := by decide +kernel
theorem bd_eq {a : Int} {x y : Int32} (h : bn a a x) (g : bn a a y) : x = y := by
  obtain ⟨h1, h2⟩ := h; obtain ⟨g1, g2⟩ := g; exact Int32.toInt_inj.mp (by omega)
theorem BB_x {sl pl oh dh s2 pl2 oh2 dh2 : Int} {w : WW} (h : BBp sl pl oh dh w) (q1 : s2 ≤ 6) (q2 : 0 ≤ pl2) (q3 : oh2 ≤ 14) (q4 : dh2 ≤ 9999) : BBp s2 pl2 oh2 dh2 w := by unfold BBp at *; omega
theorem bn_remn {a b c d : Int} {x m : Int32} (h : bn a b x) (g : bn c d m) (q : 1 ≤ c ∧ a ≤ 0 ∧ 0 ≤ d) : bn a (d - 1) (x - x / m * m) := by
  have g' : bn 1 d m := bn_w g ⟨q.1, Int.le_refl _⟩
  have e := ti_rem (x := x) g'
  obtain ⟨h1, h2⟩ := h; obtain ⟨g1, g2⟩ := g'
  have b1 : x.toInt.tmod m.toInt < m.toInt := Int.tmod_lt_of_pos _ (by omega)
  obtain ⟨k1, k2⟩ := td_b (x := x.toInt) g1
  by_cases z : 0 ≤ x.toInt
  · have b2 := Int.tmod_nonneg (a := x.toInt) m.toInt z
    exact ⟨by omega, by omega⟩
  · obtain ⟨_, _, a3, a4, a5⟩ := k2 (by omega)
    exact ⟨by omega, by omega⟩
theorem ti_remg {x m : Int32} (h : ¬ m = 0) : (x - x / m * m).toInt = x.toInt.tmod m.toInt := by
  have hm : m.toInt ≠ 0 := fun z => h (Int32.toInt_inj.mp z)
  have e := Int.mul_tdiv_add_tmod x.toInt m.toInt
  have b : (x.toInt.tmod m.toInt).natAbs < m.toInt.natAbs := by
    have := Int.natAbs_tmod x.toInt m.toInt
    rw [this]; exact Nat.mod_lt _ (by omega)
  have m1 := ti_lo m; have m2 := ti_hi m
  rw [Int32.toInt_sub, Int32.toInt_mul, Int32.toInt_div]
  have key : (x.toInt - (((x.toInt.tdiv m.toInt).bmod (2 ^ 32)) * m.toInt).bmod (2 ^ 32)).bmod (2 ^ 32) = (x.toInt.tmod m.toInt).bmod (2 ^ 32) := by
    rw [Int.bmod_mul_bmod, Int.sub_bmod_bmod]
    congr 1
    rw [Int.mul_comm] at e
    omega
  rw [key]
  exact Int.bmod_eq_of_le (by omega) (by omega)
theorem rem_dec {x m r : Int32} (h : ¬ m = 0) (e : r = x - x / m * m) : r.toInt.natAbs < m.toInt.natAbs := by
  rw [e, ti_remg h, Int.natAbs_tmod]
  have hm : m.toInt ≠ 0 := fun z => h (Int32.toInt_inj.mp z)
  exact Nat.mod_lt _ (by omega)
set_option maxHeartbeats 4000000 in
set_option maxRecDepth 100000 in
theorem x_X12_swear {l : Launch} {G : GG}  {L : List Nat} {f : HF} {ad : Nat → Nat → Nat} {w : WW} {pi : PIT} {g0 : Nat → Int32} {i1 i2 i3 i4 : Int32} (I : SH (spM (IA 0 0 14 9999 w) pi (EQ g0) LDa) nnM G ad L f) (hB : BBp 0 0 14 9999 w) (hX : TX g0) : PMi l yX12_swear cX12_swear 5 .int 3 0 0 G [.ref (ad 0 0), .int i1, .int i2, .int i3, .int i4] L f (fun r L1 f1 => SH (spM (IA 0 0 14 9999 w) pi (EQ g0) LDa) nnM G ad L1 f1) := by
  refine PMi.of (post := fun r L1 f1 => SH (spM (IA 0 0 14 9999 w) pi (EQ g0) LDa) nnM G ad L1 f1) (own := RX12) (by decide) rfl (Nat.le_of_ble_eq_true rfl) (fun sz p e s m args below meth c A ls hA1 hname S Y hl => ?_)
  have hx := S.hx
  have hb := S.hb
  have hl : lv_has ls 5 [(0, .ref (ad 0 0)), (1, .int i1), (2, .int i2), (3, .int i3), (4, .int i4)] := hl
  refine lv_iload_n hx hb dX12_swear_0 rfl (lv_at hl 3 rfl) ?_
  refine lv_iconst (v := 0) hx hb dX12_swear_1 (by decide) ?_
  refine lv_iconst (v := 1) hx hb dX12_swear_2 (by decide) ?_
  refine cSp (As := [.int i3, .int 0, .int 1]) (rest := []) S Y (x_X12_isIn (l := l) ) cw_X12_isIn km12_69 rfl ⟨Nat.le_of_ble_eq_true rfl, Nat.le_of_ble_eq_true rfl⟩ hl.1 rfl (Nat.le_of_ble_eq_true rfl) ⟨Nat.le_of_ble_eq_true rfl, Nat.le_of_ble_eq_true rfl⟩ dX12_swear_3 (fun r_30023 H locs er_30023 Y => ?_)
  refine lv_if_eq (tgt := 29) hx hb dX12_swear_6 (by decide) (fun c_30024 => ?_) (fun c_30024 => ?_)
  · have B_30025 : bn 0 0 r_30023 := bn_w (bn_eq c_30024 (show bn 0 0 (0 : Int32) from bn_k (by decide))) (by decide)
    refine lv_iconst (v := (-1)) hx hb dX12_swear_29 (by decide) ?_
    exact prI (post := fun r L1 f1 => SH (spM (IA 0 0 14 9999 w) pi (EQ g0) LDa) nnM G ad L1 f1) S Y rfl (by decide) (by decide) hA1 I dX12_swear_30
  · have B_30026 : bn 0 1 i3 := bn_w (bn_i (bn_any i3) (bn_btw (er_30023.2 c_30024).1 (er_30023.2 c_30024).2 (show bn 0 0 (0 : Int32) from bn_k (by decide)) (show bn 1 1 (1 : Int32) from bn_k (by decide)))) (by decide)
    have B_30027 : bn 1 1 r_30023 := bn_w (bn_nel c_30024 er_30023.1 (show bn 0 0 (0 : Int32) from bn_k (by decide))) (by decide)
    refine lv_iload hx hb dX12_swear_9 (lv_at hl 4 rfl) ?_
    refine lv_iconst (v := 1) hx hb dX12_swear_11 (by decide) ?_
    refine lv_bipush (v := 9) hx hb dX12_swear_12 (by decide) ?_
    refine cSp (As := [.int i4, .int 1, .int 9]) (rest := []) S Y (x_X12_isIn (l := l) ) cw_X12_isIn km12_69 rfl ⟨Nat.le_of_ble_eq_true rfl, Nat.le_of_ble_eq_true rfl⟩ hl.1 rfl (Nat.le_of_ble_eq_true rfl) ⟨Nat.le_of_ble_eq_true rfl, Nat.le_of_ble_eq_true rfl⟩ dX12_swear_14 (fun r_30028 H locs er_30028 Y => ?_)
    refine lv_if_eq (tgt := 29) hx hb dX12_swear_17 (by decide) (fun c_30029 => ?_) (fun c_30029 => ?_)
    · have B_30030 : bn 0 0 r_30028 := bn_w (bn_eq c_30029 (show bn 0 0 (0 : Int32) from bn_k (by decide))) (by decide)
      refine lv_iconst (v := (-1)) hx hb dX12_swear_29 (by decide) ?_
      exact prI (post := fun r L1 f1 => SH (spM (IA 0 0 14 9999 w) pi (EQ g0) LDa) nnM G ad L1 f1) S Y rfl (by decide) (by decide) hA1 I dX12_swear_30
    · have B_30031 : bn 1 9 i4 := bn_w (bn_i (bn_any i4) (bn_btw (er_30028.2 c_30029).1 (er_30028.2 c_30029).2 (show bn 1 1 (1 : Int32) from bn_k (by decide)) (show bn 9 9 (9 : Int32) from bn_k (by decide)))) (by decide)
      have B_30032 : bn 1 1 r_30028 := bn_w (bn_nel c_30029 er_30028.1 (show bn 0 0 (0 : Int32) from bn_k (by decide))) (by decide)
      refine lv_aload_n hx hb dX12_swear_20 rfl (lv_at hl 0 rfl) ?_
      refine lv_iload_n hx hb dX12_swear_21 rfl (lv_at hl 1 rfl) ?_
      refine lv_iload_n hx hb dX12_swear_22 rfl (lv_at hl 2 rfl) ?_
      refine cVp (As := [.int i1, .int i2]) (rest := []) S Y (x_X12_canSwear (l := l) I hB) cw_X12_canSwear km12_330 (I.opo (k := 0) (j := 0) (by decide) rfl).choose_spec.1 ok_X12.1 rfl rfl ⟨Nat.le_of_ble_eq_true rfl, Nat.le_of_ble_eq_true rfl⟩ hl.1 rfl (Nat.le_of_ble_eq_true rfl) ⟨Nat.le_of_ble_eq_true rfl, Nat.le_of_ble_eq_true rfl⟩ dX12_swear_23 (fun r_30033 H locs er_30033 Y => ?_)
      refine lv_if_ne (tgt := 31) hx hb dX12_swear_26 (by decide) (fun c_30034 => ?_) (fun c_30034 => ?_)
      · have B_30035 : bn 0 5 i1 := bn_w (bn_i (bn_any i1) (er_30033.2.1 c_30034)) (by decide)
        have B_30036 : bn 0 5 i2 := bn_w (bn_i (bn_any i2) (er_30033.2.2.1 c_30034)) (by decide)
        obtain ⟨g_30037, p_ad_1_0, o_30038⟩ := I.opi (k := 1) (j := 0) (by decide) rfl
        have p_ad_1_0 : pt L f (ad 1 0) (.inl (G.2 0, 10568, .inl g_30037)) := p_ad_1_0
        have o_30039 : (IA 0 0 13 9999 w) g_30037 := (IA_oh o_30038 (er_30033.2.2.2 c_30034 g_30037 p_ad_1_0))
        have I := I.castS (sp' := spM (IA 0 0 13 9999 w) pi (EQ g0) LDa) (k := 1) (j := 0) (by decide) p_ad_1_0 (okE_a (g := g_30037) o_30039) pAC
        have B_30040 : bn 1 1 r_30033 := bn_w (bn_nel c_30034 er_30033.1 (show bn 0 0 (0 : Int32) from bn_k (by decide))) (by decide)
        refine lv_aload_n hx hb dX12_swear_31 rfl (lv_at hl 0 rfl) ?_
        refine cVv (As := []) (rest := []) S Y (x_X12_keep (l := l) I (BB_oh hB (by decide))) cw_X12_keep km12_333 (I.opo (k := 0) (j := 0) (by decide) rfl).choose_spec.1 ok_X12.1 rfl rfl ⟨Nat.le_of_ble_eq_true rfl, Nat.le_of_ble_eq_true rfl⟩ hl.1 rfl (Nat.le_of_ble_eq_true rfl) ⟨Nat.le_of_ble_eq_true rfl, Nat.le_of_ble_eq_true rfl⟩ dX12_swear_32 (fun L_30042 f_30043 H locs I Y => ?_)
        refine lv_aload_n hx hb dX12_swear_35 rfl (lv_at hl 0 rfl) ?_
        refine lv_iload_n hx hb dX12_swear_36 rfl (lv_at hl 1 rfl) ?_
        refine lv_iload_n hx hb dX12_swear_37 rfl (lv_at hl 2 rfl) ?_
        refine lv_iload_n hx hb dX12_swear_38 rfl (lv_at hl 3 rfl) ?_
        refine lv_iload hx hb dX12_swear_39 (lv_at hl 4 rfl) ?_
        refine cVi (As := [.int i1, .int i2, .int i3, .int i4]) (rest := []) S Y (x_X12_swearNow (l := l) I (BB_oh hB (by decide)) (bn_w B_30036 (by decide))) cw_X12_swearNow km12_336 (I.opo (k := 0) (j := 0) (by decide) rfl).choose_spec.1 ok_X12.1 rfl rfl ⟨Nat.le_of_ble_eq_true rfl, Nat.le_of_ble_eq_true rfl⟩ hl.1 rfl (Nat.le_of_ble_eq_true rfl) ⟨Nat.le_of_ble_eq_true rfl, Nat.le_of_ble_eq_true rfl⟩ dX12_swear_41 (fun r_30046 L_30044 f_30045 H locs I Y => ?_)
        exact prI (post := fun r L1 f1 => SH (spM (IA 0 0 14 9999 w) pi (EQ g0) LDa) nnM G ad L1 f1) S Y rfl (by decide) (by decide) hA1 I dX12_swear_44
      · have B_30041 : bn 0 0 r_30033 := bn_w (bn_eq c_30034 (show bn 0 0 (0 : Int32) from bn_k (by decide))) (by decide)
        refine lv_iconst (v := (-1)) hx hb dX12_swear_29 (by decide) ?_
        exact prI (post := fun r L1 f1 => SH (spM (IA 0 0 14 9999 w) pi (EQ g0) LDa) nnM G ad L1 f1) S Y rfl (by decide) (by decide) hA1 I dX12_swear_30
set_option maxHeartbeats 4000000 in
set_option maxRecDepth 100000 in
theorem x_X12_breaks {l : Launch} {G : GG}  {L : List Nat} {f : HF} {ad : Nat → Nat → Nat} {w : WW} {pi : PIT} {g0 : Nat → Int32} {i1 : Int32} (I : SH (spM (IA 0 0 14 9999 w) pi (EQ g0) LDa) nnM G ad L f) (hB : BBp 0 0 14 9999 w) (hX : TX g0) : PMi l yX12_breaks cX12_breaks 2 .boolean 2 0 0 G [.ref (ad 0 0), .int i1] L f (fun r L1 f1 => bn 0 1 r ∧ SH (spM (IA 0 0 14 9999 w) pi (EQ g0) LDa) nnM G ad L1 f1) := by
  refine PMi.of (post := fun r L1 f1 => bn 0 1 r ∧ SH (spM (IA 0 0 14 9999 w) pi (EQ g0) LDa) nnM G ad L1 f1) (own := RX12) (by decide) rfl (Nat.le_of_ble_eq_true rfl) (fun sz p e s m args below meth c A ls hA1 hname S Y hl => ?_)
  have hx := S.hx
  have hb := S.hb
  have hl : lv_has ls 2 [(0, .ref (ad 0 0)), (1, .int i1)] := hl
  refine lv_aload_n hx hb dX12_breaks_0 rfl (lv_at hl 0 rfl) ?_
  refine lv_iload_n hx hb dX12_breaks_1 rfl (lv_at hl 1 rfl) ?_
  refine cVp (As := [.int i1]) (rest := []) S Y (x_X12_isOath (l := l) I hB) cw_X12_isOath km12_339 (I.opo (k := 0) (j := 0) (by decide) rfl).choose_spec.1 ok_X12.1 rfl rfl ⟨Nat.le_of_ble_eq_true rfl, Nat.le_of_ble_eq_true rfl⟩ hl.1 rfl (Nat.le_of_ble_eq_true rfl) ⟨Nat.le_of_ble_eq_true rfl, Nat.le_of_ble_eq_true rfl⟩ dX12_breaks_2 (fun r_30071 H locs er_30071 Y => ?_)
  refine lv_if_eq (tgt := 17) hx hb dX12_breaks_5 (by decide) (fun c_30072 => ?_) (fun c_30072 => ?_)
  · have B_30073 : bn 0 0 r_30071 := bn_w (bn_eq c_30072 (show bn 0 0 (0 : Int32) from bn_k (by decide))) (by decide)
    refine lv_iconst (v := 0) hx hb dX12_breaks_17 (by decide) ?_
    exact prI (post := fun r L1 f1 => bn 0 1 r ∧ SH (spM (IA 0 0 14 9999 w) pi (EQ g0) LDa) nnM G ad L1 f1) S Y rfl (by decide) (by decide) hA1 ⟨bn_w (show bn 0 0 (0 : Int32) from bn_k (by decide)) (by decide), I⟩ dX12_breaks_18
  · have B_30074 : bn 0 13 i1 := bn_w (bn_i (bn_any i1) (er_30071.2 c_30072)) (by decide)
    have B_30075 : bn 1 1 r_30071 := bn_w (bn_nel c_30072 er_30071.1 (show bn 0 0 (0 : Int32) from bn_k (by decide))) (by decide)
    refine lv_aload_n hx hb dX12_breaks_8 rfl (lv_at hl 0 rfl) ?_
    refine lv_iload_n hx hb dX12_breaks_9 rfl (lv_at hl 1 rfl) ?_
    refine lv_iconst (v := 4) hx hb dX12_breaks_10 (by decide) ?_
    refine cVp (As := [.int i1, .int 4]) (rest := []) S Y (x_X12_get (l := l) I hB (bn_w B_30074 (by decide)) (bn_w (show bn 4 4 (4 : Int32) from bn_k (by decide)) (by decide))) cw_X12_get km12_73 (I.opo (k := 0) (j := 0) (by decide) rfl).choose_spec.1 ok_X12.1 rfl rfl ⟨Nat.le_of_ble_eq_true rfl, Nat.le_of_ble_eq_true rfl⟩ hl.1 rfl (Nat.le_of_ble_eq_true rfl) ⟨Nat.le_of_ble_eq_true rfl, Nat.le_of_ble_eq_true rfl⟩ dX12_breaks_11 (fun r_30076 H locs er_30076 Y => ?_)
    refine lv_if_eq (tgt := 19) hx hb dX12_breaks_14 (by decide) (fun c_30077 => ?_) (fun c_30077 => ?_)
    · have B_30078 : bn 0 0 r_30076 := bn_w (bn_eq c_30077 (show bn 0 0 (0 : Int32) from bn_k (by decide))) (by decide)
      refine lv_aload_n hx hb dX12_breaks_19 rfl (lv_at hl 0 rfl) ?_
      refine cVv (As := []) (rest := []) S Y (x_X12_keep (l := l) I hB) cw_X12_keep km12_333 (I.opo (k := 0) (j := 0) (by decide) rfl).choose_spec.1 ok_X12.1 rfl rfl ⟨Nat.le_of_ble_eq_true rfl, Nat.le_of_ble_eq_true rfl⟩ hl.1 rfl (Nat.le_of_ble_eq_true rfl) ⟨Nat.le_of_ble_eq_true rfl, Nat.le_of_ble_eq_true rfl⟩ dX12_breaks_20 (fun L_30079 f_30080 H locs I Y => ?_)
      refine lv_aload_n hx hb dX12_breaks_23 rfl (lv_at hl 0 rfl) ?_
      refine lv_iload_n hx hb dX12_breaks_24 rfl (lv_at hl 1 rfl) ?_
      refine lv_iconst (v := 4) hx hb dX12_breaks_25 (by decide) ?_
      refine lv_iconst (v := 1) hx hb dX12_breaks_26 (by decide) ?_
      refine cVv (As := [.int i1, .int 4, .int 1]) (rest := []) S Y (x_X12_put (l := l) I hB (bn_w B_30074 (by decide)) (bn_w (show bn 4 4 (4 : Int32) from bn_k (by decide)) (by decide)) (fun h => absurd h (by decide))) cw_X12_put km12_326 (I.opo (k := 0) (j := 0) (by decide) rfl).choose_spec.1 ok_X12.1 rfl rfl ⟨Nat.le_of_ble_eq_true rfl, Nat.le_of_ble_eq_true rfl⟩ hl.1 rfl (Nat.le_of_ble_eq_true rfl) ⟨Nat.le_of_ble_eq_true rfl, Nat.le_of_ble_eq_true rfl⟩ dX12_breaks_27 (fun L_30081 f_30082 H locs I Y => ?_)
      refine lv_iconst (v := 1) hx hb dX12_breaks_30 (by decide) ?_
      exact prI (post := fun r L1 f1 => bn 0 1 r ∧ SH (spM (IA 0 0 14 9999 w) pi (EQ g0) LDa) nnM G ad L1 f1) S Y rfl (by decide) (by decide) hA1 ⟨bn_w (show bn 1 1 (1 : Int32) from bn_k (by decide)) (by decide), I⟩ dX12_breaks_31
    · refine lv_iconst (v := 0) hx hb dX12_breaks_17 (by decide) ?_
      exact prI (post := fun r L1 f1 => bn 0 1 r ∧ SH (spM (IA 0 0 14 9999 w) pi (EQ g0) LDa) nnM G ad L1 f1) S Y rfl (by decide) (by decide) hA1 ⟨bn_w (show bn 0 0 (0 : Int32) from bn_k (by decide)) (by decide), I⟩ dX12_breaks_18
set_option maxHeartbeats 4000000 in
set_option maxRecDepth 100000 in
theorem x_X12_release {l : Launch} {G : GG}  {L : List Nat} {f : HF} {ad : Nat → Nat → Nat} {w : WW} {pi : PIT} {g0 : Nat → Int32} {i1 : Int32} (I : SH (spM (IA 0 0 14 9999 w) pi (EQ g0) LDa) nnM G ad L f) (hB : BBp 0 0 14 9999 w) (hX : TX g0) : PMi l yX12_release cX12_release 2 .boolean 2 0 0 G [.ref (ad 0 0), .int i1] L f (fun r L1 f1 => bn 0 1 r ∧ SH (spM (IA 0 0 14 9999 w) pi (EQ g0) LDa) nnM G ad L1 f1) := by
  refine PMi.of (post := fun r L1 f1 => bn 0 1 r ∧ SH (spM (IA 0 0 14 9999 w) pi (EQ g0) LDa) nnM G ad L1 f1) (own := RX12) (by decide) rfl (Nat.le_of_ble_eq_true rfl) (fun sz p e s m args below meth c A ls hA1 hname S Y hl => ?_)
  have hx := S.hx
  have hb := S.hb
  have hl : lv_has ls 2 [(0, .ref (ad 0 0)), (1, .int i1)] := hl
  refine lv_aload_n hx hb dX12_release_0 rfl (lv_at hl 0 rfl) ?_
  refine lv_iload_n hx hb dX12_release_1 rfl (lv_at hl 1 rfl) ?_
  refine cVp (As := [.int i1]) (rest := []) S Y (x_X12_isOath (l := l) I hB) cw_X12_isOath km12_339 (I.opo (k := 0) (j := 0) (by decide) rfl).choose_spec.1 ok_X12.1 rfl rfl ⟨Nat.le_of_ble_eq_true rfl, Nat.le_of_ble_eq_true rfl⟩ hl.1 rfl (Nat.le_of_ble_eq_true rfl) ⟨Nat.le_of_ble_eq_true rfl, Nat.le_of_ble_eq_true rfl⟩ dX12_release_2 (fun r_30107 H locs er_30107 Y => ?_)
  refine lv_if_eq (tgt := 18) hx hb dX12_release_5 (by decide) (fun c_30108 => ?_) (fun c_30108 => ?_)
  · have B_30109 : bn 0 0 r_30107 := bn_w (bn_eq c_30108 (show bn 0 0 (0 : Int32) from bn_k (by decide))) (by decide)
    refine lv_iconst (v := 0) hx hb dX12_release_18 (by decide) ?_
    exact prI (post := fun r L1 f1 => bn 0 1 r ∧ SH (spM (IA 0 0 14 9999 w) pi (EQ g0) LDa) nnM G ad L1 f1) S Y rfl (by decide) (by decide) hA1 ⟨bn_w (show bn 0 0 (0 : Int32) from bn_k (by decide)) (by decide), I⟩ dX12_release_19
  · have B_30110 : bn 0 13 i1 := bn_w (bn_i (bn_any i1) (er_30107.2 c_30108)) (by decide)
    have B_30111 : bn 1 1 r_30107 := bn_w (bn_nel c_30108 er_30107.1 (show bn 0 0 (0 : Int32) from bn_k (by decide))) (by decide)
    refine lv_aload_n hx hb dX12_release_8 rfl (lv_at hl 0 rfl) ?_
    refine lv_iload_n hx hb dX12_release_9 rfl (lv_at hl 1 rfl) ?_
    refine lv_iconst (v := 4) hx hb dX12_release_10 (by decide) ?_
    refine cVp (As := [.int i1, .int 4]) (rest := []) S Y (x_X12_get (l := l) I hB (bn_w B_30110 (by decide)) (bn_w (show bn 4 4 (4 : Int32) from bn_k (by decide)) (by decide))) cw_X12_get km12_73 (I.opo (k := 0) (j := 0) (by decide) rfl).choose_spec.1 ok_X12.1 rfl rfl ⟨Nat.le_of_ble_eq_true rfl, Nat.le_of_ble_eq_true rfl⟩ hl.1 rfl (Nat.le_of_ble_eq_true rfl) ⟨Nat.le_of_ble_eq_true rfl, Nat.le_of_ble_eq_true rfl⟩ dX12_release_11 (fun r_30112 H locs er_30112 Y => ?_)
    refine lv_iconst (v := 2) hx hb dX12_release_14 (by decide) ?_
    refine lv_icmp_ne (tgt := 20) hx hb dX12_release_15 (by decide) (fun c_30113 => ?_) (fun c_30113 => ?_)
    · refine lv_aload_n hx hb dX12_release_20 rfl (lv_at hl 0 rfl) ?_
      refine cVv (As := []) (rest := []) S Y (x_X12_keep (l := l) I hB) cw_X12_keep km12_333 (I.opo (k := 0) (j := 0) (by decide) rfl).choose_spec.1 ok_X12.1 rfl rfl ⟨Nat.le_of_ble_eq_true rfl, Nat.le_of_ble_eq_true rfl⟩ hl.1 rfl (Nat.le_of_ble_eq_true rfl) ⟨Nat.le_of_ble_eq_true rfl, Nat.le_of_ble_eq_true rfl⟩ dX12_release_21 (fun L_30115 f_30116 H locs I Y => ?_)
      refine lv_aload_n hx hb dX12_release_24 rfl (lv_at hl 0 rfl) ?_
      refine lv_iload_n hx hb dX12_release_25 rfl (lv_at hl 1 rfl) ?_
      refine lv_iconst (v := 4) hx hb dX12_release_26 (by decide) ?_
      refine lv_iconst (v := 2) hx hb dX12_release_27 (by decide) ?_
      refine cVv (As := [.int i1, .int 4, .int 2]) (rest := []) S Y (x_X12_put (l := l) I hB (bn_w B_30110 (by decide)) (bn_w (show bn 4 4 (4 : Int32) from bn_k (by decide)) (by decide)) (fun h => absurd h (by decide))) cw_X12_put km12_326 (I.opo (k := 0) (j := 0) (by decide) rfl).choose_spec.1 ok_X12.1 rfl rfl ⟨Nat.le_of_ble_eq_true rfl, Nat.le_of_ble_eq_true rfl⟩ hl.1 rfl (Nat.le_of_ble_eq_true rfl) ⟨Nat.le_of_ble_eq_true rfl, Nat.le_of_ble_eq_true rfl⟩ dX12_release_28 (fun L_30117 f_30118 H locs I Y => ?_)
      refine lv_iconst (v := 1) hx hb dX12_release_31 (by decide) ?_
      exact prI (post := fun r L1 f1 => bn 0 1 r ∧ SH (spM (IA 0 0 14 9999 w) pi (EQ g0) LDa) nnM G ad L1 f1) S Y rfl (by decide) (by decide) hA1 ⟨bn_w (show bn 1 1 (1 : Int32) from bn_k (by decide)) (by decide), I⟩ dX12_release_32
    · have B_30114 : bn 2 2 r_30112 := bn_w (bn_eq c_30113 (show bn 2 2 (2 : Int32) from bn_k (by decide))) (by decide)
      refine lv_iconst (v := 0) hx hb dX12_release_18 (by decide) ?_
      exact prI (post := fun r L1 f1 => bn 0 1 r ∧ SH (spM (IA 0 0 14 9999 w) pi (EQ g0) LDa) nnM G ad L1 f1) S Y rfl (by decide) (by decide) hA1 ⟨bn_w (show bn 0 0 (0 : Int32) from bn_k (by decide)) (by decide), I⟩ dX12_release_19
set_option maxHeartbeats 4000000 in
set_option maxRecDepth 100000 in
theorem x_X12_kneel {l : Launch} {G : GG}  {L : List Nat} {f : HF} {ad : Nat → Nat → Nat} {w : WW} {pi : PIT} {g0 : Nat → Int32} {i1 : Int32} (I : SH (spM (IA 0 0 14 9999 w) pi (EQ g0) LDa) nnM G ad L f) (hB : BBp 0 0 14 9999 w) (hX : TX g0) : PMi l yX12_kneel cX12_kneel 2 .int 8 0 0 G [.ref (ad 0 0), .int i1] L f (fun r L1 f1 => SH (spM (IA 0 0 14 9999 w) pi (EQ g0) LDa) nnM G ad L1 f1) := by
  refine PMi.of (post := fun r L1 f1 => SH (spM (IA 0 0 14 9999 w) pi (EQ g0) LDa) nnM G ad L1 f1) (own := RX12) (by decide) rfl (Nat.le_of_ble_eq_true rfl) (fun sz p e s m args below meth c A ls hA1 hname S Y hl => ?_)
  have hx := S.hx
  have hb := S.hb
  have hl : lv_has ls 2 [(0, .ref (ad 0 0)), (1, .int i1)] := hl
  refine lv_aload_n hx hb dX12_kneel_0 rfl (lv_at hl 0 rfl) ?_
  refine lv_iload_n hx hb dX12_kneel_1 rfl (lv_at hl 1 rfl) ?_
  refine cVp (As := [.int i1]) (rest := []) S Y (x_X12_isOne (l := l) I hB) cw_X12_isOne km12_323 (I.opo (k := 0) (j := 0) (by decide) rfl).choose_spec.1 ok_X12.1 rfl rfl ⟨Nat.le_of_ble_eq_true rfl, Nat.le_of_ble_eq_true rfl⟩ hl.1 rfl (Nat.le_of_ble_eq_true rfl) ⟨Nat.le_of_ble_eq_true rfl, Nat.le_of_ble_eq_true rfl⟩ dX12_kneel_2 (fun r_30141 H locs er_30141 Y => ?_)
  refine lv_if_ne (tgt := 10) hx hb dX12_kneel_5 (by decide) (fun c_30142 => ?_) (fun c_30142 => ?_)
  · have B_30143 : bn 0 5 i1 := bn_w (bn_i (bn_any i1) (er_30141.2 c_30142)) (by decide)
    have B_30144 : bn 1 1 r_30141 := bn_w (bn_nel c_30142 er_30141.1 (show bn 0 0 (0 : Int32) from bn_k (by decide))) (by decide)
    refine lv_aload_n hx hb dX12_kneel_10 rfl (lv_at hl 0 rfl) ?_
    refine cVv (As := []) (rest := []) S Y (x_X12_keep (l := l) I hB) cw_X12_keep km12_333 (I.opo (k := 0) (j := 0) (by decide) rfl).choose_spec.1 ok_X12.1 rfl rfl ⟨Nat.le_of_ble_eq_true rfl, Nat.le_of_ble_eq_true rfl⟩ hl.1 rfl (Nat.le_of_ble_eq_true rfl) ⟨Nat.le_of_ble_eq_true rfl, Nat.le_of_ble_eq_true rfl⟩ dX12_kneel_11 (fun L_30146 f_30147 H locs I Y => ?_)
    refine lv_aload_n hx hb dX12_kneel_14 rfl (lv_at hl 0 rfl) ?_
    refine lv_iload_n hx hb dX12_kneel_15 rfl (lv_at hl 1 rfl) ?_
    refine cVv (As := [.int i1]) (rest := []) S Y (x_X12_kneelNow (l := l) I hB hX) cw_X12_kneelNow km12_345 (I.opo (k := 0) (j := 0) (by decide) rfl).choose_spec.1 ok_X12.1 rfl rfl ⟨Nat.le_of_ble_eq_true rfl, Nat.le_of_ble_eq_true rfl⟩ hl.1 rfl (Nat.le_of_ble_eq_true rfl) ⟨Nat.le_of_ble_eq_true rfl, Nat.le_of_ble_eq_true rfl⟩ dX12_kneel_16 (fun L_30148 f_30149 H locs I Y => ?_)
    refine lv_aload_n hx hb dX12_kneel_19 rfl (lv_at hl 0 rfl) ?_
    refine lv_iload_n hx hb dX12_kneel_20 rfl (lv_at hl 1 rfl) ?_
    refine cVp (As := [.int i1]) (rest := []) S Y (x_X12_legibleOn (l := l) I hB) cw_X12_legibleOn km12_265 (I.opo (k := 0) (j := 0) (by decide) rfl).choose_spec.1 ok_X12.1 rfl rfl ⟨Nat.le_of_ble_eq_true rfl, Nat.le_of_ble_eq_true rfl⟩ hl.1 rfl (Nat.le_of_ble_eq_true rfl) ⟨Nat.le_of_ble_eq_true rfl, Nat.le_of_ble_eq_true rfl⟩ dX12_kneel_21 (fun r_30150 H locs er_30150 Y => ?_)
    refine cSp (As := [.int r_30150]) (rest := []) S Y (x_X12_bits (l := l) ) cw_X12_bits km12_268 rfl ⟨Nat.le_of_ble_eq_true rfl, Nat.le_of_ble_eq_true rfl⟩ hl.1 rfl (Nat.le_of_ble_eq_true rfl) ⟨Nat.le_of_ble_eq_true rfl, Nat.le_of_ble_eq_true rfl⟩ dX12_kneel_24 (fun r_30151 H locs er_30151 Y => ?_)
    exact prI (post := fun r L1 f1 => SH (spM (IA 0 0 14 9999 w) pi (EQ g0) LDa) nnM G ad L1 f1) S Y rfl (by decide) (by decide) hA1 I dX12_kneel_27
  · have B_30145 : bn 0 0 r_30141 := bn_w (bn_eq c_30142 (show bn 0 0 (0 : Int32) from bn_k (by decide))) (by decide)
    refine lv_iconst (v := (-1)) hx hb dX12_kneel_8 (by decide) ?_
    exact prI (post := fun r L1 f1 => SH (spM (IA 0 0 14 9999 w) pi (EQ g0) LDa) nnM G ad L1 f1) S Y rfl (by decide) (by decide) hA1 I dX12_kneel_9
set_option maxHeartbeats 4000000 in
set_option maxRecDepth 100000 in
theorem x_X12_skate {l : Launch} {G : GG}  {L : List Nat} {f : HF} {ad : Nat → Nat → Nat} {w : WW} {pi : PIT} {g0 : Nat → Int32} {i1 i2 : Int32} (I : SH (spM (IA 0 0 14 9999 w) pi (EQ g0) LDa) nnM G ad L f) (hB : BBp 0 0 14 9999 w) (hX : TX g0) : PMi l yX12_skate cX12_skate 3 .int 3 0 0 G [.ref (ad 0 0), .int i1, .int i2] L f (fun r L1 f1 => SH (spM (IA 0 0 14 9999 w) pi (EQ g0) LDa) nnM G ad L1 f1) := by
  refine PMi.of (post := fun r L1 f1 => SH (spM (IA 0 0 14 9999 w) pi (EQ g0) LDa) nnM G ad L1 f1) (own := RX12) (by decide) rfl (Nat.le_of_ble_eq_true rfl) (fun sz p e s m args below meth c A ls hA1 hname S Y hl => ?_)
  have hx := S.hx
  have hb := S.hb
  have hl : lv_has ls 3 [(0, .ref (ad 0 0)), (1, .int i1), (2, .int i2)] := hl
  refine lv_aload_n hx hb dX12_skate_0 rfl (lv_at hl 0 rfl) ?_
  refine lv_iload_n hx hb dX12_skate_1 rfl (lv_at hl 1 rfl) ?_
  refine cVp (As := [.int i1]) (rest := []) S Y (x_X12_isOne (l := l) I hB) cw_X12_isOne km12_323 (I.opo (k := 0) (j := 0) (by decide) rfl).choose_spec.1 ok_X12.1 rfl rfl ⟨Nat.le_of_ble_eq_true rfl, Nat.le_of_ble_eq_true rfl⟩ hl.1 rfl (Nat.le_of_ble_eq_true rfl) ⟨Nat.le_of_ble_eq_true rfl, Nat.le_of_ble_eq_true rfl⟩ dX12_skate_2 (fun r_30184 H locs er_30184 Y => ?_)
  refine lv_if_eq (tgt := 17) hx hb dX12_skate_5 (by decide) (fun c_30185 => ?_) (fun c_30185 => ?_)
  · have B_30186 : bn 0 0 r_30184 := bn_w (bn_eq c_30185 (show bn 0 0 (0 : Int32) from bn_k (by decide))) (by decide)
    refine lv_iconst (v := (-1)) hx hb dX12_skate_17 (by decide) ?_
    exact prI (post := fun r L1 f1 => SH (spM (IA 0 0 14 9999 w) pi (EQ g0) LDa) nnM G ad L1 f1) S Y rfl (by decide) (by decide) hA1 I dX12_skate_18
  · have B_30187 : bn 0 5 i1 := bn_w (bn_i (bn_any i1) (er_30184.2 c_30185)) (by decide)
    have B_30188 : bn 1 1 r_30184 := bn_w (bn_nel c_30185 er_30184.1 (show bn 0 0 (0 : Int32) from bn_k (by decide))) (by decide)
    refine lv_iload_n hx hb dX12_skate_8 rfl (lv_at hl 2 rfl) ?_
    refine lv_iconst (v := 0) hx hb dX12_skate_9 (by decide) ?_
    refine lv_iconst (v := 1) hx hb dX12_skate_10 (by decide) ?_
    refine cSp (As := [.int i2, .int 0, .int 1]) (rest := []) S Y (x_X12_isIn (l := l) ) cw_X12_isIn km12_69 rfl ⟨Nat.le_of_ble_eq_true rfl, Nat.le_of_ble_eq_true rfl⟩ hl.1 rfl (Nat.le_of_ble_eq_true rfl) ⟨Nat.le_of_ble_eq_true rfl, Nat.le_of_ble_eq_true rfl⟩ dX12_skate_11 (fun r_30189 H locs er_30189 Y => ?_)
    refine lv_if_ne (tgt := 19) hx hb dX12_skate_14 (by decide) (fun c_30190 => ?_) (fun c_30190 => ?_)
    · have B_30191 : bn 0 1 i2 := bn_w (bn_i (bn_any i2) (bn_btw (er_30189.2 c_30190).1 (er_30189.2 c_30190).2 (show bn 0 0 (0 : Int32) from bn_k (by decide)) (show bn 1 1 (1 : Int32) from bn_k (by decide)))) (by decide)
      have B_30192 : bn 1 1 r_30189 := bn_w (bn_nel c_30190 er_30189.1 (show bn 0 0 (0 : Int32) from bn_k (by decide))) (by decide)
      refine lv_aload_n hx hb dX12_skate_19 rfl (lv_at hl 0 rfl) ?_
      refine cVv (As := []) (rest := []) S Y (x_X12_keep (l := l) I hB) cw_X12_keep km12_333 (I.opo (k := 0) (j := 0) (by decide) rfl).choose_spec.1 ok_X12.1 rfl rfl ⟨Nat.le_of_ble_eq_true rfl, Nat.le_of_ble_eq_true rfl⟩ hl.1 rfl (Nat.le_of_ble_eq_true rfl) ⟨Nat.le_of_ble_eq_true rfl, Nat.le_of_ble_eq_true rfl⟩ dX12_skate_20 (fun L_30194 f_30195 H locs I Y => ?_)
      refine lv_aload_n hx hb dX12_skate_23 rfl (lv_at hl 0 rfl) ?_
      refine lv_iload_n hx hb dX12_skate_24 rfl (lv_at hl 1 rfl) ?_
      refine lv_iload_n hx hb dX12_skate_25 rfl (lv_at hl 2 rfl) ?_
      refine cVv (As := [.int i1, .int i2]) (rest := []) S Y (x_X12_skateNow (l := l) I hB hX) cw_X12_skateNow km12_348 (I.opo (k := 0) (j := 0) (by decide) rfl).choose_spec.1 ok_X12.1 rfl rfl ⟨Nat.le_of_ble_eq_true rfl, Nat.le_of_ble_eq_true rfl⟩ hl.1 rfl (Nat.le_of_ble_eq_true rfl) ⟨Nat.le_of_ble_eq_true rfl, Nat.le_of_ble_eq_true rfl⟩ dX12_skate_26 (fun L_30196 f_30197 H locs I Y => ?_)
      refine lv_aload_n hx hb dX12_skate_29 rfl (lv_at hl 0 rfl) ?_
      refine lv_iload_n hx hb dX12_skate_30 rfl (lv_at hl 1 rfl) ?_
      refine cVp (As := [.int i1]) (rest := []) S Y (x_X12_legibleOn (l := l) I hB) cw_X12_legibleOn km12_265 (I.opo (k := 0) (j := 0) (by decide) rfl).choose_spec.1 ok_X12.1 rfl rfl ⟨Nat.le_of_ble_eq_true rfl, Nat.le_of_ble_eq_true rfl⟩ hl.1 rfl (Nat.le_of_ble_eq_true rfl) ⟨Nat.le_of_ble_eq_true rfl, Nat.le_of_ble_eq_true rfl⟩ dX12_skate_31 (fun r_30198 H locs er_30198 Y => ?_)
      refine cSp (As := [.int r_30198]) (rest := []) S Y (x_X12_bits (l := l) ) cw_X12_bits km12_268 rfl ⟨Nat.le_of_ble_eq_true rfl, Nat.le_of_ble_eq_true rfl⟩ hl.1 rfl (Nat.le_of_ble_eq_true rfl) ⟨Nat.le_of_ble_eq_true rfl, Nat.le_of_ble_eq_true rfl⟩ dX12_skate_34 (fun r_30199 H locs er_30199 Y => ?_)
      exact prI (post := fun r L1 f1 => SH (spM (IA 0 0 14 9999 w) pi (EQ g0) LDa) nnM G ad L1 f1) S Y rfl (by decide) (by decide) hA1 I dX12_skate_37
    · have B_30193 : bn 0 0 r_30189 := bn_w (bn_eq c_30190 (show bn 0 0 (0 : Int32) from bn_k (by decide))) (by decide)
      refine lv_iconst (v := (-1)) hx hb dX12_skate_17 (by decide) ?_
      exact prI (post := fun r L1 f1 => SH (spM (IA 0 0 14 9999 w) pi (EQ g0) LDa) nnM G ad L1 f1) S Y rfl (by decide) (by decide) hA1 I dX12_skate_18
set_option maxHeartbeats 4000000 in
set_option maxRecDepth 100000 in
theorem x_X12_arePassed {l : Launch} {G : GG}  {L : List Nat} {f : HF} {ad : Nat → Nat → Nat} {w : WW} {pi : PIT} {g0 : Nat → Int32} {i1 : Int32} (I : SH (spM (IA 0 0 14 9999 w) pi (EQ g0) LDa) nnM G ad L f) (hB : BBp 0 0 14 9999 w) (hX : TX g0) : PMi l yX12_arePassed cX12_arePassed 3 .boolean 9 0 0 G [.ref (ad 0 0), .int i1] L f (fun r L1 f1 => bn 0 1 r ∧ SH (spM (IA 0 0 14 9999 w) pi (EQ g0) LDa) nnM G ad L1 f1) := by
  refine PMi.of (post := fun r L1 f1 => bn 0 1 r ∧ SH (spM (IA 0 0 14 9999 w) pi (EQ g0) LDa) nnM G ad L1 f1) (own := RX12) (by decide) rfl (Nat.le_of_ble_eq_true rfl) (fun sz p e s m args below meth c A ls hA1 hname S Y hl => ?_)
  have hx := S.hx
  have hb := S.hb
  have hl : lv_has ls 3 [(0, .ref (ad 0 0)), (1, .int i1)] := hl
  have J_2 : ∀ (n2 : Nat) (y2_2 : Int32) (L_2 : List Nat) (f_2 : HF) (H : Heap) (locs : List Loc) (ls : Array Slot), (SH (spM (IA 0 0 14 9999 w) pi (EQ g0) LDa) nnM G ad L_2 f_2) → (bn 0 2147483647 y2_2) → (((2147483647 : Int) - y2_2.toInt).toNat = n2) → (DY G A s [] L_2 f_2 H locs) → (lv_has ls 3 [(0, .ref (ad 0 0)), (1, .int i1), (2, .int y2_2)]) → W p l e (rmD 9 0 0) s m args below meth c H locs (0) (0) (MQ below (va_Qi (fun r (u : List Nat × HF) => (fun r L1 f1 => bn 0 1 r ∧ SH (spM (IA 0 0 14 9999 w) pi (EQ g0) LDa) nnM G ad L1 f1) r u.1 u.2) (fun u t => pOut G (va_A (va_pl L f) sz) u.1 u.2 t) (va_A (va_pl L f) sz)) args s 0 0 A) (F0 m 2 ls []) := by
    intro n2
    induction n2 using Nat.strongRecOn with
    | _ n2 ih2 =>
      intro y2_2 L_2 f_2 H locs ls I b_y2_2 hm2 Y hl
      refine lv_iload_n hx hb dX12_arePassed_2 rfl (lv_at hl 2 rfl) ?_
      refine lv_iload_n hx hb dX12_arePassed_3 rfl (lv_at hl 1 rfl) ?_
      refine lv_icmp_ge (tgt := 36) hx hb dX12_arePassed_4 (by decide) (fun c_33150 => ?_) (fun c_33150 => ?_)
      · refine lv_iconst (v := 1) hx hb dX12_arePassed_36 (by decide) ?_
        exact prI (post := fun r L1 f1 => bn 0 1 r ∧ SH (spM (IA 0 0 14 9999 w) pi (EQ g0) LDa) nnM G ad L1 f1) S Y rfl (by decide) (by decide) hA1 ⟨bn_w (show bn 1 1 (1 : Int32) from bn_k (by decide)) (by decide), I⟩ dX12_arePassed_37
      · have B_33151 : bn 1 2147483647 i1 := bn_w (bn_gtl c_33150 (bn_any i1) b_y2_2) (by decide)
        have B_33152 : bn 0 2147483646 y2_2 := bn_w (bn_gtr c_33150 (bn_any i1) b_y2_2) (by decide)
        refine lv_aload_n hx hb dX12_arePassed_7 rfl (lv_at hl 0 rfl) ?_
        obtain ⟨v_33153, v_33155, v_33157, v_33159, v_33161, v_33163, v_33165, v_33167, v_33168, v_33170, v_33172, v_33174, v_33176, v_33178, v_33180, v_33182, v_33184, v_33186, p_ad_0_0, b_33154, b_33156, b_33158, b_33160, b_33162, b_33164, b_33166, b_33169, b_33171, b_33173, b_33175, b_33177, b_33179, b_33181, b_33183, b_33185, b_33187⟩ := opnM_0 (j := 0) I (by decide)
        have p_ad_0_0 : pt L_2 f_2 (ad 0 0) (.inr (12, [.ref (ad 1 0), .ref (ad 2 0), .ref (ad 3 0), .ref (ad 4 0), .int v_33153, .int v_33155, .int v_33157, .int v_33159, .int v_33161, .int v_33163, .int v_33165, .long v_33167, .int v_33168, .int v_33170, .int v_33172, .ref (ad 5 0), .ref (ad 6 0), .int v_33174, .int v_33176, .int v_33178, .int v_33180, .int v_33182, .ref (ad 7 0), .ref (ad 8 0), .ref (ad 9 0), .int v_33184, .ref (ad 10 0), .ref (ad 11 0), .ref (ad 12 0), .ref (ad 13 0), .int v_33186, .ref (ad 14 0)])) := p_ad_0_0
        refine pg_get S Y ok_X12 0 (by decide) kf12_7 (v := .ref (ad 1 0)) p_ad_0_0 rfl dX12_arePassed_8 ?_
        refine lv_bipush (v := 10) hx hb dX12_arePassed_11 (by decide) ?_
        obtain ⟨g_33188, p_ad_1_0, o_33189⟩ := I.opi (k := 1) (j := 0) (by decide) rfl
        have p_ad_1_0 : pt L_2 f_2 (ad 1 0) (.inl (G.2 0, 10568, .inl g_33188)) := p_ad_1_0
        obtain ⟨v_33190, ev_33190⟩ : ∃ z, z = g_33188 (10 : Int32).toNatClampNeg := ⟨_, rfl⟩
        refine pg_iald S Y (v := v_33190) p_ad_1_0 (by unfold vp_in; decide) ev_33190.symm dX12_arePassed_13 ?_
        have bv_33190 : bn 0 9999 v_33190 := bn_eq ev_33190 (IA_10 o_33189)
        refine lv_sipush (v := 9999) hx hb dX12_arePassed_14 (by decide) ?_
        refine lv_icmp_ne (tgt := 22) hx hb dX12_arePassed_17 (by decide) (fun c_33191 => ?_) (fun c_33191 => ?_)
        · have B_33192 : bn 0 9998 v_33190 := bn_w (bn_neu c_33191 bv_33190 (show bn 9999 9999 (9999 : Int32) from bn_k (by decide))) (by decide)
          have o_33194 : (IA 0 0 14 9998 w) g_33188 := (IA_dh o_33189 (by rw [show g_33188 10 = v_33190 from ev_33190.symm]; exact bn_w B_33192 (by decide)))
          have I := I.castS (sp' := spM (IA 0 0 14 9998 w) pi (EQ g0) LDa) (k := 1) (j := 0) (by decide) p_ad_1_0 (okE_a (g := g_33188) o_33194) pAC
          refine lv_aload_n hx hb dX12_arePassed_22 rfl (lv_at hl 0 rfl) ?_
          refine cVv (As := []) (rest := []) S Y (x_X12_keep (l := l) I (BB_dh hB (by decide))) cw_X12_keep km12_333 p_ad_0_0 ok_X12.1 rfl rfl ⟨Nat.le_of_ble_eq_true rfl, Nat.le_of_ble_eq_true rfl⟩ hl.1 rfl (Nat.le_of_ble_eq_true rfl) ⟨Nat.le_of_ble_eq_true rfl, Nat.le_of_ble_eq_true rfl⟩ dX12_arePassed_23 (fun L_33195 f_33196 H locs I Y => ?_)
          refine lv_aload_n hx hb dX12_arePassed_26 rfl (lv_at hl 0 rfl) ?_
          refine cVv (As := []) (rest := []) S Y (x_X12_pass (l := l) I (BB_dh hB (by decide)) hX) cw_X12_pass km12_357 (I.opo (k := 0) (j := 0) (by decide) rfl).choose_spec.1 ok_X12.1 rfl rfl ⟨Nat.le_of_ble_eq_true rfl, Nat.le_of_ble_eq_true rfl⟩ hl.1 rfl (Nat.le_of_ble_eq_true rfl) ⟨Nat.le_of_ble_eq_true rfl, Nat.le_of_ble_eq_true rfl⟩ dX12_arePassed_27 (fun L_33197 f_33198 H locs I Y => ?_)
          obtain ⟨x_33199, ex_33199⟩ : ∃ z : Int32, z = y2_2 + 1 := ⟨_, rfl⟩
          refine lv_iinc (v := x_33199) (lv' := [(2, .int x_33199), (0, .ref (ad 0 0)), (1, .int i1)]) hx hb dX12_arePassed_30 hl (k := 2) rfl (by rw [ex_33199]; rfl) (by decide) rfl (fun ls hl => ?_)
          refine lv_goto (tgt := 2) hx hb dX12_arePassed_33 (by decide) ?_
          exact ih2 _ (by rw [← hm2]; exact ms_up (m := 1) ex_33199 (show bn 1 1 (1 : Int32) from bn_k (by decide)) B_33152 (bn_w (bn_eq ex_33199 (bn_add B_33152 (show bn 1 1 (1 : Int32) from bn_k (by decide)) (by decide))) (by decide) : bn 0 2147483647 x_33199) (by decide)) x_33199 _ _  _ _ _ I (bn_w (bn_eq ex_33199 (bn_add B_33152 (show bn 1 1 (1 : Int32) from bn_k (by decide)) (by decide))) (by decide)) rfl Y (lv_sub hl [1, 2, 0] rfl)
        · have B_33193 : bn 9999 9999 v_33190 := bn_w (bn_eq c_33191 (show bn 9999 9999 (9999 : Int32) from bn_k (by decide))) (by decide)
          refine lv_iconst (v := 0) hx hb dX12_arePassed_20 (by decide) ?_
          exact prI (post := fun r L1 f1 => bn 0 1 r ∧ SH (spM (IA 0 0 14 9999 w) pi (EQ g0) LDa) nnM G ad L1 f1) S Y rfl (by decide) (by decide) hA1 ⟨bn_w (show bn 0 0 (0 : Int32) from bn_k (by decide)) (by decide), I⟩ dX12_arePassed_21
  refine lv_iconst (v := 0) hx hb dX12_arePassed_0 (by decide) ?_
  refine lv_istore_n (lv' := [(2, .int 0), (0, .ref (ad 0 0)), (1, .int i1)]) hx hb dX12_arePassed_1 rfl hl (by decide) rfl (fun ls hl => ?_)
  exact J_2 _ 0 _ _  _ _ _ I (bn_w (show bn 0 0 (0 : Int32) from bn_k (by decide)) (by decide)) rfl Y (lv_sub hl [1, 2, 0] rfl)
set_option maxHeartbeats 4000000 in
set_option maxRecDepth 100000 in
theorem x_X12_day {l : Launch} {G : GG}  {L : List Nat} {f : HF} {ad : Nat → Nat → Nat} {w : WW} {pi : PIT} {g0 : Nat → Int32} {i1 : Int32} (I : SH (spM (IA 0 0 14 9999 w) pi (EQ g0) LDa) nnM G ad L f) (hB : BBp 0 0 14 9999 w) (hX : TX g0) : PMi l yX12_day cX12_day 2 .int 10 0 0 G [.ref (ad 0 0), .int i1] L f (fun r L1 f1 => SH (spM (IA 0 0 14 9999 w) pi (EQ g0) LDa) nnM G ad L1 f1) := by
  refine PMi.of (post := fun r L1 f1 => SH (spM (IA 0 0 14 9999 w) pi (EQ g0) LDa) nnM G ad L1 f1) (own := RX12) (by decide) rfl (Nat.le_of_ble_eq_true rfl) (fun sz p e s m args below meth c A ls hA1 hname S Y hl => ?_)
  have hx := S.hx
  have hb := S.hb
  have hl : lv_has ls 2 [(0, .ref (ad 0 0)), (1, .int i1)] := hl
  refine lv_iload_n hx hb dX12_day_0 rfl (lv_at hl 1 rfl) ?_
  refine lv_iconst (v := 1) hx hb dX12_day_1 (by decide) ?_
  refine lv_bipush (v := 60) hx hb dX12_day_2 (by decide) ?_
  refine cSp (As := [.int i1, .int 1, .int 60]) (rest := []) S Y (x_X12_isIn (l := l) ) cw_X12_isIn km12_69 rfl ⟨Nat.le_of_ble_eq_true rfl, Nat.le_of_ble_eq_true rfl⟩ hl.1 rfl (Nat.le_of_ble_eq_true rfl) ⟨Nat.le_of_ble_eq_true rfl, Nat.le_of_ble_eq_true rfl⟩ dX12_day_4 (fun r_33382 H locs er_33382 Y => ?_)
  refine lv_if_eq (tgt := 43) hx hb dX12_day_7 (by decide) (fun c_33383 => ?_) (fun c_33383 => ?_)
  · have B_33384 : bn 0 0 r_33382 := bn_w (bn_eq c_33383 (show bn 0 0 (0 : Int32) from bn_k (by decide))) (by decide)
    refine lv_iconst (v := (-1)) hx hb dX12_day_43 (by decide) ?_
    exact prI (post := fun r L1 f1 => SH (spM (IA 0 0 14 9999 w) pi (EQ g0) LDa) nnM G ad L1 f1) S Y rfl (by decide) (by decide) hA1 I dX12_day_44
  · have B_33385 : bn 1 60 i1 := bn_w (bn_i (bn_any i1) (bn_btw (er_33382.2 c_33383).1 (er_33382.2 c_33383).2 (show bn 1 1 (1 : Int32) from bn_k (by decide)) (show bn 60 60 (60 : Int32) from bn_k (by decide)))) (by decide)
    have B_33386 : bn 1 1 r_33382 := bn_w (bn_nel c_33383 er_33382.1 (show bn 0 0 (0 : Int32) from bn_k (by decide))) (by decide)
    refine lv_aload_n hx hb dX12_day_10 rfl (lv_at hl 0 rfl) ?_
    obtain ⟨v_33387, v_33389, v_33391, v_33393, v_33395, v_33397, v_33399, v_33401, v_33402, v_33404, v_33406, v_33408, v_33410, v_33412, v_33414, v_33416, v_33418, v_33420, p_ad_0_0, b_33388, b_33390, b_33392, b_33394, b_33396, b_33398, b_33400, b_33403, b_33405, b_33407, b_33409, b_33411, b_33413, b_33415, b_33417, b_33419, b_33421⟩ := opnM_0 (j := 0) I (by decide)
    have p_ad_0_0 : pt L f (ad 0 0) (.inr (12, [.ref (ad 1 0), .ref (ad 2 0), .ref (ad 3 0), .ref (ad 4 0), .int v_33387, .int v_33389, .int v_33391, .int v_33393, .int v_33395, .int v_33397, .int v_33399, .long v_33401, .int v_33402, .int v_33404, .int v_33406, .ref (ad 5 0), .ref (ad 6 0), .int v_33408, .int v_33410, .int v_33412, .int v_33414, .int v_33416, .ref (ad 7 0), .ref (ad 8 0), .ref (ad 9 0), .int v_33418, .ref (ad 10 0), .ref (ad 11 0), .ref (ad 12 0), .ref (ad 13 0), .int v_33420, .ref (ad 14 0)])) := p_ad_0_0
    refine pg_get S Y ok_X12 0 (by decide) kf12_7 (v := .ref (ad 1 0)) p_ad_0_0 rfl dX12_day_11 ?_
    refine lv_bipush (v := 10) hx hb dX12_day_14 (by decide) ?_
    obtain ⟨g_33422, p_ad_1_0, o_33423⟩ := I.opi (k := 1) (j := 0) (by decide) rfl
    have p_ad_1_0 : pt L f (ad 1 0) (.inl (G.2 0, 10568, .inl g_33422)) := p_ad_1_0
    obtain ⟨v_33424, ev_33424⟩ : ∃ z, z = g_33422 (10 : Int32).toNatClampNeg := ⟨_, rfl⟩
    refine pg_iald S Y (v := v_33424) p_ad_1_0 (by unfold vp_in; decide) ev_33424.symm dX12_day_16 ?_
    have bv_33424 : bn 0 9999 v_33424 := bn_eq ev_33424 (IA_10 o_33423)
    refine lv_iload_n hx hb dX12_day_17 rfl (lv_at hl 1 rfl) ?_
    refine lv_iadd hx hb dX12_day_18 ?_
    refine lv_topi (fun x_33425 ex_33425 => ?_)
    refine lv_sipush (v := 9999) hx hb dX12_day_19 (by decide) ?_
    refine lv_icmp_gt (tgt := 43) hx hb dX12_day_22 (by decide) (fun c_33426 => ?_) (fun c_33426 => ?_)
    · have B_33427 : bn 10000 10059 x_33425 := bn_w (bn_ltr c_33426 (show bn 9999 9999 (9999 : Int32) from bn_k (by decide)) (bn_eq ex_33425 (bn_add bv_33424 B_33385 (by decide)))) (by decide)
      refine lv_iconst (v := (-1)) hx hb dX12_day_43 (by decide) ?_
      exact prI (post := fun r L1 f1 => SH (spM (IA 0 0 14 9999 w) pi (EQ g0) LDa) nnM G ad L1 f1) S Y rfl (by decide) (by decide) hA1 I dX12_day_44
    · have B_33428 : bn 1 9999 x_33425 := bn_w (bn_ger c_33426 (show bn 9999 9999 (9999 : Int32) from bn_k (by decide)) (bn_eq ex_33425 (bn_add bv_33424 B_33385 (by decide)))) (by decide)
      refine lv_aload_n hx hb dX12_day_25 rfl (lv_at hl 0 rfl) ?_
      refine lv_iload_n hx hb dX12_day_26 rfl (lv_at hl 1 rfl) ?_
      refine cVi (As := [.int i1]) (rest := []) S Y (x_X12_arePassed (l := l) I hB hX) cw_X12_arePassed km12_360 p_ad_0_0 ok_X12.1 rfl rfl ⟨Nat.le_of_ble_eq_true rfl, Nat.le_of_ble_eq_true rfl⟩ hl.1 rfl (Nat.le_of_ble_eq_true rfl) ⟨Nat.le_of_ble_eq_true rfl, Nat.le_of_ble_eq_true rfl⟩ dX12_day_27 (fun r_33431 L_33429 f_33430 H locs hr_33431 Y => ?_)
      obtain ⟨er_33431, I⟩ := hr_33431
      refine lv_if_eq (tgt := 43) hx hb dX12_day_30 (by decide) (fun c_33432 => ?_) (fun c_33432 => ?_)
      · have B_33433 : bn 0 0 r_33431 := bn_w (bn_eq c_33432 (show bn 0 0 (0 : Int32) from bn_k (by decide))) (by decide)
        refine lv_iconst (v := (-1)) hx hb dX12_day_43 (by decide) ?_
        exact prI (post := fun r L1 f1 => SH (spM (IA 0 0 14 9999 w) pi (EQ g0) LDa) nnM G ad L1 f1) S Y rfl (by decide) (by decide) hA1 I dX12_day_44
      · have B_33434 : bn 1 1 r_33431 := bn_w (bn_nel c_33432 er_33431 (show bn 0 0 (0 : Int32) from bn_k (by decide))) (by decide)
        refine lv_aload_n hx hb dX12_day_33 rfl (lv_at hl 0 rfl) ?_
        obtain ⟨v_33435, v_33437, v_33439, v_33441, v_33443, v_33445, v_33447, v_33449, v_33450, v_33452, v_33454, v_33456, v_33458, v_33460, v_33462, v_33464, v_33466, v_33468, p_ad_0_0, b_33436, b_33438, b_33440, b_33442, b_33444, b_33446, b_33448, b_33451, b_33453, b_33455, b_33457, b_33459, b_33461, b_33463, b_33465, b_33467, b_33469⟩ := opnM_0 (j := 0) I (by decide)
        have p_ad_0_0 : pt L_33429 f_33430 (ad 0 0) (.inr (12, [.ref (ad 1 0), .ref (ad 2 0), .ref (ad 3 0), .ref (ad 4 0), .int v_33435, .int v_33437, .int v_33439, .int v_33441, .int v_33443, .int v_33445, .int v_33447, .long v_33449, .int v_33450, .int v_33452, .int v_33454, .ref (ad 5 0), .ref (ad 6 0), .int v_33456, .int v_33458, .int v_33460, .int v_33462, .int v_33464, .ref (ad 7 0), .ref (ad 8 0), .ref (ad 9 0), .int v_33466, .ref (ad 10 0), .ref (ad 11 0), .ref (ad 12 0), .ref (ad 13 0), .int v_33468, .ref (ad 14 0)])) := p_ad_0_0
        refine pg_get S Y ok_X12 0 (by decide) kf12_7 (v := .ref (ad 1 0)) p_ad_0_0 rfl dX12_day_34 ?_
        refine lv_bipush (v := 11) hx hb dX12_day_37 (by decide) ?_
        obtain ⟨g_33470, p_ad_1_0, o_33471⟩ := I.opi (k := 1) (j := 0) (by decide) rfl
        have p_ad_1_0 : pt L_33429 f_33430 (ad 1 0) (.inl (G.2 0, 10568, .inl g_33470)) := p_ad_1_0
        obtain ⟨v_33472, ev_33472⟩ : ∃ z, z = g_33470 (11 : Int32).toNatClampNeg := ⟨_, rfl⟩
        refine pg_iald S Y (v := v_33472) p_ad_1_0 (by unfold vp_in; decide) ev_33472.symm dX12_day_39 ?_
        refine lv_goto (tgt := 44) hx hb dX12_day_40 (by decide) ?_
        exact prI (post := fun r L1 f1 => SH (spM (IA 0 0 14 9999 w) pi (EQ g0) LDa) nnM G ad L1 f1) S Y rfl (by decide) (by decide) hA1 I dX12_day_44
set_option maxHeartbeats 4000000 in
set_option maxRecDepth 100000 in
theorem x_X12_isPlayed {l : Launch} {G : GG}  {L : List Nat} {f : HF} {ad : Nat → Nat → Nat} {w : WW} {pi : PIT} {g0 : Nat → Int32} {i1 : Int32} (I : SH (spM (IA 0 0 14 9999 w) pi (EQ g0) LDa) nnM G ad L f) (hB : BBp 0 0 14 9999 w) (hX : TX g0) (b_i1 : bn 0 2303 i1) : PMi l yX12_isPlayed cX12_isPlayed 4 .boolean 10 0 0 G [.ref (ad 0 0), .int i1] L f (fun r L1 f1 => bn 0 1 r ∧ SH (spM (IA 0 0 14 9999 w) pi (EQ g0) LDa) nnM G ad L1 f1) := by
  refine PMi.of (post := fun r L1 f1 => bn 0 1 r ∧ SH (spM (IA 0 0 14 9999 w) pi (EQ g0) LDa) nnM G ad L1 f1) (own := RX12) (by decide) rfl (Nat.le_of_ble_eq_true rfl) (fun sz p e s m args below meth c A ls hA1 hname S Y hl => ?_)
  have hx := S.hx
  have hb := S.hb
  have hl : lv_has ls 4 [(0, .ref (ad 0 0)), (1, .int i1)] := hl
  refine lv_aload_n hx hb dX12_isPlayed_0 rfl (lv_at hl 0 rfl) ?_
  obtain ⟨v_33645, v_33647, v_33649, v_33651, v_33653, v_33655, v_33657, v_33659, v_33660, v_33662, v_33664, v_33666, v_33668, v_33670, v_33672, v_33674, v_33676, v_33678, p_ad_0_0, b_33646, b_33648, b_33650, b_33652, b_33654, b_33656, b_33658, b_33661, b_33663, b_33665, b_33667, b_33669, b_33671, b_33673, b_33675, b_33677, b_33679⟩ := opnM_0 (j := 0) I (by decide)
  have p_ad_0_0 : pt L f (ad 0 0) (.inr (12, [.ref (ad 1 0), .ref (ad 2 0), .ref (ad 3 0), .ref (ad 4 0), .int v_33645, .int v_33647, .int v_33649, .int v_33651, .int v_33653, .int v_33655, .int v_33657, .long v_33659, .int v_33660, .int v_33662, .int v_33664, .ref (ad 5 0), .ref (ad 6 0), .int v_33666, .int v_33668, .int v_33670, .int v_33672, .int v_33674, .ref (ad 7 0), .ref (ad 8 0), .ref (ad 9 0), .int v_33676, .ref (ad 10 0), .ref (ad 11 0), .ref (ad 12 0), .ref (ad 13 0), .int v_33678, .ref (ad 14 0)])) := p_ad_0_0
  refine pg_get S Y ok_X12 2 (by decide) kf12_16 (v := .ref (ad 3 0)) p_ad_0_0 rfl dX12_isPlayed_1 ?_
  refine lv_iload_n hx hb dX12_isPlayed_4 rfl (lv_at hl 1 rfl) ?_
  refine lv_iconst (v := 1) hx hb dX12_isPlayed_5 (by decide) ?_
  refine lv_iadd hx hb dX12_isPlayed_6 ?_
  refine lv_topi (fun x_33680 ex_33680 => ?_)
  obtain ⟨g_33681, p_ad_3_0, o_33682⟩ := I.opi (k := 3) (j := 0) (by decide) rfl
  have p_ad_3_0 : pt L f (ad 3 0) (.inl (G.2 0, 2916, .inl g_33681)) := p_ad_3_0
  obtain ⟨v_33683, ev_33683⟩ : ∃ z, z = g_33681 (x_33680 : Int32).toNatClampNeg := ⟨_, rfl⟩
  refine pg_iald S Y (v := v_33683) p_ad_3_0 (vp_bn (bn_eq ex_33680 (bn_add b_i1 (show bn 1 1 (1 : Int32) from bn_k (by decide)) (by decide))) (by decide)) ev_33683.symm dX12_isPlayed_7 ?_
  refine lv_istore_n (lv' := [(2, .int v_33683), (0, .ref (ad 0 0)), (1, .int i1)]) hx hb dX12_isPlayed_8 rfl hl (by decide) rfl (fun ls hl => ?_)
  refine lv_aload_n hx hb dX12_isPlayed_9 rfl (lv_at hl 1 rfl) ?_
  refine pg_get S Y ok_X12 2 (by decide) kf12_16 (v := .ref (ad 3 0)) p_ad_0_0 rfl dX12_isPlayed_10 ?_
  refine lv_iload_n hx hb dX12_isPlayed_13 rfl (lv_at hl 2 rfl) ?_
  refine lv_iconst (v := 2) hx hb dX12_isPlayed_14 (by decide) ?_
  refine lv_iadd hx hb dX12_isPlayed_15 ?_
  refine lv_topi (fun x_33684 ex_33684 => ?_)
  obtain ⟨v_33685, ev_33685⟩ : ∃ z, z = g_33681 (x_33684 : Int32).toNatClampNeg := ⟨_, rfl⟩
  refine pg_iald S Y (v := v_33685) p_ad_3_0 (vp_bn (bn_eq ex_33684 (bn_add b_i1 (show bn 2 2 (2 : Int32) from bn_k (by decide)) (by decide))) (by decide)) ev_33685.symm dX12_isPlayed_16 ?_
  refine lv_istore_n (lv' := [(3, .int v_33685), (2, .int v_33683), (0, .ref (ad 0 0)), (1, .int i1)]) hx hb dX12_isPlayed_17 rfl hl (by decide) rfl (fun ls hl => ?_)
  refine lv_aload_n hx hb dX12_isPlayed_18 rfl (lv_at hl 2 rfl) ?_
  refine pg_get S Y ok_X12 2 (by decide) kf12_16 (v := .ref (ad 3 0)) p_ad_0_0 rfl dX12_isPlayed_19 ?_
  refine lv_iload_n hx hb dX12_isPlayed_22 rfl (lv_at hl 3 rfl) ?_
  obtain ⟨v_33686, ev_33686⟩ : ∃ z, z = g_33681 (i1 : Int32).toNatClampNeg := ⟨_, rfl⟩
  refine pg_iald S Y (v := v_33686) p_ad_3_0 (vp_bn b_i1 (by decide)) ev_33686.symm dX12_isPlayed_23 ?_
  rcases swM_3_10 v_33686 with h_33687 | h_33687 | h_33687 | h_33687 | h_33687 | h_33687 | h_33687 | h_33687 | h_33687
  · refine lv_fold (z := 3) h_33687 ?_
    refine lv_tableIn (off := 48) (tgt := 72) hx hb dX12_isPlayed_24 (by decide) (by decide) (by decide) (by decide) ?_
    refine lv_aload_n hx hb dX12_isPlayed_72 rfl (lv_at hl 2 rfl) ?_
    refine lv_iload_n hx hb dX12_isPlayed_73 rfl (lv_at hl 1 rfl) ?_
    refine lv_iload_n hx hb dX12_isPlayed_74 rfl (lv_at hl 0 rfl) ?_
    refine cVi (As := [.int v_33683, .int v_33685]) (rest := []) S Y (x_X12_one (l := l) I hB) cw_X12_one km12_363 p_ad_0_0 ok_X12.1 rfl rfl ⟨Nat.le_of_ble_eq_true rfl, Nat.le_of_ble_eq_true rfl⟩ hl.1 rfl (Nat.le_of_ble_eq_true rfl) ⟨Nat.le_of_ble_eq_true rfl, Nat.le_of_ble_eq_true rfl⟩ dX12_isPlayed_75 (fun r_33690 L_33688 f_33689 H locs I Y => ?_)
    refine lv_if_lt (tgt := 85) hx hb dX12_isPlayed_78 (by decide) (fun c_33691 => ?_) (fun c_33691 => ?_)
    · have B_33692 : bn (-2147483648) (-1) r_33690 := bn_w (bn_ltl c_33691 (bn_any r_33690) (show bn 0 0 (0 : Int32) from bn_k (by decide))) (by decide)
      refine lv_iconst (v := 0) hx hb dX12_isPlayed_85 (by decide) ?_
      exact prI (post := fun r L1 f1 => bn 0 1 r ∧ SH (spM (IA 0 0 14 9999 w) pi (EQ g0) LDa) nnM G ad L1 f1) S Y rfl (by decide) (by decide) hA1 ⟨bn_w (show bn 0 0 (0 : Int32) from bn_k (by decide)) (by decide), I⟩ dX12_isPlayed_86
    · have B_33693 : bn 0 2147483647 r_33690 := bn_w (bn_gel c_33691 (bn_any r_33690) (show bn 0 0 (0 : Int32) from bn_k (by decide))) (by decide)
      refine lv_iconst (v := 1) hx hb dX12_isPlayed_81 (by decide) ?_
      refine lv_goto (tgt := 86) hx hb dX12_isPlayed_82 (by decide) ?_
      exact prI (post := fun r L1 f1 => bn 0 1 r ∧ SH (spM (IA 0 0 14 9999 w) pi (EQ g0) LDa) nnM G ad L1 f1) S Y rfl (by decide) (by decide) hA1 ⟨bn_w (show bn 1 1 (1 : Int32) from bn_k (by decide)) (by decide), I⟩ dX12_isPlayed_86
  · refine lv_fold (z := 4) h_33687 ?_
    refine lv_tableIn (off := 63) (tgt := 87) hx hb dX12_isPlayed_24 (by decide) (by decide) (by decide) (by decide) ?_
    refine lv_aload_n hx hb dX12_isPlayed_87 rfl (lv_at hl 2 rfl) ?_
    refine lv_iload_n hx hb dX12_isPlayed_88 rfl (lv_at hl 1 rfl) ?_
    refine lv_iload_n hx hb dX12_isPlayed_89 rfl (lv_at hl 0 rfl) ?_
    refine lv_iconst (v := 0) hx hb dX12_isPlayed_90 (by decide) ?_
    refine lv_aload_n hx hb dX12_isPlayed_91 rfl (lv_at hl 2 rfl) ?_
    refine pg_get S Y ok_X12 2 (by decide) kf12_16 (v := .ref (ad 3 0)) p_ad_0_0 rfl dX12_isPlayed_92 ?_
    refine lv_iload_n hx hb dX12_isPlayed_95 rfl (lv_at hl 3 rfl) ?_
    refine lv_iconst (v := 3) hx hb dX12_isPlayed_96 (by decide) ?_
    refine lv_iadd hx hb dX12_isPlayed_97 ?_
    refine lv_topi (fun x_33694 ex_33694 => ?_)
    obtain ⟨v_33695, ev_33695⟩ : ∃ z, z = g_33681 (x_33694 : Int32).toNatClampNeg := ⟨_, rfl⟩
    refine pg_iald S Y (v := v_33695) p_ad_3_0 (vp_bn (bn_eq ex_33694 (bn_add b_i1 (show bn 3 3 (3 : Int32) from bn_k (by decide)) (by decide))) (by decide)) ev_33695.symm dX12_isPlayed_98 ?_
    refine cVi (As := [.int v_33683, .int v_33685, .int 0, .int v_33695]) (rest := []) S Y (x_X12_swear (l := l) I hB hX) cw_X12_swear km12_366 p_ad_0_0 ok_X12.1 rfl rfl ⟨Nat.le_of_ble_eq_true rfl, Nat.le_of_ble_eq_true rfl⟩ hl.1 rfl (Nat.le_of_ble_eq_true rfl) ⟨Nat.le_of_ble_eq_true rfl, Nat.le_of_ble_eq_true rfl⟩ dX12_isPlayed_99 (fun r_33698 L_33696 f_33697 H locs I Y => ?_)
    refine lv_if_lt (tgt := 109) hx hb dX12_isPlayed_102 (by decide) (fun c_33699 => ?_) (fun c_33699 => ?_)
    · have B_33700 : bn (-2147483648) (-1) r_33698 := bn_w (bn_ltl c_33699 (bn_any r_33698) (show bn 0 0 (0 : Int32) from bn_k (by decide))) (by decide)
      refine lv_iconst (v := 0) hx hb dX12_isPlayed_109 (by decide) ?_
      exact prI (post := fun r L1 f1 => bn 0 1 r ∧ SH (spM (IA 0 0 14 9999 w) pi (EQ g0) LDa) nnM G ad L1 f1) S Y rfl (by decide) (by decide) hA1 ⟨bn_w (show bn 0 0 (0 : Int32) from bn_k (by decide)) (by decide), I⟩ dX12_isPlayed_110
    · have B_33701 : bn 0 2147483647 r_33698 := bn_w (bn_gel c_33699 (bn_any r_33698) (show bn 0 0 (0 : Int32) from bn_k (by decide))) (by decide)
      refine lv_iconst (v := 1) hx hb dX12_isPlayed_105 (by decide) ?_
      refine lv_goto (tgt := 110) hx hb dX12_isPlayed_106 (by decide) ?_
      exact prI (post := fun r L1 f1 => bn 0 1 r ∧ SH (spM (IA 0 0 14 9999 w) pi (EQ g0) LDa) nnM G ad L1 f1) S Y rfl (by decide) (by decide) hA1 ⟨bn_w (show bn 1 1 (1 : Int32) from bn_k (by decide)) (by decide), I⟩ dX12_isPlayed_110
  · refine lv_fold (z := 5) h_33687 ?_
    refine lv_tableIn (off := 87) (tgt := 111) hx hb dX12_isPlayed_24 (by decide) (by decide) (by decide) (by decide) ?_
    refine lv_aload_n hx hb dX12_isPlayed_111 rfl (lv_at hl 2 rfl) ?_
    refine lv_iload_n hx hb dX12_isPlayed_112 rfl (lv_at hl 1 rfl) ?_
    refine lv_iload_n hx hb dX12_isPlayed_113 rfl (lv_at hl 0 rfl) ?_
    refine lv_iconst (v := 1) hx hb dX12_isPlayed_114 (by decide) ?_
    refine lv_aload_n hx hb dX12_isPlayed_115 rfl (lv_at hl 2 rfl) ?_
    refine pg_get S Y ok_X12 2 (by decide) kf12_16 (v := .ref (ad 3 0)) p_ad_0_0 rfl dX12_isPlayed_116 ?_
    refine lv_iload_n hx hb dX12_isPlayed_119 rfl (lv_at hl 3 rfl) ?_
    refine lv_iconst (v := 3) hx hb dX12_isPlayed_120 (by decide) ?_
    refine lv_iadd hx hb dX12_isPlayed_121 ?_
    refine lv_topi (fun x_33702 ex_33702 => ?_)
    obtain ⟨v_33703, ev_33703⟩ : ∃ z, z = g_33681 (x_33702 : Int32).toNatClampNeg := ⟨_, rfl⟩
    refine pg_iald S Y (v := v_33703) p_ad_3_0 (vp_bn (bn_eq ex_33702 (bn_add b_i1 (show bn 3 3 (3 : Int32) from bn_k (by decide)) (by decide))) (by decide)) ev_33703.symm dX12_isPlayed_122 ?_
    refine cVi (As := [.int v_33683, .int v_33685, .int 1, .int v_33703]) (rest := []) S Y (x_X12_swear (l := l) I hB hX) cw_X12_swear km12_366 p_ad_0_0 ok_X12.1 rfl rfl ⟨Nat.le_of_ble_eq_true rfl, Nat.le_of_ble_eq_true rfl⟩ hl.1 rfl (Nat.le_of_ble_eq_true rfl) ⟨Nat.le_of_ble_eq_true rfl, Nat.le_of_ble_eq_true rfl⟩ dX12_isPlayed_123 (fun r_33706 L_33704 f_33705 H locs I Y => ?_)
    refine lv_if_lt (tgt := 133) hx hb dX12_isPlayed_126 (by decide) (fun c_33707 => ?_) (fun c_33707 => ?_)
    · have B_33708 : bn (-2147483648) (-1) r_33706 := bn_w (bn_ltl c_33707 (bn_any r_33706) (show bn 0 0 (0 : Int32) from bn_k (by decide))) (by decide)
      refine lv_iconst (v := 0) hx hb dX12_isPlayed_133 (by decide) ?_
      exact prI (post := fun r L1 f1 => bn 0 1 r ∧ SH (spM (IA 0 0 14 9999 w) pi (EQ g0) LDa) nnM G ad L1 f1) S Y rfl (by decide) (by decide) hA1 ⟨bn_w (show bn 0 0 (0 : Int32) from bn_k (by decide)) (by decide), I⟩ dX12_isPlayed_134
    · have B_33709 : bn 0 2147483647 r_33706 := bn_w (bn_gel c_33707 (bn_any r_33706) (show bn 0 0 (0 : Int32) from bn_k (by decide))) (by decide)
      refine lv_iconst (v := 1) hx hb dX12_isPlayed_129 (by decide) ?_
      refine lv_goto (tgt := 134) hx hb dX12_isPlayed_130 (by decide) ?_
      exact prI (post := fun r L1 f1 => bn 0 1 r ∧ SH (spM (IA 0 0 14 9999 w) pi (EQ g0) LDa) nnM G ad L1 f1) S Y rfl (by decide) (by decide) hA1 ⟨bn_w (show bn 1 1 (1 : Int32) from bn_k (by decide)) (by decide), I⟩ dX12_isPlayed_134
  · refine lv_fold (z := 6) h_33687 ?_
    refine lv_tableIn (off := 111) (tgt := 135) hx hb dX12_isPlayed_24 (by decide) (by decide) (by decide) (by decide) ?_
    refine lv_aload_n hx hb dX12_isPlayed_135 rfl (lv_at hl 2 rfl) ?_
    refine lv_iload_n hx hb dX12_isPlayed_136 rfl (lv_at hl 1 rfl) ?_
    refine cVi (As := [.int v_33683]) (rest := []) S Y (x_X12_breaks (l := l) I hB hX) cw_X12_breaks km12_369 p_ad_0_0 ok_X12.1 rfl rfl ⟨Nat.le_of_ble_eq_true rfl, Nat.le_of_ble_eq_true rfl⟩ hl.1 rfl (Nat.le_of_ble_eq_true rfl) ⟨Nat.le_of_ble_eq_true rfl, Nat.le_of_ble_eq_true rfl⟩ dX12_isPlayed_137 (fun r_33712 L_33710 f_33711 H locs hr_33712 Y => ?_)
    obtain ⟨er_33712, I⟩ := hr_33712
    exact prI (post := fun r L1 f1 => bn 0 1 r ∧ SH (spM (IA 0 0 14 9999 w) pi (EQ g0) LDa) nnM G ad L1 f1) S Y (nw_b (bn_w er_33712 (by decide))) (by decide) (by decide) hA1 ⟨bn_w er_33712 (by decide), I⟩ dX12_isPlayed_140
  · refine lv_fold (z := 7) h_33687 ?_
    refine lv_tableIn (off := 117) (tgt := 141) hx hb dX12_isPlayed_24 (by decide) (by decide) (by decide) (by decide) ?_
    refine lv_aload_n hx hb dX12_isPlayed_141 rfl (lv_at hl 2 rfl) ?_
    refine lv_iload_n hx hb dX12_isPlayed_142 rfl (lv_at hl 1 rfl) ?_
    refine cVi (As := [.int v_33683]) (rest := []) S Y (x_X12_release (l := l) I hB hX) cw_X12_release km12_372 p_ad_0_0 ok_X12.1 rfl rfl ⟨Nat.le_of_ble_eq_true rfl, Nat.le_of_ble_eq_true rfl⟩ hl.1 rfl (Nat.le_of_ble_eq_true rfl) ⟨Nat.le_of_ble_eq_true rfl, Nat.le_of_ble_eq_true rfl⟩ dX12_isPlayed_143 (fun r_33715 L_33713 f_33714 H locs hr_33715 Y => ?_)
    obtain ⟨er_33715, I⟩ := hr_33715
    exact prI (post := fun r L1 f1 => bn 0 1 r ∧ SH (spM (IA 0 0 14 9999 w) pi (EQ g0) LDa) nnM G ad L1 f1) S Y (nw_b (bn_w er_33715 (by decide))) (by decide) (by decide) hA1 ⟨bn_w er_33715 (by decide), I⟩ dX12_isPlayed_146
  · refine lv_fold (z := 8) h_33687 ?_
    refine lv_tableIn (off := 123) (tgt := 147) hx hb dX12_isPlayed_24 (by decide) (by decide) (by decide) (by decide) ?_
    refine lv_aload_n hx hb dX12_isPlayed_147 rfl (lv_at hl 2 rfl) ?_
    refine lv_iload_n hx hb dX12_isPlayed_148 rfl (lv_at hl 1 rfl) ?_
    refine cVi (As := [.int v_33683]) (rest := []) S Y (x_X12_kneel (l := l) I hB hX) cw_X12_kneel km12_375 p_ad_0_0 ok_X12.1 rfl rfl ⟨Nat.le_of_ble_eq_true rfl, Nat.le_of_ble_eq_true rfl⟩ hl.1 rfl (Nat.le_of_ble_eq_true rfl) ⟨Nat.le_of_ble_eq_true rfl, Nat.le_of_ble_eq_true rfl⟩ dX12_isPlayed_149 (fun r_33718 L_33716 f_33717 H locs I Y => ?_)
    refine lv_if_lt (tgt := 159) hx hb dX12_isPlayed_152 (by decide) (fun c_33719 => ?_) (fun c_33719 => ?_)
    · have B_33720 : bn (-2147483648) (-1) r_33718 := bn_w (bn_ltl c_33719 (bn_any r_33718) (show bn 0 0 (0 : Int32) from bn_k (by decide))) (by decide)
      refine lv_iconst (v := 0) hx hb dX12_isPlayed_159 (by decide) ?_
      exact prI (post := fun r L1 f1 => bn 0 1 r ∧ SH (spM (IA 0 0 14 9999 w) pi (EQ g0) LDa) nnM G ad L1 f1) S Y rfl (by decide) (by decide) hA1 ⟨bn_w (show bn 0 0 (0 : Int32) from bn_k (by decide)) (by decide), I⟩ dX12_isPlayed_160
    · have B_33721 : bn 0 2147483647 r_33718 := bn_w (bn_gel c_33719 (bn_any r_33718) (show bn 0 0 (0 : Int32) from bn_k (by decide))) (by decide)
      refine lv_iconst (v := 1) hx hb dX12_isPlayed_155 (by decide) ?_
      refine lv_goto (tgt := 160) hx hb dX12_isPlayed_156 (by decide) ?_
      exact prI (post := fun r L1 f1 => bn 0 1 r ∧ SH (spM (IA 0 0 14 9999 w) pi (EQ g0) LDa) nnM G ad L1 f1) S Y rfl (by decide) (by decide) hA1 ⟨bn_w (show bn 1 1 (1 : Int32) from bn_k (by decide)) (by decide), I⟩ dX12_isPlayed_160
  · refine lv_fold (z := 9) h_33687 ?_
    refine lv_tableIn (off := 137) (tgt := 161) hx hb dX12_isPlayed_24 (by decide) (by decide) (by decide) (by decide) ?_
    refine lv_aload_n hx hb dX12_isPlayed_161 rfl (lv_at hl 2 rfl) ?_
    refine lv_iload_n hx hb dX12_isPlayed_162 rfl (lv_at hl 1 rfl) ?_
    refine lv_iconst (v := 0) hx hb dX12_isPlayed_163 (by decide) ?_
    refine cVi (As := [.int v_33683, .int 0]) (rest := []) S Y (x_X12_skate (l := l) I hB hX) cw_X12_skate km12_378 p_ad_0_0 ok_X12.1 rfl rfl ⟨Nat.le_of_ble_eq_true rfl, Nat.le_of_ble_eq_true rfl⟩ hl.1 rfl (Nat.le_of_ble_eq_true rfl) ⟨Nat.le_of_ble_eq_true rfl, Nat.le_of_ble_eq_true rfl⟩ dX12_isPlayed_164 (fun r_33724 L_33722 f_33723 H locs I Y => ?_)
    refine lv_if_lt (tgt := 174) hx hb dX12_isPlayed_167 (by decide) (fun c_33725 => ?_) (fun c_33725 => ?_)
    · have B_33726 : bn (-2147483648) (-1) r_33724 := bn_w (bn_ltl c_33725 (bn_any r_33724) (show bn 0 0 (0 : Int32) from bn_k (by decide))) (by decide)
      refine lv_iconst (v := 0) hx hb dX12_isPlayed_174 (by decide) ?_
      exact prI (post := fun r L1 f1 => bn 0 1 r ∧ SH (spM (IA 0 0 14 9999 w) pi (EQ g0) LDa) nnM G ad L1 f1) S Y rfl (by decide) (by decide) hA1 ⟨bn_w (show bn 0 0 (0 : Int32) from bn_k (by decide)) (by decide), I⟩ dX12_isPlayed_175
    · have B_33727 : bn 0 2147483647 r_33724 := bn_w (bn_gel c_33725 (bn_any r_33724) (show bn 0 0 (0 : Int32) from bn_k (by decide))) (by decide)
      refine lv_iconst (v := 1) hx hb dX12_isPlayed_170 (by decide) ?_
      refine lv_goto (tgt := 175) hx hb dX12_isPlayed_171 (by decide) ?_
      exact prI (post := fun r L1 f1 => bn 0 1 r ∧ SH (spM (IA 0 0 14 9999 w) pi (EQ g0) LDa) nnM G ad L1 f1) S Y rfl (by decide) (by decide) hA1 ⟨bn_w (show bn 1 1 (1 : Int32) from bn_k (by decide)) (by decide), I⟩ dX12_isPlayed_175
  · refine lv_fold (z := 10) h_33687 ?_
    refine lv_tableIn (off := 152) (tgt := 176) hx hb dX12_isPlayed_24 (by decide) (by decide) (by decide) (by decide) ?_
    refine lv_aload_n hx hb dX12_isPlayed_176 rfl (lv_at hl 2 rfl) ?_
    refine lv_iload_n hx hb dX12_isPlayed_177 rfl (lv_at hl 1 rfl) ?_
    refine cVi (As := [.int v_33683]) (rest := []) S Y (x_X12_arePassed (l := l) I hB hX) cw_X12_arePassed km12_360 p_ad_0_0 ok_X12.1 rfl rfl ⟨Nat.le_of_ble_eq_true rfl, Nat.le_of_ble_eq_true rfl⟩ hl.1 rfl (Nat.le_of_ble_eq_true rfl) ⟨Nat.le_of_ble_eq_true rfl, Nat.le_of_ble_eq_true rfl⟩ dX12_isPlayed_178 (fun r_33730 L_33728 f_33729 H locs hr_33730 Y => ?_)
    obtain ⟨er_33730, I⟩ := hr_33730
    exact prI (post := fun r L1 f1 => bn 0 1 r ∧ SH (spM (IA 0 0 14 9999 w) pi (EQ g0) LDa) nnM G ad L1 f1) S Y (nw_b (bn_w er_33730 (by decide))) (by decide) (by decide) hA1 ⟨bn_w er_33730 (by decide), I⟩ dX12_isPlayed_181
  · refine lv_tableOut (tgt := 182) hx hb dX12_isPlayed_24 h_33687 (by decide) ?_
    refine lv_iconst (v := 1) hx hb dX12_isPlayed_182 (by decide) ?_
    exact prI (post := fun r L1 f1 => bn 0 1 r ∧ SH (spM (IA 0 0 14 9999 w) pi (EQ g0) LDa) nnM G ad L1 f1) S Y rfl (by decide) (by decide) hA1 ⟨bn_w (show bn 1 1 (1 : Int32) from bn_k (by decide)) (by decide), I⟩ dX12_isPlayed_183
set_option maxHeartbeats 4000000 in
set_option maxRecDepth 100000 in
theorem x_X12_played {l : Launch} {G : GG}  {L : List Nat} {f : HF} {ad : Nat → Nat → Nat} {w : WW} {pi : PIT} {g0 : Nat → Int32} {i1 : Int32} (I : SH (spM (IA 0 0 14 9999 w) pi (EQ g0) LDa) nnM G ad L f) (hB : BBp 0 0 14 9999 w) (hX : TX g0) : PMi l yX12_played cX12_played 3 .int 11 0 0 G [.ref (ad 0 0), .int i1] L f (fun r L1 f1 => SH (spM (IA 0 0 14 9999 w) pi (EQ g0) LDa) nnM G ad L1 f1) := by
  refine PMi.of (post := fun r L1 f1 => SH (spM (IA 0 0 14 9999 w) pi (EQ g0) LDa) nnM G ad L1 f1) (own := RX12) (by decide) rfl (Nat.le_of_ble_eq_true rfl) (fun sz p e s m args below meth c A ls hA1 hname S Y hl => ?_)
  have hx := S.hx
  have hb := S.hb
  have hl : lv_has ls 3 [(0, .ref (ad 0 0)), (1, .int i1)] := hl
  have J_21 : ∀ (n21 : Nat) (y21_2 : Int32) (L_21 : List Nat) (f_21 : HF) (H : Heap) (locs : List Loc) (ls : Array Slot), (SH (spM (IA 0 0 14 9999 w) pi (EQ g0) LDa) nnM G ad L_21 f_21) → (bn 0 24 y21_2) → (bn 0 3 i1) → (((24 : Int) - y21_2.toInt).toNat = n21) → (DY G A s [] L_21 f_21 H locs) → (lv_has ls 3 [(0, .ref (ad 0 0)), (1, .int i1), (2, .int y21_2)]) → W p l e (rmD 11 0 0) s m args below meth c H locs (0) (0) (MQ below (va_Qi (fun r (u : List Nat × HF) => (fun r L1 f1 => SH (spM (IA 0 0 14 9999 w) pi (EQ g0) LDa) nnM G ad L1 f1) r u.1 u.2) (fun u t => pOut G (va_A (va_pl L f) sz) u.1 u.2 t) (va_A (va_pl L f) sz)) args s 0 0 A) (F0 m 21 ls []) := by
    intro n21
    induction n21 using Nat.strongRecOn with
    | _ n21 ih21 =>
      intro y21_2 L_21 f_21 H locs ls I b_y21_2 b21_i1 hm21 Y hl
      refine lv_iload_n hx hb dX12_played_21 rfl (lv_at hl 2 rfl) ?_
      refine lv_aload_n hx hb dX12_played_22 rfl (lv_at hl 0 rfl) ?_
      obtain ⟨v_34737, v_34739, v_34741, v_34743, v_34745, v_34747, v_34749, v_34751, v_34752, v_34754, v_34756, v_34758, v_34760, v_34762, v_34764, v_34766, v_34768, v_34770, p_ad_0_0, b_34738, b_34740, b_34742, b_34744, b_34746, b_34748, b_34750, b_34753, b_34755, b_34757, b_34759, b_34761, b_34763, b_34765, b_34767, b_34769, b_34771⟩ := opnM_0 (j := 0) I (by decide)
      have p_ad_0_0 : pt L_21 f_21 (ad 0 0) (.inr (12, [.ref (ad 1 0), .ref (ad 2 0), .ref (ad 3 0), .ref (ad 4 0), .int v_34737, .int v_34739, .int v_34741, .int v_34743, .int v_34745, .int v_34747, .int v_34749, .long v_34751, .int v_34752, .int v_34754, .int v_34756, .ref (ad 5 0), .ref (ad 6 0), .int v_34758, .int v_34760, .int v_34762, .int v_34764, .int v_34766, .ref (ad 7 0), .ref (ad 8 0), .ref (ad 9 0), .int v_34768, .ref (ad 10 0), .ref (ad 11 0), .ref (ad 12 0), .ref (ad 13 0), .int v_34770, .ref (ad 14 0)])) := p_ad_0_0
      refine pg_get S Y ok_X12 2 (by decide) kf12_16 (v := .ref (ad 3 0)) p_ad_0_0 rfl dX12_played_23 ?_
      refine lv_sipush (v := 729) hx hb dX12_played_26 (by decide) ?_
      refine lv_iload_n hx hb dX12_played_29 rfl (lv_at hl 1 rfl) ?_
      refine lv_imul hx hb dX12_played_30 ?_
      refine lv_topi (fun x_34772 ex_34772 => ?_)
      obtain ⟨g_34773, p_ad_3_0, o_34774⟩ := I.opi (k := 3) (j := 0) (by decide) rfl
      have p_ad_3_0 : pt L_21 f_21 (ad 3 0) (.inl (G.2 0, 2916, .inl g_34773)) := p_ad_3_0
      obtain ⟨v_34775, ev_34775⟩ : ∃ z, z = g_34773 (x_34772 : Int32).toNatClampNeg := ⟨_, rfl⟩
      refine pg_iald S Y (v := v_34775) p_ad_3_0 (vp_bn (bn_eq ex_34772 (bn_mul (show bn 729 729 (729 : Int32) from bn_k (by decide)) b21_i1 (by decide))) (by decide)) ev_34775.symm dX12_played_31 ?_
      have tv_34775 : v_34775 = g0 (x_34772 : Int32).toNatClampNeg := by rw [ev_34775, show g_34773 = g0 from o_34774]
      have nv_34775 : v_34775 = g0 (729 * i1.toNatClampNeg) := by rw [tv_34775, show (x_34772 : Int32).toNatClampNeg = 729 * i1.toNatClampNeg from (by have z9 := (la_mul ex_34772 (show (729 : Int32).toInt = 729 from rfl) (rfl : i1.toInt = i1.toInt) (show bn 729 729 (729 : Int32) from bn_k (by decide)) b21_i1 (by decide)); have z0 := b21_i1.1; simp only [tnc]; omega)]
      have bv_34775 : bn 0 24 v_34775 := by rw [nv_34775]; exact (hX _ (tn_bn b21_i1 (by decide))).1
      refine lv_icmp_ge (tgt := 61) hx hb dX12_played_32 (by decide) (fun c_34776 => ?_) (fun c_34776 => ?_)
      · refine lv_iconst (v := (-1)) hx hb dX12_played_61 (by decide) ?_
        exact prI (post := fun r L1 f1 => SH (spM (IA 0 0 14 9999 w) pi (EQ g0) LDa) nnM G ad L1 f1) S Y rfl (by decide) (by decide) hA1 I dX12_played_62
      · have B_34777 : bn 1 24 v_34775 := bn_w (bn_gtl c_34776 bv_34775 b_y21_2) (by decide)
        have B_34778 : bn 0 23 y21_2 := bn_w (bn_gtr c_34776 bv_34775 b_y21_2) (by decide)
        refine lv_aload_n hx hb dX12_played_35 rfl (lv_at hl 0 rfl) ?_
        refine lv_sipush (v := 729) hx hb dX12_played_36 (by decide) ?_
        refine lv_iload_n hx hb dX12_played_39 rfl (lv_at hl 1 rfl) ?_
        refine lv_imul hx hb dX12_played_40 ?_
        refine lv_topi (fun x_34779 ex_34779 => ?_)
        refine lv_iconst (v := 1) hx hb dX12_played_41 (by decide) ?_
        refine lv_iadd hx hb dX12_played_42 ?_
        refine lv_topi (fun x_34780 ex_34780 => ?_)
        refine lv_iconst (v := 5) hx hb dX12_played_43 (by decide) ?_
        refine lv_iload_n hx hb dX12_played_44 rfl (lv_at hl 2 rfl) ?_
        refine lv_imul hx hb dX12_played_45 ?_
        refine lv_topi (fun x_34781 ex_34781 => ?_)
        refine lv_iadd hx hb dX12_played_46 ?_
        refine lv_topi (fun x_34782 ex_34782 => ?_)
        have B_34783 : bn 1 2303 x_34782 := bn_w (bn_eq ex_34782 (bn_add (bn_eq ex_34780 (bn_add (bn_eq ex_34779 (bn_mul (show bn 729 729 (729 : Int32) from bn_k (by decide)) b21_i1 (by decide))) (show bn 1 1 (1 : Int32) from bn_k (by decide)) (by decide))) (bn_eq ex_34781 (bn_mul (show bn 5 5 (5 : Int32) from bn_k (by decide)) B_34778 (by decide))) (by decide))) (by decide)
        refine cVi (As := [.int x_34782]) (rest := []) S Y (x_X12_isPlayed (l := l) I hB hX (bn_w B_34783 (by decide))) cw_X12_isPlayed km12_381 p_ad_0_0 ok_X12.1 rfl rfl ⟨Nat.le_of_ble_eq_true rfl, Nat.le_of_ble_eq_true rfl⟩ hl.1 rfl (Nat.le_of_ble_eq_true rfl) ⟨Nat.le_of_ble_eq_true rfl, Nat.le_of_ble_eq_true rfl⟩ dX12_played_47 (fun r_34786 L_34784 f_34785 H locs hr_34786 Y => ?_)
        obtain ⟨er_34786, I⟩ := hr_34786
        refine lv_if_ne (tgt := 55) hx hb dX12_played_50 (by decide) (fun c_34787 => ?_) (fun c_34787 => ?_)
        · have B_34788 : bn 1 1 r_34786 := bn_w (bn_nel c_34787 er_34786 (show bn 0 0 (0 : Int32) from bn_k (by decide))) (by decide)
          obtain ⟨x_34790, ex_34790⟩ : ∃ z : Int32, z = y21_2 + 1 := ⟨_, rfl⟩
          refine lv_iinc (v := x_34790) (lv' := [(2, .int x_34790), (0, .ref (ad 0 0)), (1, .int i1)]) hx hb dX12_played_55 hl (k := 2) rfl (by rw [ex_34790]; rfl) (by decide) rfl (fun ls hl => ?_)
          refine lv_goto (tgt := 21) hx hb dX12_played_58 (by decide) ?_
          exact ih21 _ (by rw [← hm21]; exact ms_up (m := 1) ex_34790 (show bn 1 1 (1 : Int32) from bn_k (by decide)) B_34778 (bn_w (bn_eq ex_34790 (bn_add B_34778 (show bn 1 1 (1 : Int32) from bn_k (by decide)) (by decide))) (by decide) : bn 0 24 x_34790) (by decide)) x_34790 _ _  _ _ _ I (bn_w (bn_eq ex_34790 (bn_add B_34778 (show bn 1 1 (1 : Int32) from bn_k (by decide)) (by decide))) (by decide)) (bn_w b21_i1 (by decide)) rfl Y (lv_sub hl [1, 2, 0] rfl)
        · have B_34789 : bn 0 0 r_34786 := bn_w (bn_eq c_34787 (show bn 0 0 (0 : Int32) from bn_k (by decide))) (by decide)
          refine lv_iload_n hx hb dX12_played_53 rfl (lv_at hl 2 rfl) ?_
          exact prI (post := fun r L1 f1 => SH (spM (IA 0 0 14 9999 w) pi (EQ g0) LDa) nnM G ad L1 f1) S Y rfl (by decide) (by decide) hA1 I dX12_played_54
  refine lv_iload_n hx hb dX12_played_0 rfl (lv_at hl 1 rfl) ?_
  refine lv_iconst (v := 0) hx hb dX12_played_1 (by decide) ?_
  refine lv_aload_n hx hb dX12_played_2 rfl (lv_at hl 0 rfl) ?_
  obtain ⟨v_34791, v_34793, v_34795, v_34797, v_34799, v_34801, v_34803, v_34805, v_34806, v_34808, v_34810, v_34812, v_34814, v_34816, v_34818, v_34820, v_34822, v_34824, p_ad_0_0, b_34792, b_34794, b_34796, b_34798, b_34800, b_34802, b_34804, b_34807, b_34809, b_34811, b_34813, b_34815, b_34817, b_34819, b_34821, b_34823, b_34825⟩ := opnM_0 (j := 0) I (by decide)
  have p_ad_0_0 : pt L f (ad 0 0) (.inr (12, [.ref (ad 1 0), .ref (ad 2 0), .ref (ad 3 0), .ref (ad 4 0), .int v_34791, .int v_34793, .int v_34795, .int v_34797, .int v_34799, .int v_34801, .int v_34803, .long v_34805, .int v_34806, .int v_34808, .int v_34810, .ref (ad 5 0), .ref (ad 6 0), .int v_34812, .int v_34814, .int v_34816, .int v_34818, .int v_34820, .ref (ad 7 0), .ref (ad 8 0), .ref (ad 9 0), .int v_34822, .ref (ad 10 0), .ref (ad 11 0), .ref (ad 12 0), .ref (ad 13 0), .int v_34824, .ref (ad 14 0)])) := p_ad_0_0
  refine pg_get S Y ok_X12 0 (by decide) kf12_7 (v := .ref (ad 1 0)) p_ad_0_0 rfl dX12_played_3 ?_
  refine lv_iconst (v := 1) hx hb dX12_played_6 (by decide) ?_
  obtain ⟨g_34826, p_ad_1_0, o_34827⟩ := I.opi (k := 1) (j := 0) (by decide) rfl
  have p_ad_1_0 : pt L f (ad 1 0) (.inl (G.2 0, 10568, .inl g_34826)) := p_ad_1_0
  obtain ⟨v_34828, ev_34828⟩ : ∃ z, z = g_34826 (1 : Int32).toNatClampNeg := ⟨_, rfl⟩
  refine pg_iald S Y (v := v_34828) p_ad_1_0 (by unfold vp_in; decide) ev_34828.symm dX12_played_7 ?_
  have bv_34828 : bn 0 4 v_34828 := bn_eq ev_34828 (IA_1 o_34827)
  refine lv_iconst (v := 1) hx hb dX12_played_8 (by decide) ?_
  refine lv_isub hx hb dX12_played_9 ?_
  refine lv_topi (fun x_34829 ex_34829 => ?_)
  refine cSp (As := [.int i1, .int 0, .int x_34829]) (rest := []) S Y (x_X12_isIn (l := l) ) cw_X12_isIn km12_69 rfl ⟨Nat.le_of_ble_eq_true rfl, Nat.le_of_ble_eq_true rfl⟩ hl.1 rfl (Nat.le_of_ble_eq_true rfl) ⟨Nat.le_of_ble_eq_true rfl, Nat.le_of_ble_eq_true rfl⟩ dX12_played_10 (fun r_34830 H locs er_34830 Y => ?_)
  refine lv_if_ne (tgt := 19) hx hb dX12_played_13 (by decide) (fun c_34831 => ?_) (fun c_34831 => ?_)
  · have B_34832 : bn 0 3 i1 := bn_w (bn_i (bn_any i1) (bn_btw (er_34830.2 c_34831).1 (er_34830.2 c_34831).2 (show bn 0 0 (0 : Int32) from bn_k (by decide)) (bn_eq ex_34829 (bn_sub bv_34828 (show bn 1 1 (1 : Int32) from bn_k (by decide)) (by decide))))) (by decide)
    have B_34833 : bn 1 1 r_34830 := bn_w (bn_nel c_34831 er_34830.1 (show bn 0 0 (0 : Int32) from bn_k (by decide))) (by decide)
    refine lv_iconst (v := 0) hx hb dX12_played_19 (by decide) ?_
    refine lv_istore_n (lv' := [(2, .int 0), (0, .ref (ad 0 0)), (1, .int i1)]) hx hb dX12_played_20 rfl hl (by decide) rfl (fun ls hl => ?_)
    exact J_21 _ 0 _ _  _ _ _ I (bn_w (show bn 0 0 (0 : Int32) from bn_k (by decide)) (by decide)) (bn_w B_34832 (by decide)) rfl Y (lv_sub hl [1, 2, 0] rfl)
  · have B_34834 : bn 0 0 r_34830 := bn_w (bn_eq c_34831 (show bn 0 0 (0 : Int32) from bn_k (by decide))) (by decide)
    refine lv_bipush (v := (-2)) hx hb dX12_played_16 (by decide) ?_
    exact prI (post := fun r L1 f1 => SH (spM (IA 0 0 14 9999 w) pi (EQ g0) LDa) nnM G ad L1 f1) S Y rfl (by decide) (by decide) hA1 I dX12_played_18
set_option maxHeartbeats 4000000 in
set_option maxRecDepth 100000 in
theorem x_X12_happens {l : Launch} {G : GG}  {L : List Nat} {f : HF} {ad : Nat → Nat → Nat} {w : WW} {pi : PIT} {g0 : Nat → Int32} {i1 : Int32} (I : SH (spM (IA 0 1 14 9999 w) pi (EQ g0) LDa) nnM G ad L f) (hB : BBp 0 1 14 9999 w) (hX : TX g0) (b_i1 : bn 0 30448 i1) : PMv l yX12_happens cX12_happens 4 9 0 0 G [.ref (ad 0 0), .int i1] L f (fun L1 f1 => SH (spM (IA 0 1 14 9999 w) pi (EQ g0) LDa) nnM G ad L1 f1) := by
  refine PMv.of (post := fun L1 f1 => SH (spM (IA 0 1 14 9999 w) pi (EQ g0) LDa) nnM G ad L1 f1) (own := RX12) (by decide) rfl (Nat.le_of_ble_eq_true rfl) (fun sz p e s m args below meth c A ls hA1 hname S Y hl => ?_)
  have hx := S.hx
  have hb := S.hb
  have hl : lv_has ls 4 [(0, .ref (ad 0 0)), (1, .int i1)] := hl
  have J_32 : ∀ (y32_2 y32_s0 : Int32) (L_32 : List Nat) (f_32 : HF) (H : Heap) (locs : List Loc) (ls : Array Slot), (SH (spM (IA 0 1 14 9999 w) pi (EQ g0) LDa) nnM G ad L_32 f_32) → (bn 0 5 y32_2) → (bn (-1) 13 y32_s0) → (DY G A s [] L_32 f_32 H locs) → (lv_has ls 4 [(0, .ref (ad 0 0)), (1, .int i1), (2, .int y32_2)]) → W p l e (rmD 9 0 0) s m args below meth c H locs (0) (0) (MQ below (va_Qv (fun (u : List Nat × HF) => (fun L1 f1 => SH (spM (IA 0 1 14 9999 w) pi (EQ g0) LDa) nnM G ad L1 f1) u.1 u.2) (fun u t => pOut G (va_A (va_pl L f) sz) u.1 u.2 t) (va_A (va_pl L f) sz)) args s 0 0 A) (F0 m 32 ls [.int y32_s0]) := by
    intro y32_2 y32_s0 L_32 f_32 H locs ls I b_y32_2 b_y32_s0 Y hl
    refine lv_istore_n (lv' := [(3, .int y32_s0), (0, .ref (ad 0 0)), (1, .int i1), (2, .int y32_2)]) hx hb dX12_happens_32 rfl hl (by decide) rfl (fun ls hl => ?_)
    refine lv_iload_n hx hb dX12_happens_33 rfl (lv_at hl 2 rfl) ?_
    refine lv_bipush (v := 7) hx hb dX12_happens_34 (by decide) ?_
    refine lv_irem hx hb dX12_happens_36 (by decide) ?_
    refine lv_topi (fun x_35177 ex_35177 => ?_)
    rcases swM_0_4 x_35177 with h_35178 | h_35178 | h_35178 | h_35178 | h_35178 | h_35178
    · refine lv_fold (z := 0) h_35178 ?_
      refine lv_tableIn (off := 35) (tgt := 72) hx hb dX12_happens_37 (by decide) (by decide) (by decide) (by decide) ?_
      refine lv_aload_n hx hb dX12_happens_72 rfl (lv_at hl 1 rfl) ?_
      refine lv_iload_n hx hb dX12_happens_73 rfl (lv_at hl 3 rfl) ?_
      refine lv_iload_n hx hb dX12_happens_74 rfl (lv_at hl 2 rfl) ?_
      refine lv_bipush (v := 7) hx hb dX12_happens_75 (by decide) ?_
      refine lv_idiv hx hb dX12_happens_77 (by decide) ?_
      refine lv_topi (fun x_35179 ex_35179 => ?_)
      refine lv_aload_n hx hb dX12_happens_78 rfl (lv_at hl 1 rfl) ?_
      obtain ⟨v_35180, v_35182, v_35184, v_35186, v_35188, v_35190, v_35192, v_35194, v_35195, v_35197, v_35199, v_35201, v_35203, v_35205, v_35207, v_35209, v_35211, v_35213, p_ad_0_0, b_35181, b_35183, b_35185, b_35187, b_35189, b_35191, b_35193, b_35196, b_35198, b_35200, b_35202, b_35204, b_35206, b_35208, b_35210, b_35212, b_35214⟩ := opnM_0 (j := 0) I (by decide)
      have p_ad_0_0 : pt L_32 f_32 (ad 0 0) (.inr (12, [.ref (ad 1 0), .ref (ad 2 0), .ref (ad 3 0), .ref (ad 4 0), .int v_35180, .int v_35182, .int v_35184, .int v_35186, .int v_35188, .int v_35190, .int v_35192, .long v_35194, .int v_35195, .int v_35197, .int v_35199, .ref (ad 5 0), .ref (ad 6 0), .int v_35201, .int v_35203, .int v_35205, .int v_35207, .int v_35209, .ref (ad 7 0), .ref (ad 8 0), .ref (ad 9 0), .int v_35211, .ref (ad 10 0), .ref (ad 11 0), .ref (ad 12 0), .ref (ad 13 0), .int v_35213, .ref (ad 14 0)])) := p_ad_0_0
      refine pg_get S Y ok_X12 0 (by decide) kf12_7 (v := .ref (ad 1 0)) p_ad_0_0 rfl dX12_happens_79 ?_
      refine lv_iconst (v := 0) hx hb dX12_happens_82 (by decide) ?_
      obtain ⟨g_35215, p_ad_1_0, o_35216⟩ := I.opi (k := 1) (j := 0) (by decide) rfl
      have p_ad_1_0 : pt L_32 f_32 (ad 1 0) (.inl (G.2 0, 10568, .inl g_35215)) := p_ad_1_0
      obtain ⟨v_35217, ev_35217⟩ : ∃ z, z = g_35215 (0 : Int32).toNatClampNeg := ⟨_, rfl⟩
      refine pg_iald S Y (v := v_35217) p_ad_1_0 (by unfold vp_in; decide) ev_35217.symm dX12_happens_83 ?_
      have bv_35217 : bn 1 6 v_35217 := bn_eq ev_35217 (IA_0 o_35216)
      refine lv_irem hx hb dX12_happens_84 (nz_bn bv_35217 (by decide)) ?_
      refine lv_topi (fun x_35218 ex_35218 => ?_)
      refine cVp (As := [.int y32_2, .int x_35218]) (rest := []) S Y (x_X12_canSwear (l := l) I hB) cw_X12_canSwear km12_330 p_ad_0_0 ok_X12.1 rfl rfl ⟨Nat.le_of_ble_eq_true rfl, Nat.le_of_ble_eq_true rfl⟩ hl.1 rfl (Nat.le_of_ble_eq_true rfl) ⟨Nat.le_of_ble_eq_true rfl, Nat.le_of_ble_eq_true rfl⟩ dX12_happens_85 (fun r_35219 H locs er_35219 Y => ?_)
      refine lv_if_eq (tgt := 207) hx hb dX12_happens_88 (by decide) (fun c_35220 => ?_) (fun c_35220 => ?_)
      · have B_35221 : bn 0 0 r_35219 := bn_w (bn_eq c_35220 (show bn 0 0 (0 : Int32) from bn_k (by decide))) (by decide)
        exact prV (post := fun L1 f1 => SH (spM (IA 0 1 14 9999 w) pi (EQ g0) LDa) nnM G ad L1 f1) S Y (by decide) (by decide) hA1 I dX12_happens_207
      · have B_35222 : bn 0 5 y32_2 := bn_w (bn_i b_y32_2 (er_35219.2.1 c_35220)) (by decide)
        have B_35223 : bn 0 5 x_35218 := bn_w (bn_i (bn_eq ex_35218 (bn_rem (bn_eq ex_35179 (bn_div b_i1 (show bn 7 7 (7 : Int32) from bn_k (by decide)) (by decide))) bv_35217 (by decide))) (er_35219.2.2.1 c_35220)) (by decide)
        have o_35224 : (IA 0 1 13 9999 w) g_35215 := (IA_oh o_35216 (er_35219.2.2.2 c_35220 g_35215 p_ad_1_0))
        have I := I.castS (sp' := spM (IA 0 1 13 9999 w) pi (EQ g0) LDa) (k := 1) (j := 0) (by decide) p_ad_1_0 (okE_a (g := g_35215) o_35224) pAC
        have B_35225 : bn 1 1 r_35219 := bn_w (bn_nel c_35220 er_35219.1 (show bn 0 0 (0 : Int32) from bn_k (by decide))) (by decide)
        refine lv_aload_n hx hb dX12_happens_91 rfl (lv_at hl 1 rfl) ?_
        refine lv_iload_n hx hb dX12_happens_92 rfl (lv_at hl 3 rfl) ?_
        refine lv_iload_n hx hb dX12_happens_93 rfl (lv_at hl 2 rfl) ?_
        refine lv_bipush (v := 7) hx hb dX12_happens_94 (by decide) ?_
        refine lv_idiv hx hb dX12_happens_96 (by decide) ?_
        refine lv_topi (fun x_35226 ex_35226 => ?_)
        refine lv_aload_n hx hb dX12_happens_97 rfl (lv_at hl 1 rfl) ?_
        refine pg_get S Y ok_X12 0 (by decide) kf12_7 (v := .ref (ad 1 0)) p_ad_0_0 rfl dX12_happens_98 ?_
        refine lv_iconst (v := 0) hx hb dX12_happens_101 (by decide) ?_
        refine pg_iald S Y (v := v_35217) p_ad_1_0 (by unfold vp_in; decide) ev_35217.symm dX12_happens_102 ?_
        refine lv_irem hx hb dX12_happens_103 (nz_bn bv_35217 (by decide)) ?_
        refine lv_topi (fun x_35227 ex_35227 => ?_)
        refine lv_iload_n hx hb dX12_happens_104 rfl (lv_at hl 2 rfl) ?_
        refine lv_iconst (v := 2) hx hb dX12_happens_105 (by decide) ?_
        refine lv_irem hx hb dX12_happens_106 (by decide) ?_
        refine lv_topi (fun x_35228 ex_35228 => ?_)
        refine lv_iconst (v := 1) hx hb dX12_happens_107 (by decide) ?_
        refine lv_iload_n hx hb dX12_happens_108 rfl (lv_at hl 2 rfl) ?_
        refine lv_bipush (v := 9) hx hb dX12_happens_109 (by decide) ?_
        refine lv_irem hx hb dX12_happens_111 (by decide) ?_
        refine lv_topi (fun x_35229 ex_35229 => ?_)
        refine lv_iadd hx hb dX12_happens_112 ?_
        refine lv_topi (fun x_35230 ex_35230 => ?_)
        refine cVi (As := [.int y32_2, .int x_35227, .int x_35228, .int x_35230]) (rest := []) S Y (x_X12_swearNow (l := l) I (BB_oh hB (by decide)) (bn_w (bn_eq ex_35227 (bn_rem (bn_eq ex_35226 (bn_div b_i1 (show bn 7 7 (7 : Int32) from bn_k (by decide)) (by decide))) bv_35217 (by decide))) (by decide))) cw_X12_swearNow km12_336 p_ad_0_0 ok_X12.1 rfl rfl ⟨Nat.le_of_ble_eq_true rfl, Nat.le_of_ble_eq_true rfl⟩ hl.1 rfl (Nat.le_of_ble_eq_true rfl) ⟨Nat.le_of_ble_eq_true rfl, Nat.le_of_ble_eq_true rfl⟩ dX12_happens_113 (fun r_35233 L_35231 f_35232 H locs I Y => ?_)
        refine lv_pop hx hb dX12_happens_116 rfl ?_
        refine lv_goto (tgt := 207) hx hb dX12_happens_117 (by decide) ?_
        exact prV (post := fun L1 f1 => SH (spM (IA 0 1 14 9999 w) pi (EQ g0) LDa) nnM G ad L1 f1) S Y (by decide) (by decide) hA1 I dX12_happens_207
    · refine lv_fold (z := 1) h_35178 ?_
      refine lv_tableIn (off := 83) (tgt := 120) hx hb dX12_happens_37 (by decide) (by decide) (by decide) (by decide) ?_
      refine lv_iload_n hx hb dX12_happens_120 rfl (lv_at hl 0 rfl) ?_
      refine lv_iconst (v := (-1)) hx hb dX12_happens_121 (by decide) ?_
      refine lv_icmp_eq (tgt := 207) hx hb dX12_happens_122 (by decide) (fun c_35234 => ?_) (fun c_35234 => ?_)
      · have B_35235 : bn (-1) (-1) y32_s0 := bn_w (bn_eq c_35234 (show bn (-1) (-1) ((-1) : Int32) from bn_k (by decide))) (by decide)
        exact prV (post := fun L1 f1 => SH (spM (IA 0 1 14 9999 w) pi (EQ g0) LDa) nnM G ad L1 f1) S Y (by decide) (by decide) hA1 I dX12_happens_207
      · have B_35236 : bn 0 13 y32_s0 := bn_w (bn_nel c_35234 b_y32_s0 (show bn (-1) (-1) ((-1) : Int32) from bn_k (by decide))) (by decide)
        refine lv_aload_n hx hb dX12_happens_125 rfl (lv_at hl 1 rfl) ?_
        refine lv_iload_n hx hb dX12_happens_126 rfl (lv_at hl 0 rfl) ?_
        refine lv_iconst (v := 4) hx hb dX12_happens_127 (by decide) ?_
        refine cVp (As := [.int y32_s0, .int 4]) (rest := []) S Y (x_X12_get (l := l) I hB (bn_w B_35236 (by decide)) (bn_w (show bn 4 4 (4 : Int32) from bn_k (by decide)) (by decide))) cw_X12_get km12_73 (I.opo (k := 0) (j := 0) (by decide) rfl).choose_spec.1 ok_X12.1 rfl rfl ⟨Nat.le_of_ble_eq_true rfl, Nat.le_of_ble_eq_true rfl⟩ hl.1 rfl (Nat.le_of_ble_eq_true rfl) ⟨Nat.le_of_ble_eq_true rfl, Nat.le_of_ble_eq_true rfl⟩ dX12_happens_128 (fun r_35237 H locs er_35237 Y => ?_)
        refine lv_if_ne (tgt := 207) hx hb dX12_happens_131 (by decide) (fun c_35238 => ?_) (fun c_35238 => ?_)
        · exact prV (post := fun L1 f1 => SH (spM (IA 0 1 14 9999 w) pi (EQ g0) LDa) nnM G ad L1 f1) S Y (by decide) (by decide) hA1 I dX12_happens_207
        · have B_35239 : bn 0 0 r_35237 := bn_w (bn_eq c_35238 (show bn 0 0 (0 : Int32) from bn_k (by decide))) (by decide)
          refine lv_aload_n hx hb dX12_happens_134 rfl (lv_at hl 1 rfl) ?_
          refine lv_iload_n hx hb dX12_happens_135 rfl (lv_at hl 0 rfl) ?_
          refine lv_iconst (v := 4) hx hb dX12_happens_136 (by decide) ?_
          refine lv_iconst (v := 1) hx hb dX12_happens_137 (by decide) ?_
          refine cVv (As := [.int y32_s0, .int 4, .int 1]) (rest := []) S Y (x_X12_put (l := l) I hB (bn_w B_35236 (by decide)) (bn_w (show bn 4 4 (4 : Int32) from bn_k (by decide)) (by decide)) (fun h => absurd h (by decide))) cw_X12_put km12_326 (I.opo (k := 0) (j := 0) (by decide) rfl).choose_spec.1 ok_X12.1 rfl rfl ⟨Nat.le_of_ble_eq_true rfl, Nat.le_of_ble_eq_true rfl⟩ hl.1 rfl (Nat.le_of_ble_eq_true rfl) ⟨Nat.le_of_ble_eq_true rfl, Nat.le_of_ble_eq_true rfl⟩ dX12_happens_138 (fun L_35240 f_35241 H locs I Y => ?_)
          refine lv_goto (tgt := 207) hx hb dX12_happens_141 (by decide) ?_
          exact prV (post := fun L1 f1 => SH (spM (IA 0 1 14 9999 w) pi (EQ g0) LDa) nnM G ad L1 f1) S Y (by decide) (by decide) hA1 I dX12_happens_207
    · refine lv_fold (z := 2) h_35178 ?_
      refine lv_tableIn (off := 107) (tgt := 144) hx hb dX12_happens_37 (by decide) (by decide) (by decide) (by decide) ?_
      refine lv_iload_n hx hb dX12_happens_144 rfl (lv_at hl 0 rfl) ?_
      refine lv_iconst (v := (-1)) hx hb dX12_happens_145 (by decide) ?_
      refine lv_icmp_eq (tgt := 207) hx hb dX12_happens_146 (by decide) (fun c_35242 => ?_) (fun c_35242 => ?_)
      · have B_35243 : bn (-1) (-1) y32_s0 := bn_w (bn_eq c_35242 (show bn (-1) (-1) ((-1) : Int32) from bn_k (by decide))) (by decide)
        exact prV (post := fun L1 f1 => SH (spM (IA 0 1 14 9999 w) pi (EQ g0) LDa) nnM G ad L1 f1) S Y (by decide) (by decide) hA1 I dX12_happens_207
      · have B_35244 : bn 0 13 y32_s0 := bn_w (bn_nel c_35242 b_y32_s0 (show bn (-1) (-1) ((-1) : Int32) from bn_k (by decide))) (by decide)
        refine lv_iload_n hx hb dX12_happens_149 rfl (lv_at hl 2 rfl) ?_
        refine lv_iconst (v := 5) hx hb dX12_happens_150 (by decide) ?_
        refine lv_irem hx hb dX12_happens_151 (by decide) ?_
        refine lv_topi (fun x_35245 ex_35245 => ?_)
        refine lv_if_ne (tgt := 207) hx hb dX12_happens_152 (by decide) (fun c_35246 => ?_) (fun c_35246 => ?_)
        · have B_35247 : bn 1 4 x_35245 := bn_w (bn_nel c_35246 (bn_eq ex_35245 (bn_rem b_i1 (show bn 5 5 (5 : Int32) from bn_k (by decide)) (by decide))) (show bn 0 0 (0 : Int32) from bn_k (by decide))) (by decide)
          exact prV (post := fun L1 f1 => SH (spM (IA 0 1 14 9999 w) pi (EQ g0) LDa) nnM G ad L1 f1) S Y (by decide) (by decide) hA1 I dX12_happens_207
        · have B_35248 : bn 0 0 x_35245 := bn_w (bn_eq c_35246 (show bn 0 0 (0 : Int32) from bn_k (by decide))) (by decide)
          refine lv_aload_n hx hb dX12_happens_155 rfl (lv_at hl 1 rfl) ?_
          refine lv_iload_n hx hb dX12_happens_156 rfl (lv_at hl 0 rfl) ?_
          refine lv_iconst (v := 4) hx hb dX12_happens_157 (by decide) ?_
          refine lv_iconst (v := 2) hx hb dX12_happens_158 (by decide) ?_
          refine cVv (As := [.int y32_s0, .int 4, .int 2]) (rest := []) S Y (x_X12_put (l := l) I hB (bn_w B_35244 (by decide)) (bn_w (show bn 4 4 (4 : Int32) from bn_k (by decide)) (by decide)) (fun h => absurd h (by decide))) cw_X12_put km12_326 (I.opo (k := 0) (j := 0) (by decide) rfl).choose_spec.1 ok_X12.1 rfl rfl ⟨Nat.le_of_ble_eq_true rfl, Nat.le_of_ble_eq_true rfl⟩ hl.1 rfl (Nat.le_of_ble_eq_true rfl) ⟨Nat.le_of_ble_eq_true rfl, Nat.le_of_ble_eq_true rfl⟩ dX12_happens_159 (fun L_35249 f_35250 H locs I Y => ?_)
          refine lv_goto (tgt := 207) hx hb dX12_happens_162 (by decide) ?_
          exact prV (post := fun L1 f1 => SH (spM (IA 0 1 14 9999 w) pi (EQ g0) LDa) nnM G ad L1 f1) S Y (by decide) (by decide) hA1 I dX12_happens_207
    · refine lv_fold (z := 3) h_35178 ?_
      refine lv_tableIn (off := 128) (tgt := 165) hx hb dX12_happens_37 (by decide) (by decide) (by decide) (by decide) ?_
      refine lv_aload_n hx hb dX12_happens_165 rfl (lv_at hl 1 rfl) ?_
      refine lv_iload_n hx hb dX12_happens_166 rfl (lv_at hl 3 rfl) ?_
      refine cVv (As := [.int y32_2]) (rest := []) S Y (x_X12_kneelNow (l := l) I hB hX) cw_X12_kneelNow km12_345 (I.opo (k := 0) (j := 0) (by decide) rfl).choose_spec.1 ok_X12.1 rfl rfl ⟨Nat.le_of_ble_eq_true rfl, Nat.le_of_ble_eq_true rfl⟩ hl.1 rfl (Nat.le_of_ble_eq_true rfl) ⟨Nat.le_of_ble_eq_true rfl, Nat.le_of_ble_eq_true rfl⟩ dX12_happens_167 (fun L_35251 f_35252 H locs I Y => ?_)
      refine lv_goto (tgt := 207) hx hb dX12_happens_170 (by decide) ?_
      exact prV (post := fun L1 f1 => SH (spM (IA 0 1 14 9999 w) pi (EQ g0) LDa) nnM G ad L1 f1) S Y (by decide) (by decide) hA1 I dX12_happens_207
    · refine lv_fold (z := 4) h_35178 ?_
      refine lv_tableIn (off := 136) (tgt := 173) hx hb dX12_happens_37 (by decide) (by decide) (by decide) (by decide) ?_
      refine lv_iload_n hx hb dX12_happens_173 rfl (lv_at hl 2 rfl) ?_
      refine lv_iconst (v := 3) hx hb dX12_happens_174 (by decide) ?_
      refine lv_irem hx hb dX12_happens_175 (by decide) ?_
      refine lv_topi (fun x_35253 ex_35253 => ?_)
      refine lv_if_ne (tgt := 207) hx hb dX12_happens_176 (by decide) (fun c_35254 => ?_) (fun c_35254 => ?_)
      · have B_35255 : bn 1 2 x_35253 := bn_w (bn_nel c_35254 (bn_eq ex_35253 (bn_rem b_i1 (show bn 3 3 (3 : Int32) from bn_k (by decide)) (by decide))) (show bn 0 0 (0 : Int32) from bn_k (by decide))) (by decide)
        exact prV (post := fun L1 f1 => SH (spM (IA 0 1 14 9999 w) pi (EQ g0) LDa) nnM G ad L1 f1) S Y (by decide) (by decide) hA1 I dX12_happens_207
      · have B_35256 : bn 0 0 x_35253 := bn_w (bn_eq c_35254 (show bn 0 0 (0 : Int32) from bn_k (by decide))) (by decide)
        refine lv_aload_n hx hb dX12_happens_179 rfl (lv_at hl 1 rfl) ?_
        refine lv_iload_n hx hb dX12_happens_180 rfl (lv_at hl 3 rfl) ?_
        refine lv_iload_n hx hb dX12_happens_181 rfl (lv_at hl 2 rfl) ?_
        refine lv_iconst (v := 2) hx hb dX12_happens_182 (by decide) ?_
        refine lv_irem hx hb dX12_happens_183 (by decide) ?_
        refine lv_topi (fun x_35257 ex_35257 => ?_)
        refine cVv (As := [.int y32_2, .int x_35257]) (rest := []) S Y (x_X12_skateNow (l := l) I hB hX) cw_X12_skateNow km12_348 (I.opo (k := 0) (j := 0) (by decide) rfl).choose_spec.1 ok_X12.1 rfl rfl ⟨Nat.le_of_ble_eq_true rfl, Nat.le_of_ble_eq_true rfl⟩ hl.1 rfl (Nat.le_of_ble_eq_true rfl) ⟨Nat.le_of_ble_eq_true rfl, Nat.le_of_ble_eq_true rfl⟩ dX12_happens_184 (fun L_35258 f_35259 H locs I Y => ?_)
        refine lv_goto (tgt := 207) hx hb dX12_happens_187 (by decide) ?_
        exact prV (post := fun L1 f1 => SH (spM (IA 0 1 14 9999 w) pi (EQ g0) LDa) nnM G ad L1 f1) S Y (by decide) (by decide) hA1 I dX12_happens_207
    · refine lv_tableOut (tgt := 190) hx hb dX12_happens_37 h_35178 (by decide) ?_
      refine lv_aload_n hx hb dX12_happens_190 rfl (lv_at hl 1 rfl) ?_
      obtain ⟨v_35260, v_35262, v_35264, v_35266, v_35268, v_35270, v_35272, v_35274, v_35275, v_35277, v_35279, v_35281, v_35283, v_35285, v_35287, v_35289, v_35291, v_35293, p_ad_0_0, b_35261, b_35263, b_35265, b_35267, b_35269, b_35271, b_35273, b_35276, b_35278, b_35280, b_35282, b_35284, b_35286, b_35288, b_35290, b_35292, b_35294⟩ := opnM_0 (j := 0) I (by decide)
      have p_ad_0_0 : pt L_32 f_32 (ad 0 0) (.inr (12, [.ref (ad 1 0), .ref (ad 2 0), .ref (ad 3 0), .ref (ad 4 0), .int v_35260, .int v_35262, .int v_35264, .int v_35266, .int v_35268, .int v_35270, .int v_35272, .long v_35274, .int v_35275, .int v_35277, .int v_35279, .ref (ad 5 0), .ref (ad 6 0), .int v_35281, .int v_35283, .int v_35285, .int v_35287, .int v_35289, .ref (ad 7 0), .ref (ad 8 0), .ref (ad 9 0), .int v_35291, .ref (ad 10 0), .ref (ad 11 0), .ref (ad 12 0), .ref (ad 13 0), .int v_35293, .ref (ad 14 0)])) := p_ad_0_0
      refine pg_get S Y ok_X12 0 (by decide) kf12_7 (v := .ref (ad 1 0)) p_ad_0_0 rfl dX12_happens_191 ?_
      refine lv_bipush (v := 10) hx hb dX12_happens_194 (by decide) ?_
      obtain ⟨g_35295, p_ad_1_0, o_35296⟩ := I.opi (k := 1) (j := 0) (by decide) rfl
      have p_ad_1_0 : pt L_32 f_32 (ad 1 0) (.inl (G.2 0, 10568, .inl g_35295)) := p_ad_1_0
      obtain ⟨v_35297, ev_35297⟩ : ∃ z, z = g_35295 (10 : Int32).toNatClampNeg := ⟨_, rfl⟩
      refine pg_iald S Y (v := v_35297) p_ad_1_0 (by unfold vp_in; decide) ev_35297.symm dX12_happens_196 ?_
      have bv_35297 : bn 0 9999 v_35297 := bn_eq ev_35297 (IA_10 o_35296)
      refine lv_sipush (v := 9999) hx hb dX12_happens_197 (by decide) ?_
      refine lv_icmp_ge (tgt := 207) hx hb dX12_happens_200 (by decide) (fun c_35298 => ?_) (fun c_35298 => ?_)
      · have B_35299 : bn 9999 9999 v_35297 := bn_w (bn_ler c_35298 (show bn 9999 9999 (9999 : Int32) from bn_k (by decide)) bv_35297) (by decide)
        exact prV (post := fun L1 f1 => SH (spM (IA 0 1 14 9999 w) pi (EQ g0) LDa) nnM G ad L1 f1) S Y (by decide) (by decide) hA1 I dX12_happens_207
      · have B_35300 : bn 0 9998 v_35297 := bn_w (bn_gtr c_35298 (show bn 9999 9999 (9999 : Int32) from bn_k (by decide)) bv_35297) (by decide)
        have o_35301 : (IA 0 1 14 9998 w) g_35295 := (IA_dh o_35296 (by rw [show g_35295 10 = v_35297 from ev_35297.symm]; exact bn_w B_35300 (by decide)))
        have I := I.castS (sp' := spM (IA 0 1 14 9998 w) pi (EQ g0) LDa) (k := 1) (j := 0) (by decide) p_ad_1_0 (okE_a (g := g_35295) o_35301) pAC
        refine lv_aload_n hx hb dX12_happens_203 rfl (lv_at hl 1 rfl) ?_
        refine cVv (As := []) (rest := []) S Y (x_X12_pass (l := l) I (BB_dh hB (by decide)) hX) cw_X12_pass km12_357 p_ad_0_0 ok_X12.1 rfl rfl ⟨Nat.le_of_ble_eq_true rfl, Nat.le_of_ble_eq_true rfl⟩ hl.1 rfl (Nat.le_of_ble_eq_true rfl) ⟨Nat.le_of_ble_eq_true rfl, Nat.le_of_ble_eq_true rfl⟩ dX12_happens_204 (fun L_35302 f_35303 H locs I Y => ?_)
        exact prV (post := fun L1 f1 => SH (spM (IA 0 1 14 9999 w) pi (EQ g0) LDa) nnM G ad L1 f1) S Y (by decide) (by decide) hA1 I dX12_happens_207
  refine lv_iload_n hx hb dX12_happens_0 rfl (lv_at hl 1 rfl) ?_
  refine lv_aload_n hx hb dX12_happens_1 rfl (lv_at hl 0 rfl) ?_
  obtain ⟨v_35304, v_35306, v_35308, v_35310, v_35312, v_35314, v_35316, v_35318, v_35319, v_35321, v_35323, v_35325, v_35327, v_35329, v_35331, v_35333, v_35335, v_35337, p_ad_0_0, b_35305, b_35307, b_35309, b_35311, b_35313, b_35315, b_35317, b_35320, b_35322, b_35324, b_35326, b_35328, b_35330, b_35332, b_35334, b_35336, b_35338⟩ := opnM_0 (j := 0) I (by decide)
  have p_ad_0_0 : pt L f (ad 0 0) (.inr (12, [.ref (ad 1 0), .ref (ad 2 0), .ref (ad 3 0), .ref (ad 4 0), .int v_35304, .int v_35306, .int v_35308, .int v_35310, .int v_35312, .int v_35314, .int v_35316, .long v_35318, .int v_35319, .int v_35321, .int v_35323, .ref (ad 5 0), .ref (ad 6 0), .int v_35325, .int v_35327, .int v_35329, .int v_35331, .int v_35333, .ref (ad 7 0), .ref (ad 8 0), .ref (ad 9 0), .int v_35335, .ref (ad 10 0), .ref (ad 11 0), .ref (ad 12 0), .ref (ad 13 0), .int v_35337, .ref (ad 14 0)])) := p_ad_0_0
  refine pg_get S Y ok_X12 0 (by decide) kf12_7 (v := .ref (ad 1 0)) p_ad_0_0 rfl dX12_happens_2 ?_
  refine lv_iconst (v := 0) hx hb dX12_happens_5 (by decide) ?_
  obtain ⟨g_35339, p_ad_1_0, o_35340⟩ := I.opi (k := 1) (j := 0) (by decide) rfl
  have p_ad_1_0 : pt L f (ad 1 0) (.inl (G.2 0, 10568, .inl g_35339)) := p_ad_1_0
  obtain ⟨v_35341, ev_35341⟩ : ∃ z, z = g_35339 (0 : Int32).toNatClampNeg := ⟨_, rfl⟩
  refine pg_iald S Y (v := v_35341) p_ad_1_0 (by unfold vp_in; decide) ev_35341.symm dX12_happens_6 ?_
  have bv_35341 : bn 1 6 v_35341 := bn_eq ev_35341 (IA_0 o_35340)
  refine lv_irem hx hb dX12_happens_7 (nz_bn bv_35341 (by decide)) ?_
  refine lv_topi (fun x_35342 ex_35342 => ?_)
  refine lv_istore_n (lv' := [(2, .int x_35342), (0, .ref (ad 0 0)), (1, .int i1)]) hx hb dX12_happens_8 rfl hl (by decide) rfl (fun ls hl => ?_)
  refine lv_aload_n hx hb dX12_happens_9 rfl (lv_at hl 1 rfl) ?_
  refine pg_get S Y ok_X12 0 (by decide) kf12_7 (v := .ref (ad 1 0)) p_ad_0_0 rfl dX12_happens_10 ?_
  refine lv_bipush (v := 13) hx hb dX12_happens_13 (by decide) ?_
  obtain ⟨v_35343, ev_35343⟩ : ∃ z, z = g_35339 (13 : Int32).toNatClampNeg := ⟨_, rfl⟩
  refine pg_iald S Y (v := v_35343) p_ad_1_0 (by unfold vp_in; decide) ev_35343.symm dX12_happens_15 ?_
  have bv_35343 : bn 0 14 v_35343 := bn_eq ev_35343 (IA_13 o_35340)
  refine lv_if_ne (tgt := 23) hx hb dX12_happens_16 (by decide) (fun c_35344 => ?_) (fun c_35344 => ?_)
  · have B_35345 : bn 1 14 v_35343 := bn_w (bn_nel c_35344 bv_35343 (show bn 0 0 (0 : Int32) from bn_k (by decide))) (by decide)
    refine lv_iload_n hx hb dX12_happens_23 rfl (lv_at hl 2 rfl) ?_
    refine lv_aload_n hx hb dX12_happens_24 rfl (lv_at hl 1 rfl) ?_
    refine pg_get S Y ok_X12 0 (by decide) kf12_7 (v := .ref (ad 1 0)) p_ad_0_0 rfl dX12_happens_25 ?_
    refine lv_bipush (v := 13) hx hb dX12_happens_28 (by decide) ?_
    refine pg_iald S Y (v := v_35343) p_ad_1_0 (by unfold vp_in; decide) ev_35343.symm dX12_happens_30 ?_
    refine lv_irem hx hb dX12_happens_31 c_35344 ?_
    refine lv_topi (fun x_35347 ex_35347 => ?_)
    exact J_32 x_35342 x_35347 _ _  _ _ _ I (bn_w (bn_eq ex_35342 (bn_rem b_i1 bv_35341 (by decide))) (by decide)) (bn_w (bn_eq ex_35347 (bn_rem b_i1 B_35345 (by decide))) (by decide)) Y (lv_sub hl [1, 2, 0] rfl)
  · have B_35346 : bn 0 0 v_35343 := bn_w (bn_eq c_35344 (show bn 0 0 (0 : Int32) from bn_k (by decide))) (by decide)
    refine lv_iconst (v := (-1)) hx hb dX12_happens_19 (by decide) ?_
    refine lv_goto (tgt := 32) hx hb dX12_happens_20 (by decide) ?_
    exact J_32 x_35342 (-1) _ _  _ _ _ I (bn_w (bn_eq ex_35342 (bn_rem b_i1 bv_35341 (by decide))) (by decide)) (bn_w (show bn (-1) (-1) ((-1) : Int32) from bn_k (by decide)) (by decide)) Y (lv_sub hl [1, 2, 0] rfl)
set_option maxHeartbeats 4000000 in
set_option maxRecDepth 100000 in
theorem x_X12_years {l : Launch} {G : GG}  {L : List Nat} {f : HF} {ad : Nat → Nat → Nat} {w : WW} {pi : PIT} {g0 : Nat → Int32} {i1 i2 : Int32} (I : SH (spM (IA 0 0 14 9999 w) pi (EQ g0) LDa) nnM G ad L f) (hB : BBp 0 0 14 9999 w) (hX : TX g0) : PMi l yX12_years cX12_years 5 .int 10 0 0 G [.ref (ad 0 0), .int i1, .int i2] L f (fun r L1 f1 => SH (spM (IA 0 0 14 9999 w) pi (EQ g0) LDa) nnM G ad L1 f1) := by
  refine PMi.of (post := fun r L1 f1 => SH (spM (IA 0 0 14 9999 w) pi (EQ g0) LDa) nnM G ad L1 f1) (own := RX12) (by decide) rfl (Nat.le_of_ble_eq_true rfl) (fun sz p e s m args below meth c A ls hA1 hname S Y hl => ?_)
  have hx := S.hx
  have hb := S.hb
  have hl : lv_has ls 5 [(0, .ref (ad 0 0)), (1, .int i1), (2, .int i2)] := hl
  have J_52 : ∀ (n52 : Nat) (y52_3 : Int32) (L_52 : List Nat) (f_52 : HF) (H : Heap) (locs : List Loc) (ls : Array Slot), (SH (spM (IA 0 1 14 9999 w) pi (EQ g0) LDa) nnM G ad L_52 f_52) → (bn 0 40 y52_3) → (bn 0 9999 i1) → (bn 1 40 i2) → (((40 : Int) - y52_3.toInt).toNat = n52) → (DY G A s [] L_52 f_52 H locs) → (lv_has ls 5 [(0, .ref (ad 0 0)), (1, .int i1), (2, .int i2), (3, .int y52_3)]) → W p l e (rmD 10 0 0) s m args below meth c H locs (0) (0) (MQ below (va_Qi (fun r (u : List Nat × HF) => (fun r L1 f1 => SH (spM (IA 0 0 14 9999 w) pi (EQ g0) LDa) nnM G ad L1 f1) r u.1 u.2) (fun u t => pOut G (va_A (va_pl L f) sz) u.1 u.2 t) (va_A (va_pl L f) sz)) args s 0 0 A) (F0 m 52 ls []) := by
    intro n52
    induction n52 using Nat.strongRecOn with
    | _ n52 ih52 =>
      intro y52_3 L_52 f_52 H locs ls I b_y52_3 b52_i1 b52_i2 hm52 Y hl
      refine lv_iload_n hx hb dX12_years_52 rfl (lv_at hl 3 rfl) ?_
      refine lv_iload_n hx hb dX12_years_53 rfl (lv_at hl 2 rfl) ?_
      refine lv_icmp_ge (tgt := 82) hx hb dX12_years_54 (by decide) (fun c_37433 => ?_) (fun c_37433 => ?_)
      · have B_37434 : bn 1 40 y52_3 := bn_w (bn_ler c_37433 b52_i2 b_y52_3) (by decide)
        refine lv_aload_n hx hb dX12_years_82 rfl (lv_at hl 0 rfl) ?_
        obtain ⟨v_37436, v_37438, v_37440, v_37442, v_37444, v_37446, v_37448, v_37450, v_37451, v_37453, v_37455, v_37457, v_37459, v_37461, v_37463, v_37465, v_37467, v_37469, p_ad_0_0, b_37437, b_37439, b_37441, b_37443, b_37445, b_37447, b_37449, b_37452, b_37454, b_37456, b_37458, b_37460, b_37462, b_37464, b_37466, b_37468, b_37470⟩ := opnM_0 (j := 0) I (by decide)
        have p_ad_0_0 : pt L_52 f_52 (ad 0 0) (.inr (12, [.ref (ad 1 0), .ref (ad 2 0), .ref (ad 3 0), .ref (ad 4 0), .int v_37436, .int v_37438, .int v_37440, .int v_37442, .int v_37444, .int v_37446, .int v_37448, .long v_37450, .int v_37451, .int v_37453, .int v_37455, .ref (ad 5 0), .ref (ad 6 0), .int v_37457, .int v_37459, .int v_37461, .int v_37463, .int v_37465, .ref (ad 7 0), .ref (ad 8 0), .ref (ad 9 0), .int v_37467, .ref (ad 10 0), .ref (ad 11 0), .ref (ad 12 0), .ref (ad 13 0), .int v_37469, .ref (ad 14 0)])) := p_ad_0_0
        refine pg_get S Y ok_X12 0 (by decide) kf12_7 (v := .ref (ad 1 0)) p_ad_0_0 rfl dX12_years_83 ?_
        refine lv_bipush (v := 10) hx hb dX12_years_86 (by decide) ?_
        obtain ⟨g_37471, p_ad_1_0, o_37472⟩ := I.opi (k := 1) (j := 0) (by decide) rfl
        have p_ad_1_0 : pt L_52 f_52 (ad 1 0) (.inl (G.2 0, 10568, .inl g_37471)) := p_ad_1_0
        obtain ⟨v_37473, ev_37473⟩ : ∃ z, z = g_37471 (10 : Int32).toNatClampNeg := ⟨_, rfl⟩
        refine pg_iald S Y (v := v_37473) p_ad_1_0 (by unfold vp_in; decide) ev_37473.symm dX12_years_88 ?_
        have bv_37473 : bn 0 9999 v_37473 := bn_eq ev_37473 (IA_10 o_37472)
        exact prI (post := fun r L1 f1 => SH (spM (IA 0 0 14 9999 w) pi (EQ g0) LDa) nnM G ad L1 f1) S Y rfl (by decide) (by decide) hA1 (SHpA I (fun g h => IA_pl h (bn_w (IA_0 h) (by decide)))) dX12_years_89
      · have B_37435 : bn 0 39 y52_3 := bn_w (bn_gtr c_37433 b52_i2 b_y52_3) (by decide)
        refine lv_aload_n hx hb dX12_years_57 rfl (lv_at hl 0 rfl) ?_
        obtain ⟨v_37474, v_37476, v_37478, v_37480, v_37482, v_37484, v_37486, v_37488, v_37489, v_37491, v_37493, v_37495, v_37497, v_37499, v_37501, v_37503, v_37505, v_37507, p_ad_0_0, b_37475, b_37477, b_37479, b_37481, b_37483, b_37485, b_37487, b_37490, b_37492, b_37494, b_37496, b_37498, b_37500, b_37502, b_37504, b_37506, b_37508⟩ := opnM_0 (j := 0) I (by decide)
        have p_ad_0_0 : pt L_52 f_52 (ad 0 0) (.inr (12, [.ref (ad 1 0), .ref (ad 2 0), .ref (ad 3 0), .ref (ad 4 0), .int v_37474, .int v_37476, .int v_37478, .int v_37480, .int v_37482, .int v_37484, .int v_37486, .long v_37488, .int v_37489, .int v_37491, .int v_37493, .ref (ad 5 0), .ref (ad 6 0), .int v_37495, .int v_37497, .int v_37499, .int v_37501, .int v_37503, .ref (ad 7 0), .ref (ad 8 0), .ref (ad 9 0), .int v_37505, .ref (ad 10 0), .ref (ad 11 0), .ref (ad 12 0), .ref (ad 13 0), .int v_37507, .ref (ad 14 0)])) := p_ad_0_0
        refine pg_get S Y ok_X12 0 (by decide) kf12_7 (v := .ref (ad 1 0)) p_ad_0_0 rfl dX12_years_58 ?_
        refine lv_bipush (v := 12) hx hb dX12_years_61 (by decide) ?_
        obtain ⟨g_37509, p_ad_1_0, o_37510⟩ := I.opi (k := 1) (j := 0) (by decide) rfl
        have p_ad_1_0 : pt L_52 f_52 (ad 1 0) (.inl (G.2 0, 10568, .inl g_37509)) := p_ad_1_0
        obtain ⟨v_37511, ev_37511⟩ : ∃ z, z = g_37509 (12 : Int32).toNatClampNeg := ⟨_, rfl⟩
        refine pg_iald S Y (v := v_37511) p_ad_1_0 (by unfold vp_in; decide) ev_37511.symm dX12_years_63 ?_
        have bv_37511 : bn 0 30448 v_37511 := bn_eq ev_37511 (IA_12 o_37510)
        refine lv_istore (lv' := [(4, .int v_37511), (0, .ref (ad 0 0)), (1, .int i1), (2, .int i2), (3, .int y52_3)]) hx hb dX12_years_64 hl (by decide) rfl (fun ls hl => ?_)
        refine lv_aload_n hx hb dX12_years_66 rfl (lv_at hl 1 rfl) ?_
        refine cVv (As := []) (rest := []) S Y (x_X12_anew (l := l) I (BB_x hB (by first | decide | (have h9 := hB; unfold BBp at h9; omega)) (by first | decide | (have h9 := hB; unfold BBp at h9; omega)) (by first | decide | (have h9 := hB; unfold BBp at h9; omega)) (by first | decide | (have h9 := hB; unfold BBp at h9; omega)))) cw_X12_anew km12_320 p_ad_0_0 ok_X12.1 rfl rfl ⟨Nat.le_of_ble_eq_true rfl, Nat.le_of_ble_eq_true rfl⟩ hl.1 rfl (Nat.le_of_ble_eq_true rfl) ⟨Nat.le_of_ble_eq_true rfl, Nat.le_of_ble_eq_true rfl⟩ dX12_years_67 (fun L_37512 f_37513 H locs I Y => ?_)
        refine lv_aload_n hx hb dX12_years_70 rfl (lv_at hl 1 rfl) ?_
        refine lv_iload hx hb dX12_years_71 (lv_at hl 0 rfl) ?_
        refine cVv (As := [.int v_37511]) (rest := []) S Y (x_X12_happens (l := l) I (BB_x hB (by first | decide | (have h9 := hB; unfold BBp at h9; omega)) (by first | decide | (have h9 := hB; unfold BBp at h9; omega)) (by first | decide | (have h9 := hB; unfold BBp at h9; omega)) (by first | decide | (have h9 := hB; unfold BBp at h9; omega))) hX (bn_w bv_37511 (by decide))) cw_X12_happens km12_384 (I.opo (k := 0) (j := 0) (by decide) rfl).choose_spec.1 ok_X12.1 rfl rfl ⟨Nat.le_of_ble_eq_true rfl, Nat.le_of_ble_eq_true rfl⟩ hl.1 rfl (Nat.le_of_ble_eq_true rfl) ⟨Nat.le_of_ble_eq_true rfl, Nat.le_of_ble_eq_true rfl⟩ dX12_years_73 (fun L_37514 f_37515 H locs I Y => ?_)
        obtain ⟨x_37516, ex_37516⟩ : ∃ z : Int32, z = y52_3 + 1 := ⟨_, rfl⟩
        refine lv_iinc (v := x_37516) (lv' := [(3, .int x_37516), (4, .int v_37511), (0, .ref (ad 0 0)), (1, .int i1), (2, .int i2)]) hx hb dX12_years_76 hl (k := 4) rfl (by rw [ex_37516]; rfl) (by decide) rfl (fun ls hl => ?_)
        refine lv_goto (tgt := 52) hx hb dX12_years_79 (by decide) ?_
        exact ih52 _ (by rw [← hm52]; exact ms_up (m := 1) ex_37516 (show bn 1 1 (1 : Int32) from bn_k (by decide)) B_37435 (bn_w (bn_eq ex_37516 (bn_add B_37435 (show bn 1 1 (1 : Int32) from bn_k (by decide)) (by decide))) (by decide) : bn 0 40 x_37516) (by decide)) x_37516 _ _  _ _ _ I (bn_w (bn_eq ex_37516 (bn_add B_37435 (show bn 1 1 (1 : Int32) from bn_k (by decide)) (by decide))) (by decide)) (bn_w b52_i1 (by decide)) (bn_w b52_i2 (by decide)) rfl Y (lv_sub hl [2, 3, 4, 0] rfl)
  refine lv_iload_n hx hb dX12_years_0 rfl (lv_at hl 1 rfl) ?_
  refine lv_iconst (v := 0) hx hb dX12_years_1 (by decide) ?_
  refine lv_sipush (v := 9999) hx hb dX12_years_2 (by decide) ?_
  refine cSp (As := [.int i1, .int 0, .int 9999]) (rest := []) S Y (x_X12_isIn (l := l) ) cw_X12_isIn km12_69 rfl ⟨Nat.le_of_ble_eq_true rfl, Nat.le_of_ble_eq_true rfl⟩ hl.1 rfl (Nat.le_of_ble_eq_true rfl) ⟨Nat.le_of_ble_eq_true rfl, Nat.le_of_ble_eq_true rfl⟩ dX12_years_5 (fun r_37517 H locs er_37517 Y => ?_)
  refine lv_if_eq (tgt := 30) hx hb dX12_years_8 (by decide) (fun c_37518 => ?_) (fun c_37518 => ?_)
  · have B_37519 : bn 0 0 r_37517 := bn_w (bn_eq c_37518 (show bn 0 0 (0 : Int32) from bn_k (by decide))) (by decide)
    refine lv_iconst (v := (-1)) hx hb dX12_years_30 (by decide) ?_
    exact prI (post := fun r L1 f1 => SH (spM (IA 0 0 14 9999 w) pi (EQ g0) LDa) nnM G ad L1 f1) S Y rfl (by decide) (by decide) hA1 I dX12_years_31
  · have B_37520 : bn 0 9999 i1 := bn_w (bn_i (bn_any i1) (bn_btw (er_37517.2 c_37518).1 (er_37517.2 c_37518).2 (show bn 0 0 (0 : Int32) from bn_k (by decide)) (show bn 9999 9999 (9999 : Int32) from bn_k (by decide)))) (by decide)
    have B_37521 : bn 1 1 r_37517 := bn_w (bn_nel c_37518 er_37517.1 (show bn 0 0 (0 : Int32) from bn_k (by decide))) (by decide)
    refine lv_iload_n hx hb dX12_years_11 rfl (lv_at hl 2 rfl) ?_
    refine lv_iconst (v := 1) hx hb dX12_years_12 (by decide) ?_
    refine lv_bipush (v := 40) hx hb dX12_years_13 (by decide) ?_
    refine cSp (As := [.int i2, .int 1, .int 40]) (rest := []) S Y (x_X12_isIn (l := l) ) cw_X12_isIn km12_69 rfl ⟨Nat.le_of_ble_eq_true rfl, Nat.le_of_ble_eq_true rfl⟩ hl.1 rfl (Nat.le_of_ble_eq_true rfl) ⟨Nat.le_of_ble_eq_true rfl, Nat.le_of_ble_eq_true rfl⟩ dX12_years_15 (fun r_37522 H locs er_37522 Y => ?_)
    refine lv_if_eq (tgt := 30) hx hb dX12_years_18 (by decide) (fun c_37523 => ?_) (fun c_37523 => ?_)
    · have B_37524 : bn 0 0 r_37522 := bn_w (bn_eq c_37523 (show bn 0 0 (0 : Int32) from bn_k (by decide))) (by decide)
      refine lv_iconst (v := (-1)) hx hb dX12_years_30 (by decide) ?_
      exact prI (post := fun r L1 f1 => SH (spM (IA 0 0 14 9999 w) pi (EQ g0) LDa) nnM G ad L1 f1) S Y rfl (by decide) (by decide) hA1 I dX12_years_31
    · have B_37525 : bn 1 40 i2 := bn_w (bn_i (bn_any i2) (bn_btw (er_37522.2 c_37523).1 (er_37522.2 c_37523).2 (show bn 1 1 (1 : Int32) from bn_k (by decide)) (show bn 40 40 (40 : Int32) from bn_k (by decide)))) (by decide)
      have B_37526 : bn 1 1 r_37522 := bn_w (bn_nel c_37523 er_37522.1 (show bn 0 0 (0 : Int32) from bn_k (by decide))) (by decide)
      refine lv_aload_n hx hb dX12_years_21 rfl (lv_at hl 0 rfl) ?_
      obtain ⟨v_37527, v_37529, v_37531, v_37533, v_37535, v_37537, v_37539, v_37541, v_37542, v_37544, v_37546, v_37548, v_37550, v_37552, v_37554, v_37556, v_37558, v_37560, p_ad_0_0, b_37528, b_37530, b_37532, b_37534, b_37536, b_37538, b_37540, b_37543, b_37545, b_37547, b_37549, b_37551, b_37553, b_37555, b_37557, b_37559, b_37561⟩ := opnM_0 (j := 0) I (by decide)
      have p_ad_0_0 : pt L f (ad 0 0) (.inr (12, [.ref (ad 1 0), .ref (ad 2 0), .ref (ad 3 0), .ref (ad 4 0), .int v_37527, .int v_37529, .int v_37531, .int v_37533, .int v_37535, .int v_37537, .int v_37539, .long v_37541, .int v_37542, .int v_37544, .int v_37546, .ref (ad 5 0), .ref (ad 6 0), .int v_37548, .int v_37550, .int v_37552, .int v_37554, .int v_37556, .ref (ad 7 0), .ref (ad 8 0), .ref (ad 9 0), .int v_37558, .ref (ad 10 0), .ref (ad 11 0), .ref (ad 12 0), .ref (ad 13 0), .int v_37560, .ref (ad 14 0)])) := p_ad_0_0
      refine pg_get S Y ok_X12 0 (by decide) kf12_7 (v := .ref (ad 1 0)) p_ad_0_0 rfl dX12_years_22 ?_
      refine lv_iconst (v := 0) hx hb dX12_years_25 (by decide) ?_
      obtain ⟨g_37562, p_ad_1_0, o_37563⟩ := I.opi (k := 1) (j := 0) (by decide) rfl
      have p_ad_1_0 : pt L f (ad 1 0) (.inl (G.2 0, 10568, .inl g_37562)) := p_ad_1_0
      obtain ⟨v_37564, ev_37564⟩ : ∃ z, z = g_37562 (0 : Int32).toNatClampNeg := ⟨_, rfl⟩
      refine pg_iald S Y (v := v_37564) p_ad_1_0 (by unfold vp_in; decide) ev_37564.symm dX12_years_26 ?_
      have bv_37564 : bn 0 6 v_37564 := bn_eq ev_37564 (IA_0 o_37563)
      refine lv_if_ne (tgt := 32) hx hb dX12_years_27 (by decide) (fun c_37565 => ?_) (fun c_37565 => ?_)
      · have B_37566 : bn 1 6 v_37564 := bn_w (bn_nel c_37565 bv_37564 (show bn 0 0 (0 : Int32) from bn_k (by decide))) (by decide)
        have o_37568 : (IA 0 1 14 9999 w) g_37562 := (IA_pl o_37563 (by rw [show g_37562 0 = v_37564 from ev_37564.symm]; exact bn_w B_37566 (by decide)))
        have I := I.castS (sp' := spM (IA 0 1 14 9999 w) pi (EQ g0) LDa) (k := 1) (j := 0) (by decide) p_ad_1_0 (okE_a (g := g_37562) o_37568) pAC
        refine lv_aload_n hx hb dX12_years_32 rfl (lv_at hl 0 rfl) ?_
        refine cVv (As := []) (rest := []) S Y (x_X12_keep (l := l) I (BB_pl hB (by decide))) cw_X12_keep km12_333 p_ad_0_0 ok_X12.1 rfl rfl ⟨Nat.le_of_ble_eq_true rfl, Nat.le_of_ble_eq_true rfl⟩ hl.1 rfl (Nat.le_of_ble_eq_true rfl) ⟨Nat.le_of_ble_eq_true rfl, Nat.le_of_ble_eq_true rfl⟩ dX12_years_33 (fun L_37569 f_37570 H locs I Y => ?_)
        refine lv_aload_n hx hb dX12_years_36 rfl (lv_at hl 0 rfl) ?_
        obtain ⟨v_37571, v_37573, v_37575, v_37577, v_37579, v_37581, v_37583, v_37585, v_37586, v_37588, v_37590, v_37592, v_37594, v_37596, v_37598, v_37600, v_37602, v_37604, p_ad_0_0, b_37572, b_37574, b_37576, b_37578, b_37580, b_37582, b_37584, b_37587, b_37589, b_37591, b_37593, b_37595, b_37597, b_37599, b_37601, b_37603, b_37605⟩ := opnM_0 (j := 0) I (by decide)
        have p_ad_0_0 : pt L_37569 f_37570 (ad 0 0) (.inr (12, [.ref (ad 1 0), .ref (ad 2 0), .ref (ad 3 0), .ref (ad 4 0), .int v_37571, .int v_37573, .int v_37575, .int v_37577, .int v_37579, .int v_37581, .int v_37583, .long v_37585, .int v_37586, .int v_37588, .int v_37590, .ref (ad 5 0), .ref (ad 6 0), .int v_37592, .int v_37594, .int v_37596, .int v_37598, .int v_37600, .ref (ad 7 0), .ref (ad 8 0), .ref (ad 9 0), .int v_37602, .ref (ad 10 0), .ref (ad 11 0), .ref (ad 12 0), .ref (ad 13 0), .int v_37604, .ref (ad 14 0)])) := p_ad_0_0
        refine pg_get S Y ok_X12 0 (by decide) kf12_7 (v := .ref (ad 1 0)) p_ad_0_0 rfl dX12_years_37 ?_
        refine lv_bipush (v := 12) hx hb dX12_years_40 (by decide) ?_
        refine lv_iload_n hx hb dX12_years_42 rfl (lv_at hl 1 rfl) ?_
        refine lv_iconst (v := 2) hx hb dX12_years_43 (by decide) ?_
        refine lv_imul hx hb dX12_years_44 ?_
        refine lv_topi (fun x_37606 ex_37606 => ?_)
        refine lv_sipush (v := 137) hx hb dX12_years_45 (by decide) ?_
        refine lv_iadd hx hb dX12_years_48 ?_
        refine lv_topi (fun x_37607 ex_37607 => ?_)
        obtain ⟨g_37608, p_ad_1_0, o_37609⟩ := I.opi (k := 1) (j := 0) (by decide) rfl
        have p_ad_1_0 : pt L_37569 f_37570 (ad 1 0) (.inl (G.2 0, 10568, .inl g_37608)) := p_ad_1_0
        refine pg_iast S Y p_ad_1_0 (by unfold vp_in; decide) dX12_years_49 (fun f_37611 H locs ef_37611 Y => ?_)
        obtain ⟨g_37610, eg_37610⟩ : ∃ z, z = upd (g_37608) (12 : Int32).toNatClampNeg x_37607 := ⟨_, rfl⟩
        rw [← eg_37610] at ef_37611
        have p_ad_0_0 := p_ad_0_0.up ef_37611 (I.ne (k := 0) (j := 0) (k' := 1) (j' := 0) (by decide) (by decide) (Or.inl (by decide)))
        have p_ad_1_0 := p_ad_1_0.me ef_37611
        have o_37612 : (IA 0 1 14 9999 w) g_37610 := (by rw [eg_37610]; exact (IA_dr o_37609 (bn_w (bn_eq ex_37607 (bn_add (bn_eq ex_37606 (bn_mul B_37520 (show bn 2 2 (2 : Int32) from bn_k (by decide)) (by decide))) (show bn 137 137 (137 : Int32) from bn_k (by decide)) (by decide))) (by decide))))
        have I := I.up (k := 1) (j := 0) (by decide) ef_37611 (okE_a (g := g_37610) o_37612)
        have q_37613 : g_37610 (12 : Int32).toNatClampNeg = x_37607 := by rw [eg_37610]; exact pk_us
        refine lv_iconst (v := 0) hx hb dX12_years_50 (by decide) ?_
        refine lv_istore_n (lv' := [(3, .int 0), (0, .ref (ad 0 0)), (1, .int i1), (2, .int i2)]) hx hb dX12_years_51 rfl hl (by decide) rfl (fun ls hl => ?_)
        exact J_52 _ 0 _ _  _ _ _ I (bn_w (show bn 0 0 (0 : Int32) from bn_k (by decide)) (by decide)) (bn_w B_37520 (by decide)) (bn_w B_37525 (by decide)) rfl Y (lv_sub hl [1, 2, 3, 0] rfl)
      · have B_37567 : bn 0 0 v_37564 := bn_w (bn_eq c_37565 (show bn 0 0 (0 : Int32) from bn_k (by decide))) (by decide)
        refine lv_iconst (v := (-1)) hx hb dX12_years_30 (by decide) ?_
        exact prI (post := fun r L1 f1 => SH (spM (IA 0 0 14 9999 w) pi (EQ g0) LDa) nnM G ad L1 f1) S Y rfl (by decide) (by decide) hA1 I dX12_years_31
set_option maxHeartbeats 4000000 in
set_option maxRecDepth 100000 in
theorem x_X12_of {l : Launch} {G : GG}  {L : List Nat} {f : HF} {ad : Nat → Nat → Nat} {w : WW} {pi : PIT} {g0 : Nat → Int32} {i1 i2 : Int32} (I : SH (spM (IA 0 0 14 9999 w) pi (EQ g0) LDa) nnM G ad L f) (hB : BBp 0 0 14 9999 w) (hX : TX g0) : PMi l yX12_of cX12_of 3 .int 8 0 0 G [.ref (ad 0 0), .int i1, .int i2] L f (fun r L1 f1 => SH (spM (IA 0 0 14 9999 w) pi (EQ g0) LDa) nnM G ad L1 f1) := by
  refine PMi.of (post := fun r L1 f1 => SH (spM (IA 0 0 14 9999 w) pi (EQ g0) LDa) nnM G ad L1 f1) (own := RX12) (by decide) rfl (Nat.le_of_ble_eq_true rfl) (fun sz p e s m args below meth c A ls hA1 hname S Y hl => ?_)
  have hx := S.hx
  have hb := S.hb
  have hl : lv_has ls 3 [(0, .ref (ad 0 0)), (1, .int i1), (2, .int i2)] := hl
  refine lv_aload_n hx hb dX12_of_0 rfl (lv_at hl 0 rfl) ?_
  refine lv_iload_n hx hb dX12_of_1 rfl (lv_at hl 1 rfl) ?_
  refine cVp (As := [.int i1]) (rest := []) S Y (x_X12_isOne (l := l) I hB) cw_X12_isOne km12_323 (I.opo (k := 0) (j := 0) (by decide) rfl).choose_spec.1 ok_X12.1 rfl rfl ⟨Nat.le_of_ble_eq_true rfl, Nat.le_of_ble_eq_true rfl⟩ hl.1 rfl (Nat.le_of_ble_eq_true rfl) ⟨Nat.le_of_ble_eq_true rfl, Nat.le_of_ble_eq_true rfl⟩ dX12_of_2 (fun r_37730 H locs er_37730 Y => ?_)
  refine lv_if_ne (tgt := 12) hx hb dX12_of_5 (by decide) (fun c_37731 => ?_) (fun c_37731 => ?_)
  · have B_37732 : bn 0 5 i1 := bn_w (bn_i (bn_any i1) (er_37730.2 c_37731)) (by decide)
    have B_37733 : bn 1 1 r_37730 := bn_w (bn_nel c_37731 er_37730.1 (show bn 0 0 (0 : Int32) from bn_k (by decide))) (by decide)
    refine lv_iload_n hx hb dX12_of_12 rfl (lv_at hl 2 rfl) ?_
    rcases swM_0_5 i2 with h_37735 | h_37735 | h_37735 | h_37735 | h_37735 | h_37735 | h_37735
    · refine lv_fold (z := 0) h_37735 ?_
      refine lv_tableIn (off := 39) (tgt := 52) hx hb dX12_of_13 (by decide) (by decide) (by decide) (by decide) ?_
      refine lv_aload_n hx hb dX12_of_52 rfl (lv_at hl 0 rfl) ?_
      refine lv_iload_n hx hb dX12_of_53 rfl (lv_at hl 1 rfl) ?_
      refine cVp (As := [.int i1]) (rest := []) S Y (x_X12_toughOf (l := l) I hB (bn_w B_37732 (by decide))) cw_X12_toughOf km12_295 (I.opo (k := 0) (j := 0) (by decide) rfl).choose_spec.1 ok_X12.1 rfl rfl ⟨Nat.le_of_ble_eq_true rfl, Nat.le_of_ble_eq_true rfl⟩ hl.1 rfl (Nat.le_of_ble_eq_true rfl) ⟨Nat.le_of_ble_eq_true rfl, Nat.le_of_ble_eq_true rfl⟩ dX12_of_54 (fun r_37736 H locs er_37736 Y => ?_)
      exact prI (post := fun r L1 f1 => SH (spM (IA 0 0 14 9999 w) pi (EQ g0) LDa) nnM G ad L1 f1) S Y rfl (by decide) (by decide) hA1 I dX12_of_57
    · refine lv_fold (z := 1) h_37735 ?_
      refine lv_tableIn (off := 45) (tgt := 58) hx hb dX12_of_13 (by decide) (by decide) (by decide) (by decide) ?_
      refine lv_aload_n hx hb dX12_of_58 rfl (lv_at hl 0 rfl) ?_
      obtain ⟨v_37737, v_37739, v_37741, v_37743, v_37745, v_37747, v_37749, v_37751, v_37752, v_37754, v_37756, v_37758, v_37760, v_37762, v_37764, v_37766, v_37768, v_37770, p_ad_0_0, b_37738, b_37740, b_37742, b_37744, b_37746, b_37748, b_37750, b_37753, b_37755, b_37757, b_37759, b_37761, b_37763, b_37765, b_37767, b_37769, b_37771⟩ := opnM_0 (j := 0) I (by decide)
      have p_ad_0_0 : pt L f (ad 0 0) (.inr (12, [.ref (ad 1 0), .ref (ad 2 0), .ref (ad 3 0), .ref (ad 4 0), .int v_37737, .int v_37739, .int v_37741, .int v_37743, .int v_37745, .int v_37747, .int v_37749, .long v_37751, .int v_37752, .int v_37754, .int v_37756, .ref (ad 5 0), .ref (ad 6 0), .int v_37758, .int v_37760, .int v_37762, .int v_37764, .int v_37766, .ref (ad 7 0), .ref (ad 8 0), .ref (ad 9 0), .int v_37768, .ref (ad 10 0), .ref (ad 11 0), .ref (ad 12 0), .ref (ad 13 0), .int v_37770, .ref (ad 14 0)])) := p_ad_0_0
      refine pg_get S Y ok_X12 0 (by decide) kf12_7 (v := .ref (ad 1 0)) p_ad_0_0 rfl dX12_of_59 ?_
      refine lv_bipush (v := 114) hx hb dX12_of_62 (by decide) ?_
      refine lv_iconst (v := 2) hx hb dX12_of_64 (by decide) ?_
      refine lv_iload_n hx hb dX12_of_65 rfl (lv_at hl 1 rfl) ?_
      refine lv_imul hx hb dX12_of_66 ?_
      refine lv_topi (fun x_37772 ex_37772 => ?_)
      refine lv_iadd hx hb dX12_of_67 ?_
      refine lv_topi (fun x_37773 ex_37773 => ?_)
      refine lv_iconst (v := 1) hx hb dX12_of_68 (by decide) ?_
      refine lv_iadd hx hb dX12_of_69 ?_
      refine lv_topi (fun x_37774 ex_37774 => ?_)
      have B_37775 : bn 115 125 x_37774 := bn_w (bn_eq ex_37774 (bn_add (bn_eq ex_37773 (bn_add (show bn 114 114 (114 : Int32) from bn_k (by decide)) (bn_eq ex_37772 (bn_mul (show bn 2 2 (2 : Int32) from bn_k (by decide)) B_37732 (by decide))) (by decide))) (show bn 1 1 (1 : Int32) from bn_k (by decide)) (by decide))) (by decide)
      obtain ⟨g_37776, p_ad_1_0, o_37777⟩ := I.opi (k := 1) (j := 0) (by decide) rfl
      have p_ad_1_0 : pt L f (ad 1 0) (.inl (G.2 0, 10568, .inl g_37776)) := p_ad_1_0
      obtain ⟨v_37778, ev_37778⟩ : ∃ z, z = g_37776 (x_37774 : Int32).toNatClampNeg := ⟨_, rfl⟩
      refine pg_iald S Y (v := v_37778) p_ad_1_0 (vp_bn B_37775 (by decide)) ev_37778.symm dX12_of_70 ?_
      exact prI (post := fun r L1 f1 => SH (spM (IA 0 0 14 9999 w) pi (EQ g0) LDa) nnM G ad L1 f1) S Y rfl (by decide) (by decide) hA1 I dX12_of_71
    · refine lv_fold (z := 2) h_37735 ?_
      refine lv_tableIn (off := 59) (tgt := 72) hx hb dX12_of_13 (by decide) (by decide) (by decide) (by decide) ?_
      refine lv_aload_n hx hb dX12_of_72 rfl (lv_at hl 0 rfl) ?_
      refine lv_iload_n hx hb dX12_of_73 rfl (lv_at hl 1 rfl) ?_
      refine cVp (As := [.int i1]) (rest := []) S Y (x_X12_legibleOn (l := l) I hB) cw_X12_legibleOn km12_265 (I.opo (k := 0) (j := 0) (by decide) rfl).choose_spec.1 ok_X12.1 rfl rfl ⟨Nat.le_of_ble_eq_true rfl, Nat.le_of_ble_eq_true rfl⟩ hl.1 rfl (Nat.le_of_ble_eq_true rfl) ⟨Nat.le_of_ble_eq_true rfl, Nat.le_of_ble_eq_true rfl⟩ dX12_of_74 (fun r_37779 H locs er_37779 Y => ?_)
      refine cSp (As := [.int r_37779]) (rest := []) S Y (x_X12_bits (l := l) ) cw_X12_bits km12_268 rfl ⟨Nat.le_of_ble_eq_true rfl, Nat.le_of_ble_eq_true rfl⟩ hl.1 rfl (Nat.le_of_ble_eq_true rfl) ⟨Nat.le_of_ble_eq_true rfl, Nat.le_of_ble_eq_true rfl⟩ dX12_of_77 (fun r_37780 H locs er_37780 Y => ?_)
      exact prI (post := fun r L1 f1 => SH (spM (IA 0 0 14 9999 w) pi (EQ g0) LDa) nnM G ad L1 f1) S Y rfl (by decide) (by decide) hA1 I dX12_of_80
    · refine lv_fold (z := 3) h_37735 ?_
      refine lv_tableIn (off := 68) (tgt := 81) hx hb dX12_of_13 (by decide) (by decide) (by decide) (by decide) ?_
      refine lv_aload_n hx hb dX12_of_81 rfl (lv_at hl 0 rfl) ?_
      refine lv_iload_n hx hb dX12_of_82 rfl (lv_at hl 1 rfl) ?_
      refine cVi (As := [.int i1]) (rest := []) S Y (x_X12_acheOf (l := l) I hB hX) cw_X12_acheOf km12_317 (I.opo (k := 0) (j := 0) (by decide) rfl).choose_spec.1 ok_X12.1 rfl rfl ⟨Nat.le_of_ble_eq_true rfl, Nat.le_of_ble_eq_true rfl⟩ hl.1 rfl (Nat.le_of_ble_eq_true rfl) ⟨Nat.le_of_ble_eq_true rfl, Nat.le_of_ble_eq_true rfl⟩ dX12_of_83 (fun r_37783 L_37781 f_37782 H locs I Y => ?_)
      exact prI (post := fun r L1 f1 => SH (spM (IA 0 0 14 9999 w) pi (EQ g0) LDa) nnM G ad L1 f1) S Y rfl (by decide) (by decide) hA1 I dX12_of_86
    · refine lv_fold (z := 4) h_37735 ?_
      refine lv_tableIn (off := 74) (tgt := 87) hx hb dX12_of_13 (by decide) (by decide) (by decide) (by decide) ?_
      refine lv_aload_n hx hb dX12_of_87 rfl (lv_at hl 0 rfl) ?_
      refine lv_iload_n hx hb dX12_of_88 rfl (lv_at hl 1 rfl) ?_
      refine cVi (As := [.int i1]) (rest := []) S Y (x_X12_riskOf (l := l) I hB hX (bn_w B_37732 (by decide))) cw_X12_riskOf km12_387 (I.opo (k := 0) (j := 0) (by decide) rfl).choose_spec.1 ok_X12.1 rfl rfl ⟨Nat.le_of_ble_eq_true rfl, Nat.le_of_ble_eq_true rfl⟩ hl.1 rfl (Nat.le_of_ble_eq_true rfl) ⟨Nat.le_of_ble_eq_true rfl, Nat.le_of_ble_eq_true rfl⟩ dX12_of_89 (fun r_37786 L_37784 f_37785 H locs I Y => ?_)
      exact prI (post := fun r L1 f1 => SH (spM (IA 0 0 14 9999 w) pi (EQ g0) LDa) nnM G ad L1 f1) S Y rfl (by decide) (by decide) hA1 I dX12_of_92
    · refine lv_fold (z := 5) h_37735 ?_
      refine lv_tableIn (off := 80) (tgt := 93) hx hb dX12_of_13 (by decide) (by decide) (by decide) (by decide) ?_
      refine lv_aload_n hx hb dX12_of_93 rfl (lv_at hl 0 rfl) ?_
      refine lv_iload_n hx hb dX12_of_94 rfl (lv_at hl 1 rfl) ?_
      refine cVp (As := [.int i1]) (rest := []) S Y (x_X12_netOf (l := l) I hB) cw_X12_netOf km12_390 (I.opo (k := 0) (j := 0) (by decide) rfl).choose_spec.1 ok_X12.1 rfl rfl ⟨Nat.le_of_ble_eq_true rfl, Nat.le_of_ble_eq_true rfl⟩ hl.1 rfl (Nat.le_of_ble_eq_true rfl) ⟨Nat.le_of_ble_eq_true rfl, Nat.le_of_ble_eq_true rfl⟩ dX12_of_95 (fun r_37787 H locs er_37787 Y => ?_)
      exact prI (post := fun r L1 f1 => SH (spM (IA 0 0 14 9999 w) pi (EQ g0) LDa) nnM G ad L1 f1) S Y rfl (by decide) (by decide) hA1 I dX12_of_98
    · refine lv_tableOut (tgt := 99) hx hb dX12_of_13 h_37735 (by decide) ?_
      refine lv_sipush (v := (-1000)) hx hb dX12_of_99 (by decide) ?_
      exact prI (post := fun r L1 f1 => SH (spM (IA 0 0 14 9999 w) pi (EQ g0) LDa) nnM G ad L1 f1) S Y rfl (by decide) (by decide) hA1 I dX12_of_102
  · have B_37734 : bn 0 0 r_37730 := bn_w (bn_eq c_37731 (show bn 0 0 (0 : Int32) from bn_k (by decide))) (by decide)
    refine lv_sipush (v := (-1000)) hx hb dX12_of_8 (by decide) ?_
    exact prI (post := fun r L1 f1 => SH (spM (IA 0 0 14 9999 w) pi (EQ g0) LDa) nnM G ad L1 f1) S Y rfl (by decide) (by decide) hA1 I dX12_of_11
set_option maxHeartbeats 4000000 in
set_option maxRecDepth 100000 in
theorem x_X12_ofOath {l : Launch} {G : GG}  {L : List Nat} {f : HF} {ad : Nat → Nat → Nat} {w : WW} {pi : PIT} {g0 : Nat → Int32} {i1 i2 : Int32} (I : SH (spM (IA 0 0 14 9999 w) pi (EQ g0) LDa) nnM G ad L f) (hB : BBp 0 0 14 9999 w) (hX : TX g0) : PMi l yX12_ofOath cX12_ofOath 3 .int 7 0 0 G [.ref (ad 0 0), .int i1, .int i2] L f (fun r L1 f1 => SH (spM (IA 0 0 14 9999 w) pi (EQ g0) LDa) nnM G ad L1 f1) := by
  refine PMi.of (post := fun r L1 f1 => SH (spM (IA 0 0 14 9999 w) pi (EQ g0) LDa) nnM G ad L1 f1) (own := RX12) (by decide) rfl (Nat.le_of_ble_eq_true rfl) (fun sz p e s m args below meth c A ls hA1 hname S Y hl => ?_)
  have hx := S.hx
  have hb := S.hb
  have hl : lv_has ls 3 [(0, .ref (ad 0 0)), (1, .int i1), (2, .int i2)] := hl
  refine lv_aload_n hx hb dX12_ofOath_0 rfl (lv_at hl 0 rfl) ?_
  refine lv_iload_n hx hb dX12_ofOath_1 rfl (lv_at hl 1 rfl) ?_
  refine cVp (As := [.int i1]) (rest := []) S Y (x_X12_isOath (l := l) I hB) cw_X12_isOath km12_339 (I.opo (k := 0) (j := 0) (by decide) rfl).choose_spec.1 ok_X12.1 rfl rfl ⟨Nat.le_of_ble_eq_true rfl, Nat.le_of_ble_eq_true rfl⟩ hl.1 rfl (Nat.le_of_ble_eq_true rfl) ⟨Nat.le_of_ble_eq_true rfl, Nat.le_of_ble_eq_true rfl⟩ dX12_ofOath_2 (fun r_37986 H locs er_37986 Y => ?_)
  refine lv_if_eq (tgt := 18) hx hb dX12_ofOath_5 (by decide) (fun c_37987 => ?_) (fun c_37987 => ?_)
  · have B_37988 : bn 0 0 r_37986 := bn_w (bn_eq c_37987 (show bn 0 0 (0 : Int32) from bn_k (by decide))) (by decide)
    refine lv_iconst (v := (-1)) hx hb dX12_ofOath_18 (by decide) ?_
    exact prI (post := fun r L1 f1 => SH (spM (IA 0 0 14 9999 w) pi (EQ g0) LDa) nnM G ad L1 f1) S Y rfl (by decide) (by decide) hA1 I dX12_ofOath_19
  · have B_37989 : bn 0 13 i1 := bn_w (bn_i (bn_any i1) (er_37986.2 c_37987)) (by decide)
    have B_37990 : bn 1 1 r_37986 := bn_w (bn_nel c_37987 er_37986.1 (show bn 0 0 (0 : Int32) from bn_k (by decide))) (by decide)
    refine lv_iload_n hx hb dX12_ofOath_8 rfl (lv_at hl 2 rfl) ?_
    refine lv_iconst (v := 0) hx hb dX12_ofOath_9 (by decide) ?_
    refine lv_bipush (v := 8) hx hb dX12_ofOath_10 (by decide) ?_
    refine cSp (As := [.int i2, .int 0, .int 8]) (rest := []) S Y (x_X12_isIn (l := l) ) cw_X12_isIn km12_69 rfl ⟨Nat.le_of_ble_eq_true rfl, Nat.le_of_ble_eq_true rfl⟩ hl.1 rfl (Nat.le_of_ble_eq_true rfl) ⟨Nat.le_of_ble_eq_true rfl, Nat.le_of_ble_eq_true rfl⟩ dX12_ofOath_12 (fun r_37991 H locs er_37991 Y => ?_)
    refine lv_if_ne (tgt := 20) hx hb dX12_ofOath_15 (by decide) (fun c_37992 => ?_) (fun c_37992 => ?_)
    · have B_37993 : bn 0 8 i2 := bn_w (bn_i (bn_any i2) (bn_btw (er_37991.2 c_37992).1 (er_37991.2 c_37992).2 (show bn 0 0 (0 : Int32) from bn_k (by decide)) (show bn 8 8 (8 : Int32) from bn_k (by decide)))) (by decide)
      have B_37994 : bn 1 1 r_37991 := bn_w (bn_nel c_37992 er_37991.1 (show bn 0 0 (0 : Int32) from bn_k (by decide))) (by decide)
      refine lv_iload_n hx hb dX12_ofOath_20 rfl (lv_at hl 2 rfl) ?_
      refine lv_bipush (v := 7) hx hb dX12_ofOath_21 (by decide) ?_
      refine lv_icmp_ge (tgt := 35) hx hb dX12_ofOath_23 (by decide) (fun c_37996 => ?_) (fun c_37996 => ?_)
      · have B_37997 : bn 7 8 i2 := bn_w (bn_ler c_37996 (show bn 7 7 (7 : Int32) from bn_k (by decide)) B_37993) (by decide)
        refine lv_iload_n hx hb dX12_ofOath_35 rfl (lv_at hl 2 rfl) ?_
        refine lv_bipush (v := 7) hx hb dX12_ofOath_36 (by decide) ?_
        refine lv_icmp_ne (tgt := 55) hx hb dX12_ofOath_38 (by decide) (fun c_37999 => ?_) (fun c_37999 => ?_)
        · have B_38000 : bn 8 8 i2 := bn_w (bn_nel c_37999 B_37997 (show bn 7 7 (7 : Int32) from bn_k (by decide))) (by decide)
          refine lv_aload_n hx hb dX12_ofOath_55 rfl (lv_at hl 0 rfl) ?_
          refine lv_iload_n hx hb dX12_ofOath_56 rfl (lv_at hl 1 rfl) ?_
          refine lv_aload_n hx hb dX12_ofOath_57 rfl (lv_at hl 0 rfl) ?_
          obtain ⟨v_38002, v_38004, v_38006, v_38008, v_38010, v_38012, v_38014, v_38016, v_38017, v_38019, v_38021, v_38023, v_38025, v_38027, v_38029, v_38031, v_38033, v_38035, p_ad_0_0, b_38003, b_38005, b_38007, b_38009, b_38011, b_38013, b_38015, b_38018, b_38020, b_38022, b_38024, b_38026, b_38028, b_38030, b_38032, b_38034, b_38036⟩ := opnM_0 (j := 0) I (by decide)
          have p_ad_0_0 : pt L f (ad 0 0) (.inr (12, [.ref (ad 1 0), .ref (ad 2 0), .ref (ad 3 0), .ref (ad 4 0), .int v_38002, .int v_38004, .int v_38006, .int v_38008, .int v_38010, .int v_38012, .int v_38014, .long v_38016, .int v_38017, .int v_38019, .int v_38021, .ref (ad 5 0), .ref (ad 6 0), .int v_38023, .int v_38025, .int v_38027, .int v_38029, .int v_38031, .ref (ad 7 0), .ref (ad 8 0), .ref (ad 9 0), .int v_38033, .ref (ad 10 0), .ref (ad 11 0), .ref (ad 12 0), .ref (ad 13 0), .int v_38035, .ref (ad 14 0)])) := p_ad_0_0
          refine pg_get S Y ok_X12 0 (by decide) kf12_7 (v := .ref (ad 1 0)) p_ad_0_0 rfl dX12_ofOath_58 ?_
          refine lv_bipush (v := 11) hx hb dX12_ofOath_61 (by decide) ?_
          obtain ⟨g_38037, p_ad_1_0, o_38038⟩ := I.opi (k := 1) (j := 0) (by decide) rfl
          have p_ad_1_0 : pt L f (ad 1 0) (.inl (G.2 0, 10568, .inl g_38037)) := p_ad_1_0
          obtain ⟨v_38039, ev_38039⟩ : ∃ z, z = g_38037 (11 : Int32).toNatClampNeg := ⟨_, rfl⟩
          refine pg_iald S Y (v := v_38039) p_ad_1_0 (by unfold vp_in; decide) ev_38039.symm dX12_ofOath_63 ?_
          refine cVi (As := [.int i1, .int v_38039]) (rest := []) S Y (x_X12_achesOf (l := l) I hB hX (bn_w B_37989 (by decide))) cw_X12_achesOf km12_308 p_ad_0_0 ok_X12.1 rfl rfl ⟨Nat.le_of_ble_eq_true rfl, Nat.le_of_ble_eq_true rfl⟩ hl.1 rfl (Nat.le_of_ble_eq_true rfl) ⟨Nat.le_of_ble_eq_true rfl, Nat.le_of_ble_eq_true rfl⟩ dX12_ofOath_64 (fun r_38042 L_38040 f_38041 H locs I Y => ?_)
          exact prI (post := fun r L1 f1 => SH (spM (IA 0 0 14 9999 w) pi (EQ g0) LDa) nnM G ad L1 f1) S Y rfl (by decide) (by decide) hA1 I dX12_ofOath_67
        · have B_38001 : bn 7 7 i2 := bn_w (bn_eq c_37999 (show bn 7 7 (7 : Int32) from bn_k (by decide))) (by decide)
          refine lv_aload_n hx hb dX12_ofOath_41 rfl (lv_at hl 0 rfl) ?_
          refine lv_aload_n hx hb dX12_ofOath_42 rfl (lv_at hl 0 rfl) ?_
          obtain ⟨v_38043, v_38045, v_38047, v_38049, v_38051, v_38053, v_38055, v_38057, v_38058, v_38060, v_38062, v_38064, v_38066, v_38068, v_38070, v_38072, v_38074, v_38076, p_ad_0_0, b_38044, b_38046, b_38048, b_38050, b_38052, b_38054, b_38056, b_38059, b_38061, b_38063, b_38065, b_38067, b_38069, b_38071, b_38073, b_38075, b_38077⟩ := opnM_0 (j := 0) I (by decide)
          have p_ad_0_0 : pt L f (ad 0 0) (.inr (12, [.ref (ad 1 0), .ref (ad 2 0), .ref (ad 3 0), .ref (ad 4 0), .int v_38043, .int v_38045, .int v_38047, .int v_38049, .int v_38051, .int v_38053, .int v_38055, .long v_38057, .int v_38058, .int v_38060, .int v_38062, .ref (ad 5 0), .ref (ad 6 0), .int v_38064, .int v_38066, .int v_38068, .int v_38070, .int v_38072, .ref (ad 7 0), .ref (ad 8 0), .ref (ad 9 0), .int v_38074, .ref (ad 10 0), .ref (ad 11 0), .ref (ad 12 0), .ref (ad 13 0), .int v_38076, .ref (ad 14 0)])) := p_ad_0_0
          refine pg_get S Y ok_X12 0 (by decide) kf12_7 (v := .ref (ad 1 0)) p_ad_0_0 rfl dX12_ofOath_43 ?_
          refine lv_iconst (v := 2) hx hb dX12_ofOath_46 (by decide) ?_
          obtain ⟨g_38078, p_ad_1_0, o_38079⟩ := I.opi (k := 1) (j := 0) (by decide) rfl
          have p_ad_1_0 : pt L f (ad 1 0) (.inl (G.2 0, 10568, .inl g_38078)) := p_ad_1_0
          obtain ⟨v_38080, ev_38080⟩ : ∃ z, z = g_38078 (2 : Int32).toNatClampNeg := ⟨_, rfl⟩
          refine pg_iald S Y (v := v_38080) p_ad_1_0 (by unfold vp_in; decide) ev_38080.symm dX12_ofOath_47 ?_
          have bv_38080 : bn (-1) 3 v_38080 := bn_eq ev_38080 (IA_2 o_38079)
          refine lv_iload_n hx hb dX12_ofOath_48 rfl (lv_at hl 1 rfl) ?_
          refine cVi (As := [.int v_38080, .int i1]) (rest := []) S Y (x_X12_wearsOf (l := l) I hB hX (bn_w bv_38080 (by decide)) (bn_w B_37989 (by decide))) cw_X12_wearsOf km12_342 p_ad_0_0 ok_X12.1 rfl rfl ⟨Nat.le_of_ble_eq_true rfl, Nat.le_of_ble_eq_true rfl⟩ hl.1 rfl (Nat.le_of_ble_eq_true rfl) ⟨Nat.le_of_ble_eq_true rfl, Nat.le_of_ble_eq_true rfl⟩ dX12_ofOath_49 (fun r_38083 L_38081 f_38082 H locs I Y => ?_)
          refine lv_goto (tgt := 67) hx hb dX12_ofOath_52 (by decide) ?_
          exact prI (post := fun r L1 f1 => SH (spM (IA 0 0 14 9999 w) pi (EQ g0) LDa) nnM G ad L1 f1) S Y rfl (by decide) (by decide) hA1 I dX12_ofOath_67
      · have B_37998 : bn 0 6 i2 := bn_w (bn_gtr c_37996 (show bn 7 7 (7 : Int32) from bn_k (by decide)) B_37993) (by decide)
        refine lv_aload_n hx hb dX12_ofOath_26 rfl (lv_at hl 0 rfl) ?_
        refine lv_iload_n hx hb dX12_ofOath_27 rfl (lv_at hl 1 rfl) ?_
        refine lv_iload_n hx hb dX12_ofOath_28 rfl (lv_at hl 2 rfl) ?_
        refine cVp (As := [.int i1, .int i2]) (rest := []) S Y (x_X12_get (l := l) I hB (bn_w B_37989 (by decide)) (bn_w B_37998 (by decide))) cw_X12_get km12_73 (I.opo (k := 0) (j := 0) (by decide) rfl).choose_spec.1 ok_X12.1 rfl rfl ⟨Nat.le_of_ble_eq_true rfl, Nat.le_of_ble_eq_true rfl⟩ hl.1 rfl (Nat.le_of_ble_eq_true rfl) ⟨Nat.le_of_ble_eq_true rfl, Nat.le_of_ble_eq_true rfl⟩ dX12_ofOath_29 (fun r_38084 H locs er_38084 Y => ?_)
        refine lv_goto (tgt := 67) hx hb dX12_ofOath_32 (by decide) ?_
        exact prI (post := fun r L1 f1 => SH (spM (IA 0 0 14 9999 w) pi (EQ g0) LDa) nnM G ad L1 f1) S Y rfl (by decide) (by decide) hA1 I dX12_ofOath_67
    · have B_37995 : bn 0 0 r_37991 := bn_w (bn_eq c_37992 (show bn 0 0 (0 : Int32) from bn_k (by decide))) (by decide)
      refine lv_iconst (v := (-1)) hx hb dX12_ofOath_18 (by decide) ?_
      exact prI (post := fun r L1 f1 => SH (spM (IA 0 0 14 9999 w) pi (EQ g0) LDa) nnM G ad L1 f1) S Y rfl (by decide) (by decide) hA1 I dX12_ofOath_19
set_option maxHeartbeats 4000000 in
set_option maxRecDepth 100000 in
theorem x_X12_is {l : Launch} {G : GG}  {L : List Nat} {f : HF} {ad : Nat → Nat → Nat} {w : WW} {pi : PIT} {g0 : Nat → Int32} {i1 : Int32} (I : SH (spM (IA 0 0 14 9999 w) pi (EQ g0) LDa) nnM G ad L f) (hB : BBp 0 0 14 9999 w) (hX : TX g0) : PMp l yX12_is cX12_is 2 .int 1 0 0 G [.ref (ad 0 0), .int i1] L f (fun r => True) := by
  refine PMi.of (post := fun r L1 f1 => (True) ∧ L1 = L ∧ f1 = f) (own := RX12) (by decide) rfl (Nat.le_of_ble_eq_true rfl) (fun sz p e s m args below meth c A ls hA1 hname S Y hl => ?_)
  have hx := S.hx
  have hb := S.hb
  have hl : lv_has ls 2 [(0, .ref (ad 0 0)), (1, .int i1)] := hl
  refine lv_iload_n hx hb dX12_is_0 rfl (lv_at hl 1 rfl) ?_
  refine lv_iconst (v := 0) hx hb dX12_is_1 (by decide) ?_
  refine lv_iconst (v := 3) hx hb dX12_is_2 (by decide) ?_
  refine cSp (As := [.int i1, .int 0, .int 3]) (rest := []) S Y (x_X12_isIn (l := l) ) cw_X12_isIn km12_69 rfl ⟨Nat.le_of_ble_eq_true rfl, Nat.le_of_ble_eq_true rfl⟩ hl.1 rfl (Nat.le_of_ble_eq_true rfl) ⟨Nat.le_of_ble_eq_true rfl, Nat.le_of_ble_eq_true rfl⟩ dX12_is_3 (fun r_38173 H locs er_38173 Y => ?_)
  refine lv_if_eq (tgt := 21) hx hb dX12_is_6 (by decide) (fun c_38174 => ?_) (fun c_38174 => ?_)
  · have B_38175 : bn 0 0 r_38173 := bn_w (bn_eq c_38174 (show bn 0 0 (0 : Int32) from bn_k (by decide))) (by decide)
    refine lv_bipush (v := (-2)) hx hb dX12_is_21 (by decide) ?_
    exact prI (post := fun r L1 f1 => (True) ∧ L1 = L ∧ f1 = f) S Y rfl (by decide) (by decide) hA1 ⟨trivial, rfl, rfl⟩ dX12_is_23
  · have B_38176 : bn 0 3 i1 := bn_w (bn_i (bn_any i1) (bn_btw (er_38173.2 c_38174).1 (er_38173.2 c_38174).2 (show bn 0 0 (0 : Int32) from bn_k (by decide)) (show bn 3 3 (3 : Int32) from bn_k (by decide)))) (by decide)
    have B_38177 : bn 1 1 r_38173 := bn_w (bn_nel c_38174 er_38173.1 (show bn 0 0 (0 : Int32) from bn_k (by decide))) (by decide)
    refine lv_aload_n hx hb dX12_is_9 rfl (lv_at hl 0 rfl) ?_
    obtain ⟨v_38178, v_38180, v_38182, v_38184, v_38186, v_38188, v_38190, v_38192, v_38193, v_38195, v_38197, v_38199, v_38201, v_38203, v_38205, v_38207, v_38209, v_38211, p_ad_0_0, b_38179, b_38181, b_38183, b_38185, b_38187, b_38189, b_38191, b_38194, b_38196, b_38198, b_38200, b_38202, b_38204, b_38206, b_38208, b_38210, b_38212⟩ := opnM_0 (j := 0) I (by decide)
    have p_ad_0_0 : pt L f (ad 0 0) (.inr (12, [.ref (ad 1 0), .ref (ad 2 0), .ref (ad 3 0), .ref (ad 4 0), .int v_38178, .int v_38180, .int v_38182, .int v_38184, .int v_38186, .int v_38188, .int v_38190, .long v_38192, .int v_38193, .int v_38195, .int v_38197, .ref (ad 5 0), .ref (ad 6 0), .int v_38199, .int v_38201, .int v_38203, .int v_38205, .int v_38207, .ref (ad 7 0), .ref (ad 8 0), .ref (ad 9 0), .int v_38209, .ref (ad 10 0), .ref (ad 11 0), .ref (ad 12 0), .ref (ad 13 0), .int v_38211, .ref (ad 14 0)])) := p_ad_0_0
    refine pg_get S Y ok_X12 0 (by decide) kf12_7 (v := .ref (ad 1 0)) p_ad_0_0 rfl dX12_is_10 ?_
    refine lv_bipush (v := 10) hx hb dX12_is_13 (by decide) ?_
    refine lv_iload_n hx hb dX12_is_15 rfl (lv_at hl 1 rfl) ?_
    refine lv_iadd hx hb dX12_is_16 ?_
    refine lv_topi (fun x_38213 ex_38213 => ?_)
    obtain ⟨g_38214, p_ad_1_0, o_38215⟩ := I.opi (k := 1) (j := 0) (by decide) rfl
    have p_ad_1_0 : pt L f (ad 1 0) (.inl (G.2 0, 10568, .inl g_38214)) := p_ad_1_0
    obtain ⟨v_38216, ev_38216⟩ : ∃ z, z = g_38214 (x_38213 : Int32).toNatClampNeg := ⟨_, rfl⟩
    refine pg_iald S Y (v := v_38216) p_ad_1_0 (vp_bn (bn_eq ex_38213 (bn_add (show bn 10 10 (10 : Int32) from bn_k (by decide)) B_38176 (by decide))) (by decide)) ev_38216.symm dX12_is_17 ?_
    refine lv_goto (tgt := 23) hx hb dX12_is_18 (by decide) ?_
    exact prI (post := fun r L1 f1 => (True) ∧ L1 = L ∧ f1 = f) S Y rfl (by decide) (by decide) hA1 ⟨trivial, rfl, rfl⟩ dX12_is_23
set_option maxHeartbeats 4000000 in
set_option maxRecDepth 100000 in
theorem x_X12_entry {l : Launch} {G : GG}  {L : List Nat} {f : HF} {ad : Nat → Nat → Nat} {w : WW} {pi : PIT} {g0 : Nat → Int32} {i1 i2 : Int32} (I : SH (spM (IA 0 0 14 9999 w) pi (EQ g0) LDa) nnM G ad L f) (hB : BBp 0 0 14 9999 w) (hX : TX g0) (b_i1 : bn 0 29 i1) : PMp l yX12_entry cX12_entry 4 .int 1 0 0 G [.ref (ad 0 0), .int i1, .int i2] L f (fun r => True) := by
  refine PMi.of (post := fun r L1 f1 => (True) ∧ L1 = L ∧ f1 = f) (own := RX12) (by decide) rfl (Nat.le_of_ble_eq_true rfl) (fun sz p e s m args below meth c A ls hA1 hname S Y hl => ?_)
  have hx := S.hx
  have hb := S.hb
  have hl : lv_has ls 4 [(0, .ref (ad 0 0)), (1, .int i1), (2, .int i2)] := hl
  refine lv_aload_n hx hb dX12_entry_0 rfl (lv_at hl 0 rfl) ?_
  obtain ⟨v_38323, v_38325, v_38327, v_38329, v_38331, v_38333, v_38335, v_38337, v_38338, v_38340, v_38342, v_38344, v_38346, v_38348, v_38350, v_38352, v_38354, v_38356, p_ad_0_0, b_38324, b_38326, b_38328, b_38330, b_38332, b_38334, b_38336, b_38339, b_38341, b_38343, b_38345, b_38347, b_38349, b_38351, b_38353, b_38355, b_38357⟩ := opnM_0 (j := 0) I (by decide)
  have p_ad_0_0 : pt L f (ad 0 0) (.inr (12, [.ref (ad 1 0), .ref (ad 2 0), .ref (ad 3 0), .ref (ad 4 0), .int v_38323, .int v_38325, .int v_38327, .int v_38329, .int v_38331, .int v_38333, .int v_38335, .long v_38337, .int v_38338, .int v_38340, .int v_38342, .ref (ad 5 0), .ref (ad 6 0), .int v_38344, .int v_38346, .int v_38348, .int v_38350, .int v_38352, .ref (ad 7 0), .ref (ad 8 0), .ref (ad 9 0), .int v_38354, .ref (ad 10 0), .ref (ad 11 0), .ref (ad 12 0), .ref (ad 13 0), .int v_38356, .ref (ad 14 0)])) := p_ad_0_0
  refine pg_get S Y ok_X12 0 (by decide) kf12_7 (v := .ref (ad 1 0)) p_ad_0_0 rfl dX12_entry_1 ?_
  refine lv_sipush (v := 3328) hx hb dX12_entry_4 (by decide) ?_
  refine lv_aload_n hx hb dX12_entry_7 rfl (lv_at hl 0 rfl) ?_
  refine pg_get S Y ok_X12 0 (by decide) kf12_7 (v := .ref (ad 1 0)) p_ad_0_0 rfl dX12_entry_8 ?_
  refine lv_bipush (v := 14) hx hb dX12_entry_11 (by decide) ?_
  obtain ⟨g_38358, p_ad_1_0, o_38359⟩ := I.opi (k := 1) (j := 0) (by decide) rfl
  have p_ad_1_0 : pt L f (ad 1 0) (.inl (G.2 0, 10568, .inl g_38358)) := p_ad_1_0
  obtain ⟨v_38360, ev_38360⟩ : ∃ z, z = g_38358 (14 : Int32).toNatClampNeg := ⟨_, rfl⟩
  refine pg_iald S Y (v := v_38360) p_ad_1_0 (by unfold vp_in; decide) ev_38360.symm dX12_entry_13 ?_
  have bv_38360 : bn 0 60000 v_38360 := bn_eq ev_38360 (IA_14 o_38359 (by have h9 := hB; unfold BBp at h9; omega) (by have h9 := hB; unfold BBp at h9; omega))
  refine lv_aload_n hx hb dX12_entry_14 rfl (lv_at hl 0 rfl) ?_
  refine cVp (As := []) (rest := [.int v_38360, .int 3328, .ref (ad 1 0)]) S Y (x_X12_shown (l := l) I hB) cw_X12_shown km12_393 p_ad_0_0 ok_X12.1 rfl rfl ⟨Nat.le_of_ble_eq_true rfl, Nat.le_of_ble_eq_true rfl⟩ hl.1 rfl (Nat.le_of_ble_eq_true rfl) ⟨Nat.le_of_ble_eq_true rfl, Nat.le_of_ble_eq_true rfl⟩ dX12_entry_15 (fun r_38361 H locs er_38361 Y => ?_)
  refine lv_isub hx hb dX12_entry_18 ?_
  refine lv_topi (fun x_38362 ex_38362 => ?_)
  refine lv_iload_n hx hb dX12_entry_19 rfl (lv_at hl 1 rfl) ?_
  refine lv_iadd hx hb dX12_entry_20 ?_
  refine lv_topi (fun x_38363 ex_38363 => ?_)
  refine lv_sipush (v := 7240) hx hb dX12_entry_21 (by decide) ?_
  refine lv_irem hx hb dX12_entry_24 (by decide) ?_
  refine lv_topi (fun x_38364 ex_38364 => ?_)
  refine lv_iadd hx hb dX12_entry_25 ?_
  refine lv_topi (fun x_38365 ex_38365 => ?_)
  have B_38366 : bn 3298 10567 x_38365 := bn_w (bn_eq ex_38365 (bn_add (show bn 3328 3328 (3328 : Int32) from bn_k (by decide)) (bn_eq ex_38364 (bn_remn (bn_eq ex_38363 (bn_add (bn_eq ex_38362 (bn_sub bv_38360 er_38361 (by decide))) b_i1 (by decide))) (show bn 7240 7240 (7240 : Int32) from bn_k (by decide)) (by decide))) (by decide))) (by decide)
  obtain ⟨v_38367, ev_38367⟩ : ∃ z, z = g_38358 (x_38365 : Int32).toNatClampNeg := ⟨_, rfl⟩
  refine pg_iald S Y (v := v_38367) p_ad_1_0 (vp_bn B_38366 (by decide)) ev_38367.symm dX12_entry_26 ?_
  refine lv_istore_n (lv' := [(3, .int v_38367), (0, .ref (ad 0 0)), (1, .int i1), (2, .int i2)]) hx hb dX12_entry_27 rfl hl (by decide) rfl (fun ls hl => ?_)
  refine lv_iload_n hx hb dX12_entry_28 rfl (lv_at hl 3 rfl) ?_
  refine lv_if_ne (tgt := 40) hx hb dX12_entry_29 (by decide) (fun c_38368 => ?_) (fun c_38368 => ?_)
  · refine lv_iload_n hx hb dX12_entry_40 rfl (lv_at hl 3 rfl) ?_
    refine lv_iconst (v := 1) hx hb dX12_entry_41 (by decide) ?_
    refine lv_icmp_ne (tgt := 56) hx hb dX12_entry_42 (by decide) (fun c_38370 => ?_) (fun c_38370 => ?_)
    · refine lv_iload_n hx hb dX12_entry_56 rfl (lv_at hl 0 rfl) ?_
      refine lv_sipush (v := 2000) hx hb dX12_entry_57 (by decide) ?_
      refine lv_irem hx hb dX12_entry_60 (by decide) ?_
      refine lv_topi (fun x_38372 ex_38372 => ?_)
      exact prI (post := fun r L1 f1 => (True) ∧ L1 = L ∧ f1 = f) S Y rfl (by decide) (by decide) hA1 ⟨trivial, rfl, rfl⟩ dX12_entry_61
    · have B_38371 : bn 1 1 i2 := bn_w (bn_eq c_38370 (show bn 1 1 (1 : Int32) from bn_k (by decide))) (by decide)
      refine lv_iload_n hx hb dX12_entry_45 rfl (lv_at hl 0 rfl) ?_
      refine lv_sipush (v := 2000) hx hb dX12_entry_46 (by decide) ?_
      refine lv_idiv hx hb dX12_entry_49 (by decide) ?_
      refine lv_topi (fun x_38373 ex_38373 => ?_)
      refine lv_bipush (v := 8) hx hb dX12_entry_50 (by decide) ?_
      refine lv_irem hx hb dX12_entry_52 (by decide) ?_
      refine lv_topi (fun x_38374 ex_38374 => ?_)
      refine lv_goto (tgt := 61) hx hb dX12_entry_53 (by decide) ?_
      exact prI (post := fun r L1 f1 => (True) ∧ L1 = L ∧ f1 = f) S Y rfl (by decide) (by decide) hA1 ⟨trivial, rfl, rfl⟩ dX12_entry_61
  · have B_38369 : bn 0 0 i2 := bn_w (bn_eq c_38368 (show bn 0 0 (0 : Int32) from bn_k (by decide))) (by decide)
    refine lv_iload_n hx hb dX12_entry_32 rfl (lv_at hl 0 rfl) ?_
    refine lv_sipush (v := 16000) hx hb dX12_entry_33 (by decide) ?_
    refine lv_idiv hx hb dX12_entry_36 (by decide) ?_
    refine lv_topi (fun x_38375 ex_38375 => ?_)
    refine lv_goto (tgt := 61) hx hb dX12_entry_37 (by decide) ?_
    exact prI (post := fun r L1 f1 => (True) ∧ L1 = L ∧ f1 = f) S Y rfl (by decide) (by decide) hA1 ⟨trivial, rfl, rfl⟩ dX12_entry_61
set_option maxHeartbeats 4000000 in
set_option maxRecDepth 100000 in
theorem x_X12_book {l : Launch} {G : GG}  {L : List Nat} {f : HF} {ad : Nat → Nat → Nat} {w : WW} {pi : PIT} {g0 : Nat → Int32} {i1 i2 : Int32} (I : SH (spM (IA 0 0 14 9999 w) pi (EQ g0) LDa) nnM G ad L f) (hB : BBp 0 0 14 9999 w) (hX : TX g0) : PMp l yX12_book cX12_book 3 .int 2 0 0 G [.ref (ad 0 0), .int i1, .int i2] L f (fun r => True) := by
  refine PMi.of (post := fun r L1 f1 => (True) ∧ L1 = L ∧ f1 = f) (own := RX12) (by decide) rfl (Nat.le_of_ble_eq_true rfl) (fun sz p e s m args below meth c A ls hA1 hname S Y hl => ?_)
  have hx := S.hx
  have hb := S.hb
  have hl : lv_has ls 3 [(0, .ref (ad 0 0)), (1, .int i1), (2, .int i2)] := hl
  refine lv_iload_n hx hb dX12_book_0 rfl (lv_at hl 1 rfl) ?_
  refine lv_iconst (v := (-1)) hx hb dX12_book_1 (by decide) ?_
  refine lv_icmp_ne (tgt := 10) hx hb dX12_book_2 (by decide) (fun c_38408 => ?_) (fun c_38408 => ?_)
  · refine lv_iload_n hx hb dX12_book_10 rfl (lv_at hl 1 rfl) ?_
    refine lv_iconst (v := 0) hx hb dX12_book_11 (by decide) ?_
    refine lv_aload_n hx hb dX12_book_12 rfl (lv_at hl 0 rfl) ?_
    refine cVp (As := []) (rest := [.int 0, .int i1]) S Y (x_X12_shown (l := l) I hB) cw_X12_shown km12_393 (I.opo (k := 0) (j := 0) (by decide) rfl).choose_spec.1 ok_X12.1 rfl rfl ⟨Nat.le_of_ble_eq_true rfl, Nat.le_of_ble_eq_true rfl⟩ hl.1 rfl (Nat.le_of_ble_eq_true rfl) ⟨Nat.le_of_ble_eq_true rfl, Nat.le_of_ble_eq_true rfl⟩ dX12_book_13 (fun r_38410 H locs er_38410 Y => ?_)
    refine lv_iconst (v := 1) hx hb dX12_book_16 (by decide) ?_
    refine lv_isub hx hb dX12_book_17 ?_
    refine lv_topi (fun x_38411 ex_38411 => ?_)
    refine cSp (As := [.int i1, .int 0, .int x_38411]) (rest := []) S Y (x_X12_isIn (l := l) ) cw_X12_isIn km12_69 rfl ⟨Nat.le_of_ble_eq_true rfl, Nat.le_of_ble_eq_true rfl⟩ hl.1 rfl (Nat.le_of_ble_eq_true rfl) ⟨Nat.le_of_ble_eq_true rfl, Nat.le_of_ble_eq_true rfl⟩ dX12_book_18 (fun r_38412 H locs er_38412 Y => ?_)
    refine lv_if_eq (tgt := 42) hx hb dX12_book_21 (by decide) (fun c_38413 => ?_) (fun c_38413 => ?_)
    · have B_38414 : bn 0 0 r_38412 := bn_w (bn_eq c_38413 (show bn 0 0 (0 : Int32) from bn_k (by decide))) (by decide)
      refine lv_bipush (v := (-2)) hx hb dX12_book_42 (by decide) ?_
      exact prI (post := fun r L1 f1 => (True) ∧ L1 = L ∧ f1 = f) S Y rfl (by decide) (by decide) hA1 ⟨trivial, rfl, rfl⟩ dX12_book_44
    · have B_38415 : bn 0 29 i1 := bn_w (bn_i (bn_any i1) (bn_btw (er_38412.2 c_38413).1 (er_38412.2 c_38413).2 (show bn 0 0 (0 : Int32) from bn_k (by decide)) (bn_eq ex_38411 (bn_sub er_38410 (show bn 1 1 (1 : Int32) from bn_k (by decide)) (by decide))))) (by decide)
      have B_38416 : bn 1 1 r_38412 := bn_w (bn_nel c_38413 er_38412.1 (show bn 0 0 (0 : Int32) from bn_k (by decide))) (by decide)
      refine lv_iload_n hx hb dX12_book_24 rfl (lv_at hl 2 rfl) ?_
      refine lv_iconst (v := 0) hx hb dX12_book_25 (by decide) ?_
      refine lv_iconst (v := 2) hx hb dX12_book_26 (by decide) ?_
      refine cSp (As := [.int i2, .int 0, .int 2]) (rest := []) S Y (x_X12_isIn (l := l) ) cw_X12_isIn km12_69 rfl ⟨Nat.le_of_ble_eq_true rfl, Nat.le_of_ble_eq_true rfl⟩ hl.1 rfl (Nat.le_of_ble_eq_true rfl) ⟨Nat.le_of_ble_eq_true rfl, Nat.le_of_ble_eq_true rfl⟩ dX12_book_27 (fun r_38417 H locs er_38417 Y => ?_)
      refine lv_if_eq (tgt := 42) hx hb dX12_book_30 (by decide) (fun c_38418 => ?_) (fun c_38418 => ?_)
      · have B_38419 : bn 0 0 r_38417 := bn_w (bn_eq c_38418 (show bn 0 0 (0 : Int32) from bn_k (by decide))) (by decide)
        refine lv_bipush (v := (-2)) hx hb dX12_book_42 (by decide) ?_
        exact prI (post := fun r L1 f1 => (True) ∧ L1 = L ∧ f1 = f) S Y rfl (by decide) (by decide) hA1 ⟨trivial, rfl, rfl⟩ dX12_book_44
      · have B_38420 : bn 0 2 i2 := bn_w (bn_i (bn_any i2) (bn_btw (er_38417.2 c_38418).1 (er_38417.2 c_38418).2 (show bn 0 0 (0 : Int32) from bn_k (by decide)) (show bn 2 2 (2 : Int32) from bn_k (by decide)))) (by decide)
        have B_38421 : bn 1 1 r_38417 := bn_w (bn_nel c_38418 er_38417.1 (show bn 0 0 (0 : Int32) from bn_k (by decide))) (by decide)
        refine lv_aload_n hx hb dX12_book_33 rfl (lv_at hl 0 rfl) ?_
        refine lv_iload_n hx hb dX12_book_34 rfl (lv_at hl 1 rfl) ?_
        refine lv_iload_n hx hb dX12_book_35 rfl (lv_at hl 2 rfl) ?_
        refine cVp (As := [.int i1, .int i2]) (rest := []) S Y (x_X12_entry (l := l) I hB hX (bn_w B_38415 (by decide))) cw_X12_entry km12_396 (I.opo (k := 0) (j := 0) (by decide) rfl).choose_spec.1 ok_X12.1 rfl rfl ⟨Nat.le_of_ble_eq_true rfl, Nat.le_of_ble_eq_true rfl⟩ hl.1 rfl (Nat.le_of_ble_eq_true rfl) ⟨Nat.le_of_ble_eq_true rfl, Nat.le_of_ble_eq_true rfl⟩ dX12_book_36 (fun r_38422 H locs er_38422 Y => ?_)
        refine lv_goto (tgt := 44) hx hb dX12_book_39 (by decide) ?_
        exact prI (post := fun r L1 f1 => (True) ∧ L1 = L ∧ f1 = f) S Y rfl (by decide) (by decide) hA1 ⟨trivial, rfl, rfl⟩ dX12_book_44
  · have B_38409 : bn (-1) (-1) i1 := bn_w (bn_eq c_38408 (show bn (-1) (-1) ((-1) : Int32) from bn_k (by decide))) (by decide)
    refine lv_aload_n hx hb dX12_book_5 rfl (lv_at hl 0 rfl) ?_
    refine cVp (As := []) (rest := []) S Y (x_X12_shown (l := l) I hB) cw_X12_shown km12_393 (I.opo (k := 0) (j := 0) (by decide) rfl).choose_spec.1 ok_X12.1 rfl rfl ⟨Nat.le_of_ble_eq_true rfl, Nat.le_of_ble_eq_true rfl⟩ hl.1 rfl (Nat.le_of_ble_eq_true rfl) ⟨Nat.le_of_ble_eq_true rfl, Nat.le_of_ble_eq_true rfl⟩ dX12_book_6 (fun r_38423 H locs er_38423 Y => ?_)
    exact prI (post := fun r L1 f1 => (True) ∧ L1 = L ∧ f1 = f) S Y rfl (by decide) (by decide) hA1 ⟨trivial, rfl, rfl⟩ dX12_book_9
set_option maxHeartbeats 4000000 in
set_option maxRecDepth 100000 in
theorem x_X12_ached {l : Launch} {G : GG}  {L : List Nat} {f : HF} {ad : Nat → Nat → Nat} {w : WW} {pi : PIT} {g0 : Nat → Int32} {i1 : Int32} (I : SH (spM (IA 0 0 14 9999 w) pi (EQ g0) LDa) nnM G ad L f) (hB : BBp 0 0 14 9999 w) (hX : TX g0) : PMp l yX12_ached cX12_ached 4 .int 2 0 0 G [.ref (ad 0 0), .int i1] L f (fun r => True) := by
  refine PMi.of (post := fun r L1 f1 => (True) ∧ L1 = L ∧ f1 = f) (own := RX12) (by decide) rfl (Nat.le_of_ble_eq_true rfl) (fun sz p e s m args below meth c A ls hA1 hname S Y hl => ?_)
  have hx := S.hx
  have hb := S.hb
  have hl : lv_has ls 4 [(0, .ref (ad 0 0)), (1, .int i1)] := hl
  have J_20 : ∀ (n20 : Nat) (y20_2 y20_3 : Int32) (H : Heap) (locs : List Loc) (ls : Array Slot), (bn 0 30 y20_3) → (bn (-1) 5 i1) → (((30 : Int) - y20_3.toInt).toNat = n20) → (DY G A s [] L f H locs) → (lv_has ls 4 [(0, .ref (ad 0 0)), (1, .int i1), (2, .int y20_2), (3, .int y20_3)]) → W p l e (rmD 2 0 0) s m args below meth c H locs (0) (0) (MQ below (va_Qi (fun r (u : List Nat × HF) => (fun r L1 f1 => (True) ∧ L1 = L ∧ f1 = f) r u.1 u.2) (fun u t => pOut G (va_A (va_pl L f) sz) u.1 u.2 t) (va_A (va_pl L f) sz)) args s 0 0 A) (F0 m 20 ls []) := by
    intro n20
    induction n20 using Nat.strongRecOn with
    | _ n20 ih20 =>
      intro y20_2 y20_3 H locs ls b_y20_3 b20_i1 hm20 Y hl
      refine lv_iload_n hx hb dX12_ached_20 rfl (lv_at hl 3 rfl) ?_
      refine lv_aload_n hx hb dX12_ached_21 rfl (lv_at hl 0 rfl) ?_
      refine cVp (As := []) (rest := [.int y20_3]) S Y (x_X12_shown (l := l) I hB) cw_X12_shown km12_393 (I.opo (k := 0) (j := 0) (by decide) rfl).choose_spec.1 ok_X12.1 rfl rfl ⟨Nat.le_of_ble_eq_true rfl, Nat.le_of_ble_eq_true rfl⟩ hl.1 rfl (Nat.le_of_ble_eq_true rfl) ⟨Nat.le_of_ble_eq_true rfl, Nat.le_of_ble_eq_true rfl⟩ dX12_ached_22 (fun r_38798 H locs er_38798 Y => ?_)
      refine lv_icmp_ge (tgt := 62) hx hb dX12_ached_25 (by decide) (fun c_38799 => ?_) (fun c_38799 => ?_)
      · refine lv_iload_n hx hb dX12_ached_62 rfl (lv_at hl 2 rfl) ?_
        exact prI (post := fun r L1 f1 => (True) ∧ L1 = L ∧ f1 = f) S Y rfl (by decide) (by decide) hA1 ⟨trivial, rfl, rfl⟩ dX12_ached_63
      · have B_38800 : bn 1 30 r_38798 := bn_w (bn_gtl c_38799 er_38798 b_y20_3) (by decide)
        have B_38801 : bn 0 29 y20_3 := bn_w (bn_gtr c_38799 er_38798 b_y20_3) (by decide)
        refine lv_iload_n hx hb dX12_ached_28 rfl (lv_at hl 2 rfl) ?_
        refine lv_iload_n hx hb dX12_ached_29 rfl (lv_at hl 1 rfl) ?_
        refine lv_iconst (v := (-1)) hx hb dX12_ached_30 (by decide) ?_
        refine lv_icmp_eq (tgt := 44) hx hb dX12_ached_31 (by decide) (fun c_38802 => ?_) (fun c_38802 => ?_)
        · have B_38803 : bn (-1) (-1) i1 := bn_w (bn_eq c_38802 (show bn (-1) (-1) ((-1) : Int32) from bn_k (by decide))) (by decide)
          refine lv_aload_n hx hb dX12_ached_44 rfl (lv_at hl 0 rfl) ?_
          refine lv_iload_n hx hb dX12_ached_45 rfl (lv_at hl 3 rfl) ?_
          refine lv_iconst (v := 2) hx hb dX12_ached_46 (by decide) ?_
          refine cVp (As := [.int y20_3, .int 2]) (rest := [.int y20_2]) S Y (x_X12_entry (l := l) I hB hX (bn_w B_38801 (by decide))) cw_X12_entry km12_396 (I.opo (k := 0) (j := 0) (by decide) rfl).choose_spec.1 ok_X12.1 rfl rfl ⟨Nat.le_of_ble_eq_true rfl, Nat.le_of_ble_eq_true rfl⟩ hl.1 rfl (Nat.le_of_ble_eq_true rfl) ⟨Nat.le_of_ble_eq_true rfl, Nat.le_of_ble_eq_true rfl⟩ dX12_ached_47 (fun r_38805 H locs er_38805 Y => ?_)
          refine lv_goto (tgt := 54) hx hb dX12_ached_50 (by decide) ?_
          refine lv_iadd hx hb dX12_ached_54 ?_
          refine lv_topi (fun x_38806 ex_38806 => ?_)
          refine lv_istore_n (lv' := [(2, .int x_38806), (0, .ref (ad 0 0)), (1, .int i1), (3, .int y20_3)]) hx hb dX12_ached_55 rfl hl (by decide) rfl (fun ls hl => ?_)
          obtain ⟨x_38807, ex_38807⟩ : ∃ z : Int32, z = y20_3 + 1 := ⟨_, rfl⟩
          refine lv_iinc (v := x_38807) (lv' := [(3, .int x_38807), (2, .int x_38806), (0, .ref (ad 0 0)), (1, .int i1)]) hx hb dX12_ached_56 hl (k := 3) rfl (by rw [ex_38807]; rfl) (by decide) rfl (fun ls hl => ?_)
          refine lv_goto (tgt := 20) hx hb dX12_ached_59 (by decide) ?_
          exact ih20 _ (by rw [← hm20]; exact ms_up (m := 1) ex_38807 (show bn 1 1 (1 : Int32) from bn_k (by decide)) B_38801 (bn_w (bn_eq ex_38807 (bn_add B_38801 (show bn 1 1 (1 : Int32) from bn_k (by decide)) (by decide))) (by decide) : bn 0 30 x_38807) (by decide)) x_38806 x_38807  _ _ _  (bn_w (bn_eq ex_38807 (bn_add B_38801 (show bn 1 1 (1 : Int32) from bn_k (by decide)) (by decide))) (by decide)) (bn_w B_38803 (by decide)) rfl Y (lv_sub hl [2, 3, 1, 0] rfl)
        · have B_38804 : bn 0 5 i1 := bn_w (bn_nel c_38802 b20_i1 (show bn (-1) (-1) ((-1) : Int32) from bn_k (by decide))) (by decide)
          refine lv_aload_n hx hb dX12_ached_34 rfl (lv_at hl 0 rfl) ?_
          refine lv_iload_n hx hb dX12_ached_35 rfl (lv_at hl 3 rfl) ?_
          refine lv_iconst (v := 1) hx hb dX12_ached_36 (by decide) ?_
          refine cVp (As := [.int y20_3, .int 1]) (rest := [.int y20_2]) S Y (x_X12_entry (l := l) I hB hX (bn_w B_38801 (by decide))) cw_X12_entry km12_396 (I.opo (k := 0) (j := 0) (by decide) rfl).choose_spec.1 ok_X12.1 rfl rfl ⟨Nat.le_of_ble_eq_true rfl, Nat.le_of_ble_eq_true rfl⟩ hl.1 rfl (Nat.le_of_ble_eq_true rfl) ⟨Nat.le_of_ble_eq_true rfl, Nat.le_of_ble_eq_true rfl⟩ dX12_ached_37 (fun r_38808 H locs er_38808 Y => ?_)
          refine lv_iload_n hx hb dX12_ached_40 rfl (lv_at hl 1 rfl) ?_
          refine lv_icmp_ne (tgt := 53) hx hb dX12_ached_41 (by decide) (fun c_38809 => ?_) (fun c_38809 => ?_)
          · refine lv_iconst (v := 0) hx hb dX12_ached_53 (by decide) ?_
            refine lv_iadd hx hb dX12_ached_54 ?_
            refine lv_topi (fun x_38811 ex_38811 => ?_)
            refine lv_istore_n (lv' := [(2, .int x_38811), (0, .ref (ad 0 0)), (1, .int i1), (3, .int y20_3)]) hx hb dX12_ached_55 rfl hl (by decide) rfl (fun ls hl => ?_)
            obtain ⟨x_38812, ex_38812⟩ : ∃ z : Int32, z = y20_3 + 1 := ⟨_, rfl⟩
            refine lv_iinc (v := x_38812) (lv' := [(3, .int x_38812), (2, .int x_38811), (0, .ref (ad 0 0)), (1, .int i1)]) hx hb dX12_ached_56 hl (k := 3) rfl (by rw [ex_38812]; rfl) (by decide) rfl (fun ls hl => ?_)
            refine lv_goto (tgt := 20) hx hb dX12_ached_59 (by decide) ?_
            exact ih20 _ (by rw [← hm20]; exact ms_up (m := 1) ex_38812 (show bn 1 1 (1 : Int32) from bn_k (by decide)) B_38801 (bn_w (bn_eq ex_38812 (bn_add B_38801 (show bn 1 1 (1 : Int32) from bn_k (by decide)) (by decide))) (by decide) : bn 0 30 x_38812) (by decide)) x_38811 x_38812  _ _ _  (bn_w (bn_eq ex_38812 (bn_add B_38801 (show bn 1 1 (1 : Int32) from bn_k (by decide)) (by decide))) (by decide)) (bn_w B_38804 (by decide)) rfl Y (lv_sub hl [2, 3, 1, 0] rfl)
          · have B_38810 : bn 0 5 r_38808 := bn_w (bn_eq c_38809 B_38804) (by decide)
            refine lv_aload_n hx hb dX12_ached_44 rfl (lv_at hl 0 rfl) ?_
            refine lv_iload_n hx hb dX12_ached_45 rfl (lv_at hl 3 rfl) ?_
            refine lv_iconst (v := 2) hx hb dX12_ached_46 (by decide) ?_
            refine cVp (As := [.int y20_3, .int 2]) (rest := [.int y20_2]) S Y (x_X12_entry (l := l) I hB hX (bn_w B_38801 (by decide))) cw_X12_entry km12_396 (I.opo (k := 0) (j := 0) (by decide) rfl).choose_spec.1 ok_X12.1 rfl rfl ⟨Nat.le_of_ble_eq_true rfl, Nat.le_of_ble_eq_true rfl⟩ hl.1 rfl (Nat.le_of_ble_eq_true rfl) ⟨Nat.le_of_ble_eq_true rfl, Nat.le_of_ble_eq_true rfl⟩ dX12_ached_47 (fun r_38813 H locs er_38813 Y => ?_)
            refine lv_goto (tgt := 54) hx hb dX12_ached_50 (by decide) ?_
            refine lv_iadd hx hb dX12_ached_54 ?_
            refine lv_topi (fun x_38814 ex_38814 => ?_)
            refine lv_istore_n (lv' := [(2, .int x_38814), (0, .ref (ad 0 0)), (1, .int i1), (3, .int y20_3)]) hx hb dX12_ached_55 rfl hl (by decide) rfl (fun ls hl => ?_)
            obtain ⟨x_38815, ex_38815⟩ : ∃ z : Int32, z = y20_3 + 1 := ⟨_, rfl⟩
            refine lv_iinc (v := x_38815) (lv' := [(3, .int x_38815), (2, .int x_38814), (0, .ref (ad 0 0)), (1, .int i1)]) hx hb dX12_ached_56 hl (k := 3) rfl (by rw [ex_38815]; rfl) (by decide) rfl (fun ls hl => ?_)
            refine lv_goto (tgt := 20) hx hb dX12_ached_59 (by decide) ?_
            exact ih20 _ (by rw [← hm20]; exact ms_up (m := 1) ex_38815 (show bn 1 1 (1 : Int32) from bn_k (by decide)) B_38801 (bn_w (bn_eq ex_38815 (bn_add B_38801 (show bn 1 1 (1 : Int32) from bn_k (by decide)) (by decide))) (by decide) : bn 0 30 x_38815) (by decide)) x_38814 x_38815  _ _ _  (bn_w (bn_eq ex_38815 (bn_add B_38801 (show bn 1 1 (1 : Int32) from bn_k (by decide)) (by decide))) (by decide)) (bn_w B_38804 (by decide)) rfl Y (lv_sub hl [2, 3, 1, 0] rfl)
  refine lv_iload_n hx hb dX12_ached_0 rfl (lv_at hl 1 rfl) ?_
  refine lv_iconst (v := (-1)) hx hb dX12_ached_1 (by decide) ?_
  refine lv_icmp_eq (tgt := 16) hx hb dX12_ached_2 (by decide) (fun c_38816 => ?_) (fun c_38816 => ?_)
  · have B_38817 : bn (-1) (-1) i1 := bn_w (bn_eq c_38816 (show bn (-1) (-1) ((-1) : Int32) from bn_k (by decide))) (by decide)
    refine lv_iconst (v := 0) hx hb dX12_ached_16 (by decide) ?_
    refine lv_istore_n (lv' := [(2, .int 0), (0, .ref (ad 0 0)), (1, .int i1)]) hx hb dX12_ached_17 rfl hl (by decide) rfl (fun ls hl => ?_)
    refine lv_iconst (v := 0) hx hb dX12_ached_18 (by decide) ?_
    refine lv_istore_n (lv' := [(3, .int 0), (2, .int 0), (0, .ref (ad 0 0)), (1, .int i1)]) hx hb dX12_ached_19 rfl hl (by decide) rfl (fun ls hl => ?_)
    exact J_20 _ 0 0  _ _ _  (bn_w (show bn 0 0 (0 : Int32) from bn_k (by decide)) (by decide)) (bn_w B_38817 (by decide)) rfl Y (lv_sub hl [2, 3, 1, 0] rfl)
  · refine lv_aload_n hx hb dX12_ached_5 rfl (lv_at hl 0 rfl) ?_
    refine lv_iload_n hx hb dX12_ached_6 rfl (lv_at hl 1 rfl) ?_
    refine cVp (As := [.int i1]) (rest := []) S Y (x_X12_isOne (l := l) I hB) cw_X12_isOne km12_323 (I.opo (k := 0) (j := 0) (by decide) rfl).choose_spec.1 ok_X12.1 rfl rfl ⟨Nat.le_of_ble_eq_true rfl, Nat.le_of_ble_eq_true rfl⟩ hl.1 rfl (Nat.le_of_ble_eq_true rfl) ⟨Nat.le_of_ble_eq_true rfl, Nat.le_of_ble_eq_true rfl⟩ dX12_ached_7 (fun r_38818 H locs er_38818 Y => ?_)
    refine lv_if_ne (tgt := 16) hx hb dX12_ached_10 (by decide) (fun c_38819 => ?_) (fun c_38819 => ?_)
    · have B_38820 : bn 0 5 i1 := bn_w (bn_i (bn_any i1) (er_38818.2 c_38819)) (by decide)
      have B_38821 : bn 1 1 r_38818 := bn_w (bn_nel c_38819 er_38818.1 (show bn 0 0 (0 : Int32) from bn_k (by decide))) (by decide)
      refine lv_iconst (v := 0) hx hb dX12_ached_16 (by decide) ?_
      refine lv_istore_n (lv' := [(2, .int 0), (0, .ref (ad 0 0)), (1, .int i1)]) hx hb dX12_ached_17 rfl hl (by decide) rfl (fun ls hl => ?_)
      refine lv_iconst (v := 0) hx hb dX12_ached_18 (by decide) ?_
      refine lv_istore_n (lv' := [(3, .int 0), (2, .int 0), (0, .ref (ad 0 0)), (1, .int i1)]) hx hb dX12_ached_19 rfl hl (by decide) rfl (fun ls hl => ?_)
      exact J_20 _ 0 0  _ _ _  (bn_w (show bn 0 0 (0 : Int32) from bn_k (by decide)) (by decide)) (bn_w B_38820 (by decide)) rfl Y (lv_sub hl [2, 3, 1, 0] rfl)
    · have B_38822 : bn 0 0 r_38818 := bn_w (bn_eq c_38819 (show bn 0 0 (0 : Int32) from bn_k (by decide))) (by decide)
      refine lv_bipush (v := (-2)) hx hb dX12_ached_13 (by decide) ?_
      exact prI (post := fun r L1 f1 => (True) ∧ L1 = L ∧ f1 = f) S Y rfl (by decide) (by decide) hA1 ⟨trivial, rfl, rfl⟩ dX12_ached_15
set_option maxHeartbeats 4000000 in
set_option maxRecDepth 100000 in
theorem x_X12_worstDay {l : Launch} {G : GG}  {L : List Nat} {f : HF} {ad : Nat → Nat → Nat} {w : WW} {pi : PIT} {g0 : Nat → Int32} (I : SH (spM (IA 0 0 14 9999 w) pi (EQ g0) LDa) nnM G ad L f) (hB : BBp 0 0 14 9999 w) (hX : TX g0) : PMp l yX12_worstDay cX12_worstDay 3 .int 2 0 0 G [.ref (ad 0 0)] L f (fun r => True) := by
  refine PMi.of (post := fun r L1 f1 => (True) ∧ L1 = L ∧ f1 = f) (own := RX12) (by decide) rfl (Nat.le_of_ble_eq_true rfl) (fun sz p e s m args below meth c A ls hA1 hname S Y hl => ?_)
  have hx := S.hx
  have hb := S.hb
  have hl : lv_has ls 3 [(0, .ref (ad 0 0))] := hl
  have J_4 : ∀ (n4 : Nat) (y4_1 y4_2 : Int32) (H : Heap) (locs : List Loc) (ls : Array Slot), (bn (-1) 29 y4_1) → (bn 0 30 y4_2) → (((30 : Int) - y4_2.toInt).toNat = n4) → (DY G A s [] L f H locs) → (lv_has ls 3 [(0, .ref (ad 0 0)), (1, .int y4_1), (2, .int y4_2)]) → W p l e (rmD 2 0 0) s m args below meth c H locs (0) (0) (MQ below (va_Qi (fun r (u : List Nat × HF) => (fun r L1 f1 => (True) ∧ L1 = L ∧ f1 = f) r u.1 u.2) (fun u t => pOut G (va_A (va_pl L f) sz) u.1 u.2 t) (va_A (va_pl L f) sz)) args s 0 0 A) (F0 m 4 ls []) := by
    intro n4
    induction n4 using Nat.strongRecOn with
    | _ n4 ih4 =>
      intro y4_1 y4_2 H locs ls b_y4_1 b_y4_2 hm4 Y hl
      refine lv_iload_n hx hb dX12_worstDay_4 rfl (lv_at hl 2 rfl) ?_
      refine lv_aload_n hx hb dX12_worstDay_5 rfl (lv_at hl 0 rfl) ?_
      refine cVp (As := []) (rest := [.int y4_2]) S Y (x_X12_shown (l := l) I hB) cw_X12_shown km12_393 (I.opo (k := 0) (j := 0) (by decide) rfl).choose_spec.1 ok_X12.1 rfl rfl ⟨Nat.le_of_ble_eq_true rfl, Nat.le_of_ble_eq_true rfl⟩ hl.1 rfl (Nat.le_of_ble_eq_true rfl) ⟨Nat.le_of_ble_eq_true rfl, Nat.le_of_ble_eq_true rfl⟩ dX12_worstDay_6 (fun r_39189 H locs er_39189 Y => ?_)
      refine lv_icmp_ge (tgt := 40) hx hb dX12_worstDay_9 (by decide) (fun c_39190 => ?_) (fun c_39190 => ?_)
      · refine lv_iload_n hx hb dX12_worstDay_40 rfl (lv_at hl 1 rfl) ?_
        refine lv_iconst (v := (-1)) hx hb dX12_worstDay_41 (by decide) ?_
        refine lv_icmp_ne (tgt := 49) hx hb dX12_worstDay_42 (by decide) (fun c_39193 => ?_) (fun c_39193 => ?_)
        · have B_39194 : bn 0 29 y4_1 := bn_w (bn_nel c_39193 b_y4_1 (show bn (-1) (-1) ((-1) : Int32) from bn_k (by decide))) (by decide)
          refine lv_aload_n hx hb dX12_worstDay_49 rfl (lv_at hl 0 rfl) ?_
          refine lv_iload_n hx hb dX12_worstDay_50 rfl (lv_at hl 1 rfl) ?_
          refine lv_iconst (v := 0) hx hb dX12_worstDay_51 (by decide) ?_
          refine cVp (As := [.int y4_1, .int 0]) (rest := []) S Y (x_X12_entry (l := l) I hB hX (bn_w B_39194 (by decide))) cw_X12_entry km12_396 (I.opo (k := 0) (j := 0) (by decide) rfl).choose_spec.1 ok_X12.1 rfl rfl ⟨Nat.le_of_ble_eq_true rfl, Nat.le_of_ble_eq_true rfl⟩ hl.1 rfl (Nat.le_of_ble_eq_true rfl) ⟨Nat.le_of_ble_eq_true rfl, Nat.le_of_ble_eq_true rfl⟩ dX12_worstDay_52 (fun r_39196 H locs er_39196 Y => ?_)
          exact prI (post := fun r L1 f1 => (True) ∧ L1 = L ∧ f1 = f) S Y rfl (by decide) (by decide) hA1 ⟨trivial, rfl, rfl⟩ dX12_worstDay_55
        · have B_39195 : bn (-1) (-1) y4_1 := bn_w (bn_eq c_39193 (show bn (-1) (-1) ((-1) : Int32) from bn_k (by decide))) (by decide)
          refine lv_iconst (v := (-1)) hx hb dX12_worstDay_45 (by decide) ?_
          refine lv_goto (tgt := 55) hx hb dX12_worstDay_46 (by decide) ?_
          exact prI (post := fun r L1 f1 => (True) ∧ L1 = L ∧ f1 = f) S Y rfl (by decide) (by decide) hA1 ⟨trivial, rfl, rfl⟩ dX12_worstDay_55
      · have B_39191 : bn 1 30 r_39189 := bn_w (bn_gtl c_39190 er_39189 b_y4_2) (by decide)
        have B_39192 : bn 0 29 y4_2 := bn_w (bn_gtr c_39190 er_39189 b_y4_2) (by decide)
        refine lv_iload_n hx hb dX12_worstDay_12 rfl (lv_at hl 1 rfl) ?_
        refine lv_iconst (v := (-1)) hx hb dX12_worstDay_13 (by decide) ?_
        refine lv_icmp_eq (tgt := 32) hx hb dX12_worstDay_14 (by decide) (fun c_39197 => ?_) (fun c_39197 => ?_)
        · have B_39198 : bn (-1) (-1) y4_1 := bn_w (bn_eq c_39197 (show bn (-1) (-1) ((-1) : Int32) from bn_k (by decide))) (by decide)
          refine lv_iload_n hx hb dX12_worstDay_32 rfl (lv_at hl 2 rfl) ?_
          refine lv_istore_n (lv' := [(1, .int y4_2), (0, .ref (ad 0 0)), (2, .int y4_2)]) hx hb dX12_worstDay_33 rfl hl (by decide) rfl (fun ls hl => ?_)
          obtain ⟨x_39200, ex_39200⟩ : ∃ z : Int32, z = y4_2 + 1 := ⟨_, rfl⟩
          refine lv_iinc (v := x_39200) (lv' := [(2, .int x_39200), (1, .int y4_2), (0, .ref (ad 0 0))]) hx hb dX12_worstDay_34 hl (k := 2) rfl (by rw [ex_39200]; rfl) (by decide) rfl (fun ls hl => ?_)
          refine lv_goto (tgt := 4) hx hb dX12_worstDay_37 (by decide) ?_
          exact ih4 _ (by rw [← hm4]; exact ms_up (m := 1) ex_39200 (show bn 1 1 (1 : Int32) from bn_k (by decide)) B_39192 (bn_w (bn_eq ex_39200 (bn_add B_39192 (show bn 1 1 (1 : Int32) from bn_k (by decide)) (by decide))) (by decide) : bn 0 30 x_39200) (by decide)) y4_2 x_39200  _ _ _  (bn_w B_39192 (by decide)) (bn_w (bn_eq ex_39200 (bn_add B_39192 (show bn 1 1 (1 : Int32) from bn_k (by decide)) (by decide))) (by decide)) rfl Y (lv_sub hl [2, 1, 0] rfl)
        · have B_39199 : bn 0 29 y4_1 := bn_w (bn_nel c_39197 b_y4_1 (show bn (-1) (-1) ((-1) : Int32) from bn_k (by decide))) (by decide)
          refine lv_aload_n hx hb dX12_worstDay_17 rfl (lv_at hl 0 rfl) ?_
          refine lv_iload_n hx hb dX12_worstDay_18 rfl (lv_at hl 2 rfl) ?_
          refine lv_iconst (v := 2) hx hb dX12_worstDay_19 (by decide) ?_
          refine cVp (As := [.int y4_2, .int 2]) (rest := []) S Y (x_X12_entry (l := l) I hB hX (bn_w B_39192 (by decide))) cw_X12_entry km12_396 (I.opo (k := 0) (j := 0) (by decide) rfl).choose_spec.1 ok_X12.1 rfl rfl ⟨Nat.le_of_ble_eq_true rfl, Nat.le_of_ble_eq_true rfl⟩ hl.1 rfl (Nat.le_of_ble_eq_true rfl) ⟨Nat.le_of_ble_eq_true rfl, Nat.le_of_ble_eq_true rfl⟩ dX12_worstDay_20 (fun r_39201 H locs er_39201 Y => ?_)
          refine lv_aload_n hx hb dX12_worstDay_23 rfl (lv_at hl 0 rfl) ?_
          refine lv_iload_n hx hb dX12_worstDay_24 rfl (lv_at hl 1 rfl) ?_
          refine lv_iconst (v := 2) hx hb dX12_worstDay_25 (by decide) ?_
          refine cVp (As := [.int y4_1, .int 2]) (rest := [.int r_39201]) S Y (x_X12_entry (l := l) I hB hX (bn_w B_39199 (by decide))) cw_X12_entry km12_396 (I.opo (k := 0) (j := 0) (by decide) rfl).choose_spec.1 ok_X12.1 rfl rfl ⟨Nat.le_of_ble_eq_true rfl, Nat.le_of_ble_eq_true rfl⟩ hl.1 rfl (Nat.le_of_ble_eq_true rfl) ⟨Nat.le_of_ble_eq_true rfl, Nat.le_of_ble_eq_true rfl⟩ dX12_worstDay_26 (fun r_39202 H locs er_39202 Y => ?_)
          refine lv_icmp_le (tgt := 34) hx hb dX12_worstDay_29 (by decide) (fun c_39203 => ?_) (fun c_39203 => ?_)
          · obtain ⟨x_39206, ex_39206⟩ : ∃ z : Int32, z = y4_2 + 1 := ⟨_, rfl⟩
            refine lv_iinc (v := x_39206) (lv' := [(2, .int x_39206), (0, .ref (ad 0 0)), (1, .int y4_1)]) hx hb dX12_worstDay_34 hl (k := 2) rfl (by rw [ex_39206]; rfl) (by decide) rfl (fun ls hl => ?_)
            refine lv_goto (tgt := 4) hx hb dX12_worstDay_37 (by decide) ?_
            exact ih4 _ (by rw [← hm4]; exact ms_up (m := 1) ex_39206 (show bn 1 1 (1 : Int32) from bn_k (by decide)) B_39192 (bn_w (bn_eq ex_39206 (bn_add B_39192 (show bn 1 1 (1 : Int32) from bn_k (by decide)) (by decide))) (by decide) : bn 0 30 x_39206) (by decide)) y4_1 x_39206  _ _ _  (bn_w B_39199 (by decide)) (bn_w (bn_eq ex_39206 (bn_add B_39192 (show bn 1 1 (1 : Int32) from bn_k (by decide)) (by decide))) (by decide)) rfl Y (lv_sub hl [1, 2, 0] rfl)
          · have B_39204 : bn (-2147483647) 2147483647 r_39201 := bn_w (bn_gtl c_39203 (bn_any r_39201) (bn_any r_39202)) (by decide)
            have B_39205 : bn (-2147483648) 2147483646 r_39202 := bn_w (bn_gtr c_39203 (bn_any r_39201) (bn_any r_39202)) (by decide)
            refine lv_iload_n hx hb dX12_worstDay_32 rfl (lv_at hl 2 rfl) ?_
            refine lv_istore_n (lv' := [(1, .int y4_2), (0, .ref (ad 0 0)), (2, .int y4_2)]) hx hb dX12_worstDay_33 rfl hl (by decide) rfl (fun ls hl => ?_)
            obtain ⟨x_39207, ex_39207⟩ : ∃ z : Int32, z = y4_2 + 1 := ⟨_, rfl⟩
            refine lv_iinc (v := x_39207) (lv' := [(2, .int x_39207), (1, .int y4_2), (0, .ref (ad 0 0))]) hx hb dX12_worstDay_34 hl (k := 2) rfl (by rw [ex_39207]; rfl) (by decide) rfl (fun ls hl => ?_)
            refine lv_goto (tgt := 4) hx hb dX12_worstDay_37 (by decide) ?_
            exact ih4 _ (by rw [← hm4]; exact ms_up (m := 1) ex_39207 (show bn 1 1 (1 : Int32) from bn_k (by decide)) B_39192 (bn_w (bn_eq ex_39207 (bn_add B_39192 (show bn 1 1 (1 : Int32) from bn_k (by decide)) (by decide))) (by decide) : bn 0 30 x_39207) (by decide)) y4_2 x_39207  _ _ _  (bn_w B_39192 (by decide)) (bn_w (bn_eq ex_39207 (bn_add B_39192 (show bn 1 1 (1 : Int32) from bn_k (by decide)) (by decide))) (by decide)) rfl Y (lv_sub hl [2, 1, 0] rfl)
  refine lv_iconst (v := (-1)) hx hb dX12_worstDay_0 (by decide) ?_
  refine lv_istore_n (lv' := [(1, .int (-1)), (0, .ref (ad 0 0))]) hx hb dX12_worstDay_1 rfl hl (by decide) rfl (fun ls hl => ?_)
  refine lv_iconst (v := 0) hx hb dX12_worstDay_2 (by decide) ?_
  refine lv_istore_n (lv' := [(2, .int 0), (1, .int (-1)), (0, .ref (ad 0 0))]) hx hb dX12_worstDay_3 rfl hl (by decide) rfl (fun ls hl => ?_)
  exact J_4 _ (-1) 0  _ _ _  (bn_w (show bn (-1) (-1) ((-1) : Int32) from bn_k (by decide)) (by decide)) (bn_w (show bn 0 0 (0 : Int32) from bn_k (by decide)) (by decide)) rfl Y (lv_sub hl [2, 1, 0] rfl)
set_option maxHeartbeats 4000000 in
set_option maxRecDepth 100000 in
theorem x_X12_mostSworn {l : Launch} {G : GG}  {L : List Nat} {f : HF} {ad : Nat → Nat → Nat} {w : WW} {pi : PIT} {g0 : Nat → Int32} (I : SH (spM (IA 0 0 14 9999 w) pi (EQ g0) LDa) nnM G ad L f) (hB : BBp 0 0 14 9999 w) (hX : TX g0) : PMp l yX12_mostSworn cX12_mostSworn 6 .int 2 0 0 G [.ref (ad 0 0)] L f (fun r => True) := by
  refine PMi.of (post := fun r L1 f1 => (True) ∧ L1 = L ∧ f1 = f) (own := RX12) (by decide) rfl (Nat.le_of_ble_eq_true rfl) (fun sz p e s m args below meth c A ls hA1 hname S Y hl => ?_)
  have hx := S.hx
  have hb := S.hb
  have hl : lv_has ls 6 [(0, .ref (ad 0 0))] := hl
  have J_6 : ∀ (n6 : Nat) (y6_1 y6_2 y6_3 : Int32) (H : Heap) (locs : List Loc) (ls : Array Slot), (bn (-1) 5 y6_1) → (bn 0 2147483647 y6_2) → (bn 0 6 y6_3) → (((6 : Int) - y6_3.toInt).toNat = n6) → (DY G A s [] L f H locs) → (lv_has ls 6 [(0, .ref (ad 0 0)), (1, .int y6_1), (2, .int y6_2), (3, .int y6_3)]) → W p l e (rmD 2 0 0) s m args below meth c H locs (0) (0) (MQ below (va_Qi (fun r (u : List Nat × HF) => (fun r L1 f1 => (True) ∧ L1 = L ∧ f1 = f) r u.1 u.2) (fun u t => pOut G (va_A (va_pl L f) sz) u.1 u.2 t) (va_A (va_pl L f) sz)) args s 0 0 A) (F0 m 6 ls []) := by
    intro n6
    induction n6 using Nat.strongRecOn with
    | _ n6 ih6 =>
      intro y6_1 y6_2 y6_3 H locs ls b_y6_1 b_y6_2 b_y6_3 hm6 Y hl
      have J_22 : ∀ (n22 : Nat) (y22_4 y22_5 : Int32) (H : Heap) (locs : List Loc) (ls : Array Slot), (bn 0 14 y22_5) → (bn 0 5 y6_3) → (((14 : Int) - y22_5.toInt).toNat = n22) → (DY G A s [] L f H locs) → (lv_has ls 6 [(0, .ref (ad 0 0)), (1, .int y6_1), (2, .int y6_2), (3, .int y6_3), (4, .int y22_4), (5, .int y22_5)]) → W p l e (rmD 2 0 0) s m args below meth c H locs (0) (0) (MQ below (va_Qi (fun r (u : List Nat × HF) => (fun r L1 f1 => (True) ∧ L1 = L ∧ f1 = f) r u.1 u.2) (fun u t => pOut G (va_A (va_pl L f) sz) u.1 u.2 t) (va_A (va_pl L f) sz)) args s 0 0 A) (F0 m 22 ls []) := by
        intro n22
        induction n22 using Nat.strongRecOn with
        | _ n22 ih22 =>
          intro y22_4 y22_5 H locs ls b_y22_5 b22_y6_3 hm22 Y hl
          refine lv_iload hx hb dX12_mostSworn_22 (lv_at hl 5 rfl) ?_
          refine lv_aload_n hx hb dX12_mostSworn_24 rfl (lv_at hl 0 rfl) ?_
          obtain ⟨v_45204, v_45206, v_45208, v_45210, v_45212, v_45214, v_45216, v_45218, v_45219, v_45221, v_45223, v_45225, v_45227, v_45229, v_45231, v_45233, v_45235, v_45237, p_ad_0_0, b_45205, b_45207, b_45209, b_45211, b_45213, b_45215, b_45217, b_45220, b_45222, b_45224, b_45226, b_45228, b_45230, b_45232, b_45234, b_45236, b_45238⟩ := opnM_0 (j := 0) I (by decide)
          have p_ad_0_0 : pt L f (ad 0 0) (.inr (12, [.ref (ad 1 0), .ref (ad 2 0), .ref (ad 3 0), .ref (ad 4 0), .int v_45204, .int v_45206, .int v_45208, .int v_45210, .int v_45212, .int v_45214, .int v_45216, .long v_45218, .int v_45219, .int v_45221, .int v_45223, .ref (ad 5 0), .ref (ad 6 0), .int v_45225, .int v_45227, .int v_45229, .int v_45231, .int v_45233, .ref (ad 7 0), .ref (ad 8 0), .ref (ad 9 0), .int v_45235, .ref (ad 10 0), .ref (ad 11 0), .ref (ad 12 0), .ref (ad 13 0), .int v_45237, .ref (ad 14 0)])) := p_ad_0_0
          refine pg_get S Y ok_X12 0 (by decide) kf12_7 (v := .ref (ad 1 0)) p_ad_0_0 rfl dX12_mostSworn_25 ?_
          refine lv_bipush (v := 13) hx hb dX12_mostSworn_28 (by decide) ?_
          obtain ⟨g_45239, p_ad_1_0, o_45240⟩ := I.opi (k := 1) (j := 0) (by decide) rfl
          have p_ad_1_0 : pt L f (ad 1 0) (.inl (G.2 0, 10568, .inl g_45239)) := p_ad_1_0
          obtain ⟨v_45241, ev_45241⟩ : ∃ z, z = g_45239 (13 : Int32).toNatClampNeg := ⟨_, rfl⟩
          refine pg_iald S Y (v := v_45241) p_ad_1_0 (by unfold vp_in; decide) ev_45241.symm dX12_mostSworn_30 ?_
          have bv_45241 : bn 0 14 v_45241 := bn_eq ev_45241 (IA_13 o_45240)
          refine lv_icmp_ge (tgt := 70) hx hb dX12_mostSworn_31 (by decide) (fun c_45242 => ?_) (fun c_45242 => ?_)
          · refine lv_iload hx hb dX12_mostSworn_70 (lv_at hl 4 rfl) ?_
            refine lv_iload_n hx hb dX12_mostSworn_72 rfl (lv_at hl 2 rfl) ?_
            refine lv_icmp_gt (tgt := 79) hx hb dX12_mostSworn_73 (by decide) (fun c_45245 => ?_) (fun c_45245 => ?_)
            · have B_45246 : bn 0 2147483646 y6_2 := bn_w (bn_ltl c_45245 b_y6_2 (bn_any y22_4)) (by decide)
              have B_45247 : bn 1 2147483647 y22_4 := bn_w (bn_ltr c_45245 b_y6_2 (bn_any y22_4)) (by decide)
              refine lv_iload hx hb dX12_mostSworn_79 (lv_at hl 4 rfl) ?_
              refine lv_istore_n (lv' := [(2, .int y22_4), (0, .ref (ad 0 0)), (1, .int y6_1), (3, .int y6_3), (4, .int y22_4), (5, .int y22_5)]) hx hb dX12_mostSworn_81 rfl hl (by decide) rfl (fun ls hl => ?_)
              refine lv_iload_n hx hb dX12_mostSworn_82 rfl (lv_at hl 3 rfl) ?_
              refine lv_istore_n (lv' := [(1, .int y6_3), (2, .int y22_4), (0, .ref (ad 0 0)), (3, .int y6_3), (4, .int y22_4), (5, .int y22_5)]) hx hb dX12_mostSworn_83 rfl hl (by decide) rfl (fun ls hl => ?_)
              obtain ⟨x_45248, ex_45248⟩ : ∃ z : Int32, z = y6_3 + 1 := ⟨_, rfl⟩
              refine lv_iinc (v := x_45248) (lv' := [(3, .int x_45248), (1, .int y6_3), (2, .int y22_4), (0, .ref (ad 0 0)), (4, .int y22_4), (5, .int y22_5)]) hx hb dX12_mostSworn_84 hl (k := 3) rfl (by rw [ex_45248]; rfl) (by decide) rfl (fun ls hl => ?_)
              refine lv_goto (tgt := 6) hx hb dX12_mostSworn_87 (by decide) ?_
              exact ih6 _ (by rw [← hm6]; exact ms_up (m := 1) ex_45248 (show bn 1 1 (1 : Int32) from bn_k (by decide)) b22_y6_3 (bn_w (bn_eq ex_45248 (bn_add b22_y6_3 (show bn 1 1 (1 : Int32) from bn_k (by decide)) (by decide))) (by decide) : bn 0 6 x_45248) (by decide)) y6_3 y22_4 x_45248  _ _ _  (bn_w b22_y6_3 (by decide)) (bn_w B_45247 (by decide)) (bn_w (bn_eq ex_45248 (bn_add b22_y6_3 (show bn 1 1 (1 : Int32) from bn_k (by decide)) (by decide))) (by decide)) rfl Y (lv_sub hl [3, 1, 2, 0] rfl)
            · refine lv_goto (tgt := 84) hx hb dX12_mostSworn_76 (by decide) ?_
              obtain ⟨x_45249, ex_45249⟩ : ∃ z : Int32, z = y6_3 + 1 := ⟨_, rfl⟩
              refine lv_iinc (v := x_45249) (lv' := [(3, .int x_45249), (0, .ref (ad 0 0)), (1, .int y6_1), (2, .int y6_2), (4, .int y22_4), (5, .int y22_5)]) hx hb dX12_mostSworn_84 hl (k := 3) rfl (by rw [ex_45249]; rfl) (by decide) rfl (fun ls hl => ?_)
              refine lv_goto (tgt := 6) hx hb dX12_mostSworn_87 (by decide) ?_
              exact ih6 _ (by rw [← hm6]; exact ms_up (m := 1) ex_45249 (show bn 1 1 (1 : Int32) from bn_k (by decide)) b22_y6_3 (bn_w (bn_eq ex_45249 (bn_add b22_y6_3 (show bn 1 1 (1 : Int32) from bn_k (by decide)) (by decide))) (by decide) : bn 0 6 x_45249) (by decide)) y6_1 y6_2 x_45249  _ _ _  (bn_w b_y6_1 (by decide)) (bn_w b_y6_2 (by decide)) (bn_w (bn_eq ex_45249 (bn_add b22_y6_3 (show bn 1 1 (1 : Int32) from bn_k (by decide)) (by decide))) (by decide)) rfl Y (lv_sub hl [1, 2, 3, 0] rfl)
          · have B_45243 : bn 1 14 v_45241 := bn_w (bn_gtl c_45242 bv_45241 b_y22_5) (by decide)
            have B_45244 : bn 0 13 y22_5 := bn_w (bn_gtr c_45242 bv_45241 b_y22_5) (by decide)
            refine lv_iload hx hb dX12_mostSworn_34 (lv_at hl 4 rfl) ?_
            refine lv_aload_n hx hb dX12_mostSworn_36 rfl (lv_at hl 0 rfl) ?_
            refine lv_iload hx hb dX12_mostSworn_37 (lv_at hl 5 rfl) ?_
            refine lv_iconst (v := 0) hx hb dX12_mostSworn_39 (by decide) ?_
            refine cVp (As := [.int y22_5, .int 0]) (rest := [.int y22_4]) S Y (x_X12_get (l := l) I hB (bn_w B_45244 (by decide)) (bn_w (show bn 0 0 (0 : Int32) from bn_k (by decide)) (by decide))) cw_X12_get km12_73 p_ad_0_0 ok_X12.1 rfl rfl ⟨Nat.le_of_ble_eq_true rfl, Nat.le_of_ble_eq_true rfl⟩ hl.1 rfl (Nat.le_of_ble_eq_true rfl) ⟨Nat.le_of_ble_eq_true rfl, Nat.le_of_ble_eq_true rfl⟩ dX12_mostSworn_40 (fun r_45250 H locs er_45250 Y => ?_)
            refine lv_iload_n hx hb dX12_mostSworn_43 rfl (lv_at hl 3 rfl) ?_
            refine lv_icmp_ne (tgt := 60) hx hb dX12_mostSworn_44 (by decide) (fun c_45251 => ?_) (fun c_45251 => ?_)
            · refine lv_iconst (v := 0) hx hb dX12_mostSworn_60 (by decide) ?_
              refine lv_iadd hx hb dX12_mostSworn_61 ?_
              refine lv_topi (fun x_45253 ex_45253 => ?_)
              refine lv_istore (lv' := [(4, .int x_45253), (0, .ref (ad 0 0)), (1, .int y6_1), (2, .int y6_2), (3, .int y6_3), (5, .int y22_5)]) hx hb dX12_mostSworn_62 hl (by decide) rfl (fun ls hl => ?_)
              obtain ⟨x_45254, ex_45254⟩ : ∃ z : Int32, z = y22_5 + 1 := ⟨_, rfl⟩
              refine lv_iinc (v := x_45254) (lv' := [(5, .int x_45254), (4, .int x_45253), (0, .ref (ad 0 0)), (1, .int y6_1), (2, .int y6_2), (3, .int y6_3)]) hx hb dX12_mostSworn_64 hl (k := 5) rfl (by rw [ex_45254]; rfl) (by decide) rfl (fun ls hl => ?_)
              refine lv_goto (tgt := 22) hx hb dX12_mostSworn_67 (by decide) ?_
              exact ih22 _ (by rw [← hm22]; exact ms_up (m := 1) ex_45254 (show bn 1 1 (1 : Int32) from bn_k (by decide)) B_45244 (bn_w (bn_eq ex_45254 (bn_add B_45244 (show bn 1 1 (1 : Int32) from bn_k (by decide)) (by decide))) (by decide) : bn 0 14 x_45254) (by decide)) x_45253 x_45254  _ _ _  (bn_w (bn_eq ex_45254 (bn_add B_45244 (show bn 1 1 (1 : Int32) from bn_k (by decide)) (by decide))) (by decide)) (bn_w b22_y6_3 (by decide)) rfl Y (lv_sub hl [2, 3, 4, 5, 1, 0] rfl)
            · have B_45252 : bn 0 5 r_45250 := bn_w (bn_eq c_45251 b22_y6_3) (by decide)
              refine lv_aload_n hx hb dX12_mostSworn_47 rfl (lv_at hl 0 rfl) ?_
              refine lv_iload hx hb dX12_mostSworn_48 (lv_at hl 5 rfl) ?_
              refine cVp (As := [.int y22_5]) (rest := [.int y22_4]) S Y (x_X12_isLegible (l := l) I hB (bn_w B_45244 (by decide))) cw_X12_isLegible km12_77 p_ad_0_0 ok_X12.1 rfl rfl ⟨Nat.le_of_ble_eq_true rfl, Nat.le_of_ble_eq_true rfl⟩ hl.1 rfl (Nat.le_of_ble_eq_true rfl) ⟨Nat.le_of_ble_eq_true rfl, Nat.le_of_ble_eq_true rfl⟩ dX12_mostSworn_50 (fun r_45255 H locs er_45255 Y => ?_)
              refine lv_if_eq (tgt := 60) hx hb dX12_mostSworn_53 (by decide) (fun c_45256 => ?_) (fun c_45256 => ?_)
              · have B_45257 : bn 0 0 r_45255 := bn_w (bn_eq c_45256 (show bn 0 0 (0 : Int32) from bn_k (by decide))) (by decide)
                refine lv_iconst (v := 0) hx hb dX12_mostSworn_60 (by decide) ?_
                refine lv_iadd hx hb dX12_mostSworn_61 ?_
                refine lv_topi (fun x_45259 ex_45259 => ?_)
                refine lv_istore (lv' := [(4, .int x_45259), (0, .ref (ad 0 0)), (1, .int y6_1), (2, .int y6_2), (3, .int y6_3), (5, .int y22_5)]) hx hb dX12_mostSworn_62 hl (by decide) rfl (fun ls hl => ?_)
                obtain ⟨x_45260, ex_45260⟩ : ∃ z : Int32, z = y22_5 + 1 := ⟨_, rfl⟩
                refine lv_iinc (v := x_45260) (lv' := [(5, .int x_45260), (4, .int x_45259), (0, .ref (ad 0 0)), (1, .int y6_1), (2, .int y6_2), (3, .int y6_3)]) hx hb dX12_mostSworn_64 hl (k := 5) rfl (by rw [ex_45260]; rfl) (by decide) rfl (fun ls hl => ?_)
                refine lv_goto (tgt := 22) hx hb dX12_mostSworn_67 (by decide) ?_
                exact ih22 _ (by rw [← hm22]; exact ms_up (m := 1) ex_45260 (show bn 1 1 (1 : Int32) from bn_k (by decide)) B_45244 (bn_w (bn_eq ex_45260 (bn_add B_45244 (show bn 1 1 (1 : Int32) from bn_k (by decide)) (by decide))) (by decide) : bn 0 14 x_45260) (by decide)) x_45259 x_45260  _ _ _  (bn_w (bn_eq ex_45260 (bn_add B_45244 (show bn 1 1 (1 : Int32) from bn_k (by decide)) (by decide))) (by decide)) (bn_w b22_y6_3 (by decide)) rfl Y (lv_sub hl [2, 3, 4, 5, 1, 0] rfl)
              · have B_45258 : bn 1 1 r_45255 := bn_w (bn_nel c_45256 er_45255 (show bn 0 0 (0 : Int32) from bn_k (by decide))) (by decide)
                refine lv_iconst (v := 1) hx hb dX12_mostSworn_56 (by decide) ?_
                refine lv_goto (tgt := 61) hx hb dX12_mostSworn_57 (by decide) ?_
                refine lv_iadd hx hb dX12_mostSworn_61 ?_
                refine lv_topi (fun x_45261 ex_45261 => ?_)
                refine lv_istore (lv' := [(4, .int x_45261), (0, .ref (ad 0 0)), (1, .int y6_1), (2, .int y6_2), (3, .int y6_3), (5, .int y22_5)]) hx hb dX12_mostSworn_62 hl (by decide) rfl (fun ls hl => ?_)
                obtain ⟨x_45262, ex_45262⟩ : ∃ z : Int32, z = y22_5 + 1 := ⟨_, rfl⟩
                refine lv_iinc (v := x_45262) (lv' := [(5, .int x_45262), (4, .int x_45261), (0, .ref (ad 0 0)), (1, .int y6_1), (2, .int y6_2), (3, .int y6_3)]) hx hb dX12_mostSworn_64 hl (k := 5) rfl (by rw [ex_45262]; rfl) (by decide) rfl (fun ls hl => ?_)
                refine lv_goto (tgt := 22) hx hb dX12_mostSworn_67 (by decide) ?_
                exact ih22 _ (by rw [← hm22]; exact ms_up (m := 1) ex_45262 (show bn 1 1 (1 : Int32) from bn_k (by decide)) B_45244 (bn_w (bn_eq ex_45262 (bn_add B_45244 (show bn 1 1 (1 : Int32) from bn_k (by decide)) (by decide))) (by decide) : bn 0 14 x_45262) (by decide)) x_45261 x_45262  _ _ _  (bn_w (bn_eq ex_45262 (bn_add B_45244 (show bn 1 1 (1 : Int32) from bn_k (by decide)) (by decide))) (by decide)) (bn_w b22_y6_3 (by decide)) rfl Y (lv_sub hl [2, 3, 4, 5, 1, 0] rfl)
      refine lv_iload_n hx hb dX12_mostSworn_6 rfl (lv_at hl 3 rfl) ?_
      refine lv_aload_n hx hb dX12_mostSworn_7 rfl (lv_at hl 0 rfl) ?_
      obtain ⟨v_45263, v_45265, v_45267, v_45269, v_45271, v_45273, v_45275, v_45277, v_45278, v_45280, v_45282, v_45284, v_45286, v_45288, v_45290, v_45292, v_45294, v_45296, p_ad_0_0, b_45264, b_45266, b_45268, b_45270, b_45272, b_45274, b_45276, b_45279, b_45281, b_45283, b_45285, b_45287, b_45289, b_45291, b_45293, b_45295, b_45297⟩ := opnM_0 (j := 0) I (by decide)
      have p_ad_0_0 : pt L f (ad 0 0) (.inr (12, [.ref (ad 1 0), .ref (ad 2 0), .ref (ad 3 0), .ref (ad 4 0), .int v_45263, .int v_45265, .int v_45267, .int v_45269, .int v_45271, .int v_45273, .int v_45275, .long v_45277, .int v_45278, .int v_45280, .int v_45282, .ref (ad 5 0), .ref (ad 6 0), .int v_45284, .int v_45286, .int v_45288, .int v_45290, .int v_45292, .ref (ad 7 0), .ref (ad 8 0), .ref (ad 9 0), .int v_45294, .ref (ad 10 0), .ref (ad 11 0), .ref (ad 12 0), .ref (ad 13 0), .int v_45296, .ref (ad 14 0)])) := p_ad_0_0
      refine pg_get S Y ok_X12 0 (by decide) kf12_7 (v := .ref (ad 1 0)) p_ad_0_0 rfl dX12_mostSworn_8 ?_
      refine lv_iconst (v := 0) hx hb dX12_mostSworn_11 (by decide) ?_
      obtain ⟨g_45298, p_ad_1_0, o_45299⟩ := I.opi (k := 1) (j := 0) (by decide) rfl
      have p_ad_1_0 : pt L f (ad 1 0) (.inl (G.2 0, 10568, .inl g_45298)) := p_ad_1_0
      obtain ⟨v_45300, ev_45300⟩ : ∃ z, z = g_45298 (0 : Int32).toNatClampNeg := ⟨_, rfl⟩
      refine pg_iald S Y (v := v_45300) p_ad_1_0 (by unfold vp_in; decide) ev_45300.symm dX12_mostSworn_12 ?_
      have bv_45300 : bn 0 6 v_45300 := bn_eq ev_45300 (IA_0 o_45299)
      refine lv_icmp_ge (tgt := 90) hx hb dX12_mostSworn_13 (by decide) (fun c_45301 => ?_) (fun c_45301 => ?_)
      · refine lv_iload_n hx hb dX12_mostSworn_90 rfl (lv_at hl 1 rfl) ?_
        exact prI (post := fun r L1 f1 => (True) ∧ L1 = L ∧ f1 = f) S Y rfl (by decide) (by decide) hA1 ⟨trivial, rfl, rfl⟩ dX12_mostSworn_91
      · have B_45302 : bn 1 6 v_45300 := bn_w (bn_gtl c_45301 bv_45300 b_y6_3) (by decide)
        have B_45303 : bn 0 5 y6_3 := bn_w (bn_gtr c_45301 bv_45300 b_y6_3) (by decide)
        refine lv_iconst (v := 0) hx hb dX12_mostSworn_16 (by decide) ?_
        refine lv_istore (lv' := [(4, .int 0), (0, .ref (ad 0 0)), (1, .int y6_1), (2, .int y6_2), (3, .int y6_3)]) hx hb dX12_mostSworn_17 hl (by decide) rfl (fun ls hl => ?_)
        refine lv_iconst (v := 0) hx hb dX12_mostSworn_19 (by decide) ?_
        refine lv_istore (lv' := [(5, .int 0), (4, .int 0), (0, .ref (ad 0 0)), (1, .int y6_1), (2, .int y6_2), (3, .int y6_3)]) hx hb dX12_mostSworn_20 hl (by decide) rfl (fun ls hl => ?_)
        exact J_22 _ 0 0  _ _ _  (bn_w (show bn 0 0 (0 : Int32) from bn_k (by decide)) (by decide)) (bn_w B_45303 (by decide)) rfl Y (lv_sub hl [2, 3, 4, 5, 1, 0] rfl)
  refine lv_iconst (v := (-1)) hx hb dX12_mostSworn_0 (by decide) ?_
  refine lv_istore_n (lv' := [(1, .int (-1)), (0, .ref (ad 0 0))]) hx hb dX12_mostSworn_1 rfl hl (by decide) rfl (fun ls hl => ?_)
  refine lv_iconst (v := 0) hx hb dX12_mostSworn_2 (by decide) ?_
  refine lv_istore_n (lv' := [(2, .int 0), (1, .int (-1)), (0, .ref (ad 0 0))]) hx hb dX12_mostSworn_3 rfl hl (by decide) rfl (fun ls hl => ?_)
  refine lv_iconst (v := 0) hx hb dX12_mostSworn_4 (by decide) ?_
  refine lv_istore_n (lv' := [(3, .int 0), (2, .int 0), (1, .int (-1)), (0, .ref (ad 0 0))]) hx hb dX12_mostSworn_5 rfl hl (by decide) rfl (fun ls hl => ?_)
  exact J_6 _ (-1) 0 0  _ _ _  (bn_w (show bn (-1) (-1) ((-1) : Int32) from bn_k (by decide)) (by decide)) (bn_w (show bn 0 0 (0 : Int32) from bn_k (by decide)) (by decide)) (bn_w (show bn 0 0 (0 : Int32) from bn_k (by decide)) (by decide)) rfl Y (lv_sub hl [3, 2, 1, 0] rfl)
set_option maxHeartbeats 4000000 in
set_option maxRecDepth 100000 in
theorem x_X12_faithful {l : Launch} {G : GG}  {L : List Nat} {f : HF} {ad : Nat → Nat → Nat} {w : WW} {pi : PIT} {g0 : Nat → Int32} (I : SH (spM (IA 0 0 14 9999 w) pi (EQ g0) LDa) nnM G ad L f) (hB : BBp 0 0 14 9999 w) (hX : TX g0) : PMp l yX12_faithful cX12_faithful 3 .int 1 0 0 G [.ref (ad 0 0)] L f (fun r => True) := by
  refine PMi.of (post := fun r L1 f1 => (True) ∧ L1 = L ∧ f1 = f) (own := RX12) (by decide) rfl (Nat.le_of_ble_eq_true rfl) (fun sz p e s m args below meth c A ls hA1 hname S Y hl => ?_)
  have hx := S.hx
  have hb := S.hb
  have hl : lv_has ls 3 [(0, .ref (ad 0 0))] := hl
  have J_13 : ∀ (n13 : Nat) (y13_1 y13_2 : Int32) (H : Heap) (locs : List Loc) (ls : Array Slot), (bn 0 14 y13_2) → (((14 : Int) - y13_2.toInt).toNat = n13) → (DY G A s [] L f H locs) → (lv_has ls 3 [(0, .ref (ad 0 0)), (1, .int y13_1), (2, .int y13_2)]) → W p l e (rmD 1 0 0) s m args below meth c H locs (0) (0) (MQ below (va_Qi (fun r (u : List Nat × HF) => (fun r L1 f1 => (True) ∧ L1 = L ∧ f1 = f) r u.1 u.2) (fun u t => pOut G (va_A (va_pl L f) sz) u.1 u.2 t) (va_A (va_pl L f) sz)) args s 0 0 A) (F0 m 13 ls []) := by
    intro n13
    induction n13 using Nat.strongRecOn with
    | _ n13 ih13 =>
      intro y13_1 y13_2 H locs ls b_y13_2 hm13 Y hl
      refine lv_iload_n hx hb dX12_faithful_13 rfl (lv_at hl 2 rfl) ?_
      refine lv_aload_n hx hb dX12_faithful_14 rfl (lv_at hl 0 rfl) ?_
      obtain ⟨v_46084, v_46086, v_46088, v_46090, v_46092, v_46094, v_46096, v_46098, v_46099, v_46101, v_46103, v_46105, v_46107, v_46109, v_46111, v_46113, v_46115, v_46117, p_ad_0_0, b_46085, b_46087, b_46089, b_46091, b_46093, b_46095, b_46097, b_46100, b_46102, b_46104, b_46106, b_46108, b_46110, b_46112, b_46114, b_46116, b_46118⟩ := opnM_0 (j := 0) I (by decide)
      have p_ad_0_0 : pt L f (ad 0 0) (.inr (12, [.ref (ad 1 0), .ref (ad 2 0), .ref (ad 3 0), .ref (ad 4 0), .int v_46084, .int v_46086, .int v_46088, .int v_46090, .int v_46092, .int v_46094, .int v_46096, .long v_46098, .int v_46099, .int v_46101, .int v_46103, .ref (ad 5 0), .ref (ad 6 0), .int v_46105, .int v_46107, .int v_46109, .int v_46111, .int v_46113, .ref (ad 7 0), .ref (ad 8 0), .ref (ad 9 0), .int v_46115, .ref (ad 10 0), .ref (ad 11 0), .ref (ad 12 0), .ref (ad 13 0), .int v_46117, .ref (ad 14 0)])) := p_ad_0_0
      refine pg_get S Y ok_X12 0 (by decide) kf12_7 (v := .ref (ad 1 0)) p_ad_0_0 rfl dX12_faithful_15 ?_
      refine lv_bipush (v := 13) hx hb dX12_faithful_18 (by decide) ?_
      obtain ⟨g_46119, p_ad_1_0, o_46120⟩ := I.opi (k := 1) (j := 0) (by decide) rfl
      have p_ad_1_0 : pt L f (ad 1 0) (.inl (G.2 0, 10568, .inl g_46119)) := p_ad_1_0
      obtain ⟨v_46121, ev_46121⟩ : ∃ z, z = g_46119 (13 : Int32).toNatClampNeg := ⟨_, rfl⟩
      refine pg_iald S Y (v := v_46121) p_ad_1_0 (by unfold vp_in; decide) ev_46121.symm dX12_faithful_20 ?_
      have bv_46121 : bn 0 14 v_46121 := bn_eq ev_46121 (IA_13 o_46120)
      refine lv_icmp_ge (tgt := 53) hx hb dX12_faithful_21 (by decide) (fun c_46122 => ?_) (fun c_46122 => ?_)
      · refine lv_iload_n hx hb dX12_faithful_53 rfl (lv_at hl 1 rfl) ?_
        exact prI (post := fun r L1 f1 => (True) ∧ L1 = L ∧ f1 = f) S Y rfl (by decide) (by decide) hA1 ⟨trivial, rfl, rfl⟩ dX12_faithful_54
      · have B_46123 : bn 1 14 v_46121 := bn_w (bn_gtl c_46122 bv_46121 b_y13_2) (by decide)
        have B_46124 : bn 0 13 y13_2 := bn_w (bn_gtr c_46122 bv_46121 b_y13_2) (by decide)
        refine lv_aload_n hx hb dX12_faithful_24 rfl (lv_at hl 0 rfl) ?_
        refine lv_iload_n hx hb dX12_faithful_25 rfl (lv_at hl 2 rfl) ?_
        refine lv_iconst (v := 4) hx hb dX12_faithful_26 (by decide) ?_
        refine cVp (As := [.int y13_2, .int 4]) (rest := []) S Y (x_X12_get (l := l) I hB (bn_w B_46124 (by decide)) (bn_w (show bn 4 4 (4 : Int32) from bn_k (by decide)) (by decide))) cw_X12_get km12_73 p_ad_0_0 ok_X12.1 rfl rfl ⟨Nat.le_of_ble_eq_true rfl, Nat.le_of_ble_eq_true rfl⟩ hl.1 rfl (Nat.le_of_ble_eq_true rfl) ⟨Nat.le_of_ble_eq_true rfl, Nat.le_of_ble_eq_true rfl⟩ dX12_faithful_27 (fun r_46125 H locs er_46125 Y => ?_)
        refine lv_iconst (v := 1) hx hb dX12_faithful_30 (by decide) ?_
        refine lv_icmp_ne (tgt := 47) hx hb dX12_faithful_31 (by decide) (fun c_46126 => ?_) (fun c_46126 => ?_)
        · obtain ⟨x_46128, ex_46128⟩ : ∃ z : Int32, z = y13_2 + 1 := ⟨_, rfl⟩
          refine lv_iinc (v := x_46128) (lv' := [(2, .int x_46128), (0, .ref (ad 0 0)), (1, .int y13_1)]) hx hb dX12_faithful_47 hl (k := 2) rfl (by rw [ex_46128]; rfl) (by decide) rfl (fun ls hl => ?_)
          refine lv_goto (tgt := 13) hx hb dX12_faithful_50 (by decide) ?_
          exact ih13 _ (by rw [← hm13]; exact ms_up (m := 1) ex_46128 (show bn 1 1 (1 : Int32) from bn_k (by decide)) B_46124 (bn_w (bn_eq ex_46128 (bn_add B_46124 (show bn 1 1 (1 : Int32) from bn_k (by decide)) (by decide))) (by decide) : bn 0 14 x_46128) (by decide)) y13_1 x_46128  _ _ _  (bn_w (bn_eq ex_46128 (bn_add B_46124 (show bn 1 1 (1 : Int32) from bn_k (by decide)) (by decide))) (by decide)) rfl Y (lv_sub hl [1, 2, 0] rfl)
        · have B_46127 : bn 1 1 r_46125 := bn_w (bn_eq c_46126 (show bn 1 1 (1 : Int32) from bn_k (by decide))) (by decide)
          refine lv_iload_n hx hb dX12_faithful_34 rfl (lv_at hl 1 rfl) ?_
          refine lv_iconst (v := 1) hx hb dX12_faithful_35 (by decide) ?_
          refine lv_aload_n hx hb dX12_faithful_36 rfl (lv_at hl 0 rfl) ?_
          refine lv_iload_n hx hb dX12_faithful_37 rfl (lv_at hl 2 rfl) ?_
          refine lv_iconst (v := 0) hx hb dX12_faithful_38 (by decide) ?_
          refine cVp (As := [.int y13_2, .int 0]) (rest := [.int 1, .int y13_1]) S Y (x_X12_get (l := l) I hB (bn_w B_46124 (by decide)) (bn_w (show bn 0 0 (0 : Int32) from bn_k (by decide)) (by decide))) cw_X12_get km12_73 p_ad_0_0 ok_X12.1 rfl rfl ⟨Nat.le_of_ble_eq_true rfl, Nat.le_of_ble_eq_true rfl⟩ hl.1 rfl (Nat.le_of_ble_eq_true rfl) ⟨Nat.le_of_ble_eq_true rfl, Nat.le_of_ble_eq_true rfl⟩ dX12_faithful_39 (fun r_46129 H locs er_46129 Y => ?_)
          refine lv_ishl hx hb dX12_faithful_42 ?_
          refine lv_topi (fun x_46130 ex_46130 => ?_)
          refine lv_iconst (v := (-1)) hx hb dX12_faithful_43 (by decide) ?_
          refine lv_ixor hx hb dX12_faithful_44 ?_
          refine lv_topi (fun x_46131 ex_46131 => ?_)
          refine lv_iand hx hb dX12_faithful_45 ?_
          refine lv_topi (fun x_46132 ex_46132 => ?_)
          refine lv_istore_n (lv' := [(1, .int x_46132), (0, .ref (ad 0 0)), (2, .int y13_2)]) hx hb dX12_faithful_46 rfl hl (by decide) rfl (fun ls hl => ?_)
          obtain ⟨x_46133, ex_46133⟩ : ∃ z : Int32, z = y13_2 + 1 := ⟨_, rfl⟩
          refine lv_iinc (v := x_46133) (lv' := [(2, .int x_46133), (1, .int x_46132), (0, .ref (ad 0 0))]) hx hb dX12_faithful_47 hl (k := 2) rfl (by rw [ex_46133]; rfl) (by decide) rfl (fun ls hl => ?_)
          refine lv_goto (tgt := 13) hx hb dX12_faithful_50 (by decide) ?_
          exact ih13 _ (by rw [← hm13]; exact ms_up (m := 1) ex_46133 (show bn 1 1 (1 : Int32) from bn_k (by decide)) B_46124 (bn_w (bn_eq ex_46133 (bn_add B_46124 (show bn 1 1 (1 : Int32) from bn_k (by decide)) (by decide))) (by decide) : bn 0 14 x_46133) (by decide)) x_46132 x_46133  _ _ _  (bn_w (bn_eq ex_46133 (bn_add B_46124 (show bn 1 1 (1 : Int32) from bn_k (by decide)) (by decide))) (by decide)) rfl Y (lv_sub hl [2, 1, 0] rfl)
  refine lv_iconst (v := 1) hx hb dX12_faithful_0 (by decide) ?_
  refine lv_aload_n hx hb dX12_faithful_1 rfl (lv_at hl 0 rfl) ?_
  obtain ⟨v_46134, v_46136, v_46138, v_46140, v_46142, v_46144, v_46146, v_46148, v_46149, v_46151, v_46153, v_46155, v_46157, v_46159, v_46161, v_46163, v_46165, v_46167, p_ad_0_0, b_46135, b_46137, b_46139, b_46141, b_46143, b_46145, b_46147, b_46150, b_46152, b_46154, b_46156, b_46158, b_46160, b_46162, b_46164, b_46166, b_46168⟩ := opnM_0 (j := 0) I (by decide)
  have p_ad_0_0 : pt L f (ad 0 0) (.inr (12, [.ref (ad 1 0), .ref (ad 2 0), .ref (ad 3 0), .ref (ad 4 0), .int v_46134, .int v_46136, .int v_46138, .int v_46140, .int v_46142, .int v_46144, .int v_46146, .long v_46148, .int v_46149, .int v_46151, .int v_46153, .ref (ad 5 0), .ref (ad 6 0), .int v_46155, .int v_46157, .int v_46159, .int v_46161, .int v_46163, .ref (ad 7 0), .ref (ad 8 0), .ref (ad 9 0), .int v_46165, .ref (ad 10 0), .ref (ad 11 0), .ref (ad 12 0), .ref (ad 13 0), .int v_46167, .ref (ad 14 0)])) := p_ad_0_0
  refine pg_get S Y ok_X12 0 (by decide) kf12_7 (v := .ref (ad 1 0)) p_ad_0_0 rfl dX12_faithful_2 ?_
  refine lv_iconst (v := 0) hx hb dX12_faithful_5 (by decide) ?_
  obtain ⟨g_46169, p_ad_1_0, o_46170⟩ := I.opi (k := 1) (j := 0) (by decide) rfl
  have p_ad_1_0 : pt L f (ad 1 0) (.inl (G.2 0, 10568, .inl g_46169)) := p_ad_1_0
  obtain ⟨v_46171, ev_46171⟩ : ∃ z, z = g_46169 (0 : Int32).toNatClampNeg := ⟨_, rfl⟩
  refine pg_iald S Y (v := v_46171) p_ad_1_0 (by unfold vp_in; decide) ev_46171.symm dX12_faithful_6 ?_
  have bv_46171 : bn 0 6 v_46171 := bn_eq ev_46171 (IA_0 o_46170)
  refine lv_ishl hx hb dX12_faithful_7 ?_
  refine lv_topi (fun x_46172 ex_46172 => ?_)
  refine lv_iconst (v := 1) hx hb dX12_faithful_8 (by decide) ?_
  refine lv_isub hx hb dX12_faithful_9 ?_
  refine lv_topi (fun x_46173 ex_46173 => ?_)
  refine lv_istore_n (lv' := [(1, .int x_46173), (0, .ref (ad 0 0))]) hx hb dX12_faithful_10 rfl hl (by decide) rfl (fun ls hl => ?_)
  refine lv_iconst (v := 0) hx hb dX12_faithful_11 (by decide) ?_
  refine lv_istore_n (lv' := [(2, .int 0), (1, .int x_46173), (0, .ref (ad 0 0))]) hx hb dX12_faithful_12 rfl hl (by decide) rfl (fun ls hl => ?_)
  exact J_13 _ x_46173 0  _ _ _  (bn_w (show bn 0 0 (0 : Int32) from bn_k (by decide)) (by decide)) rfl Y (lv_sub hl [2, 1, 0] rfl)
set_option maxHeartbeats 4000000 in
set_option maxRecDepth 100000 in
theorem x_X12_foretold {l : Launch} {G : GG}  {L : List Nat} {f : HF} {ad : Nat → Nat → Nat} {w : WW} {pi : PIT} {g0 : Nat → Int32} {i1 i2 : Int32} (I : SH (spM (IA 0 0 14 9999 w) pi (EQ g0) LDa) nnM G ad L f) (hB : BBp 0 0 14 9999 w) (hX : TX g0) : PMi l yX12_foretold cX12_foretold 5 .int 9 0 0 G [.ref (ad 0 0), .int i1, .int i2] L f (fun r L1 f1 => SH (spM (IA 0 0 14 9999 w) pi (EQ g0) LDa) nnM G ad L1 f1) := by
  refine PMi.of (post := fun r L1 f1 => SH (spM (IA 0 0 14 9999 w) pi (EQ g0) LDa) nnM G ad L1 f1) (own := RX12) (by decide) rfl (Nat.le_of_ble_eq_true rfl) (fun sz p e s m args below meth c A ls hA1 hname S Y hl => ?_)
  have hx := S.hx
  have hb := S.hb
  have hl : lv_has ls 5 [(0, .ref (ad 0 0)), (1, .int i1), (2, .int i2)] := hl
  have J_34 : ∀ (n34 : Nat) (y34_3 y34_4 : Int32) (L_34 : List Nat) (f_34 : HF) (H : Heap) (locs : List Loc) (ls : Array Slot), (SH (spM (IA 0 0 14 9999 w) pi (EQ g0) LDa) nnM G ad L_34 f_34) → (bn 0 60 y34_4) → (bn 1 60 i1) → (bn (-1) 5 i2) → (((60 : Int) - y34_4.toInt).toNat = n34) → (DY G A s [] L_34 f_34 H locs) → (lv_has ls 5 [(0, .ref (ad 0 0)), (1, .int i1), (2, .int i2), (3, .int y34_3), (4, .int y34_4)]) → W p l e (rmD 9 0 0) s m args below meth c H locs (0) (0) (MQ below (va_Qi (fun r (u : List Nat × HF) => (fun r L1 f1 => SH (spM (IA 0 0 14 9999 w) pi (EQ g0) LDa) nnM G ad L1 f1) r u.1 u.2) (fun u t => pOut G (va_A (va_pl L f) sz) u.1 u.2 t) (va_A (va_pl L f) sz)) args s 0 0 A) (F0 m 34 ls []) := by
    intro n34
    induction n34 using Nat.strongRecOn with
    | _ n34 ih34 =>
      intro y34_3 y34_4 L_34 f_34 H locs ls I b_y34_4 b34_i1 b34_i2 hm34 Y hl
      refine lv_iload hx hb dX12_foretold_34 (lv_at hl 4 rfl) ?_
      refine lv_iload_n hx hb dX12_foretold_36 rfl (lv_at hl 1 rfl) ?_
      refine lv_icmp_ge (tgt := 84) hx hb dX12_foretold_37 (by decide) (fun c_49746 => ?_) (fun c_49746 => ?_)
      · have B_49747 : bn 1 60 y34_4 := bn_w (bn_ler c_49746 b34_i1 b_y34_4) (by decide)
        refine lv_iload_n hx hb dX12_foretold_84 rfl (lv_at hl 2 rfl) ?_
        refine lv_iconst (v := (-1)) hx hb dX12_foretold_85 (by decide) ?_
        refine lv_icmp_ne (tgt := 99) hx hb dX12_foretold_86 (by decide) (fun c_49749 => ?_) (fun c_49749 => ?_)
        · have B_49750 : bn 0 5 i2 := bn_w (bn_nel c_49749 b34_i2 (show bn (-1) (-1) ((-1) : Int32) from bn_k (by decide))) (by decide)
          refine lv_iload_n hx hb dX12_foretold_99 rfl (lv_at hl 3 rfl) ?_
          refine lv_istore (lv' := [(4, .int y34_3), (0, .ref (ad 0 0)), (1, .int i1), (2, .int i2), (3, .int y34_3)]) hx hb dX12_foretold_100 hl (by decide) rfl (fun ls hl => ?_)
          refine lv_aload_n hx hb dX12_foretold_102 rfl (lv_at hl 1 rfl) ?_
          refine cVv (As := []) (rest := []) S Y (x_X12_putBack (l := l) I hB) cw_X12_putBack km12_402 (I.opo (k := 0) (j := 0) (by decide) rfl).choose_spec.1 ok_X12.1 rfl rfl ⟨Nat.le_of_ble_eq_true rfl, Nat.le_of_ble_eq_true rfl⟩ hl.1 rfl (Nat.le_of_ble_eq_true rfl) ⟨Nat.le_of_ble_eq_true rfl, Nat.le_of_ble_eq_true rfl⟩ dX12_foretold_103 (fun L_49752 f_49753 H locs I Y => ?_)
          refine lv_iload hx hb dX12_foretold_106 (lv_at hl 0 rfl) ?_
          exact prI (post := fun r L1 f1 => SH (spM (IA 0 0 14 9999 w) pi (EQ g0) LDa) nnM G ad L1 f1) S Y rfl (by decide) (by decide) hA1 I dX12_foretold_108
        · have B_49751 : bn (-1) (-1) i2 := bn_w (bn_eq c_49749 (show bn (-1) (-1) ((-1) : Int32) from bn_k (by decide))) (by decide)
          refine lv_aload_n hx hb dX12_foretold_89 rfl (lv_at hl 0 rfl) ?_
          obtain ⟨v_49754, v_49756, v_49758, v_49760, v_49762, v_49764, v_49766, v_49768, v_49769, v_49771, v_49773, v_49775, v_49777, v_49779, v_49781, v_49783, v_49785, v_49787, p_ad_0_0, b_49755, b_49757, b_49759, b_49761, b_49763, b_49765, b_49767, b_49770, b_49772, b_49774, b_49776, b_49778, b_49780, b_49782, b_49784, b_49786, b_49788⟩ := opnM_0 (j := 0) I (by decide)
          have p_ad_0_0 : pt L_34 f_34 (ad 0 0) (.inr (12, [.ref (ad 1 0), .ref (ad 2 0), .ref (ad 3 0), .ref (ad 4 0), .int v_49754, .int v_49756, .int v_49758, .int v_49760, .int v_49762, .int v_49764, .int v_49766, .long v_49768, .int v_49769, .int v_49771, .int v_49773, .ref (ad 5 0), .ref (ad 6 0), .int v_49775, .int v_49777, .int v_49779, .int v_49781, .int v_49783, .ref (ad 7 0), .ref (ad 8 0), .ref (ad 9 0), .int v_49785, .ref (ad 10 0), .ref (ad 11 0), .ref (ad 12 0), .ref (ad 13 0), .int v_49787, .ref (ad 14 0)])) := p_ad_0_0
          refine pg_get S Y ok_X12 0 (by decide) kf12_7 (v := .ref (ad 1 0)) p_ad_0_0 rfl dX12_foretold_90 ?_
          refine lv_bipush (v := 11) hx hb dX12_foretold_93 (by decide) ?_
          obtain ⟨g_49789, p_ad_1_0, o_49790⟩ := I.opi (k := 1) (j := 0) (by decide) rfl
          have p_ad_1_0 : pt L_34 f_34 (ad 1 0) (.inl (G.2 0, 10568, .inl g_49789)) := p_ad_1_0
          obtain ⟨v_49791, ev_49791⟩ : ∃ z, z = g_49789 (11 : Int32).toNatClampNeg := ⟨_, rfl⟩
          refine pg_iald S Y (v := v_49791) p_ad_1_0 (by unfold vp_in; decide) ev_49791.symm dX12_foretold_95 ?_
          refine lv_goto (tgt := 100) hx hb dX12_foretold_96 (by decide) ?_
          refine lv_istore (lv' := [(4, .int v_49791), (0, .ref (ad 0 0)), (1, .int i1), (2, .int i2), (3, .int y34_3)]) hx hb dX12_foretold_100 hl (by decide) rfl (fun ls hl => ?_)
          refine lv_aload_n hx hb dX12_foretold_102 rfl (lv_at hl 1 rfl) ?_
          refine cVv (As := []) (rest := []) S Y (x_X12_putBack (l := l) I hB) cw_X12_putBack km12_402 p_ad_0_0 ok_X12.1 rfl rfl ⟨Nat.le_of_ble_eq_true rfl, Nat.le_of_ble_eq_true rfl⟩ hl.1 rfl (Nat.le_of_ble_eq_true rfl) ⟨Nat.le_of_ble_eq_true rfl, Nat.le_of_ble_eq_true rfl⟩ dX12_foretold_103 (fun L_49792 f_49793 H locs I Y => ?_)
          refine lv_iload hx hb dX12_foretold_106 (lv_at hl 0 rfl) ?_
          exact prI (post := fun r L1 f1 => SH (spM (IA 0 0 14 9999 w) pi (EQ g0) LDa) nnM G ad L1 f1) S Y rfl (by decide) (by decide) hA1 I dX12_foretold_108
      · have B_49748 : bn 0 59 y34_4 := bn_w (bn_gtr c_49746 b34_i1 b_y34_4) (by decide)
        refine lv_aload_n hx hb dX12_foretold_40 rfl (lv_at hl 0 rfl) ?_
        obtain ⟨v_49794, v_49796, v_49798, v_49800, v_49802, v_49804, v_49806, v_49808, v_49809, v_49811, v_49813, v_49815, v_49817, v_49819, v_49821, v_49823, v_49825, v_49827, p_ad_0_0, b_49795, b_49797, b_49799, b_49801, b_49803, b_49805, b_49807, b_49810, b_49812, b_49814, b_49816, b_49818, b_49820, b_49822, b_49824, b_49826, b_49828⟩ := opnM_0 (j := 0) I (by decide)
        have p_ad_0_0 : pt L_34 f_34 (ad 0 0) (.inr (12, [.ref (ad 1 0), .ref (ad 2 0), .ref (ad 3 0), .ref (ad 4 0), .int v_49794, .int v_49796, .int v_49798, .int v_49800, .int v_49802, .int v_49804, .int v_49806, .long v_49808, .int v_49809, .int v_49811, .int v_49813, .ref (ad 5 0), .ref (ad 6 0), .int v_49815, .int v_49817, .int v_49819, .int v_49821, .int v_49823, .ref (ad 7 0), .ref (ad 8 0), .ref (ad 9 0), .int v_49825, .ref (ad 10 0), .ref (ad 11 0), .ref (ad 12 0), .ref (ad 13 0), .int v_49827, .ref (ad 14 0)])) := p_ad_0_0
        refine pg_get S Y ok_X12 0 (by decide) kf12_7 (v := .ref (ad 1 0)) p_ad_0_0 rfl dX12_foretold_41 ?_
        refine lv_bipush (v := 10) hx hb dX12_foretold_44 (by decide) ?_
        obtain ⟨g_49829, p_ad_1_0, o_49830⟩ := I.opi (k := 1) (j := 0) (by decide) rfl
        have p_ad_1_0 : pt L_34 f_34 (ad 1 0) (.inl (G.2 0, 10568, .inl g_49829)) := p_ad_1_0
        obtain ⟨v_49831, ev_49831⟩ : ∃ z, z = g_49829 (10 : Int32).toNatClampNeg := ⟨_, rfl⟩
        refine pg_iald S Y (v := v_49831) p_ad_1_0 (by unfold vp_in; decide) ev_49831.symm dX12_foretold_46 ?_
        have bv_49831 : bn 0 9999 v_49831 := bn_eq ev_49831 (IA_10 o_49830)
        refine lv_sipush (v := 9999) hx hb dX12_foretold_47 (by decide) ?_
        refine lv_icmp_ne (tgt := 56) hx hb dX12_foretold_50 (by decide) (fun c_49832 => ?_) (fun c_49832 => ?_)
        · have B_49833 : bn 0 9998 v_49831 := bn_w (bn_neu c_49832 bv_49831 (show bn 9999 9999 (9999 : Int32) from bn_k (by decide))) (by decide)
          have o_49835 : (IA 0 0 14 9998 w) g_49829 := (IA_dh o_49830 (by rw [show g_49829 10 = v_49831 from ev_49831.symm]; exact bn_w B_49833 (by decide)))
          have I := I.castS (sp' := spM (IA 0 0 14 9998 w) pi (EQ g0) LDa) (k := 1) (j := 0) (by decide) p_ad_1_0 (okE_a (g := g_49829) o_49835) pAC
          refine lv_aload_n hx hb dX12_foretold_56 rfl (lv_at hl 0 rfl) ?_
          refine cVv (As := []) (rest := []) S Y (x_X12_pass (l := l) I (BB_dh hB (by decide)) hX) cw_X12_pass km12_357 p_ad_0_0 ok_X12.1 rfl rfl ⟨Nat.le_of_ble_eq_true rfl, Nat.le_of_ble_eq_true rfl⟩ hl.1 rfl (Nat.le_of_ble_eq_true rfl) ⟨Nat.le_of_ble_eq_true rfl, Nat.le_of_ble_eq_true rfl⟩ dX12_foretold_57 (fun L_49836 f_49837 H locs I Y => ?_)
          refine lv_iload_n hx hb dX12_foretold_60 rfl (lv_at hl 3 rfl) ?_
          refine lv_iload_n hx hb dX12_foretold_61 rfl (lv_at hl 2 rfl) ?_
          refine lv_iconst (v := (-1)) hx hb dX12_foretold_62 (by decide) ?_
          refine lv_icmp_ne (tgt := 70) hx hb dX12_foretold_63 (by decide) (fun c_49838 => ?_) (fun c_49838 => ?_)
          · have B_49839 : bn 0 5 i2 := bn_w (bn_nel c_49838 b34_i2 (show bn (-1) (-1) ((-1) : Int32) from bn_k (by decide))) (by decide)
            refine lv_aload_n hx hb dX12_foretold_70 rfl (lv_at hl 0 rfl) ?_
            obtain ⟨v_49841, v_49843, v_49845, v_49847, v_49849, v_49851, v_49853, v_49855, v_49856, v_49858, v_49860, v_49862, v_49864, v_49866, v_49868, v_49870, v_49872, v_49874, p_ad_0_0, b_49842, b_49844, b_49846, b_49848, b_49850, b_49852, b_49854, b_49857, b_49859, b_49861, b_49863, b_49865, b_49867, b_49869, b_49871, b_49873, b_49875⟩ := opnM_0 (j := 0) I (by decide)
            have p_ad_0_0 : pt L_49836 f_49837 (ad 0 0) (.inr (12, [.ref (ad 1 0), .ref (ad 2 0), .ref (ad 3 0), .ref (ad 4 0), .int v_49841, .int v_49843, .int v_49845, .int v_49847, .int v_49849, .int v_49851, .int v_49853, .long v_49855, .int v_49856, .int v_49858, .int v_49860, .ref (ad 5 0), .ref (ad 6 0), .int v_49862, .int v_49864, .int v_49866, .int v_49868, .int v_49870, .ref (ad 7 0), .ref (ad 8 0), .ref (ad 9 0), .int v_49872, .ref (ad 10 0), .ref (ad 11 0), .ref (ad 12 0), .ref (ad 13 0), .int v_49874, .ref (ad 14 0)])) := p_ad_0_0
            refine pg_get S Y ok_X12 26 (by decide) kf12_50 (v := .ref (ad 10 0)) p_ad_0_0 rfl dX12_foretold_71 ?_
            refine lv_iload_n hx hb dX12_foretold_74 rfl (lv_at hl 2 rfl) ?_
            obtain ⟨g_49876, p_ad_10_0, o_49877⟩ := I.opi (k := 10) (j := 0) (by decide) rfl
            have p_ad_10_0 : pt L_49836 f_49837 (ad 10 0) (.inl (G.2 0, 6, .inl g_49876)) := p_ad_10_0
            obtain ⟨v_49878, ev_49878⟩ : ∃ z, z = g_49876 (i2 : Int32).toNatClampNeg := ⟨_, rfl⟩
            refine pg_iald S Y (v := v_49878) p_ad_10_0 (vp_bn B_49839 (by decide)) ev_49878.symm dX12_foretold_75 ?_
            refine lv_iadd hx hb dX12_foretold_76 ?_
            refine lv_topi (fun x_49879 ex_49879 => ?_)
            refine lv_istore_n (lv' := [(3, .int x_49879), (0, .ref (ad 0 0)), (1, .int i1), (2, .int i2), (4, .int y34_4)]) hx hb dX12_foretold_77 rfl hl (by decide) rfl (fun ls hl => ?_)
            obtain ⟨x_49880, ex_49880⟩ : ∃ z : Int32, z = y34_4 + 1 := ⟨_, rfl⟩
            refine lv_iinc (v := x_49880) (lv' := [(4, .int x_49880), (3, .int x_49879), (0, .ref (ad 0 0)), (1, .int i1), (2, .int i2)]) hx hb dX12_foretold_78 hl (k := 4) rfl (by rw [ex_49880]; rfl) (by decide) rfl (fun ls hl => ?_)
            refine lv_goto (tgt := 34) hx hb dX12_foretold_81 (by decide) ?_
            exact ih34 _ (by rw [← hm34]; exact ms_up (m := 1) ex_49880 (show bn 1 1 (1 : Int32) from bn_k (by decide)) B_49748 (bn_w (bn_eq ex_49880 (bn_add B_49748 (show bn 1 1 (1 : Int32) from bn_k (by decide)) (by decide))) (by decide) : bn 0 60 x_49880) (by decide)) x_49879 x_49880 _ _  _ _ _ I (bn_w (bn_eq ex_49880 (bn_add B_49748 (show bn 1 1 (1 : Int32) from bn_k (by decide)) (by decide))) (by decide)) (bn_w b34_i1 (by decide)) (bn_w B_49839 (by decide)) rfl Y (lv_sub hl [2, 3, 4, 1, 0] rfl)
          · have B_49840 : bn (-1) (-1) i2 := bn_w (bn_eq c_49838 (show bn (-1) (-1) ((-1) : Int32) from bn_k (by decide))) (by decide)
            refine lv_iconst (v := 0) hx hb dX12_foretold_66 (by decide) ?_
            refine lv_goto (tgt := 76) hx hb dX12_foretold_67 (by decide) ?_
            refine lv_iadd hx hb dX12_foretold_76 ?_
            refine lv_topi (fun x_49881 ex_49881 => ?_)
            refine lv_istore_n (lv' := [(3, .int x_49881), (0, .ref (ad 0 0)), (1, .int i1), (2, .int i2), (4, .int y34_4)]) hx hb dX12_foretold_77 rfl hl (by decide) rfl (fun ls hl => ?_)
            obtain ⟨x_49882, ex_49882⟩ : ∃ z : Int32, z = y34_4 + 1 := ⟨_, rfl⟩
            refine lv_iinc (v := x_49882) (lv' := [(4, .int x_49882), (3, .int x_49881), (0, .ref (ad 0 0)), (1, .int i1), (2, .int i2)]) hx hb dX12_foretold_78 hl (k := 4) rfl (by rw [ex_49882]; rfl) (by decide) rfl (fun ls hl => ?_)
            refine lv_goto (tgt := 34) hx hb dX12_foretold_81 (by decide) ?_
            exact ih34 _ (by rw [← hm34]; exact ms_up (m := 1) ex_49882 (show bn 1 1 (1 : Int32) from bn_k (by decide)) B_49748 (bn_w (bn_eq ex_49882 (bn_add B_49748 (show bn 1 1 (1 : Int32) from bn_k (by decide)) (by decide))) (by decide) : bn 0 60 x_49882) (by decide)) x_49881 x_49882 _ _  _ _ _ I (bn_w (bn_eq ex_49882 (bn_add B_49748 (show bn 1 1 (1 : Int32) from bn_k (by decide)) (by decide))) (by decide)) (bn_w b34_i1 (by decide)) (bn_w B_49840 (by decide)) rfl Y (lv_sub hl [2, 3, 4, 1, 0] rfl)
        · have B_49834 : bn 9999 9999 v_49831 := bn_w (bn_eq c_49832 (show bn 9999 9999 (9999 : Int32) from bn_k (by decide))) (by decide)
          refine lv_goto (tgt := 78) hx hb dX12_foretold_53 (by decide) ?_
          obtain ⟨x_49883, ex_49883⟩ : ∃ z : Int32, z = y34_4 + 1 := ⟨_, rfl⟩
          refine lv_iinc (v := x_49883) (lv' := [(4, .int x_49883), (0, .ref (ad 0 0)), (1, .int i1), (2, .int i2), (3, .int y34_3)]) hx hb dX12_foretold_78 hl (k := 4) rfl (by rw [ex_49883]; rfl) (by decide) rfl (fun ls hl => ?_)
          refine lv_goto (tgt := 34) hx hb dX12_foretold_81 (by decide) ?_
          exact ih34 _ (by rw [← hm34]; exact ms_up (m := 1) ex_49883 (show bn 1 1 (1 : Int32) from bn_k (by decide)) B_49748 (bn_w (bn_eq ex_49883 (bn_add B_49748 (show bn 1 1 (1 : Int32) from bn_k (by decide)) (by decide))) (by decide) : bn 0 60 x_49883) (by decide)) y34_3 x_49883 _ _  _ _ _ I (bn_w (bn_eq ex_49883 (bn_add B_49748 (show bn 1 1 (1 : Int32) from bn_k (by decide)) (by decide))) (by decide)) (bn_w b34_i1 (by decide)) (bn_w b34_i2 (by decide)) rfl Y (lv_sub hl [1, 2, 3, 4, 0] rfl)
  refine lv_iload_n hx hb dX12_foretold_0 rfl (lv_at hl 1 rfl) ?_
  refine lv_iconst (v := 1) hx hb dX12_foretold_1 (by decide) ?_
  refine lv_bipush (v := 60) hx hb dX12_foretold_2 (by decide) ?_
  refine cSp (As := [.int i1, .int 1, .int 60]) (rest := []) S Y (x_X12_isIn (l := l) ) cw_X12_isIn km12_69 rfl ⟨Nat.le_of_ble_eq_true rfl, Nat.le_of_ble_eq_true rfl⟩ hl.1 rfl (Nat.le_of_ble_eq_true rfl) ⟨Nat.le_of_ble_eq_true rfl, Nat.le_of_ble_eq_true rfl⟩ dX12_foretold_4 (fun r_49884 H locs er_49884 Y => ?_)
  refine lv_if_eq (tgt := 23) hx hb dX12_foretold_7 (by decide) (fun c_49885 => ?_) (fun c_49885 => ?_)
  · have B_49886 : bn 0 0 r_49884 := bn_w (bn_eq c_49885 (show bn 0 0 (0 : Int32) from bn_k (by decide))) (by decide)
    refine lv_iconst (v := (-1)) hx hb dX12_foretold_23 (by decide) ?_
    exact prI (post := fun r L1 f1 => SH (spM (IA 0 0 14 9999 w) pi (EQ g0) LDa) nnM G ad L1 f1) S Y rfl (by decide) (by decide) hA1 I dX12_foretold_24
  · have B_49887 : bn 1 60 i1 := bn_w (bn_i (bn_any i1) (bn_btw (er_49884.2 c_49885).1 (er_49884.2 c_49885).2 (show bn 1 1 (1 : Int32) from bn_k (by decide)) (show bn 60 60 (60 : Int32) from bn_k (by decide)))) (by decide)
    have B_49888 : bn 1 1 r_49884 := bn_w (bn_nel c_49885 er_49884.1 (show bn 0 0 (0 : Int32) from bn_k (by decide))) (by decide)
    refine lv_iload_n hx hb dX12_foretold_10 rfl (lv_at hl 2 rfl) ?_
    refine lv_iconst (v := (-1)) hx hb dX12_foretold_11 (by decide) ?_
    refine lv_icmp_eq (tgt := 25) hx hb dX12_foretold_12 (by decide) (fun c_49889 => ?_) (fun c_49889 => ?_)
    · have B_49890 : bn (-1) (-1) i2 := bn_w (bn_eq c_49889 (show bn (-1) (-1) ((-1) : Int32) from bn_k (by decide))) (by decide)
      refine lv_aload_n hx hb dX12_foretold_25 rfl (lv_at hl 0 rfl) ?_
      refine cVv (As := []) (rest := []) S Y (x_X12_setAside (l := l) I hB) cw_X12_setAside km12_399 (I.opo (k := 0) (j := 0) (by decide) rfl).choose_spec.1 ok_X12.1 rfl rfl ⟨Nat.le_of_ble_eq_true rfl, Nat.le_of_ble_eq_true rfl⟩ hl.1 rfl (Nat.le_of_ble_eq_true rfl) ⟨Nat.le_of_ble_eq_true rfl, Nat.le_of_ble_eq_true rfl⟩ dX12_foretold_26 (fun L_49891 f_49892 H locs I Y => ?_)
      refine lv_iconst (v := 0) hx hb dX12_foretold_29 (by decide) ?_
      refine lv_istore_n (lv' := [(3, .int 0), (0, .ref (ad 0 0)), (1, .int i1), (2, .int i2)]) hx hb dX12_foretold_30 rfl hl (by decide) rfl (fun ls hl => ?_)
      refine lv_iconst (v := 0) hx hb dX12_foretold_31 (by decide) ?_
      refine lv_istore (lv' := [(4, .int 0), (3, .int 0), (0, .ref (ad 0 0)), (1, .int i1), (2, .int i2)]) hx hb dX12_foretold_32 hl (by decide) rfl (fun ls hl => ?_)
      exact J_34 _ 0 0 _ _  _ _ _ I (bn_w (show bn 0 0 (0 : Int32) from bn_k (by decide)) (by decide)) (bn_w B_49887 (by decide)) (bn_w B_49890 (by decide)) rfl Y (lv_sub hl [2, 3, 4, 1, 0] rfl)
    · refine lv_aload_n hx hb dX12_foretold_15 rfl (lv_at hl 0 rfl) ?_
      refine lv_iload_n hx hb dX12_foretold_16 rfl (lv_at hl 2 rfl) ?_
      refine cVp (As := [.int i2]) (rest := []) S Y (x_X12_isOne (l := l) I hB) cw_X12_isOne km12_323 (I.opo (k := 0) (j := 0) (by decide) rfl).choose_spec.1 ok_X12.1 rfl rfl ⟨Nat.le_of_ble_eq_true rfl, Nat.le_of_ble_eq_true rfl⟩ hl.1 rfl (Nat.le_of_ble_eq_true rfl) ⟨Nat.le_of_ble_eq_true rfl, Nat.le_of_ble_eq_true rfl⟩ dX12_foretold_17 (fun r_49893 H locs er_49893 Y => ?_)
      refine lv_if_ne (tgt := 25) hx hb dX12_foretold_20 (by decide) (fun c_49894 => ?_) (fun c_49894 => ?_)
      · have B_49895 : bn 0 5 i2 := bn_w (bn_i (bn_any i2) (er_49893.2 c_49894)) (by decide)
        have B_49896 : bn 1 1 r_49893 := bn_w (bn_nel c_49894 er_49893.1 (show bn 0 0 (0 : Int32) from bn_k (by decide))) (by decide)
        refine lv_aload_n hx hb dX12_foretold_25 rfl (lv_at hl 0 rfl) ?_
        refine cVv (As := []) (rest := []) S Y (x_X12_setAside (l := l) I hB) cw_X12_setAside km12_399 (I.opo (k := 0) (j := 0) (by decide) rfl).choose_spec.1 ok_X12.1 rfl rfl ⟨Nat.le_of_ble_eq_true rfl, Nat.le_of_ble_eq_true rfl⟩ hl.1 rfl (Nat.le_of_ble_eq_true rfl) ⟨Nat.le_of_ble_eq_true rfl, Nat.le_of_ble_eq_true rfl⟩ dX12_foretold_26 (fun L_49898 f_49899 H locs I Y => ?_)
        refine lv_iconst (v := 0) hx hb dX12_foretold_29 (by decide) ?_
        refine lv_istore_n (lv' := [(3, .int 0), (0, .ref (ad 0 0)), (1, .int i1), (2, .int i2)]) hx hb dX12_foretold_30 rfl hl (by decide) rfl (fun ls hl => ?_)
        refine lv_iconst (v := 0) hx hb dX12_foretold_31 (by decide) ?_
        refine lv_istore (lv' := [(4, .int 0), (3, .int 0), (0, .ref (ad 0 0)), (1, .int i1), (2, .int i2)]) hx hb dX12_foretold_32 hl (by decide) rfl (fun ls hl => ?_)
        exact J_34 _ 0 0 _ _  _ _ _ I (bn_w (show bn 0 0 (0 : Int32) from bn_k (by decide)) (by decide)) (bn_w B_49887 (by decide)) (bn_w B_49895 (by decide)) rfl Y (lv_sub hl [2, 3, 4, 1, 0] rfl)
      · have B_49897 : bn 0 0 r_49893 := bn_w (bn_eq c_49894 (show bn 0 0 (0 : Int32) from bn_k (by decide))) (by decide)
        refine lv_iconst (v := (-1)) hx hb dX12_foretold_23 (by decide) ?_
        exact prI (post := fun r L1 f1 => SH (spM (IA 0 0 14 9999 w) pi (EQ g0) LDa) nnM G ad L1 f1) S Y rfl (by decide) (by decide) hA1 I dX12_foretold_24
set_option maxHeartbeats 4000000 in
set_option maxRecDepth 100000 in
theorem x_X12_firstAche {l : Launch} {G : GG}  {L : List Nat} {f : HF} {ad : Nat → Nat → Nat} {w : WW} {pi : PIT} {g0 : Nat → Int32} {i1 : Int32} (I : SH (spM (IA 0 0 14 9999 w) pi (EQ g0) LDa) nnM G ad L f) (hB : BBp 0 0 14 9999 w) (hX : TX g0) : PMi l yX12_firstAche cX12_firstAche 4 .int 9 0 0 G [.ref (ad 0 0), .int i1] L f (fun r L1 f1 => SH (spM (IA 0 0 14 9999 w) pi (EQ g0) LDa) nnM G ad L1 f1) := by
  refine PMi.of (post := fun r L1 f1 => SH (spM (IA 0 0 14 9999 w) pi (EQ g0) LDa) nnM G ad L1 f1) (own := RX12) (by decide) rfl (Nat.le_of_ble_eq_true rfl) (fun sz p e s m args below meth c A ls hA1 hname S Y hl => ?_)
  have hx := S.hx
  have hb := S.hb
  have hl : lv_has ls 4 [(0, .ref (ad 0 0)), (1, .int i1)] := hl
  have J_18 : ∀ (n18 : Nat) (y18_2 y18_3 : Int32) (L_18 : List Nat) (f_18 : HF) (H : Heap) (locs : List Loc) (ls : Array Slot), (SH (spM (IA 0 0 14 9999 w) pi (EQ g0) LDa) nnM G ad L_18 f_18) → (bn (-1) 60 y18_2) → (bn 1 61 y18_3) → (bn 0 5 i1) → (((61 : Int) - y18_3.toInt).toNat = n18) → (DY G A s [] L_18 f_18 H locs) → (lv_has ls 4 [(0, .ref (ad 0 0)), (1, .int i1), (2, .int y18_2), (3, .int y18_3)]) → W p l e (rmD 9 0 0) s m args below meth c H locs (0) (0) (MQ below (va_Qi (fun r (u : List Nat × HF) => (fun r L1 f1 => SH (spM (IA 0 0 14 9999 w) pi (EQ g0) LDa) nnM G ad L1 f1) r u.1 u.2) (fun u t => pOut G (va_A (va_pl L f) sz) u.1 u.2 t) (va_A (va_pl L f) sz)) args s 0 0 A) (F0 m 18 ls []) := by
    intro n18
    induction n18 using Nat.strongRecOn with
    | _ n18 ih18 =>
      intro y18_2 y18_3 L_18 f_18 H locs ls I b_y18_2 b_y18_3 b18_i1 hm18 Y hl
      refine lv_iload_n hx hb dX12_firstAche_18 rfl (lv_at hl 3 rfl) ?_
      refine lv_bipush (v := 60) hx hb dX12_firstAche_19 (by decide) ?_
      refine lv_icmp_gt (tgt := 63) hx hb dX12_firstAche_21 (by decide) (fun c_52363 => ?_) (fun c_52363 => ?_)
      · have B_52364 : bn 61 61 y18_3 := bn_w (bn_ltr c_52363 (show bn 60 60 (60 : Int32) from bn_k (by decide)) b_y18_3) (by decide)
        refine lv_aload_n hx hb dX12_firstAche_63 rfl (lv_at hl 0 rfl) ?_
        refine cVv (As := []) (rest := []) S Y (x_X12_putBack (l := l) I hB) cw_X12_putBack km12_402 (I.opo (k := 0) (j := 0) (by decide) rfl).choose_spec.1 ok_X12.1 rfl rfl ⟨Nat.le_of_ble_eq_true rfl, Nat.le_of_ble_eq_true rfl⟩ hl.1 rfl (Nat.le_of_ble_eq_true rfl) ⟨Nat.le_of_ble_eq_true rfl, Nat.le_of_ble_eq_true rfl⟩ dX12_firstAche_64 (fun L_52366 f_52367 H locs I Y => ?_)
        refine lv_iload_n hx hb dX12_firstAche_67 rfl (lv_at hl 2 rfl) ?_
        exact prI (post := fun r L1 f1 => SH (spM (IA 0 0 14 9999 w) pi (EQ g0) LDa) nnM G ad L1 f1) S Y rfl (by decide) (by decide) hA1 I dX12_firstAche_68
      · have B_52365 : bn 1 60 y18_3 := bn_w (bn_ger c_52363 (show bn 60 60 (60 : Int32) from bn_k (by decide)) b_y18_3) (by decide)
        refine lv_iload_n hx hb dX12_firstAche_24 rfl (lv_at hl 2 rfl) ?_
        refine lv_iconst (v := (-1)) hx hb dX12_firstAche_25 (by decide) ?_
        refine lv_icmp_ne (tgt := 63) hx hb dX12_firstAche_26 (by decide) (fun c_52368 => ?_) (fun c_52368 => ?_)
        · have B_52369 : bn 0 60 y18_2 := bn_w (bn_nel c_52368 b_y18_2 (show bn (-1) (-1) ((-1) : Int32) from bn_k (by decide))) (by decide)
          refine lv_aload_n hx hb dX12_firstAche_63 rfl (lv_at hl 0 rfl) ?_
          refine cVv (As := []) (rest := []) S Y (x_X12_putBack (l := l) I hB) cw_X12_putBack km12_402 (I.opo (k := 0) (j := 0) (by decide) rfl).choose_spec.1 ok_X12.1 rfl rfl ⟨Nat.le_of_ble_eq_true rfl, Nat.le_of_ble_eq_true rfl⟩ hl.1 rfl (Nat.le_of_ble_eq_true rfl) ⟨Nat.le_of_ble_eq_true rfl, Nat.le_of_ble_eq_true rfl⟩ dX12_firstAche_64 (fun L_52371 f_52372 H locs I Y => ?_)
          refine lv_iload_n hx hb dX12_firstAche_67 rfl (lv_at hl 2 rfl) ?_
          exact prI (post := fun r L1 f1 => SH (spM (IA 0 0 14 9999 w) pi (EQ g0) LDa) nnM G ad L1 f1) S Y rfl (by decide) (by decide) hA1 I dX12_firstAche_68
        · have B_52370 : bn (-1) (-1) y18_2 := bn_w (bn_eq c_52368 (show bn (-1) (-1) ((-1) : Int32) from bn_k (by decide))) (by decide)
          refine lv_aload_n hx hb dX12_firstAche_29 rfl (lv_at hl 0 rfl) ?_
          obtain ⟨v_52373, v_52375, v_52377, v_52379, v_52381, v_52383, v_52385, v_52387, v_52388, v_52390, v_52392, v_52394, v_52396, v_52398, v_52400, v_52402, v_52404, v_52406, p_ad_0_0, b_52374, b_52376, b_52378, b_52380, b_52382, b_52384, b_52386, b_52389, b_52391, b_52393, b_52395, b_52397, b_52399, b_52401, b_52403, b_52405, b_52407⟩ := opnM_0 (j := 0) I (by decide)
          have p_ad_0_0 : pt L_18 f_18 (ad 0 0) (.inr (12, [.ref (ad 1 0), .ref (ad 2 0), .ref (ad 3 0), .ref (ad 4 0), .int v_52373, .int v_52375, .int v_52377, .int v_52379, .int v_52381, .int v_52383, .int v_52385, .long v_52387, .int v_52388, .int v_52390, .int v_52392, .ref (ad 5 0), .ref (ad 6 0), .int v_52394, .int v_52396, .int v_52398, .int v_52400, .int v_52402, .ref (ad 7 0), .ref (ad 8 0), .ref (ad 9 0), .int v_52404, .ref (ad 10 0), .ref (ad 11 0), .ref (ad 12 0), .ref (ad 13 0), .int v_52406, .ref (ad 14 0)])) := p_ad_0_0
          refine pg_get S Y ok_X12 0 (by decide) kf12_7 (v := .ref (ad 1 0)) p_ad_0_0 rfl dX12_firstAche_30 ?_
          refine lv_bipush (v := 10) hx hb dX12_firstAche_33 (by decide) ?_
          obtain ⟨g_52408, p_ad_1_0, o_52409⟩ := I.opi (k := 1) (j := 0) (by decide) rfl
          have p_ad_1_0 : pt L_18 f_18 (ad 1 0) (.inl (G.2 0, 10568, .inl g_52408)) := p_ad_1_0
          obtain ⟨v_52410, ev_52410⟩ : ∃ z, z = g_52408 (10 : Int32).toNatClampNeg := ⟨_, rfl⟩
          refine pg_iald S Y (v := v_52410) p_ad_1_0 (by unfold vp_in; decide) ev_52410.symm dX12_firstAche_35 ?_
          have bv_52410 : bn 0 9999 v_52410 := bn_eq ev_52410 (IA_10 o_52409)
          refine lv_sipush (v := 9999) hx hb dX12_firstAche_36 (by decide) ?_
          refine lv_icmp_ge (tgt := 63) hx hb dX12_firstAche_39 (by decide) (fun c_52411 => ?_) (fun c_52411 => ?_)
          · have B_52412 : bn 9999 9999 v_52410 := bn_w (bn_ler c_52411 (show bn 9999 9999 (9999 : Int32) from bn_k (by decide)) bv_52410) (by decide)
            refine lv_aload_n hx hb dX12_firstAche_63 rfl (lv_at hl 0 rfl) ?_
            refine cVv (As := []) (rest := []) S Y (x_X12_putBack (l := l) I hB) cw_X12_putBack km12_402 p_ad_0_0 ok_X12.1 rfl rfl ⟨Nat.le_of_ble_eq_true rfl, Nat.le_of_ble_eq_true rfl⟩ hl.1 rfl (Nat.le_of_ble_eq_true rfl) ⟨Nat.le_of_ble_eq_true rfl, Nat.le_of_ble_eq_true rfl⟩ dX12_firstAche_64 (fun L_52414 f_52415 H locs I Y => ?_)
            refine lv_iload_n hx hb dX12_firstAche_67 rfl (lv_at hl 2 rfl) ?_
            exact prI (post := fun r L1 f1 => SH (spM (IA 0 0 14 9999 w) pi (EQ g0) LDa) nnM G ad L1 f1) S Y rfl (by decide) (by decide) hA1 I dX12_firstAche_68
          · have B_52413 : bn 0 9998 v_52410 := bn_w (bn_gtr c_52411 (show bn 9999 9999 (9999 : Int32) from bn_k (by decide)) bv_52410) (by decide)
            have o_52416 : (IA 0 0 14 9998 w) g_52408 := (IA_dh o_52409 (by rw [show g_52408 10 = v_52410 from ev_52410.symm]; exact bn_w B_52413 (by decide)))
            have I := I.castS (sp' := spM (IA 0 0 14 9998 w) pi (EQ g0) LDa) (k := 1) (j := 0) (by decide) p_ad_1_0 (okE_a (g := g_52408) o_52416) pAC
            refine lv_aload_n hx hb dX12_firstAche_42 rfl (lv_at hl 0 rfl) ?_
            refine cVv (As := []) (rest := []) S Y (x_X12_pass (l := l) I (BB_dh hB (by decide)) hX) cw_X12_pass km12_357 p_ad_0_0 ok_X12.1 rfl rfl ⟨Nat.le_of_ble_eq_true rfl, Nat.le_of_ble_eq_true rfl⟩ hl.1 rfl (Nat.le_of_ble_eq_true rfl) ⟨Nat.le_of_ble_eq_true rfl, Nat.le_of_ble_eq_true rfl⟩ dX12_firstAche_43 (fun L_52417 f_52418 H locs I Y => ?_)
            refine lv_aload_n hx hb dX12_firstAche_46 rfl (lv_at hl 0 rfl) ?_
            obtain ⟨v_52419, v_52421, v_52423, v_52425, v_52427, v_52429, v_52431, v_52433, v_52434, v_52436, v_52438, v_52440, v_52442, v_52444, v_52446, v_52448, v_52450, v_52452, p_ad_0_0, b_52420, b_52422, b_52424, b_52426, b_52428, b_52430, b_52432, b_52435, b_52437, b_52439, b_52441, b_52443, b_52445, b_52447, b_52449, b_52451, b_52453⟩ := opnM_0 (j := 0) I (by decide)
            have p_ad_0_0 : pt L_52417 f_52418 (ad 0 0) (.inr (12, [.ref (ad 1 0), .ref (ad 2 0), .ref (ad 3 0), .ref (ad 4 0), .int v_52419, .int v_52421, .int v_52423, .int v_52425, .int v_52427, .int v_52429, .int v_52431, .long v_52433, .int v_52434, .int v_52436, .int v_52438, .ref (ad 5 0), .ref (ad 6 0), .int v_52440, .int v_52442, .int v_52444, .int v_52446, .int v_52448, .ref (ad 7 0), .ref (ad 8 0), .ref (ad 9 0), .int v_52450, .ref (ad 10 0), .ref (ad 11 0), .ref (ad 12 0), .ref (ad 13 0), .int v_52452, .ref (ad 14 0)])) := p_ad_0_0
            refine pg_get S Y ok_X12 26 (by decide) kf12_50 (v := .ref (ad 10 0)) p_ad_0_0 rfl dX12_firstAche_47 ?_
            refine lv_iload_n hx hb dX12_firstAche_50 rfl (lv_at hl 1 rfl) ?_
            obtain ⟨g_52454, p_ad_10_0, o_52455⟩ := I.opi (k := 10) (j := 0) (by decide) rfl
            have p_ad_10_0 : pt L_52417 f_52418 (ad 10 0) (.inl (G.2 0, 6, .inl g_52454)) := p_ad_10_0
            obtain ⟨v_52456, ev_52456⟩ : ∃ z, z = g_52454 (i1 : Int32).toNatClampNeg := ⟨_, rfl⟩
            refine pg_iald S Y (v := v_52456) p_ad_10_0 (vp_bn b18_i1 (by decide)) ev_52456.symm dX12_firstAche_51 ?_
            refine lv_if_le (tgt := 57) hx hb dX12_firstAche_52 (by decide) (fun c_52457 => ?_) (fun c_52457 => ?_)
            · have B_52458 : bn (-2147483648) 0 v_52456 := bn_w (bn_lel c_52457 (bn_any v_52456) (show bn 0 0 (0 : Int32) from bn_k (by decide))) (by decide)
              obtain ⟨x_52460, ex_52460⟩ : ∃ z : Int32, z = y18_3 + 1 := ⟨_, rfl⟩
              refine lv_iinc (v := x_52460) (lv' := [(3, .int x_52460), (0, .ref (ad 0 0)), (1, .int i1), (2, .int y18_2)]) hx hb dX12_firstAche_57 hl (k := 3) rfl (by rw [ex_52460]; rfl) (by decide) rfl (fun ls hl => ?_)
              refine lv_goto (tgt := 18) hx hb dX12_firstAche_60 (by decide) ?_
              exact ih18 _ (by rw [← hm18]; exact ms_up (m := 1) ex_52460 (show bn 1 1 (1 : Int32) from bn_k (by decide)) B_52365 (bn_w (bn_eq ex_52460 (bn_add B_52365 (show bn 1 1 (1 : Int32) from bn_k (by decide)) (by decide))) (by decide) : bn 1 61 x_52460) (by decide)) y18_2 x_52460 _ _  _ _ _ I (bn_w B_52370 (by decide)) (bn_w (bn_eq ex_52460 (bn_add B_52365 (show bn 1 1 (1 : Int32) from bn_k (by decide)) (by decide))) (by decide)) (bn_w b18_i1 (by decide)) rfl Y (lv_sub hl [1, 2, 3, 0] rfl)
            · have B_52459 : bn 1 2147483647 v_52456 := bn_w (bn_gtl c_52457 (bn_any v_52456) (show bn 0 0 (0 : Int32) from bn_k (by decide))) (by decide)
              refine lv_iload_n hx hb dX12_firstAche_55 rfl (lv_at hl 3 rfl) ?_
              refine lv_istore_n (lv' := [(2, .int y18_3), (0, .ref (ad 0 0)), (1, .int i1), (3, .int y18_3)]) hx hb dX12_firstAche_56 rfl hl (by decide) rfl (fun ls hl => ?_)
              obtain ⟨x_52461, ex_52461⟩ : ∃ z : Int32, z = y18_3 + 1 := ⟨_, rfl⟩
              refine lv_iinc (v := x_52461) (lv' := [(3, .int x_52461), (2, .int y18_3), (0, .ref (ad 0 0)), (1, .int i1)]) hx hb dX12_firstAche_57 hl (k := 3) rfl (by rw [ex_52461]; rfl) (by decide) rfl (fun ls hl => ?_)
              refine lv_goto (tgt := 18) hx hb dX12_firstAche_60 (by decide) ?_
              exact ih18 _ (by rw [← hm18]; exact ms_up (m := 1) ex_52461 (show bn 1 1 (1 : Int32) from bn_k (by decide)) B_52365 (bn_w (bn_eq ex_52461 (bn_add B_52365 (show bn 1 1 (1 : Int32) from bn_k (by decide)) (by decide))) (by decide) : bn 1 61 x_52461) (by decide)) y18_3 x_52461 _ _  _ _ _ I (bn_w B_52365 (by decide)) (bn_w (bn_eq ex_52461 (bn_add B_52365 (show bn 1 1 (1 : Int32) from bn_k (by decide)) (by decide))) (by decide)) (bn_w b18_i1 (by decide)) rfl Y (lv_sub hl [2, 3, 1, 0] rfl)
  refine lv_aload_n hx hb dX12_firstAche_0 rfl (lv_at hl 0 rfl) ?_
  refine lv_iload_n hx hb dX12_firstAche_1 rfl (lv_at hl 1 rfl) ?_
  refine cVp (As := [.int i1]) (rest := []) S Y (x_X12_isOne (l := l) I hB) cw_X12_isOne km12_323 (I.opo (k := 0) (j := 0) (by decide) rfl).choose_spec.1 ok_X12.1 rfl rfl ⟨Nat.le_of_ble_eq_true rfl, Nat.le_of_ble_eq_true rfl⟩ hl.1 rfl (Nat.le_of_ble_eq_true rfl) ⟨Nat.le_of_ble_eq_true rfl, Nat.le_of_ble_eq_true rfl⟩ dX12_firstAche_2 (fun r_52462 H locs er_52462 Y => ?_)
  refine lv_if_ne (tgt := 10) hx hb dX12_firstAche_5 (by decide) (fun c_52463 => ?_) (fun c_52463 => ?_)
  · have B_52464 : bn 0 5 i1 := bn_w (bn_i (bn_any i1) (er_52462.2 c_52463)) (by decide)
    have B_52465 : bn 1 1 r_52462 := bn_w (bn_nel c_52463 er_52462.1 (show bn 0 0 (0 : Int32) from bn_k (by decide))) (by decide)
    refine lv_aload_n hx hb dX12_firstAche_10 rfl (lv_at hl 0 rfl) ?_
    refine cVv (As := []) (rest := []) S Y (x_X12_setAside (l := l) I hB) cw_X12_setAside km12_399 (I.opo (k := 0) (j := 0) (by decide) rfl).choose_spec.1 ok_X12.1 rfl rfl ⟨Nat.le_of_ble_eq_true rfl, Nat.le_of_ble_eq_true rfl⟩ hl.1 rfl (Nat.le_of_ble_eq_true rfl) ⟨Nat.le_of_ble_eq_true rfl, Nat.le_of_ble_eq_true rfl⟩ dX12_firstAche_11 (fun L_52467 f_52468 H locs I Y => ?_)
    refine lv_iconst (v := (-1)) hx hb dX12_firstAche_14 (by decide) ?_
    refine lv_istore_n (lv' := [(2, .int (-1)), (0, .ref (ad 0 0)), (1, .int i1)]) hx hb dX12_firstAche_15 rfl hl (by decide) rfl (fun ls hl => ?_)
    refine lv_iconst (v := 1) hx hb dX12_firstAche_16 (by decide) ?_
    refine lv_istore_n (lv' := [(3, .int 1), (2, .int (-1)), (0, .ref (ad 0 0)), (1, .int i1)]) hx hb dX12_firstAche_17 rfl hl (by decide) rfl (fun ls hl => ?_)
    exact J_18 _ (-1) 1 _ _  _ _ _ I (bn_w (show bn (-1) (-1) ((-1) : Int32) from bn_k (by decide)) (by decide)) (bn_w (show bn 1 1 (1 : Int32) from bn_k (by decide)) (by decide)) (bn_w B_52464 (by decide)) rfl Y (lv_sub hl [2, 3, 1, 0] rfl)
  · have B_52466 : bn 0 0 r_52462 := bn_w (bn_eq c_52463 (show bn 0 0 (0 : Int32) from bn_k (by decide))) (by decide)
    refine lv_iconst (v := (-1)) hx hb dX12_firstAche_8 (by decide) ?_
    exact prI (post := fun r L1 f1 => SH (spM (IA 0 0 14 9999 w) pi (EQ g0) LDa) nnM G ad L1 f1) S Y rfl (by decide) (by decide) hA1 I dX12_firstAche_9
