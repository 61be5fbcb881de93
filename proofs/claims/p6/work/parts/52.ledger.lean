theorem dX11_within_0 : decode cX11_within 0 = .ok (.iload_n 0, 1) := by decide +kernel
theorem dX11_within_1 : decode cX11_within 1 = .ok (.iload_n 1, 1) := by decide +kernel
theorem dX11_within_2 : decode cX11_within 2 = .ok (.if_icmp .lt 12, 3) := by decide +kernel
theorem dX11_within_14 : decode cX11_within 14 = .ok (.iconst 0, 1) := by decide +kernel
theorem dX11_within_15 : decode cX11_within 15 = .ok (.ireturn, 1) := by decide +kernel
theorem dX11_within_5 : decode cX11_within 5 = .ok (.iload_n 0, 1) := by decide +kernel
theorem dX11_within_6 : decode cX11_within 6 = .ok (.iload_n 2, 1) := by decide +kernel
theorem dX11_within_7 : decode cX11_within 7 = .ok (.if_icmp .gt 7, 3) := by decide +kernel
theorem dX11_within_10 : decode cX11_within 10 = .ok (.iconst 1, 1) := by decide +kernel
theorem dX11_within_11 : decode cX11_within 11 = .ok (.goto 4, 3) := by decide +kernel
theorem dX4_has_0 : decode cX4_has 0 = .ok (.iload_n 1, 1) := by decide +kernel
theorem dX4_has_1 : decode cX4_has 1 = .ok (.ifCond .lt 15, 3) := by decide +kernel
theorem dX4_has_16 : decode cX4_has 16 = .ok (.iconst 0, 1) := by decide +kernel
theorem dX4_has_17 : decode cX4_has 17 = .ok (.ireturn, 1) := by decide +kernel
theorem dX4_has_4 : decode cX4_has 4 = .ok (.iload_n 1, 1) := by decide +kernel
theorem dX4_has_5 : decode cX4_has 5 = .ok (.aload_n 0, 1) := by decide +kernel
theorem dX4_has_6 : decode cX4_has 6 = .ok (.getfield 28, 3) := by decide +kernel
theorem ok_X4 : clOK 4 RX4 TX4 7 tyX4 := ⟨rfl, fun w h => ⟨(show ∀ w ∈ u_ws RX4 TX4 7, w ∈ lw_tbl by decide +kernel) w h, (show ∀ w ∈ u_ws RX4 TX4 7, gw w = true by decide +kernel) w h⟩, tyX4_ok, nmX4⟩
theorem kf4_28 : inW (Cond.fieldLink RX4 28 "KneeOaths$Ledger" "oathCount" "I") := ⟨List.mem_of_getElem? (i := 162) (by decide +kernel), by decide +kernel⟩
theorem dX4_has_9 : decode cX4_has 9 = .ok (.if_icmp .ge 7, 3) := by decide +kernel
theorem dX4_has_12 : decode cX4_has 12 = .ok (.iconst 1, 1) := by decide +kernel
theorem dX4_has_13 : decode cX4_has 13 = .ok (.goto 4, 3) := by decide +kernel
theorem dX4_get_0 : decode cX4_get 0 = .ok (.iload_n 1, 1) := by decide +kernel
theorem dX4_get_1 : decode cX4_get 1 = .ok (.ifCond .lt 21, 3) := by decide +kernel
theorem dX4_get_22 : decode cX4_get 22 = .ok (.iconst (-1), 1) := by decide +kernel
theorem dX4_get_23 : decode cX4_get 23 = .ok (.ireturn, 1) := by decide +kernel
theorem dX4_get_4 : decode cX4_get 4 = .ok (.iload_n 1, 1) := by decide +kernel
theorem dX4_get_5 : decode cX4_get 5 = .ok (.aload_n 0, 1) := by decide +kernel
theorem dX4_get_6 : decode cX4_get 6 = .ok (.getfield 28, 3) := by decide +kernel
theorem dX4_get_9 : decode cX4_get 9 = .ok (.if_icmp .ge 13, 3) := by decide +kernel
theorem dX4_get_12 : decode cX4_get 12 = .ok (.iload_n 2, 1) := by decide +kernel
theorem dX4_get_13 : decode cX4_get 13 = .ok (.ifCond .lt 9, 3) := by decide +kernel
theorem dX4_get_16 : decode cX4_get 16 = .ok (.iload_n 2, 1) := by decide +kernel
theorem dX4_get_17 : decode cX4_get 17 = .ok (.bipush 7, 2) := by decide +kernel
theorem dX4_get_19 : decode cX4_get 19 = .ok (.if_icmp .lt 5, 3) := by decide +kernel
theorem dX4_get_24 : decode cX4_get 24 = .ok (.aload_n 0, 1) := by decide +kernel
theorem dX4_get_25 : decode cX4_get 25 = .ok (.getfield 9, 3) := by decide +kernel
theorem kf4_9 : inW (Cond.fieldLink RX4 9 "KneeOaths$Ledger" "oaths" "[I") := ⟨List.mem_of_getElem? (i := 159) (by decide +kernel), by decide +kernel⟩
theorem dX4_get_28 : decode cX4_get 28 = .ok (.iload_n 1, 1) := by decide +kernel
theorem dX4_get_29 : decode cX4_get 29 = .ok (.bipush 7, 2) := by decide +kernel
theorem dX4_get_31 : decode cX4_get 31 = .ok (.imul, 1) := by decide +kernel
theorem dX4_get_32 : decode cX4_get 32 = .ok (.iload_n 2, 1) := by decide +kernel
theorem dX4_get_33 : decode cX4_get 33 = .ok (.iadd, 1) := by decide +kernel
theorem dX4_get_34 : decode cX4_get 34 = .ok (.iaload, 1) := by decide +kernel
theorem dX4_get_35 : decode cX4_get 35 = .ok (.ireturn, 1) := by decide +kernel
theorem dX4_put_0 : decode cX4_put 0 = .ok (.iload_n 1, 1) := by decide +kernel
theorem dX4_put_1 : decode cX4_put 1 = .ok (.ifCond .lt 33, 3) := by decide +kernel
theorem dX4_put_34 : decode cX4_put 34 = .ok (.return_, 1) := by decide +kernel
theorem dX4_put_4 : decode cX4_put 4 = .ok (.iload_n 1, 1) := by decide +kernel
theorem dX4_put_5 : decode cX4_put 5 = .ok (.aload_n 0, 1) := by decide +kernel
theorem dX4_put_6 : decode cX4_put 6 = .ok (.getfield 28, 3) := by decide +kernel
theorem dX4_put_9 : decode cX4_put 9 = .ok (.if_icmp .ge 25, 3) := by decide +kernel
theorem dX4_put_12 : decode cX4_put 12 = .ok (.iload_n 2, 1) := by decide +kernel
theorem dX4_put_13 : decode cX4_put 13 = .ok (.ifCond .lt 21, 3) := by decide +kernel
theorem dX4_put_16 : decode cX4_put 16 = .ok (.iload_n 2, 1) := by decide +kernel
theorem dX4_put_17 : decode cX4_put 17 = .ok (.bipush 7, 2) := by decide +kernel
theorem dX4_put_19 : decode cX4_put 19 = .ok (.if_icmp .ge 15, 3) := by decide +kernel
theorem dX4_put_22 : decode cX4_put 22 = .ok (.aload_n 0, 1) := by decide +kernel
theorem dX4_put_23 : decode cX4_put 23 = .ok (.getfield 9, 3) := by decide +kernel
theorem dX4_put_26 : decode cX4_put 26 = .ok (.iload_n 1, 1) := by decide +kernel
theorem dX4_put_27 : decode cX4_put 27 = .ok (.bipush 7, 2) := by decide +kernel
theorem dX4_put_29 : decode cX4_put 29 = .ok (.imul, 1) := by decide +kernel
theorem dX4_put_30 : decode cX4_put 30 = .ok (.iload_n 2, 1) := by decide +kernel
theorem dX4_put_31 : decode cX4_put 31 = .ok (.iadd, 1) := by decide +kernel
theorem dX4_put_32 : decode cX4_put 32 = .ok (.iload_n 3, 1) := by decide +kernel
theorem dX4_put_33 : decode cX4_put 33 = .ok (.iastore, 1) := by decide +kernel
theorem dX4_lastsOn_0 : decode cX4_lastsOn 0 = .ok (.aload_n 0, 1) := by decide +kernel
theorem dX4_lastsOn_1 : decode cX4_lastsOn 1 = .ok (.getfield 34, 3) := by decide +kernel
theorem kf4_34 : inW (Cond.fieldLink RX4 34 "KneeOaths$Ledger" "date" "I") := ⟨List.mem_of_getElem? (i := 170) (by decide +kernel), by decide +kernel⟩
theorem dX4_lastsOn_4 : decode cX4_lastsOn 4 = .ok (.sipush 9999, 3) := by decide +kernel
theorem dX4_lastsOn_7 : decode cX4_lastsOn 7 = .ok (.if_icmp .ge 7, 3) := by decide +kernel
theorem dX4_lastsOn_14 : decode cX4_lastsOn 14 = .ok (.iconst 0, 1) := by decide +kernel
theorem dX4_lastsOn_15 : decode cX4_lastsOn 15 = .ok (.ireturn, 1) := by decide +kernel
theorem dX4_lastsOn_10 : decode cX4_lastsOn 10 = .ok (.iconst 1, 1) := by decide +kernel
theorem dX4_lastsOn_11 : decode cX4_lastsOn 11 = .ok (.goto 4, 3) := by decide +kernel
theorem dX4_unreleased_0 : decode cX4_unreleased 0 = .ok (.aload_n 0, 1) := by decide +kernel
theorem dX4_unreleased_1 : decode cX4_unreleased 1 = .ok (.iload_n 1, 1) := by decide +kernel
theorem dX4_unreleased_2 : decode cX4_unreleased 2 = .ok (.invokevirtual 53, 3) := by decide +kernel
theorem cw_X4_has : CWv yX4_has cX4_has 2 (some .boolean) 1 := ⟨⟨⟨List.mem_of_getElem? (i := 125) (by decide +kernel), by decide +kernel⟩, ⟨List.mem_of_getElem? (i := 932) (by decide +kernel), by decide +kernel⟩, by decide +kernel⟩, ⟨List.mem_of_getElem? (i := 930) (by decide +kernel), by decide +kernel⟩, ⟨List.mem_of_getElem? (i := 931) (by decide +kernel), by decide +kernel⟩⟩
theorem km4_53 : inW (Cond.methodLink RX4 53 yX4_has) := ⟨List.mem_of_getElem? (i := 929) (by decide +kernel), by decide +kernel⟩
theorem dX4_unreleased_5 : decode cX4_unreleased 5 = .ok (.ifCond .eq 17, 3) := by decide +kernel
theorem dX4_unreleased_22 : decode cX4_unreleased 22 = .ok (.iconst 0, 1) := by decide +kernel
theorem dX4_unreleased_23 : decode cX4_unreleased 23 = .ok (.ireturn, 1) := by decide +kernel
theorem dX4_unreleased_8 : decode cX4_unreleased 8 = .ok (.aload_n 0, 1) := by decide +kernel
theorem dX4_unreleased_9 : decode cX4_unreleased 9 = .ok (.iload_n 1, 1) := by decide +kernel
theorem dX4_unreleased_10 : decode cX4_unreleased 10 = .ok (.iconst 4, 1) := by decide +kernel
theorem dX4_unreleased_11 : decode cX4_unreleased 11 = .ok (.invokevirtual 44, 3) := by decide +kernel
theorem cw_X4_get : CWv yX4_get cX4_get 3 (some .int) 2 := ⟨⟨⟨List.mem_of_getElem? (i := 125) (by decide +kernel), by decide +kernel⟩, ⟨List.mem_of_getElem? (i := 915) (by decide +kernel), by decide +kernel⟩, by decide +kernel⟩, ⟨List.mem_of_getElem? (i := 913) (by decide +kernel), by decide +kernel⟩, ⟨List.mem_of_getElem? (i := 914) (by decide +kernel), by decide +kernel⟩⟩
theorem km4_44 : inW (Cond.methodLink RX4 44 yX4_get) := ⟨List.mem_of_getElem? (i := 933) (by decide +kernel), by decide +kernel⟩
theorem dX4_unreleased_14 : decode cX4_unreleased 14 = .ok (.iconst 2, 1) := by decide +kernel
theorem dX4_unreleased_15 : decode cX4_unreleased 15 = .ok (.if_icmp .eq 7, 3) := by decide +kernel
theorem dX4_unreleased_18 : decode cX4_unreleased 18 = .ok (.iconst 1, 1) := by decide +kernel
theorem dX4_unreleased_19 : decode cX4_unreleased 19 = .ok (.goto 4, 3) := by decide +kernel
theorem dX4_legible_0 : decode cX4_legible 0 = .ok (.aload_n 0, 1) := by decide +kernel
theorem dX4_legible_1 : decode cX4_legible 1 = .ok (.iload_n 1, 1) := by decide +kernel
theorem dX4_legible_2 : decode cX4_legible 2 = .ok (.iconst 5, 1) := by decide +kernel
theorem dX4_legible_3 : decode cX4_legible 3 = .ok (.invokevirtual 44, 3) := by decide +kernel
theorem dX4_legible_6 : decode cX4_legible 6 = .ok (.bipush 99, 2) := by decide +kernel
theorem dX4_legible_8 : decode cX4_legible 8 = .ok (.if_icmp .ge 15, 3) := by decide +kernel
theorem dX4_legible_23 : decode cX4_legible 23 = .ok (.iconst 0, 1) := by decide +kernel
theorem dX4_legible_24 : decode cX4_legible 24 = .ok (.ireturn, 1) := by decide +kernel
theorem dX4_legible_11 : decode cX4_legible 11 = .ok (.aload_n 0, 1) := by decide +kernel
theorem dX4_legible_12 : decode cX4_legible 12 = .ok (.iload_n 1, 1) := by decide +kernel
theorem dX4_legible_13 : decode cX4_legible 13 = .ok (.invokevirtual 57, 3) := by decide +kernel
theorem cw_X4_unreleased : CWv yX4_unreleased cX4_unreleased 2 (some .boolean) 1 := ⟨⟨⟨List.mem_of_getElem? (i := 125) (by decide +kernel), by decide +kernel⟩, ⟨List.mem_of_getElem? (i := 928) (by decide +kernel), by decide +kernel⟩, by decide +kernel⟩, ⟨List.mem_of_getElem? (i := 926) (by decide +kernel), by decide +kernel⟩, ⟨List.mem_of_getElem? (i := 927) (by decide +kernel), by decide +kernel⟩⟩
theorem km4_57 : inW (Cond.methodLink RX4 57 yX4_unreleased) := ⟨List.mem_of_getElem? (i := 1058) (by decide +kernel), by decide +kernel⟩
theorem dX4_legible_16 : decode cX4_legible 16 = .ok (.ifCond .eq 7, 3) := by decide +kernel
theorem dX4_legible_19 : decode cX4_legible 19 = .ok (.iconst 1, 1) := by decide +kernel
theorem dX4_legible_20 : decode cX4_legible 20 = .ok (.goto 4, 3) := by decide +kernel
theorem dX4_legibleOn_0 : decode cX4_legibleOn 0 = .ok (.iload_n 1, 1) := by decide +kernel
theorem dX4_legibleOn_1 : decode cX4_legibleOn 1 = .ok (.ifCond .lt 11, 3) := by decide +kernel
theorem dX4_legibleOn_12 : decode cX4_legibleOn 12 = .ok (.iconst 0, 1) := by decide +kernel
theorem dX4_legibleOn_13 : decode cX4_legibleOn 13 = .ok (.ireturn, 1) := by decide +kernel
theorem dX4_legibleOn_4 : decode cX4_legibleOn 4 = .ok (.iload_n 1, 1) := by decide +kernel
theorem dX4_legibleOn_5 : decode cX4_legibleOn 5 = .ok (.aload_n 0, 1) := by decide +kernel
theorem dX4_legibleOn_6 : decode cX4_legibleOn 6 = .ok (.getfield 28, 3) := by decide +kernel
theorem dX4_legibleOn_9 : decode cX4_legibleOn 9 = .ok (.if_icmp .lt 5, 3) := by decide +kernel
theorem dX4_legibleOn_14 : decode cX4_legibleOn 14 = .ok (.iload_n 1, 1) := by decide +kernel
theorem dX4_legibleOn_15 : decode cX4_legibleOn 15 = .ok (.bipush 7, 2) := by decide +kernel
theorem dX4_legibleOn_17 : decode cX4_legibleOn 17 = .ok (.imul, 1) := by decide +kernel
theorem dX4_legibleOn_18 : decode cX4_legibleOn 18 = .ok (.istore_n 3, 1) := by decide +kernel
theorem dX4_legibleOn_19 : decode cX4_legibleOn 19 = .ok (.aload_n 0, 1) := by decide +kernel
theorem dX4_legibleOn_20 : decode cX4_legibleOn 20 = .ok (.getfield 9, 3) := by decide +kernel
theorem dX4_legibleOn_23 : decode cX4_legibleOn 23 = .ok (.iload_n 3, 1) := by decide +kernel
theorem dX4_legibleOn_24 : decode cX4_legibleOn 24 = .ok (.iconst 1, 1) := by decide +kernel
theorem dX4_legibleOn_25 : decode cX4_legibleOn 25 = .ok (.iadd, 1) := by decide +kernel
theorem dX4_legibleOn_26 : decode cX4_legibleOn 26 = .ok (.iaload, 1) := by decide +kernel
theorem dX4_legibleOn_27 : decode cX4_legibleOn 27 = .ok (.iload_n 2, 1) := by decide +kernel
theorem dX4_legibleOn_28 : decode cX4_legibleOn 28 = .ok (.if_icmp .ne 32, 3) := by decide +kernel
theorem dX4_legibleOn_60 : decode cX4_legibleOn 60 = .ok (.iconst 0, 1) := by decide +kernel
theorem dX4_legibleOn_61 : decode cX4_legibleOn 61 = .ok (.ireturn, 1) := by decide +kernel
theorem dX4_legibleOn_31 : decode cX4_legibleOn 31 = .ok (.aload_n 0, 1) := by decide +kernel
theorem dX4_legibleOn_32 : decode cX4_legibleOn 32 = .ok (.getfield 9, 3) := by decide +kernel
theorem dX4_legibleOn_35 : decode cX4_legibleOn 35 = .ok (.iload_n 3, 1) := by decide +kernel
theorem dX4_legibleOn_36 : decode cX4_legibleOn 36 = .ok (.iconst 5, 1) := by decide +kernel
theorem dX4_legibleOn_37 : decode cX4_legibleOn 37 = .ok (.iadd, 1) := by decide +kernel
theorem dX4_legibleOn_38 : decode cX4_legibleOn 38 = .ok (.iaload, 1) := by decide +kernel
theorem dX4_legibleOn_39 : decode cX4_legibleOn 39 = .ok (.bipush 99, 2) := by decide +kernel
theorem dX4_legibleOn_41 : decode cX4_legibleOn 41 = .ok (.if_icmp .ge 19, 3) := by decide +kernel
theorem dX4_legibleOn_44 : decode cX4_legibleOn 44 = .ok (.aload_n 0, 1) := by decide +kernel
theorem dX4_legibleOn_45 : decode cX4_legibleOn 45 = .ok (.getfield 9, 3) := by decide +kernel
theorem dX4_legibleOn_48 : decode cX4_legibleOn 48 = .ok (.iload_n 3, 1) := by decide +kernel
theorem dX4_legibleOn_49 : decode cX4_legibleOn 49 = .ok (.iconst 4, 1) := by decide +kernel
theorem dX4_legibleOn_50 : decode cX4_legibleOn 50 = .ok (.iadd, 1) := by decide +kernel
theorem dX4_legibleOn_51 : decode cX4_legibleOn 51 = .ok (.iaload, 1) := by decide +kernel
theorem dX4_legibleOn_52 : decode cX4_legibleOn 52 = .ok (.iconst 2, 1) := by decide +kernel
theorem dX4_legibleOn_53 : decode cX4_legibleOn 53 = .ok (.if_icmp .eq 7, 3) := by decide +kernel
theorem dX4_legibleOn_56 : decode cX4_legibleOn 56 = .ok (.iconst 1, 1) := by decide +kernel
theorem dX4_legibleOn_57 : decode cX4_legibleOn 57 = .ok (.goto 4, 3) := by decide +kernel
theorem dX4_marks_0 : decode cX4_marks 0 = .ok (.iconst 0, 1) := by decide +kernel
theorem dX4_marks_1 : decode cX4_marks 1 = .ok (.istore_n 2, 1) := by decide +kernel
theorem dX4_marks_2 : decode cX4_marks 2 = .ok (.iconst 0, 1) := by decide +kernel
theorem dX4_marks_3 : decode cX4_marks 3 = .ok (.istore_n 3, 1) := by decide +kernel
theorem dX4_marks_4 : decode cX4_marks 4 = .ok (.iload_n 3, 1) := by decide +kernel
theorem dX4_marks_5 : decode cX4_marks 5 = .ok (.aload_n 0, 1) := by decide +kernel
theorem dX4_marks_6 : decode cX4_marks 6 = .ok (.getfield 28, 3) := by decide +kernel
theorem dX4_marks_9 : decode cX4_marks 9 = .ok (.if_icmp .ge 21, 3) := by decide +kernel
theorem dX4_marks_30 : decode cX4_marks 30 = .ok (.iload_n 2, 1) := by decide +kernel
theorem dX4_marks_31 : decode cX4_marks 31 = .ok (.ireturn, 1) := by decide +kernel
theorem dX4_marks_12 : decode cX4_marks 12 = .ok (.aload_n 0, 1) := by decide +kernel
theorem dX4_marks_13 : decode cX4_marks 13 = .ok (.iload_n 3, 1) := by decide +kernel
theorem dX4_marks_14 : decode cX4_marks 14 = .ok (.iload_n 1, 1) := by decide +kernel
theorem dX4_marks_15 : decode cX4_marks 15 = .ok (.invokevirtual 60, 3) := by decide +kernel
theorem cw_X4_legibleOn : CWv yX4_legibleOn cX4_legibleOn 4 (some .boolean) 2 := ⟨⟨⟨List.mem_of_getElem? (i := 125) (by decide +kernel), by decide +kernel⟩, ⟨List.mem_of_getElem? (i := 1003) (by decide +kernel), by decide +kernel⟩, by decide +kernel⟩, ⟨List.mem_of_getElem? (i := 1001) (by decide +kernel), by decide +kernel⟩, ⟨List.mem_of_getElem? (i := 1002) (by decide +kernel), by decide +kernel⟩⟩
theorem km4_60 : inW (Cond.methodLink RX4 60 yX4_legibleOn) := ⟨List.mem_of_getElem? (i := 1000) (by decide +kernel), by decide +kernel⟩
theorem dX4_marks_18 : decode cX4_marks 18 = .ok (.ifCond .eq 6, 3) := by decide +kernel
theorem dX4_marks_24 : decode cX4_marks 24 = .ok (.iinc 3 1, 3) := by decide +kernel
theorem dX4_marks_27 : decode cX4_marks 27 = .ok (.goto (-23), 3) := by decide +kernel
theorem dX4_marks_21 : decode cX4_marks 21 = .ok (.iinc 2 1, 3) := by decide +kernel
theorem dX4_marksOnKnee_0 : decode cX4_marksOnKnee 0 = .ok (.iconst 0, 1) := by decide +kernel
theorem dX4_marksOnKnee_1 : decode cX4_marksOnKnee 1 = .ok (.istore_n 3, 1) := by decide +kernel
theorem dX4_marksOnKnee_2 : decode cX4_marksOnKnee 2 = .ok (.iconst 0, 1) := by decide +kernel
theorem dX4_marksOnKnee_3 : decode cX4_marksOnKnee 3 = .ok (.istore 4, 2) := by decide +kernel
theorem dX4_marksOnKnee_5 : decode cX4_marksOnKnee 5 = .ok (.iload 4, 2) := by decide +kernel
theorem dX4_marksOnKnee_7 : decode cX4_marksOnKnee 7 = .ok (.aload_n 0, 1) := by decide +kernel
theorem dX4_marksOnKnee_8 : decode cX4_marksOnKnee 8 = .ok (.getfield 28, 3) := by decide +kernel
theorem dX4_marksOnKnee_11 : decode cX4_marksOnKnee 11 = .ok (.if_icmp .ge 33, 3) := by decide +kernel
theorem dX4_marksOnKnee_44 : decode cX4_marksOnKnee 44 = .ok (.iload_n 3, 1) := by decide +kernel
theorem dX4_marksOnKnee_45 : decode cX4_marksOnKnee 45 = .ok (.ireturn, 1) := by decide +kernel
theorem dX4_marksOnKnee_14 : decode cX4_marksOnKnee 14 = .ok (.aload_n 0, 1) := by decide +kernel
theorem dX4_marksOnKnee_15 : decode cX4_marksOnKnee 15 = .ok (.iload 4, 2) := by decide +kernel
theorem dX4_marksOnKnee_17 : decode cX4_marksOnKnee 17 = .ok (.iload_n 1, 1) := by decide +kernel
theorem dX4_marksOnKnee_18 : decode cX4_marksOnKnee 18 = .ok (.invokevirtual 60, 3) := by decide +kernel
theorem dX4_marksOnKnee_21 : decode cX4_marksOnKnee 21 = .ok (.ifCond .eq 17, 3) := by decide +kernel
theorem dX4_marksOnKnee_38 : decode cX4_marksOnKnee 38 = .ok (.iinc 4 1, 3) := by decide +kernel
theorem dX4_marksOnKnee_41 : decode cX4_marksOnKnee 41 = .ok (.goto (-36), 3) := by decide +kernel
theorem dX4_marksOnKnee_24 : decode cX4_marksOnKnee 24 = .ok (.aload_n 0, 1) := by decide +kernel
theorem dX4_marksOnKnee_25 : decode cX4_marksOnKnee 25 = .ok (.iload 4, 2) := by decide +kernel
theorem dX4_marksOnKnee_27 : decode cX4_marksOnKnee 27 = .ok (.iconst 2, 1) := by decide +kernel
theorem dX4_marksOnKnee_28 : decode cX4_marksOnKnee 28 = .ok (.invokevirtual 44, 3) := by decide +kernel
theorem dX4_marksOnKnee_31 : decode cX4_marksOnKnee 31 = .ok (.iload_n 2, 1) := by decide +kernel
theorem dX4_marksOnKnee_32 : decode cX4_marksOnKnee 32 = .ok (.if_icmp .ne 6, 3) := by decide +kernel
theorem dX4_marksOnKnee_35 : decode cX4_marksOnKnee 35 = .ok (.iinc 3 1, 3) := by decide +kernel
theorem dX4_draw_0 : decode cX4_draw 0 = .ok (.aload_n 0, 1) := by decide +kernel
theorem dX4_draw_1 : decode cX4_draw 1 = .ok (.getfield 18, 3) := by decide +kernel
theorem kf4_18 : inW (Cond.fieldLink RX4 18 "KneeOaths$Ledger" "x" "I") := ⟨List.mem_of_getElem? (i := 179) (by decide +kernel), by decide +kernel⟩
theorem dX4_draw_4 : decode cX4_draw 4 = .ok (.istore_n 1, 1) := by decide +kernel
theorem dX4_draw_5 : decode cX4_draw 5 = .ok (.aload_n 0, 1) := by decide +kernel
theorem dX4_draw_6 : decode cX4_draw 6 = .ok (.aload_n 0, 1) := by decide +kernel
theorem dX4_draw_7 : decode cX4_draw 7 = .ok (.getfield 18, 3) := by decide +kernel
theorem dX4_draw_10 : decode cX4_draw 10 = .ok (.sipush 367, 3) := by decide +kernel
theorem dX4_draw_13 : decode cX4_draw 13 = .ok (.imul, 1) := by decide +kernel
theorem dX4_draw_14 : decode cX4_draw 14 = .ok (.sipush 241, 3) := by decide +kernel
theorem dX4_draw_17 : decode cX4_draw 17 = .ok (.iadd, 1) := by decide +kernel
theorem dX4_draw_18 : decode cX4_draw 18 = .ok (.sipush 30449, 3) := by decide +kernel
theorem dX4_draw_21 : decode cX4_draw 21 = .ok (.irem, 1) := by decide +kernel
theorem dX4_draw_22 : decode cX4_draw 22 = .ok (.putfield 18, 3) := by decide +kernel
theorem dX4_draw_25 : decode cX4_draw 25 = .ok (.iload_n 1, 1) := by decide +kernel
theorem dX4_draw_26 : decode cX4_draw 26 = .ok (.ireturn, 1) := by decide +kernel
theorem dX4_turnDay_0 : decode cX4_turnDay 0 = .ok (.aload_n 0, 1) := by decide +kernel
theorem dX4_turnDay_1 : decode cX4_turnDay 1 = .ok (.dup, 1) := by decide +kernel
theorem dX4_turnDay_2 : decode cX4_turnDay 2 = .ok (.getfield 34, 3) := by decide +kernel
theorem dX4_turnDay_5 : decode cX4_turnDay 5 = .ok (.iconst 1, 1) := by decide +kernel
theorem dX4_turnDay_6 : decode cX4_turnDay 6 = .ok (.iadd, 1) := by decide +kernel
theorem dX4_turnDay_7 : decode cX4_turnDay 7 = .ok (.putfield 34, 3) := by decide +kernel
theorem dX4_turnDay_10 : decode cX4_turnDay 10 = .ok (.aload_n 0, 1) := by decide +kernel
theorem dX4_turnDay_11 : decode cX4_turnDay 11 = .ok (.aload_n 0, 1) := by decide +kernel
theorem dX4_turnDay_12 : decode cX4_turnDay 12 = .ok (.invokevirtual 64, 3) := by decide +kernel
theorem cw_X4_draw : CWv yX4_draw cX4_draw 2 (some .int) 0 := ⟨⟨⟨List.mem_of_getElem? (i := 125) (by decide +kernel), by decide +kernel⟩, ⟨List.mem_of_getElem? (i := 1092) (by decide +kernel), by decide +kernel⟩, by decide +kernel⟩, ⟨List.mem_of_getElem? (i := 1090) (by decide +kernel), by decide +kernel⟩, ⟨List.mem_of_getElem? (i := 1091) (by decide +kernel), by decide +kernel⟩⟩
theorem km4_64 : inW (Cond.methodLink RX4 64 yX4_draw) := ⟨List.mem_of_getElem? (i := 1089) (by decide +kernel), by decide +kernel⟩
theorem dX4_turnDay_15 : decode cX4_turnDay 15 = .ok (.bipush 10, 2) := by decide +kernel
theorem dX4_turnDay_17 : decode cX4_turnDay 17 = .ok (.irem, 1) := by decide +kernel
theorem dX4_turnDay_18 : decode cX4_turnDay 18 = .ok (.putfield 37, 3) := by decide +kernel
theorem kf4_37 : inW (Cond.fieldLink RX4 37 "KneeOaths$Ledger" "rain" "I") := ⟨List.mem_of_getElem? (i := 175) (by decide +kernel), by decide +kernel⟩
theorem dX4_turnDay_21 : decode cX4_turnDay 21 = .ok (.return_, 1) := by decide +kernel
theorem dX4_written_0 : decode cX4_written 0 = .ok (.iload_n 1, 1) := by decide +kernel
theorem dX4_written_1 : decode cX4_written 1 = .ok (.ifCond .lt 20, 3) := by decide +kernel
theorem dX4_written_21 : decode cX4_written 21 = .ok (.bipush (-2), 2) := by decide +kernel
theorem dX4_written_23 : decode cX4_written 23 = .ok (.ireturn, 1) := by decide +kernel
theorem dX4_written_4 : decode cX4_written 4 = .ok (.iload_n 1, 1) := by decide +kernel
theorem dX4_written_5 : decode cX4_written 5 = .ok (.aload_n 0, 1) := by decide +kernel
theorem dX4_written_6 : decode cX4_written 6 = .ok (.getfield 31, 3) := by decide +kernel
theorem kf4_31 : inW (Cond.fieldLink RX4 31 "KneeOaths$Ledger" "acheCount" "I") := ⟨List.mem_of_getElem? (i := 168) (by decide +kernel), by decide +kernel⟩
theorem dX4_written_9 : decode cX4_written 9 = .ok (.if_icmp .ge 12, 3) := by decide +kernel
theorem dX4_written_12 : decode cX4_written 12 = .ok (.iload_n 2, 1) := by decide +kernel
theorem dX4_written_13 : decode cX4_written 13 = .ok (.ifCond .lt 8, 3) := by decide +kernel
theorem dX4_written_16 : decode cX4_written 16 = .ok (.iload_n 2, 1) := by decide +kernel
theorem dX4_written_17 : decode cX4_written 17 = .ok (.iconst 3, 1) := by decide +kernel
theorem dX4_written_18 : decode cX4_written 18 = .ok (.if_icmp .lt 6, 3) := by decide +kernel
theorem dX4_written_24 : decode cX4_written 24 = .ok (.aload_n 0, 1) := by decide +kernel
theorem dX4_written_25 : decode cX4_written 25 = .ok (.getfield 15, 3) := by decide +kernel
theorem kf4_15 : inW (Cond.fieldLink RX4 15 "KneeOaths$Ledger" "aches" "[I") := ⟨List.mem_of_getElem? (i := 160) (by decide +kernel), by decide +kernel⟩
theorem dX4_written_28 : decode cX4_written 28 = .ok (.iload_n 1, 1) := by decide +kernel
theorem dX4_written_29 : decode cX4_written 29 = .ok (.iconst 3, 1) := by decide +kernel
theorem dX4_written_30 : decode cX4_written 30 = .ok (.imul, 1) := by decide +kernel
theorem dX4_written_31 : decode cX4_written 31 = .ok (.iload_n 2, 1) := by decide +kernel
theorem dX4_written_32 : decode cX4_written 32 = .ok (.iadd, 1) := by decide +kernel
theorem dX4_written_33 : decode cX4_written 33 = .ok (.iaload, 1) := by decide +kernel
theorem dX4_written_34 : decode cX4_written 34 = .ok (.ireturn, 1) := by decide +kernel
theorem dX4_writtenOf_0 : decode cX4_writtenOf 0 = .ok (.iconst 0, 1) := by decide +kernel
theorem dX4_writtenOf_1 : decode cX4_writtenOf 1 = .ok (.istore_n 2, 1) := by decide +kernel
theorem dX4_writtenOf_2 : decode cX4_writtenOf 2 = .ok (.iconst 0, 1) := by decide +kernel
theorem dX4_writtenOf_3 : decode cX4_writtenOf 3 = .ok (.istore_n 3, 1) := by decide +kernel
theorem dX4_writtenOf_4 : decode cX4_writtenOf 4 = .ok (.iload_n 3, 1) := by decide +kernel
theorem dX4_writtenOf_5 : decode cX4_writtenOf 5 = .ok (.aload_n 0, 1) := by decide +kernel
theorem dX4_writtenOf_6 : decode cX4_writtenOf 6 = .ok (.getfield 31, 3) := by decide +kernel
theorem dX4_writtenOf_9 : decode cX4_writtenOf 9 = .ok (.if_icmp .ge 33, 3) := by decide +kernel
theorem dX4_writtenOf_42 : decode cX4_writtenOf 42 = .ok (.iload_n 2, 1) := by decide +kernel
theorem dX4_writtenOf_43 : decode cX4_writtenOf 43 = .ok (.ireturn, 1) := by decide +kernel
theorem dX4_writtenOf_12 : decode cX4_writtenOf 12 = .ok (.iload_n 1, 1) := by decide +kernel
theorem dX4_writtenOf_13 : decode cX4_writtenOf 13 = .ok (.iconst (-1), 1) := by decide +kernel
theorem dX4_writtenOf_14 : decode cX4_writtenOf 14 = .ok (.if_icmp .eq 13, 3) := by decide +kernel
theorem dX4_writtenOf_27 : decode cX4_writtenOf 27 = .ok (.iload_n 2, 1) := by decide +kernel
theorem dX4_writtenOf_28 : decode cX4_writtenOf 28 = .ok (.aload_n 0, 1) := by decide +kernel
theorem dX4_writtenOf_29 : decode cX4_writtenOf 29 = .ok (.iload_n 3, 1) := by decide +kernel
theorem dX4_writtenOf_30 : decode cX4_writtenOf 30 = .ok (.iconst 2, 1) := by decide +kernel
theorem dX4_writtenOf_31 : decode cX4_writtenOf 31 = .ok (.invokevirtual 68, 3) := by decide +kernel
theorem cw_X4_written : CWv yX4_written cX4_written 3 (some .int) 2 := ⟨⟨⟨List.mem_of_getElem? (i := 125) (by decide +kernel), by decide +kernel⟩, ⟨List.mem_of_getElem? (i := 1174) (by decide +kernel), by decide +kernel⟩, by decide +kernel⟩, ⟨List.mem_of_getElem? (i := 1172) (by decide +kernel), by decide +kernel⟩, ⟨List.mem_of_getElem? (i := 1173) (by decide +kernel), by decide +kernel⟩⟩
theorem km4_68 : inW (Cond.methodLink RX4 68 yX4_written) := ⟨List.mem_of_getElem? (i := 1453) (by decide +kernel), by decide +kernel⟩
theorem dX4_writtenOf_34 : decode cX4_writtenOf 34 = .ok (.iadd, 1) := by decide +kernel
theorem dX4_writtenOf_35 : decode cX4_writtenOf 35 = .ok (.istore_n 2, 1) := by decide +kernel
theorem dX4_writtenOf_36 : decode cX4_writtenOf 36 = .ok (.iinc 3 1, 3) := by decide +kernel
theorem dX4_writtenOf_39 : decode cX4_writtenOf 39 = .ok (.goto (-35), 3) := by decide +kernel
theorem dX4_writtenOf_17 : decode cX4_writtenOf 17 = .ok (.aload_n 0, 1) := by decide +kernel
theorem dX4_writtenOf_18 : decode cX4_writtenOf 18 = .ok (.iload_n 3, 1) := by decide +kernel
theorem dX4_writtenOf_19 : decode cX4_writtenOf 19 = .ok (.iconst 1, 1) := by decide +kernel
theorem dX4_writtenOf_20 : decode cX4_writtenOf 20 = .ok (.invokevirtual 68, 3) := by decide +kernel
theorem dX4_writtenOf_23 : decode cX4_writtenOf 23 = .ok (.iload_n 1, 1) := by decide +kernel
theorem dX4_writtenOf_24 : decode cX4_writtenOf 24 = .ok (.if_icmp .ne 12, 3) := by decide +kernel
theorem dX4_dayOfMost_0 : decode cX4_dayOfMost 0 = .ok (.iconst (-1), 1) := by decide +kernel
theorem dX4_dayOfMost_1 : decode cX4_dayOfMost 1 = .ok (.istore_n 1, 1) := by decide +kernel
theorem dX4_dayOfMost_2 : decode cX4_dayOfMost 2 = .ok (.iconst 0, 1) := by decide +kernel
theorem dX4_dayOfMost_3 : decode cX4_dayOfMost 3 = .ok (.istore_n 2, 1) := by decide +kernel
theorem dX4_dayOfMost_4 : decode cX4_dayOfMost 4 = .ok (.iconst 0, 1) := by decide +kernel
theorem dX4_dayOfMost_5 : decode cX4_dayOfMost 5 = .ok (.istore_n 3, 1) := by decide +kernel
theorem dX4_dayOfMost_6 : decode cX4_dayOfMost 6 = .ok (.iload_n 3, 1) := by decide +kernel
theorem dX4_dayOfMost_7 : decode cX4_dayOfMost 7 = .ok (.aload_n 0, 1) := by decide +kernel
theorem dX4_dayOfMost_8 : decode cX4_dayOfMost 8 = .ok (.getfield 31, 3) := by decide +kernel
theorem dX4_dayOfMost_11 : decode cX4_dayOfMost 11 = .ok (.if_icmp .ge 33, 3) := by decide +kernel
theorem dX4_dayOfMost_44 : decode cX4_dayOfMost 44 = .ok (.iload_n 1, 1) := by decide +kernel
theorem dX4_dayOfMost_45 : decode cX4_dayOfMost 45 = .ok (.ireturn, 1) := by decide +kernel
theorem dX4_dayOfMost_14 : decode cX4_dayOfMost 14 = .ok (.aload_n 0, 1) := by decide +kernel
theorem dX4_dayOfMost_15 : decode cX4_dayOfMost 15 = .ok (.iload_n 3, 1) := by decide +kernel
theorem dX4_dayOfMost_16 : decode cX4_dayOfMost 16 = .ok (.iconst 2, 1) := by decide +kernel
theorem dX4_dayOfMost_17 : decode cX4_dayOfMost 17 = .ok (.invokevirtual 68, 3) := by decide +kernel
theorem dX4_dayOfMost_20 : decode cX4_dayOfMost 20 = .ok (.iload_n 2, 1) := by decide +kernel
theorem dX4_dayOfMost_21 : decode cX4_dayOfMost 21 = .ok (.if_icmp .le 17, 3) := by decide +kernel
theorem dX4_dayOfMost_38 : decode cX4_dayOfMost 38 = .ok (.iinc 3 1, 3) := by decide +kernel
theorem dX4_dayOfMost_41 : decode cX4_dayOfMost 41 = .ok (.goto (-35), 3) := by decide +kernel
theorem dX4_dayOfMost_24 : decode cX4_dayOfMost 24 = .ok (.aload_n 0, 1) := by decide +kernel
theorem dX4_dayOfMost_25 : decode cX4_dayOfMost 25 = .ok (.iload_n 3, 1) := by decide +kernel
theorem dX4_dayOfMost_26 : decode cX4_dayOfMost 26 = .ok (.iconst 2, 1) := by decide +kernel
theorem dX4_dayOfMost_27 : decode cX4_dayOfMost 27 = .ok (.invokevirtual 68, 3) := by decide +kernel
theorem dX4_dayOfMost_30 : decode cX4_dayOfMost 30 = .ok (.istore_n 2, 1) := by decide +kernel
theorem dX4_dayOfMost_31 : decode cX4_dayOfMost 31 = .ok (.aload_n 0, 1) := by decide +kernel
theorem dX4_dayOfMost_32 : decode cX4_dayOfMost 32 = .ok (.iload_n 3, 1) := by decide +kernel
theorem dX4_dayOfMost_33 : decode cX4_dayOfMost 33 = .ok (.iconst 0, 1) := by decide +kernel
theorem dX4_dayOfMost_34 : decode cX4_dayOfMost 34 = .ok (.invokevirtual 68, 3) := by decide +kernel
theorem dX4_dayOfMost_37 : decode cX4_dayOfMost 37 = .ok (.istore_n 1, 1) := by decide +kernel
theorem dX4_moreWear_0 : decode cX4_moreWear 0 = .ok (.aload_n 0, 1) := by decide +kernel
theorem dX4_moreWear_1 : decode cX4_moreWear 1 = .ok (.iload_n 1, 1) := by decide +kernel
theorem dX4_moreWear_2 : decode cX4_moreWear 2 = .ok (.iconst 5, 1) := by decide +kernel
theorem dX4_moreWear_3 : decode cX4_moreWear 3 = .ok (.bipush 99, 2) := by decide +kernel
theorem dX4_moreWear_5 : decode cX4_moreWear 5 = .ok (.aload_n 0, 1) := by decide +kernel
theorem dX4_moreWear_6 : decode cX4_moreWear 6 = .ok (.iload_n 1, 1) := by decide +kernel
theorem dX4_moreWear_7 : decode cX4_moreWear 7 = .ok (.iconst 5, 1) := by decide +kernel
theorem dX4_moreWear_8 : decode cX4_moreWear 8 = .ok (.invokevirtual 44, 3) := by decide +kernel
theorem dX4_moreWear_11 : decode cX4_moreWear 11 = .ok (.iload_n 2, 1) := by decide +kernel
theorem dX4_moreWear_12 : decode cX4_moreWear 12 = .ok (.iadd, 1) := by decide +kernel
theorem dX4_moreWear_13 : decode cX4_moreWear 13 = .ok (.invokestatic 48, 3) := by decide +kernel
theorem km4_48 : inW (Cond.methodLink RX4 48 Lib.Math.min.name) := ⟨List.mem_of_getElem? (i := 1017) (by decide +kernel), by decide +kernel⟩
theorem kMs_min : inW (Cond.static Lib.Math.min.name) := ⟨List.mem_of_getElem? (i := 216) (by decide +kernel), by decide +kernel⟩
theorem kMi : inW (Cond.initialized "java/lang/Math") := ⟨List.mem_of_getElem? (i := 128) (by decide +kernel), by decide +kernel⟩
theorem kMc_min : inW (Cond.code Lib.Math.min.name Lib.Math.min.code 2 (some .int)) := ⟨List.mem_of_getElem? (i := 217) (by decide +kernel), by decide +kernel⟩
theorem dX4_moreWear_16 : decode cX4_moreWear 16 = .ok (.invokevirtual 40, 3) := by decide +kernel
theorem cw_X4_put : CWv yX4_put cX4_put 4 none 3 := ⟨⟨⟨List.mem_of_getElem? (i := 125) (by decide +kernel), by decide +kernel⟩, ⟨List.mem_of_getElem? (i := 903) (by decide +kernel), by decide +kernel⟩, by decide +kernel⟩, ⟨List.mem_of_getElem? (i := 901) (by decide +kernel), by decide +kernel⟩, ⟨List.mem_of_getElem? (i := 902) (by decide +kernel), by decide +kernel⟩⟩
theorem km4_40 : inW (Cond.methodLink RX4 40 yX4_put) := ⟨List.mem_of_getElem? (i := 900) (by decide +kernel), by decide +kernel⟩
theorem dX4_moreWear_19 : decode cX4_moreWear 19 = .ok (.return_, 1) := by decide +kernel
theorem dX4_addOath_0 : decode cX4_addOath 0 = .ok (.aload_n 0, 1) := by decide +kernel
theorem dX4_addOath_1 : decode cX4_addOath 1 = .ok (.getfield 28, 3) := by decide +kernel
theorem dX4_addOath_4 : decode cX4_addOath 4 = .ok (.bipush 14, 2) := by decide +kernel
theorem dX4_addOath_6 : decode cX4_addOath 6 = .ok (.if_icmp .lt 5, 3) := by decide +kernel
theorem dX4_addOath_11 : decode cX4_addOath 11 = .ok (.aload_n 0, 1) := by decide +kernel
theorem dX4_addOath_12 : decode cX4_addOath 12 = .ok (.getfield 28, 3) := by decide +kernel
theorem dX4_addOath_15 : decode cX4_addOath 15 = .ok (.istore 5, 2) := by decide +kernel
theorem dX4_addOath_17 : decode cX4_addOath 17 = .ok (.aload_n 0, 1) := by decide +kernel
theorem dX4_addOath_18 : decode cX4_addOath 18 = .ok (.dup, 1) := by decide +kernel
theorem dX4_addOath_19 : decode cX4_addOath 19 = .ok (.getfield 28, 3) := by decide +kernel
theorem dX4_addOath_22 : decode cX4_addOath 22 = .ok (.iconst 1, 1) := by decide +kernel
theorem dX4_addOath_23 : decode cX4_addOath 23 = .ok (.iadd, 1) := by decide +kernel
theorem dX4_addOath_24 : decode cX4_addOath 24 = .ok (.putfield 28, 3) := by decide +kernel
theorem dX4_addOath_27 : decode cX4_addOath 27 = .ok (.aload_n 0, 1) := by decide +kernel
theorem dX4_addOath_28 : decode cX4_addOath 28 = .ok (.iload 5, 2) := by decide +kernel
theorem dX4_addOath_30 : decode cX4_addOath 30 = .ok (.iconst 0, 1) := by decide +kernel
theorem dX4_addOath_31 : decode cX4_addOath 31 = .ok (.iload_n 1, 1) := by decide +kernel
theorem dX4_addOath_32 : decode cX4_addOath 32 = .ok (.invokevirtual 40, 3) := by decide +kernel
theorem dX4_addOath_35 : decode cX4_addOath 35 = .ok (.aload_n 0, 1) := by decide +kernel
theorem dX4_addOath_36 : decode cX4_addOath 36 = .ok (.iload 5, 2) := by decide +kernel
theorem dX4_addOath_38 : decode cX4_addOath 38 = .ok (.iconst 1, 1) := by decide +kernel
theorem dX4_addOath_39 : decode cX4_addOath 39 = .ok (.iload_n 2, 1) := by decide +kernel
theorem dX4_addOath_40 : decode cX4_addOath 40 = .ok (.invokevirtual 40, 3) := by decide +kernel
theorem dX4_addOath_43 : decode cX4_addOath 43 = .ok (.aload_n 0, 1) := by decide +kernel
theorem dX4_addOath_44 : decode cX4_addOath 44 = .ok (.iload 5, 2) := by decide +kernel
theorem dX4_addOath_46 : decode cX4_addOath 46 = .ok (.iconst 2, 1) := by decide +kernel
theorem dX4_addOath_47 : decode cX4_addOath 47 = .ok (.iload_n 3, 1) := by decide +kernel
theorem dX4_addOath_48 : decode cX4_addOath 48 = .ok (.invokevirtual 40, 3) := by decide +kernel
theorem dX4_addOath_51 : decode cX4_addOath 51 = .ok (.aload_n 0, 1) := by decide +kernel
theorem dX4_addOath_52 : decode cX4_addOath 52 = .ok (.iload 5, 2) := by decide +kernel
theorem dX4_addOath_54 : decode cX4_addOath 54 = .ok (.iconst 3, 1) := by decide +kernel
theorem dX4_addOath_55 : decode cX4_addOath 55 = .ok (.iload 4, 2) := by decide +kernel
theorem dX4_addOath_57 : decode cX4_addOath 57 = .ok (.invokevirtual 40, 3) := by decide +kernel
theorem dX4_addOath_60 : decode cX4_addOath 60 = .ok (.aload_n 0, 1) := by decide +kernel
theorem dX4_addOath_61 : decode cX4_addOath 61 = .ok (.iload 5, 2) := by decide +kernel
theorem dX4_addOath_63 : decode cX4_addOath 63 = .ok (.iconst 4, 1) := by decide +kernel
theorem dX4_addOath_64 : decode cX4_addOath 64 = .ok (.iconst 0, 1) := by decide +kernel
theorem dX4_addOath_65 : decode cX4_addOath 65 = .ok (.invokevirtual 40, 3) := by decide +kernel
theorem dX4_addOath_68 : decode cX4_addOath 68 = .ok (.aload_n 0, 1) := by decide +kernel
theorem dX4_addOath_69 : decode cX4_addOath 69 = .ok (.iload 5, 2) := by decide +kernel
theorem dX4_addOath_71 : decode cX4_addOath 71 = .ok (.iconst 5, 1) := by decide +kernel
theorem dX4_addOath_72 : decode cX4_addOath 72 = .ok (.iconst 0, 1) := by decide +kernel
theorem dX4_addOath_73 : decode cX4_addOath 73 = .ok (.invokevirtual 40, 3) := by decide +kernel
theorem dX4_addOath_76 : decode cX4_addOath 76 = .ok (.aload_n 0, 1) := by decide +kernel
theorem dX4_addOath_77 : decode cX4_addOath 77 = .ok (.iload 5, 2) := by decide +kernel
theorem dX4_addOath_79 : decode cX4_addOath 79 = .ok (.bipush 6, 2) := by decide +kernel
theorem dX4_addOath_81 : decode cX4_addOath 81 = .ok (.aload_n 0, 1) := by decide +kernel
theorem dX4_addOath_82 : decode cX4_addOath 82 = .ok (.getfield 34, 3) := by decide +kernel
theorem dX4_addOath_85 : decode cX4_addOath 85 = .ok (.invokevirtual 40, 3) := by decide +kernel
theorem dX4_addOath_88 : decode cX4_addOath 88 = .ok (.iload 5, 2) := by decide +kernel
theorem dX4_addOath_90 : decode cX4_addOath 90 = .ok (.ireturn, 1) := by decide +kernel
theorem dX4_addOath_9 : decode cX4_addOath 9 = .ok (.iconst (-1), 1) := by decide +kernel
theorem dX4_addOath_10 : decode cX4_addOath 10 = .ok (.ireturn, 1) := by decide +kernel
theorem dX4_write_0 : decode cX4_write 0 = .ok (.aload_n 0, 1) := by decide +kernel
theorem dX4_write_1 : decode cX4_write 1 = .ok (.getfield 31, 3) := by decide +kernel
theorem dX4_write_4 : decode cX4_write 4 = .ok (.bipush 30, 2) := by decide +kernel
theorem dX4_write_6 : decode cX4_write 6 = .ok (.if_icmp .lt 29, 3) := by decide +kernel
theorem dX4_write_35 : decode cX4_write 35 = .ok (.aload_n 0, 1) := by decide +kernel
theorem dX4_write_36 : decode cX4_write 36 = .ok (.getfield 31, 3) := by decide +kernel
theorem dX4_write_39 : decode cX4_write 39 = .ok (.iconst 3, 1) := by decide +kernel
theorem dX4_write_40 : decode cX4_write 40 = .ok (.imul, 1) := by decide +kernel
theorem dX4_write_41 : decode cX4_write 41 = .ok (.istore_n 3, 1) := by decide +kernel
theorem dX4_write_42 : decode cX4_write 42 = .ok (.aload_n 0, 1) := by decide +kernel
theorem dX4_write_43 : decode cX4_write 43 = .ok (.getfield 15, 3) := by decide +kernel
theorem dX4_write_46 : decode cX4_write 46 = .ok (.iload_n 3, 1) := by decide +kernel
theorem dX4_write_47 : decode cX4_write 47 = .ok (.iconst 0, 1) := by decide +kernel
theorem dX4_write_48 : decode cX4_write 48 = .ok (.iadd, 1) := by decide +kernel
theorem dX4_write_49 : decode cX4_write 49 = .ok (.aload_n 0, 1) := by decide +kernel
theorem dX4_write_50 : decode cX4_write 50 = .ok (.getfield 34, 3) := by decide +kernel
theorem dX4_write_53 : decode cX4_write 53 = .ok (.iastore, 1) := by decide +kernel
theorem dX4_write_54 : decode cX4_write 54 = .ok (.aload_n 0, 1) := by decide +kernel
theorem dX4_write_55 : decode cX4_write 55 = .ok (.getfield 15, 3) := by decide +kernel
theorem dX4_write_58 : decode cX4_write 58 = .ok (.iload_n 3, 1) := by decide +kernel
theorem dX4_write_59 : decode cX4_write 59 = .ok (.iconst 1, 1) := by decide +kernel
theorem dX4_write_60 : decode cX4_write 60 = .ok (.iadd, 1) := by decide +kernel
theorem dX4_write_61 : decode cX4_write 61 = .ok (.iload_n 1, 1) := by decide +kernel
theorem dX4_write_62 : decode cX4_write 62 = .ok (.iastore, 1) := by decide +kernel
theorem dX4_write_63 : decode cX4_write 63 = .ok (.aload_n 0, 1) := by decide +kernel
theorem dX4_write_64 : decode cX4_write 64 = .ok (.getfield 15, 3) := by decide +kernel
theorem dX4_write_67 : decode cX4_write 67 = .ok (.iload_n 3, 1) := by decide +kernel
theorem dX4_write_68 : decode cX4_write 68 = .ok (.iconst 2, 1) := by decide +kernel
theorem dX4_write_69 : decode cX4_write 69 = .ok (.iadd, 1) := by decide +kernel
theorem dX4_write_70 : decode cX4_write 70 = .ok (.iload_n 2, 1) := by decide +kernel
theorem dX4_write_71 : decode cX4_write 71 = .ok (.iastore, 1) := by decide +kernel
theorem dX4_write_72 : decode cX4_write 72 = .ok (.aload_n 0, 1) := by decide +kernel
theorem dX4_write_73 : decode cX4_write 73 = .ok (.dup, 1) := by decide +kernel
theorem dX4_write_74 : decode cX4_write 74 = .ok (.getfield 31, 3) := by decide +kernel
theorem dX4_write_77 : decode cX4_write 77 = .ok (.iconst 1, 1) := by decide +kernel
theorem dX4_write_78 : decode cX4_write 78 = .ok (.iadd, 1) := by decide +kernel
theorem dX4_write_79 : decode cX4_write 79 = .ok (.putfield 31, 3) := by decide +kernel
theorem dX4_write_82 : decode cX4_write 82 = .ok (.return_, 1) := by decide +kernel
theorem dX4_write_9 : decode cX4_write 9 = .ok (.aload_n 0, 1) := by decide +kernel
theorem dX4_write_10 : decode cX4_write 10 = .ok (.getfield 15, 3) := by decide +kernel
theorem dX4_write_13 : decode cX4_write 13 = .ok (.iconst 3, 1) := by decide +kernel
theorem dX4_write_14 : decode cX4_write 14 = .ok (.aload_n 0, 1) := by decide +kernel
theorem dX4_write_15 : decode cX4_write 15 = .ok (.getfield 15, 3) := by decide +kernel
theorem dX4_write_18 : decode cX4_write 18 = .ok (.iconst 0, 1) := by decide +kernel
theorem dX4_write_19 : decode cX4_write 19 = .ok (.aload_n 0, 1) := by decide +kernel
theorem dX4_write_20 : decode cX4_write 20 = .ok (.getfield 15, 3) := by decide +kernel
theorem dX4_write_23 : decode cX4_write 23 = .ok (.arraylength, 1) := by decide +kernel
theorem dX4_write_24 : decode cX4_write 24 = .ok (.iconst 3, 1) := by decide +kernel
theorem dX4_write_25 : decode cX4_write 25 = .ok (.isub, 1) := by decide +kernel
theorem dX4_write_26 : decode cX4_write 26 = .ok (.invokestatic 22, 3) := by decide +kernel
theorem km4_22 : inW (Cond.methodLink RX4 22 arraycopyName) := ⟨List.mem_of_getElem? (i := 893) (by decide +kernel), by decide +kernel⟩
theorem kAn : inW (Cond.native arraycopyName) := ⟨List.mem_of_getElem? (i := 895) (by decide +kernel), by decide +kernel⟩
theorem kAs : inW (Cond.static arraycopyName) := ⟨List.mem_of_getElem? (i := 894) (by decide +kernel), by decide +kernel⟩
theorem kAi : inW (Cond.initialized "java/lang/System") := ⟨List.mem_of_getElem? (i := 143) (by decide +kernel), by decide +kernel⟩
theorem dX4_write_29 : decode cX4_write 29 = .ok (.aload_n 0, 1) := by decide +kernel
theorem dX4_write_30 : decode cX4_write 30 = .ok (.bipush 29, 2) := by decide +kernel
theorem dX4_write_32 : decode cX4_write 32 = .ok (.putfield 31, 3) := by decide +kernel
theorem dX4_takeOver_0 : decode cX4_takeOver 0 = .ok (.aload_n 1, 1) := by decide +kernel
theorem dX4_takeOver_1 : decode cX4_takeOver 1 = .ok (.getfield 9, 3) := by decide +kernel
theorem dX4_takeOver_4 : decode cX4_takeOver 4 = .ok (.iconst 0, 1) := by decide +kernel
theorem dX4_takeOver_5 : decode cX4_takeOver 5 = .ok (.aload_n 0, 1) := by decide +kernel
theorem dX4_takeOver_6 : decode cX4_takeOver 6 = .ok (.getfield 9, 3) := by decide +kernel
theorem dX4_takeOver_9 : decode cX4_takeOver 9 = .ok (.iconst 0, 1) := by decide +kernel
theorem dX4_takeOver_10 : decode cX4_takeOver 10 = .ok (.aload_n 0, 1) := by decide +kernel
theorem dX4_takeOver_11 : decode cX4_takeOver 11 = .ok (.getfield 9, 3) := by decide +kernel
theorem dX4_takeOver_14 : decode cX4_takeOver 14 = .ok (.arraylength, 1) := by decide +kernel
theorem dX4_takeOver_15 : decode cX4_takeOver 15 = .ok (.invokestatic 22, 3) := by decide +kernel
theorem dX4_takeOver_18 : decode cX4_takeOver 18 = .ok (.aload_n 1, 1) := by decide +kernel
theorem dX4_takeOver_19 : decode cX4_takeOver 19 = .ok (.getfield 15, 3) := by decide +kernel
theorem dX4_takeOver_22 : decode cX4_takeOver 22 = .ok (.iconst 0, 1) := by decide +kernel
theorem dX4_takeOver_23 : decode cX4_takeOver 23 = .ok (.aload_n 0, 1) := by decide +kernel
theorem dX4_takeOver_24 : decode cX4_takeOver 24 = .ok (.getfield 15, 3) := by decide +kernel
theorem dX4_takeOver_27 : decode cX4_takeOver 27 = .ok (.iconst 0, 1) := by decide +kernel
theorem dX4_takeOver_28 : decode cX4_takeOver 28 = .ok (.aload_n 0, 1) := by decide +kernel
theorem dX4_takeOver_29 : decode cX4_takeOver 29 = .ok (.getfield 15, 3) := by decide +kernel
theorem dX4_takeOver_32 : decode cX4_takeOver 32 = .ok (.arraylength, 1) := by decide +kernel
theorem dX4_takeOver_33 : decode cX4_takeOver 33 = .ok (.invokestatic 22, 3) := by decide +kernel
theorem dX4_takeOver_36 : decode cX4_takeOver 36 = .ok (.aload_n 0, 1) := by decide +kernel
theorem dX4_takeOver_37 : decode cX4_takeOver 37 = .ok (.aload_n 1, 1) := by decide +kernel
theorem dX4_takeOver_38 : decode cX4_takeOver 38 = .ok (.getfield 28, 3) := by decide +kernel
theorem dX4_takeOver_41 : decode cX4_takeOver 41 = .ok (.putfield 28, 3) := by decide +kernel
theorem dX4_takeOver_44 : decode cX4_takeOver 44 = .ok (.aload_n 0, 1) := by decide +kernel
theorem dX4_takeOver_45 : decode cX4_takeOver 45 = .ok (.aload_n 1, 1) := by decide +kernel
theorem dX4_takeOver_46 : decode cX4_takeOver 46 = .ok (.getfield 31, 3) := by decide +kernel
theorem dX4_takeOver_49 : decode cX4_takeOver 49 = .ok (.putfield 31, 3) := by decide +kernel
theorem dX4_takeOver_52 : decode cX4_takeOver 52 = .ok (.aload_n 0, 1) := by decide +kernel
theorem dX4_takeOver_53 : decode cX4_takeOver 53 = .ok (.aload_n 1, 1) := by decide +kernel
theorem dX4_takeOver_54 : decode cX4_takeOver 54 = .ok (.getfield 34, 3) := by decide +kernel
theorem dX4_takeOver_57 : decode cX4_takeOver 57 = .ok (.putfield 34, 3) := by decide +kernel
theorem dX4_takeOver_60 : decode cX4_takeOver 60 = .ok (.aload_n 0, 1) := by decide +kernel
theorem dX4_takeOver_61 : decode cX4_takeOver 61 = .ok (.aload_n 1, 1) := by decide +kernel
theorem dX4_takeOver_62 : decode cX4_takeOver 62 = .ok (.getfield 37, 3) := by decide +kernel
theorem dX4_takeOver_65 : decode cX4_takeOver 65 = .ok (.putfield 37, 3) := by decide +kernel
theorem dX4_takeOver_68 : decode cX4_takeOver 68 = .ok (.aload_n 0, 1) := by decide +kernel
theorem dX4_takeOver_69 : decode cX4_takeOver 69 = .ok (.aload_n 1, 1) := by decide +kernel
theorem dX4_takeOver_70 : decode cX4_takeOver 70 = .ok (.getfield 18, 3) := by decide +kernel
theorem dX4_takeOver_73 : decode cX4_takeOver 73 = .ok (.putfield 18, 3) := by decide +kernel
theorem dX4_takeOver_76 : decode cX4_takeOver 76 = .ok (.return_, 1) := by decide +kernel
set_option maxHeartbeats 4000000 in
set_option maxRecDepth 100000 in
theorem x_X11_within {l : Launch} {G : GG}  {L : List Nat} {f : HF}  {i1 i2 i3 : Int32}  : PMp l yX11_within cX11_within 3 .boolean 0 0 0 G [.int i1, .int i2, .int i3] L f (fun r => bn 0 1 r) := by
  refine PMi.of (post := fun r L1 f1 => (bn 0 1 r) ∧ L1 = L ∧ f1 = f) (own := RX11) (by decide) rfl (Nat.le_of_ble_eq_true rfl) (fun sz p e s m args below meth c A ls hA1 hname S Y hl => ?_)
  have hx := S.hx
  have hb := S.hb
  have hl : lv_has ls 3 [(0, .int i1), (1, .int i2), (2, .int i3)] := hl
  refine lv_iload_n hx hb dX11_within_0 rfl (lv_at hl 0 rfl) ?_
  refine lv_iload_n hx hb dX11_within_1 rfl (lv_at hl 1 rfl) ?_
  refine lv_icmp_lt (tgt := 14) hx hb dX11_within_2 (by decide) (fun c_13 => ?_) (fun c_13 => ?_)
  · have B_14 : bn (-2147483648) 2147483646 i1 := bn_w (bn_ltl c_13 (bn_any i1) (bn_any i2)) (by decide)
    have B_15 : bn (-2147483647) 2147483647 i2 := bn_w (bn_ltr c_13 (bn_any i1) (bn_any i2)) (by decide)
    refine lv_iconst (v := 0) hx hb dX11_within_14 (by decide) ?_
    exact prI (post := fun r L1 f1 => (bn 0 1 r) ∧ L1 = L ∧ f1 = f) S Y rfl (by decide) (by decide) hA1 ⟨bn_w (show bn 0 0 (0 : Int32) from bn_k (by decide)) (by decide), rfl, rfl⟩ dX11_within_15
  · refine lv_iload_n hx hb dX11_within_5 rfl (lv_at hl 0 rfl) ?_
    refine lv_iload_n hx hb dX11_within_6 rfl (lv_at hl 2 rfl) ?_
    refine lv_icmp_gt (tgt := 14) hx hb dX11_within_7 (by decide) (fun c_16 => ?_) (fun c_16 => ?_)
    · have B_17 : bn (-2147483648) 2147483646 i3 := bn_w (bn_ltl c_16 (bn_any i3) (bn_any i1)) (by decide)
      have B_18 : bn (-2147483647) 2147483647 i1 := bn_w (bn_ltr c_16 (bn_any i3) (bn_any i1)) (by decide)
      refine lv_iconst (v := 0) hx hb dX11_within_14 (by decide) ?_
      exact prI (post := fun r L1 f1 => (bn 0 1 r) ∧ L1 = L ∧ f1 = f) S Y rfl (by decide) (by decide) hA1 ⟨bn_w (show bn 0 0 (0 : Int32) from bn_k (by decide)) (by decide), rfl, rfl⟩ dX11_within_15
    · refine lv_iconst (v := 1) hx hb dX11_within_10 (by decide) ?_
      refine lv_goto (tgt := 15) hx hb dX11_within_11 (by decide) ?_
      exact prI (post := fun r L1 f1 => (bn 0 1 r) ∧ L1 = L ∧ f1 = f) S Y rfl (by decide) (by decide) hA1 ⟨bn_w (show bn 1 1 (1 : Int32) from bn_k (by decide)) (by decide), rfl, rfl⟩ dX11_within_15
set_option maxHeartbeats 4000000 in
set_option maxRecDepth 100000 in
theorem x_X4_has {l : Launch} {G : GG}  {L : List Nat} {f : HF} {ad : Nat → Nat → Nat} {rs : RS} {fc : Int × Int} {tc w : Nat → Int × Int} {q : Nat → (Nat → Int32) → Prop} {j : Nat} {i1 : Int32} (I : SH (spC rs fc tc w q) nnC G ad L f) (hW : WBp w 8) (hT : WBp tc 4) (hQ : QIp q) (hj : j < 63) : PMp l yX4_has cX4_has 2 .boolean 0 0 0 G [.ref (ad 10 j), .int i1] L f (fun r => bn 0 1 r) := by
  refine PMi.of (post := fun r L1 f1 => (bn 0 1 r) ∧ L1 = L ∧ f1 = f) (own := RX4) (by decide) rfl (Nat.le_of_ble_eq_true rfl) (fun sz p e s m args below meth c A ls hA1 hname S Y hl => ?_)
  have hx := S.hx
  have hb := S.hb
  have hl : lv_has ls 2 [(0, .ref (ad 10 j)), (1, .int i1)] := hl
  refine lv_iload_n hx hb dX4_has_0 rfl (lv_at hl 1 rfl) ?_
  refine lv_if_lt (tgt := 16) hx hb dX4_has_1 (by decide) (fun c_51 => ?_) (fun c_51 => ?_)
  · have B_52 : bn (-2147483648) (-1) i1 := bn_w (bn_ltl c_51 (bn_any i1) (show bn 0 0 (0 : Int32) from bn_k (by decide))) (by decide)
    refine lv_iconst (v := 0) hx hb dX4_has_16 (by decide) ?_
    exact prI (post := fun r L1 f1 => (bn 0 1 r) ∧ L1 = L ∧ f1 = f) S Y rfl (by decide) (by decide) hA1 ⟨bn_w (show bn 0 0 (0 : Int32) from bn_k (by decide)) (by decide), rfl, rfl⟩ dX4_has_17
  · have B_53 : bn 0 2147483647 i1 := bn_w (bn_gel c_51 (bn_any i1) (show bn 0 0 (0 : Int32) from bn_k (by decide))) (by decide)
    refine lv_iload_n hx hb dX4_has_4 rfl (lv_at hl 1 rfl) ?_
    refine lv_aload_n hx hb dX4_has_5 rfl (lv_at hl 0 rfl) ?_
    obtain ⟨v_54, v_56, v_58, v_60, v_62, p_ad_10_j, b_55, b_57, b_59, b_61, b_63⟩ := opnC_10 (j := j) I hj
    have p_ad_10_j : pt L f (ad 10 j) (.inr (4, [.ref (ad 11 j), .ref (ad 12 j), .int v_54, .int v_56, .int v_58, .int v_60, .int v_62])) := p_ad_10_j
    refine pg_get S Y ok_X4 2 (by decide) kf4_28 (v := .int v_54) p_ad_10_j rfl dX4_has_6 ?_
    refine lv_icmp_ge (tgt := 16) hx hb dX4_has_9 (by decide) (fun c_64 => ?_) (fun c_64 => ?_)
    · refine lv_iconst (v := 0) hx hb dX4_has_16 (by decide) ?_
      exact prI (post := fun r L1 f1 => (bn 0 1 r) ∧ L1 = L ∧ f1 = f) S Y rfl (by decide) (by decide) hA1 ⟨bn_w (show bn 0 0 (0 : Int32) from bn_k (by decide)) (by decide), rfl, rfl⟩ dX4_has_17
    · have B_65 : bn 1 14 v_54 := bn_w (bn_gtl c_64 b_55 B_53) (by decide)
      have B_66 : bn 0 13 i1 := bn_w (bn_gtr c_64 b_55 B_53) (by decide)
      refine lv_iconst (v := 1) hx hb dX4_has_12 (by decide) ?_
      refine lv_goto (tgt := 17) hx hb dX4_has_13 (by decide) ?_
      exact prI (post := fun r L1 f1 => (bn 0 1 r) ∧ L1 = L ∧ f1 = f) S Y rfl (by decide) (by decide) hA1 ⟨bn_w (show bn 1 1 (1 : Int32) from bn_k (by decide)) (by decide), rfl, rfl⟩ dX4_has_17
set_option maxHeartbeats 4000000 in
set_option maxRecDepth 100000 in
theorem x_X4_get {l : Launch} {G : GG}  {L : List Nat} {f : HF} {ad : Nat → Nat → Nat} {rs : RS} {fc : Int × Int} {tc w : Nat → Int × Int} {q : Nat → (Nat → Int32) → Prop} {j : Nat} {i1 i2 : Int32} (I : SH (spC rs fc tc w q) nnC G ad L f) (hW : WBp w 8) (hT : WBp tc 4) (hQ : QIp q) (hj : j < 63) : PMp l yX4_get cX4_get 3 .int 0 0 0 G [.ref (ad 10 j), .int i1, .int i2] L f (fun r => True) := by
  refine PMi.of (post := fun r L1 f1 => (True) ∧ L1 = L ∧ f1 = f) (own := RX4) (by decide) rfl (Nat.le_of_ble_eq_true rfl) (fun sz p e s m args below meth c A ls hA1 hname S Y hl => ?_)
  have hx := S.hx
  have hb := S.hb
  have hl : lv_has ls 3 [(0, .ref (ad 10 j)), (1, .int i1), (2, .int i2)] := hl
  refine lv_iload_n hx hb dX4_get_0 rfl (lv_at hl 1 rfl) ?_
  refine lv_if_lt (tgt := 22) hx hb dX4_get_1 (by decide) (fun c_121 => ?_) (fun c_121 => ?_)
  · have B_122 : bn (-2147483648) (-1) i1 := bn_w (bn_ltl c_121 (bn_any i1) (show bn 0 0 (0 : Int32) from bn_k (by decide))) (by decide)
    refine lv_iconst (v := (-1)) hx hb dX4_get_22 (by decide) ?_
    exact prI (post := fun r L1 f1 => (True) ∧ L1 = L ∧ f1 = f) S Y rfl (by decide) (by decide) hA1 ⟨trivial, rfl, rfl⟩ dX4_get_23
  · have B_123 : bn 0 2147483647 i1 := bn_w (bn_gel c_121 (bn_any i1) (show bn 0 0 (0 : Int32) from bn_k (by decide))) (by decide)
    refine lv_iload_n hx hb dX4_get_4 rfl (lv_at hl 1 rfl) ?_
    refine lv_aload_n hx hb dX4_get_5 rfl (lv_at hl 0 rfl) ?_
    obtain ⟨v_124, v_126, v_128, v_130, v_132, p_ad_10_j, b_125, b_127, b_129, b_131, b_133⟩ := opnC_10 (j := j) I hj
    have p_ad_10_j : pt L f (ad 10 j) (.inr (4, [.ref (ad 11 j), .ref (ad 12 j), .int v_124, .int v_126, .int v_128, .int v_130, .int v_132])) := p_ad_10_j
    refine pg_get S Y ok_X4 2 (by decide) kf4_28 (v := .int v_124) p_ad_10_j rfl dX4_get_6 ?_
    refine lv_icmp_ge (tgt := 22) hx hb dX4_get_9 (by decide) (fun c_134 => ?_) (fun c_134 => ?_)
    · refine lv_iconst (v := (-1)) hx hb dX4_get_22 (by decide) ?_
      exact prI (post := fun r L1 f1 => (True) ∧ L1 = L ∧ f1 = f) S Y rfl (by decide) (by decide) hA1 ⟨trivial, rfl, rfl⟩ dX4_get_23
    · have B_135 : bn 1 14 v_124 := bn_w (bn_gtl c_134 b_125 B_123) (by decide)
      have B_136 : bn 0 13 i1 := bn_w (bn_gtr c_134 b_125 B_123) (by decide)
      refine lv_iload_n hx hb dX4_get_12 rfl (lv_at hl 2 rfl) ?_
      refine lv_if_lt (tgt := 22) hx hb dX4_get_13 (by decide) (fun c_137 => ?_) (fun c_137 => ?_)
      · have B_138 : bn (-2147483648) (-1) i2 := bn_w (bn_ltl c_137 (bn_any i2) (show bn 0 0 (0 : Int32) from bn_k (by decide))) (by decide)
        refine lv_iconst (v := (-1)) hx hb dX4_get_22 (by decide) ?_
        exact prI (post := fun r L1 f1 => (True) ∧ L1 = L ∧ f1 = f) S Y rfl (by decide) (by decide) hA1 ⟨trivial, rfl, rfl⟩ dX4_get_23
      · have B_139 : bn 0 2147483647 i2 := bn_w (bn_gel c_137 (bn_any i2) (show bn 0 0 (0 : Int32) from bn_k (by decide))) (by decide)
        refine lv_iload_n hx hb dX4_get_16 rfl (lv_at hl 2 rfl) ?_
        refine lv_bipush (v := 7) hx hb dX4_get_17 (by decide) ?_
        refine lv_icmp_lt (tgt := 24) hx hb dX4_get_19 (by decide) (fun c_140 => ?_) (fun c_140 => ?_)
        · have B_141 : bn 0 6 i2 := bn_w (bn_ltl c_140 B_139 (show bn 7 7 (7 : Int32) from bn_k (by decide))) (by decide)
          refine lv_aload_n hx hb dX4_get_24 rfl (lv_at hl 0 rfl) ?_
          refine pg_get S Y ok_X4 0 (by decide) kf4_9 (v := .ref (ad 11 j)) p_ad_10_j rfl dX4_get_25 ?_
          refine lv_iload_n hx hb dX4_get_28 rfl (lv_at hl 1 rfl) ?_
          refine lv_bipush (v := 7) hx hb dX4_get_29 (by decide) ?_
          refine lv_imul hx hb dX4_get_31 ?_
          refine lv_topi (fun x_143 ex_143 => ?_)
          refine lv_iload_n hx hb dX4_get_32 rfl (lv_at hl 2 rfl) ?_
          refine lv_iadd hx hb dX4_get_33 ?_
          refine lv_topi (fun x_144 ex_144 => ?_)
          obtain ⟨g_145, p_ad_11_j, o_146⟩ := I.opi (k := 11) (j := j) hj rfl
          have p_ad_11_j : pt L f (ad 11 j) (.inl (G.2 0, 98, .inl g_145)) := p_ad_11_j
          obtain ⟨v_147, ev_147⟩ : ∃ z, z = g_145 (x_144 : Int32).toNatClampNeg := ⟨_, rfl⟩
          refine pg_iald S Y (v := v_147) p_ad_11_j (vp_bn (bn_eq ex_144 (bn_add (bn_eq ex_143 (bn_mul B_136 (show bn 7 7 (7 : Int32) from bn_k (by decide)) (by decide))) B_141 (by decide))) (by decide)) ev_147.symm dX4_get_34 ?_
          exact prI (post := fun r L1 f1 => (True) ∧ L1 = L ∧ f1 = f) S Y rfl (by decide) (by decide) hA1 ⟨trivial, rfl, rfl⟩ dX4_get_35
        · have B_142 : bn 7 2147483647 i2 := bn_w (bn_gel c_140 B_139 (show bn 7 7 (7 : Int32) from bn_k (by decide))) (by decide)
          refine lv_iconst (v := (-1)) hx hb dX4_get_22 (by decide) ?_
          exact prI (post := fun r L1 f1 => (True) ∧ L1 = L ∧ f1 = f) S Y rfl (by decide) (by decide) hA1 ⟨trivial, rfl, rfl⟩ dX4_get_23
set_option maxHeartbeats 4000000 in
set_option maxRecDepth 100000 in
theorem x_X4_put {l : Launch} {G : GG}  {L : List Nat} {f : HF} {ad : Nat → Nat → Nat} {rs : RS} {fc : Int × Int} {tc w : Nat → Int × Int} {q : Nat → (Nat → Int32) → Prop} {j : Nat} {i1 i2 i3 : Int32} (I : SH (spC rs fc tc w q) nnC G ad L f) (hW : WBp w 8) (hT : WBp tc 4) (hQ : QIp q) (hj : j < 63) : PMv l yX4_put cX4_put 4 0 0 0 G [.ref (ad 10 j), .int i1, .int i2, .int i3] L f (fun L1 f1 => SH (spC rs fc tc w q) nnC G ad L1 f1) := by
  refine PMv.of (post := fun L1 f1 => SH (spC rs fc tc w q) nnC G ad L1 f1) (own := RX4) (by decide) rfl (Nat.le_of_ble_eq_true rfl) (fun sz p e s m args below meth c A ls hA1 hname S Y hl => ?_)
  have hx := S.hx
  have hb := S.hb
  have hl : lv_has ls 4 [(0, .ref (ad 10 j)), (1, .int i1), (2, .int i2), (3, .int i3)] := hl
  refine lv_iload_n hx hb dX4_put_0 rfl (lv_at hl 1 rfl) ?_
  refine lv_if_lt (tgt := 34) hx hb dX4_put_1 (by decide) (fun c_204 => ?_) (fun c_204 => ?_)
  · have B_205 : bn (-2147483648) (-1) i1 := bn_w (bn_ltl c_204 (bn_any i1) (show bn 0 0 (0 : Int32) from bn_k (by decide))) (by decide)
    exact prV (post := fun L1 f1 => SH (spC rs fc tc w q) nnC G ad L1 f1) S Y (by decide) (by decide) hA1 I dX4_put_34
  · have B_206 : bn 0 2147483647 i1 := bn_w (bn_gel c_204 (bn_any i1) (show bn 0 0 (0 : Int32) from bn_k (by decide))) (by decide)
    refine lv_iload_n hx hb dX4_put_4 rfl (lv_at hl 1 rfl) ?_
    refine lv_aload_n hx hb dX4_put_5 rfl (lv_at hl 0 rfl) ?_
    obtain ⟨v_207, v_209, v_211, v_213, v_215, p_ad_10_j, b_208, b_210, b_212, b_214, b_216⟩ := opnC_10 (j := j) I hj
    have p_ad_10_j : pt L f (ad 10 j) (.inr (4, [.ref (ad 11 j), .ref (ad 12 j), .int v_207, .int v_209, .int v_211, .int v_213, .int v_215])) := p_ad_10_j
    refine pg_get S Y ok_X4 2 (by decide) kf4_28 (v := .int v_207) p_ad_10_j rfl dX4_put_6 ?_
    refine lv_icmp_ge (tgt := 34) hx hb dX4_put_9 (by decide) (fun c_217 => ?_) (fun c_217 => ?_)
    · exact prV (post := fun L1 f1 => SH (spC rs fc tc w q) nnC G ad L1 f1) S Y (by decide) (by decide) hA1 I dX4_put_34
    · have B_218 : bn 1 14 v_207 := bn_w (bn_gtl c_217 b_208 B_206) (by decide)
      have B_219 : bn 0 13 i1 := bn_w (bn_gtr c_217 b_208 B_206) (by decide)
      refine lv_iload_n hx hb dX4_put_12 rfl (lv_at hl 2 rfl) ?_
      refine lv_if_lt (tgt := 34) hx hb dX4_put_13 (by decide) (fun c_220 => ?_) (fun c_220 => ?_)
      · have B_221 : bn (-2147483648) (-1) i2 := bn_w (bn_ltl c_220 (bn_any i2) (show bn 0 0 (0 : Int32) from bn_k (by decide))) (by decide)
        exact prV (post := fun L1 f1 => SH (spC rs fc tc w q) nnC G ad L1 f1) S Y (by decide) (by decide) hA1 I dX4_put_34
      · have B_222 : bn 0 2147483647 i2 := bn_w (bn_gel c_220 (bn_any i2) (show bn 0 0 (0 : Int32) from bn_k (by decide))) (by decide)
        refine lv_iload_n hx hb dX4_put_16 rfl (lv_at hl 2 rfl) ?_
        refine lv_bipush (v := 7) hx hb dX4_put_17 (by decide) ?_
        refine lv_icmp_ge (tgt := 34) hx hb dX4_put_19 (by decide) (fun c_223 => ?_) (fun c_223 => ?_)
        · have B_224 : bn 7 2147483647 i2 := bn_w (bn_ler c_223 (show bn 7 7 (7 : Int32) from bn_k (by decide)) B_222) (by decide)
          exact prV (post := fun L1 f1 => SH (spC rs fc tc w q) nnC G ad L1 f1) S Y (by decide) (by decide) hA1 I dX4_put_34
        · have B_225 : bn 0 6 i2 := bn_w (bn_gtr c_223 (show bn 7 7 (7 : Int32) from bn_k (by decide)) B_222) (by decide)
          refine lv_aload_n hx hb dX4_put_22 rfl (lv_at hl 0 rfl) ?_
          refine pg_get S Y ok_X4 0 (by decide) kf4_9 (v := .ref (ad 11 j)) p_ad_10_j rfl dX4_put_23 ?_
          refine lv_iload_n hx hb dX4_put_26 rfl (lv_at hl 1 rfl) ?_
          refine lv_bipush (v := 7) hx hb dX4_put_27 (by decide) ?_
          refine lv_imul hx hb dX4_put_29 ?_
          refine lv_topi (fun x_226 ex_226 => ?_)
          refine lv_iload_n hx hb dX4_put_30 rfl (lv_at hl 2 rfl) ?_
          refine lv_iadd hx hb dX4_put_31 ?_
          refine lv_topi (fun x_227 ex_227 => ?_)
          refine lv_iload_n hx hb dX4_put_32 rfl (lv_at hl 3 rfl) ?_
          obtain ⟨g_228, p_ad_11_j, o_229⟩ := I.opi (k := 11) (j := j) hj rfl
          have p_ad_11_j : pt L f (ad 11 j) (.inl (G.2 0, 98, .inl g_228)) := p_ad_11_j
          refine pg_iast S Y p_ad_11_j (vp_bn (bn_eq ex_227 (bn_add (bn_eq ex_226 (bn_mul B_219 (show bn 7 7 (7 : Int32) from bn_k (by decide)) (by decide))) B_225 (by decide))) (by decide)) dX4_put_33 (fun f_231 H locs ef_231 Y => ?_)
          obtain ⟨g_230, eg_230⟩ : ∃ z, z = upd (g_228) (x_227 : Int32).toNatClampNeg i3 := ⟨_, rfl⟩
          rw [← eg_230] at ef_231
          have p_ad_10_j := p_ad_10_j.up ef_231 (I.ne (k := 10) (j := j) (k' := 11) (j' := j) hj hj (Or.inl (by decide)))
          have p_ad_11_j := p_ad_11_j.me ef_231
          have I := I.up (k := 11) (j := j) hj ef_231 (okE_a (g := g_230) trivial)
          exact prV (post := fun L1 f1 => SH (spC rs fc tc w q) nnC G ad L1 f1) S Y (by decide) (by decide) hA1 I dX4_put_34
set_option maxHeartbeats 4000000 in
set_option maxRecDepth 100000 in
theorem x_X4_lastsOn {l : Launch} {G : GG}  {L : List Nat} {f : HF} {ad : Nat → Nat → Nat} {rs : RS} {fc : Int × Int} {tc w : Nat → Int × Int} {q : Nat → (Nat → Int32) → Prop} {j : Nat} (I : SH (spC rs fc tc w q) nnC G ad L f) (hW : WBp w 8) (hT : WBp tc 4) (hQ : QIp q) (hj : j < 63) : PMp l yX4_lastsOn cX4_lastsOn 1 .boolean 0 0 0 G [.ref (ad 10 j)] L f (fun r => bn 0 1 r) := by
  refine PMi.of (post := fun r L1 f1 => (bn 0 1 r) ∧ L1 = L ∧ f1 = f) (own := RX4) (by decide) rfl (Nat.le_of_ble_eq_true rfl) (fun sz p e s m args below meth c A ls hA1 hname S Y hl => ?_)
  have hx := S.hx
  have hb := S.hb
  have hl : lv_has ls 1 [(0, .ref (ad 10 j))] := hl
  refine lv_aload_n hx hb dX4_lastsOn_0 rfl (lv_at hl 0 rfl) ?_
  obtain ⟨v_258, v_260, v_262, v_264, v_266, p_ad_10_j, b_259, b_261, b_263, b_265, b_267⟩ := opnC_10 (j := j) I hj
  have p_ad_10_j : pt L f (ad 10 j) (.inr (4, [.ref (ad 11 j), .ref (ad 12 j), .int v_258, .int v_260, .int v_262, .int v_264, .int v_266])) := p_ad_10_j
  refine pg_get S Y ok_X4 4 (by decide) kf4_34 (v := .int v_262) p_ad_10_j rfl dX4_lastsOn_1 ?_
  refine lv_sipush (v := 9999) hx hb dX4_lastsOn_4 (by decide) ?_
  refine lv_icmp_ge (tgt := 14) hx hb dX4_lastsOn_7 (by decide) (fun c_268 => ?_) (fun c_268 => ?_)
  · have B_269 : bn 9999 2147483647 v_262 := bn_w (bn_ler c_268 (show bn 9999 9999 (9999 : Int32) from bn_k (by decide)) (bn_any v_262)) (by decide)
    refine lv_iconst (v := 0) hx hb dX4_lastsOn_14 (by decide) ?_
    exact prI (post := fun r L1 f1 => (bn 0 1 r) ∧ L1 = L ∧ f1 = f) S Y rfl (by decide) (by decide) hA1 ⟨bn_w (show bn 0 0 (0 : Int32) from bn_k (by decide)) (by decide), rfl, rfl⟩ dX4_lastsOn_15
  · have B_270 : bn (-2147483648) 9998 v_262 := bn_w (bn_gtr c_268 (show bn 9999 9999 (9999 : Int32) from bn_k (by decide)) (bn_any v_262)) (by decide)
    refine lv_iconst (v := 1) hx hb dX4_lastsOn_10 (by decide) ?_
    refine lv_goto (tgt := 15) hx hb dX4_lastsOn_11 (by decide) ?_
    exact prI (post := fun r L1 f1 => (bn 0 1 r) ∧ L1 = L ∧ f1 = f) S Y rfl (by decide) (by decide) hA1 ⟨bn_w (show bn 1 1 (1 : Int32) from bn_k (by decide)) (by decide), rfl, rfl⟩ dX4_lastsOn_15
set_option maxHeartbeats 4000000 in
set_option maxRecDepth 100000 in
theorem x_X4_unreleased {l : Launch} {G : GG}  {L : List Nat} {f : HF} {ad : Nat → Nat → Nat} {rs : RS} {fc : Int × Int} {tc w : Nat → Int × Int} {q : Nat → (Nat → Int32) → Prop} {j : Nat} {i1 : Int32} (I : SH (spC rs fc tc w q) nnC G ad L f) (hW : WBp w 8) (hT : WBp tc 4) (hQ : QIp q) (hj : j < 63) : PMp l yX4_unreleased cX4_unreleased 2 .boolean 1 0 0 G [.ref (ad 10 j), .int i1] L f (fun r => bn 0 1 r) := by
  refine PMi.of (post := fun r L1 f1 => (bn 0 1 r) ∧ L1 = L ∧ f1 = f) (own := RX4) (by decide) rfl (Nat.le_of_ble_eq_true rfl) (fun sz p e s m args below meth c A ls hA1 hname S Y hl => ?_)
  have hx := S.hx
  have hb := S.hb
  have hl : lv_has ls 2 [(0, .ref (ad 10 j)), (1, .int i1)] := hl
  refine lv_aload_n hx hb dX4_unreleased_0 rfl (lv_at hl 0 rfl) ?_
  refine lv_iload_n hx hb dX4_unreleased_1 rfl (lv_at hl 1 rfl) ?_
  refine cVp (As := [.int i1]) (rest := []) S Y (x_X4_has (l := l) (j := j) I hW hT hQ hj) cw_X4_has km4_53 (I.opo (k := 10) (j := j) hj rfl).choose_spec.1 ok_X4.1 rfl rfl ⟨Nat.le_of_ble_eq_true rfl, Nat.le_of_ble_eq_true rfl⟩ hl.1 rfl (Nat.le_of_ble_eq_true rfl) ⟨Nat.le_of_ble_eq_true rfl, Nat.le_of_ble_eq_true rfl⟩ dX4_unreleased_2 (fun r_285 H locs er_285 Y => ?_)
  refine lv_if_eq (tgt := 22) hx hb dX4_unreleased_5 (by decide) (fun c_286 => ?_) (fun c_286 => ?_)
  · have B_287 : bn 0 0 r_285 := bn_w (bn_eq c_286 (show bn 0 0 (0 : Int32) from bn_k (by decide))) (by decide)
    refine lv_iconst (v := 0) hx hb dX4_unreleased_22 (by decide) ?_
    exact prI (post := fun r L1 f1 => (bn 0 1 r) ∧ L1 = L ∧ f1 = f) S Y rfl (by decide) (by decide) hA1 ⟨bn_w (show bn 0 0 (0 : Int32) from bn_k (by decide)) (by decide), rfl, rfl⟩ dX4_unreleased_23
  · have B_288 : bn 1 1 r_285 := bn_w (bn_nel c_286 er_285 (show bn 0 0 (0 : Int32) from bn_k (by decide))) (by decide)
    refine lv_aload_n hx hb dX4_unreleased_8 rfl (lv_at hl 0 rfl) ?_
    refine lv_iload_n hx hb dX4_unreleased_9 rfl (lv_at hl 1 rfl) ?_
    refine lv_iconst (v := 4) hx hb dX4_unreleased_10 (by decide) ?_
    refine cVp (As := [.int i1, .int 4]) (rest := []) S Y (x_X4_get (l := l) (j := j) I hW hT hQ hj) cw_X4_get km4_44 (I.opo (k := 10) (j := j) hj rfl).choose_spec.1 ok_X4.1 rfl rfl ⟨Nat.le_of_ble_eq_true rfl, Nat.le_of_ble_eq_true rfl⟩ hl.1 rfl (Nat.le_of_ble_eq_true rfl) ⟨Nat.le_of_ble_eq_true rfl, Nat.le_of_ble_eq_true rfl⟩ dX4_unreleased_11 (fun r_289 H locs er_289 Y => ?_)
    refine lv_iconst (v := 2) hx hb dX4_unreleased_14 (by decide) ?_
    refine lv_icmp_eq (tgt := 22) hx hb dX4_unreleased_15 (by decide) (fun c_290 => ?_) (fun c_290 => ?_)
    · have B_291 : bn 2 2 r_289 := bn_w (bn_eq c_290 (show bn 2 2 (2 : Int32) from bn_k (by decide))) (by decide)
      refine lv_iconst (v := 0) hx hb dX4_unreleased_22 (by decide) ?_
      exact prI (post := fun r L1 f1 => (bn 0 1 r) ∧ L1 = L ∧ f1 = f) S Y rfl (by decide) (by decide) hA1 ⟨bn_w (show bn 0 0 (0 : Int32) from bn_k (by decide)) (by decide), rfl, rfl⟩ dX4_unreleased_23
    · refine lv_iconst (v := 1) hx hb dX4_unreleased_18 (by decide) ?_
      refine lv_goto (tgt := 23) hx hb dX4_unreleased_19 (by decide) ?_
      exact prI (post := fun r L1 f1 => (bn 0 1 r) ∧ L1 = L ∧ f1 = f) S Y rfl (by decide) (by decide) hA1 ⟨bn_w (show bn 1 1 (1 : Int32) from bn_k (by decide)) (by decide), rfl, rfl⟩ dX4_unreleased_23
set_option maxHeartbeats 4000000 in
set_option maxRecDepth 100000 in
theorem x_X4_legible {l : Launch} {G : GG}  {L : List Nat} {f : HF} {ad : Nat → Nat → Nat} {rs : RS} {fc : Int × Int} {tc w : Nat → Int × Int} {q : Nat → (Nat → Int32) → Prop} {j : Nat} {i1 : Int32} (I : SH (spC rs fc tc w q) nnC G ad L f) (hW : WBp w 8) (hT : WBp tc 4) (hQ : QIp q) (hj : j < 63) : PMp l yX4_legible cX4_legible 2 .boolean 2 0 0 G [.ref (ad 10 j), .int i1] L f (fun r => bn 0 1 r) := by
  refine PMi.of (post := fun r L1 f1 => (bn 0 1 r) ∧ L1 = L ∧ f1 = f) (own := RX4) (by decide) rfl (Nat.le_of_ble_eq_true rfl) (fun sz p e s m args below meth c A ls hA1 hname S Y hl => ?_)
  have hx := S.hx
  have hb := S.hb
  have hl : lv_has ls 2 [(0, .ref (ad 10 j)), (1, .int i1)] := hl
  refine lv_aload_n hx hb dX4_legible_0 rfl (lv_at hl 0 rfl) ?_
  refine lv_iload_n hx hb dX4_legible_1 rfl (lv_at hl 1 rfl) ?_
  refine lv_iconst (v := 5) hx hb dX4_legible_2 (by decide) ?_
  refine cVp (As := [.int i1, .int 5]) (rest := []) S Y (x_X4_get (l := l) (j := j) I hW hT hQ hj) cw_X4_get km4_44 (I.opo (k := 10) (j := j) hj rfl).choose_spec.1 ok_X4.1 rfl rfl ⟨Nat.le_of_ble_eq_true rfl, Nat.le_of_ble_eq_true rfl⟩ hl.1 rfl (Nat.le_of_ble_eq_true rfl) ⟨Nat.le_of_ble_eq_true rfl, Nat.le_of_ble_eq_true rfl⟩ dX4_legible_3 (fun r_308 H locs er_308 Y => ?_)
  refine lv_bipush (v := 99) hx hb dX4_legible_6 (by decide) ?_
  refine lv_icmp_ge (tgt := 23) hx hb dX4_legible_8 (by decide) (fun c_309 => ?_) (fun c_309 => ?_)
  · have B_310 : bn 99 2147483647 r_308 := bn_w (bn_ler c_309 (show bn 99 99 (99 : Int32) from bn_k (by decide)) (bn_any r_308)) (by decide)
    refine lv_iconst (v := 0) hx hb dX4_legible_23 (by decide) ?_
    exact prI (post := fun r L1 f1 => (bn 0 1 r) ∧ L1 = L ∧ f1 = f) S Y rfl (by decide) (by decide) hA1 ⟨bn_w (show bn 0 0 (0 : Int32) from bn_k (by decide)) (by decide), rfl, rfl⟩ dX4_legible_24
  · have B_311 : bn (-2147483648) 98 r_308 := bn_w (bn_gtr c_309 (show bn 99 99 (99 : Int32) from bn_k (by decide)) (bn_any r_308)) (by decide)
    refine lv_aload_n hx hb dX4_legible_11 rfl (lv_at hl 0 rfl) ?_
    refine lv_iload_n hx hb dX4_legible_12 rfl (lv_at hl 1 rfl) ?_
    refine cVp (As := [.int i1]) (rest := []) S Y (x_X4_unreleased (l := l) (j := j) I hW hT hQ hj) cw_X4_unreleased km4_57 (I.opo (k := 10) (j := j) hj rfl).choose_spec.1 ok_X4.1 rfl rfl ⟨Nat.le_of_ble_eq_true rfl, Nat.le_of_ble_eq_true rfl⟩ hl.1 rfl (Nat.le_of_ble_eq_true rfl) ⟨Nat.le_of_ble_eq_true rfl, Nat.le_of_ble_eq_true rfl⟩ dX4_legible_13 (fun r_312 H locs er_312 Y => ?_)
    refine lv_if_eq (tgt := 23) hx hb dX4_legible_16 (by decide) (fun c_313 => ?_) (fun c_313 => ?_)
    · have B_314 : bn 0 0 r_312 := bn_w (bn_eq c_313 (show bn 0 0 (0 : Int32) from bn_k (by decide))) (by decide)
      refine lv_iconst (v := 0) hx hb dX4_legible_23 (by decide) ?_
      exact prI (post := fun r L1 f1 => (bn 0 1 r) ∧ L1 = L ∧ f1 = f) S Y rfl (by decide) (by decide) hA1 ⟨bn_w (show bn 0 0 (0 : Int32) from bn_k (by decide)) (by decide), rfl, rfl⟩ dX4_legible_24
    · have B_315 : bn 1 1 r_312 := bn_w (bn_nel c_313 er_312 (show bn 0 0 (0 : Int32) from bn_k (by decide))) (by decide)
      refine lv_iconst (v := 1) hx hb dX4_legible_19 (by decide) ?_
      refine lv_goto (tgt := 24) hx hb dX4_legible_20 (by decide) ?_
      exact prI (post := fun r L1 f1 => (bn 0 1 r) ∧ L1 = L ∧ f1 = f) S Y rfl (by decide) (by decide) hA1 ⟨bn_w (show bn 1 1 (1 : Int32) from bn_k (by decide)) (by decide), rfl, rfl⟩ dX4_legible_24
set_option maxHeartbeats 4000000 in
set_option maxRecDepth 100000 in
theorem x_X4_legibleOn {l : Launch} {G : GG}  {L : List Nat} {f : HF} {ad : Nat → Nat → Nat} {rs : RS} {fc : Int × Int} {tc w : Nat → Int × Int} {q : Nat → (Nat → Int32) → Prop} {j : Nat} {i1 i2 : Int32} (I : SH (spC rs fc tc w q) nnC G ad L f) (hW : WBp w 8) (hT : WBp tc 4) (hQ : QIp q) (hj : j < 63) : PMp l yX4_legibleOn cX4_legibleOn 4 .boolean 0 0 0 G [.ref (ad 10 j), .int i1, .int i2] L f (fun r => bn 0 1 r) := by
  refine PMi.of (post := fun r L1 f1 => (bn 0 1 r) ∧ L1 = L ∧ f1 = f) (own := RX4) (by decide) rfl (Nat.le_of_ble_eq_true rfl) (fun sz p e s m args below meth c A ls hA1 hname S Y hl => ?_)
  have hx := S.hx
  have hb := S.hb
  have hl : lv_has ls 4 [(0, .ref (ad 10 j)), (1, .int i1), (2, .int i2)] := hl
  refine lv_iload_n hx hb dX4_legibleOn_0 rfl (lv_at hl 1 rfl) ?_
  refine lv_if_lt (tgt := 12) hx hb dX4_legibleOn_1 (by decide) (fun c_378 => ?_) (fun c_378 => ?_)
  · have B_379 : bn (-2147483648) (-1) i1 := bn_w (bn_ltl c_378 (bn_any i1) (show bn 0 0 (0 : Int32) from bn_k (by decide))) (by decide)
    refine lv_iconst (v := 0) hx hb dX4_legibleOn_12 (by decide) ?_
    exact prI (post := fun r L1 f1 => (bn 0 1 r) ∧ L1 = L ∧ f1 = f) S Y rfl (by decide) (by decide) hA1 ⟨bn_w (show bn 0 0 (0 : Int32) from bn_k (by decide)) (by decide), rfl, rfl⟩ dX4_legibleOn_13
  · have B_380 : bn 0 2147483647 i1 := bn_w (bn_gel c_378 (bn_any i1) (show bn 0 0 (0 : Int32) from bn_k (by decide))) (by decide)
    refine lv_iload_n hx hb dX4_legibleOn_4 rfl (lv_at hl 1 rfl) ?_
    refine lv_aload_n hx hb dX4_legibleOn_5 rfl (lv_at hl 0 rfl) ?_
    obtain ⟨v_381, v_383, v_385, v_387, v_389, p_ad_10_j, b_382, b_384, b_386, b_388, b_390⟩ := opnC_10 (j := j) I hj
    have p_ad_10_j : pt L f (ad 10 j) (.inr (4, [.ref (ad 11 j), .ref (ad 12 j), .int v_381, .int v_383, .int v_385, .int v_387, .int v_389])) := p_ad_10_j
    refine pg_get S Y ok_X4 2 (by decide) kf4_28 (v := .int v_381) p_ad_10_j rfl dX4_legibleOn_6 ?_
    refine lv_icmp_lt (tgt := 14) hx hb dX4_legibleOn_9 (by decide) (fun c_391 => ?_) (fun c_391 => ?_)
    · have B_392 : bn 0 13 i1 := bn_w (bn_ltl c_391 B_380 b_382) (by decide)
      have B_393 : bn 1 14 v_381 := bn_w (bn_ltr c_391 B_380 b_382) (by decide)
      refine lv_iload_n hx hb dX4_legibleOn_14 rfl (lv_at hl 1 rfl) ?_
      refine lv_bipush (v := 7) hx hb dX4_legibleOn_15 (by decide) ?_
      refine lv_imul hx hb dX4_legibleOn_17 ?_
      refine lv_topi (fun x_394 ex_394 => ?_)
      refine lv_istore_n (lv' := [(3, .int x_394), (0, .ref (ad 10 j)), (1, .int i1), (2, .int i2)]) hx hb dX4_legibleOn_18 rfl hl (by decide) rfl (fun ls hl => ?_)
      refine lv_aload_n hx hb dX4_legibleOn_19 rfl (lv_at hl 1 rfl) ?_
      refine pg_get S Y ok_X4 0 (by decide) kf4_9 (v := .ref (ad 11 j)) p_ad_10_j rfl dX4_legibleOn_20 ?_
      refine lv_iload_n hx hb dX4_legibleOn_23 rfl (lv_at hl 0 rfl) ?_
      refine lv_iconst (v := 1) hx hb dX4_legibleOn_24 (by decide) ?_
      refine lv_iadd hx hb dX4_legibleOn_25 ?_
      refine lv_topi (fun x_395 ex_395 => ?_)
      obtain ⟨g_396, p_ad_11_j, o_397⟩ := I.opi (k := 11) (j := j) hj rfl
      have p_ad_11_j : pt L f (ad 11 j) (.inl (G.2 0, 98, .inl g_396)) := p_ad_11_j
      obtain ⟨v_398, ev_398⟩ : ∃ z, z = g_396 (x_395 : Int32).toNatClampNeg := ⟨_, rfl⟩
      refine pg_iald S Y (v := v_398) p_ad_11_j (vp_bn (bn_eq ex_395 (bn_add (bn_eq ex_394 (bn_mul B_392 (show bn 7 7 (7 : Int32) from bn_k (by decide)) (by decide))) (show bn 1 1 (1 : Int32) from bn_k (by decide)) (by decide))) (by decide)) ev_398.symm dX4_legibleOn_26 ?_
      refine lv_iload_n hx hb dX4_legibleOn_27 rfl (lv_at hl 3 rfl) ?_
      refine lv_icmp_ne (tgt := 60) hx hb dX4_legibleOn_28 (by decide) (fun c_399 => ?_) (fun c_399 => ?_)
      · refine lv_iconst (v := 0) hx hb dX4_legibleOn_60 (by decide) ?_
        exact prI (post := fun r L1 f1 => (bn 0 1 r) ∧ L1 = L ∧ f1 = f) S Y rfl (by decide) (by decide) hA1 ⟨bn_w (show bn 0 0 (0 : Int32) from bn_k (by decide)) (by decide), rfl, rfl⟩ dX4_legibleOn_61
      · refine lv_aload_n hx hb dX4_legibleOn_31 rfl (lv_at hl 1 rfl) ?_
        refine pg_get S Y ok_X4 0 (by decide) kf4_9 (v := .ref (ad 11 j)) p_ad_10_j rfl dX4_legibleOn_32 ?_
        refine lv_iload_n hx hb dX4_legibleOn_35 rfl (lv_at hl 0 rfl) ?_
        refine lv_iconst (v := 5) hx hb dX4_legibleOn_36 (by decide) ?_
        refine lv_iadd hx hb dX4_legibleOn_37 ?_
        refine lv_topi (fun x_400 ex_400 => ?_)
        obtain ⟨v_401, ev_401⟩ : ∃ z, z = g_396 (x_400 : Int32).toNatClampNeg := ⟨_, rfl⟩
        refine pg_iald S Y (v := v_401) p_ad_11_j (vp_bn (bn_eq ex_400 (bn_add (bn_eq ex_394 (bn_mul B_392 (show bn 7 7 (7 : Int32) from bn_k (by decide)) (by decide))) (show bn 5 5 (5 : Int32) from bn_k (by decide)) (by decide))) (by decide)) ev_401.symm dX4_legibleOn_38 ?_
        refine lv_bipush (v := 99) hx hb dX4_legibleOn_39 (by decide) ?_
        refine lv_icmp_ge (tgt := 60) hx hb dX4_legibleOn_41 (by decide) (fun c_402 => ?_) (fun c_402 => ?_)
        · have B_403 : bn 99 2147483647 v_401 := bn_w (bn_ler c_402 (show bn 99 99 (99 : Int32) from bn_k (by decide)) (bn_any v_401)) (by decide)
          refine lv_iconst (v := 0) hx hb dX4_legibleOn_60 (by decide) ?_
          exact prI (post := fun r L1 f1 => (bn 0 1 r) ∧ L1 = L ∧ f1 = f) S Y rfl (by decide) (by decide) hA1 ⟨bn_w (show bn 0 0 (0 : Int32) from bn_k (by decide)) (by decide), rfl, rfl⟩ dX4_legibleOn_61
        · have B_404 : bn (-2147483648) 98 v_401 := bn_w (bn_gtr c_402 (show bn 99 99 (99 : Int32) from bn_k (by decide)) (bn_any v_401)) (by decide)
          refine lv_aload_n hx hb dX4_legibleOn_44 rfl (lv_at hl 1 rfl) ?_
          refine pg_get S Y ok_X4 0 (by decide) kf4_9 (v := .ref (ad 11 j)) p_ad_10_j rfl dX4_legibleOn_45 ?_
          refine lv_iload_n hx hb dX4_legibleOn_48 rfl (lv_at hl 0 rfl) ?_
          refine lv_iconst (v := 4) hx hb dX4_legibleOn_49 (by decide) ?_
          refine lv_iadd hx hb dX4_legibleOn_50 ?_
          refine lv_topi (fun x_405 ex_405 => ?_)
          obtain ⟨v_406, ev_406⟩ : ∃ z, z = g_396 (x_405 : Int32).toNatClampNeg := ⟨_, rfl⟩
          refine pg_iald S Y (v := v_406) p_ad_11_j (vp_bn (bn_eq ex_405 (bn_add (bn_eq ex_394 (bn_mul B_392 (show bn 7 7 (7 : Int32) from bn_k (by decide)) (by decide))) (show bn 4 4 (4 : Int32) from bn_k (by decide)) (by decide))) (by decide)) ev_406.symm dX4_legibleOn_51 ?_
          refine lv_iconst (v := 2) hx hb dX4_legibleOn_52 (by decide) ?_
          refine lv_icmp_eq (tgt := 60) hx hb dX4_legibleOn_53 (by decide) (fun c_407 => ?_) (fun c_407 => ?_)
          · have B_408 : bn 2 2 v_406 := bn_w (bn_eq c_407 (show bn 2 2 (2 : Int32) from bn_k (by decide))) (by decide)
            refine lv_iconst (v := 0) hx hb dX4_legibleOn_60 (by decide) ?_
            exact prI (post := fun r L1 f1 => (bn 0 1 r) ∧ L1 = L ∧ f1 = f) S Y rfl (by decide) (by decide) hA1 ⟨bn_w (show bn 0 0 (0 : Int32) from bn_k (by decide)) (by decide), rfl, rfl⟩ dX4_legibleOn_61
          · refine lv_iconst (v := 1) hx hb dX4_legibleOn_56 (by decide) ?_
            refine lv_goto (tgt := 61) hx hb dX4_legibleOn_57 (by decide) ?_
            exact prI (post := fun r L1 f1 => (bn 0 1 r) ∧ L1 = L ∧ f1 = f) S Y rfl (by decide) (by decide) hA1 ⟨bn_w (show bn 1 1 (1 : Int32) from bn_k (by decide)) (by decide), rfl, rfl⟩ dX4_legibleOn_61
    · refine lv_iconst (v := 0) hx hb dX4_legibleOn_12 (by decide) ?_
      exact prI (post := fun r L1 f1 => (bn 0 1 r) ∧ L1 = L ∧ f1 = f) S Y rfl (by decide) (by decide) hA1 ⟨bn_w (show bn 0 0 (0 : Int32) from bn_k (by decide)) (by decide), rfl, rfl⟩ dX4_legibleOn_13
set_option maxHeartbeats 4000000 in
set_option maxRecDepth 100000 in
theorem x_X4_marks {l : Launch} {G : GG}  {L : List Nat} {f : HF} {ad : Nat → Nat → Nat} {rs : RS} {fc : Int × Int} {tc w : Nat → Int × Int} {q : Nat → (Nat → Int32) → Prop} {j : Nat} {i1 : Int32} (I : SH (spC rs fc tc w q) nnC G ad L f) (hW : WBp w 8) (hT : WBp tc 4) (hQ : QIp q) (hj : j < 63) : PMp l yX4_marks cX4_marks 4 .int 1 0 0 G [.ref (ad 10 j), .int i1] L f (fun r => True) := by
  refine PMi.of (post := fun r L1 f1 => (True) ∧ L1 = L ∧ f1 = f) (own := RX4) (by decide) rfl (Nat.le_of_ble_eq_true rfl) (fun sz p e s m args below meth c A ls hA1 hname S Y hl => ?_)
  have hx := S.hx
  have hb := S.hb
  have hl : lv_has ls 4 [(0, .ref (ad 10 j)), (1, .int i1)] := hl
  have J_4 : ∀ (n4 : Nat) (y4_2 y4_3 : Int32) (H : Heap) (locs : List Loc) (ls : Array Slot), (bn 0 14 y4_3) → (((14 : Int) - y4_3.toInt).toNat = n4) → (DY G A s [] L f H locs) → (lv_has ls 4 [(0, .ref (ad 10 j)), (1, .int i1), (2, .int y4_2), (3, .int y4_3)]) → W p l e (rmD 1 0 0) s m args below meth c H locs (0) (0) (MQ below (va_Qi (fun r (u : List Nat × HF) => (fun r L1 f1 => (True) ∧ L1 = L ∧ f1 = f) r u.1 u.2) (fun u t => pOut G (va_A (va_pl L f) sz) u.1 u.2 t) (va_A (va_pl L f) sz)) args s 0 0 A) (F0 m 4 ls []) := by
    intro n4
    induction n4 using Nat.strongRecOn with
    | _ n4 ih4 =>
      intro y4_2 y4_3 H locs ls b_y4_3 hm4 Y hl
      refine lv_iload_n hx hb dX4_marks_4 rfl (lv_at hl 3 rfl) ?_
      refine lv_aload_n hx hb dX4_marks_5 rfl (lv_at hl 0 rfl) ?_
      obtain ⟨v_1449, v_1451, v_1453, v_1455, v_1457, p_ad_10_j, b_1450, b_1452, b_1454, b_1456, b_1458⟩ := opnC_10 (j := j) I hj
      have p_ad_10_j : pt L f (ad 10 j) (.inr (4, [.ref (ad 11 j), .ref (ad 12 j), .int v_1449, .int v_1451, .int v_1453, .int v_1455, .int v_1457])) := p_ad_10_j
      refine pg_get S Y ok_X4 2 (by decide) kf4_28 (v := .int v_1449) p_ad_10_j rfl dX4_marks_6 ?_
      refine lv_icmp_ge (tgt := 30) hx hb dX4_marks_9 (by decide) (fun c_1459 => ?_) (fun c_1459 => ?_)
      · refine lv_iload_n hx hb dX4_marks_30 rfl (lv_at hl 2 rfl) ?_
        exact prI (post := fun r L1 f1 => (True) ∧ L1 = L ∧ f1 = f) S Y rfl (by decide) (by decide) hA1 ⟨trivial, rfl, rfl⟩ dX4_marks_31
      · have B_1460 : bn 1 14 v_1449 := bn_w (bn_gtl c_1459 b_1450 b_y4_3) (by decide)
        have B_1461 : bn 0 13 y4_3 := bn_w (bn_gtr c_1459 b_1450 b_y4_3) (by decide)
        refine lv_aload_n hx hb dX4_marks_12 rfl (lv_at hl 0 rfl) ?_
        refine lv_iload_n hx hb dX4_marks_13 rfl (lv_at hl 3 rfl) ?_
        refine lv_iload_n hx hb dX4_marks_14 rfl (lv_at hl 1 rfl) ?_
        refine cVp (As := [.int y4_3, .int i1]) (rest := []) S Y (x_X4_legibleOn (l := l) (j := j) I hW hT hQ hj) cw_X4_legibleOn km4_60 p_ad_10_j ok_X4.1 rfl rfl ⟨Nat.le_of_ble_eq_true rfl, Nat.le_of_ble_eq_true rfl⟩ hl.1 rfl (Nat.le_of_ble_eq_true rfl) ⟨Nat.le_of_ble_eq_true rfl, Nat.le_of_ble_eq_true rfl⟩ dX4_marks_15 (fun r_1462 H locs er_1462 Y => ?_)
        refine lv_if_eq (tgt := 24) hx hb dX4_marks_18 (by decide) (fun c_1463 => ?_) (fun c_1463 => ?_)
        · have B_1464 : bn 0 0 r_1462 := bn_w (bn_eq c_1463 (show bn 0 0 (0 : Int32) from bn_k (by decide))) (by decide)
          obtain ⟨x_1466, ex_1466⟩ : ∃ z : Int32, z = y4_3 + 1 := ⟨_, rfl⟩
          refine lv_iinc (v := x_1466) (lv' := [(3, .int x_1466), (0, .ref (ad 10 j)), (1, .int i1), (2, .int y4_2)]) hx hb dX4_marks_24 hl (k := 3) rfl (by rw [ex_1466]; rfl) (by decide) rfl (fun ls hl => ?_)
          refine lv_goto (tgt := 4) hx hb dX4_marks_27 (by decide) ?_
          exact ih4 _ (by rw [← hm4]; exact ms_up (m := 1) ex_1466 (show bn 1 1 (1 : Int32) from bn_k (by decide)) B_1461 (bn_w (bn_eq ex_1466 (bn_add B_1461 (show bn 1 1 (1 : Int32) from bn_k (by decide)) (by decide))) (by decide) : bn 0 14 x_1466) (by decide)) y4_2 x_1466  _ _ _  (bn_w (bn_eq ex_1466 (bn_add B_1461 (show bn 1 1 (1 : Int32) from bn_k (by decide)) (by decide))) (by decide)) rfl Y (lv_sub hl [1, 2, 3, 0] rfl)
        · have B_1465 : bn 1 1 r_1462 := bn_w (bn_nel c_1463 er_1462 (show bn 0 0 (0 : Int32) from bn_k (by decide))) (by decide)
          obtain ⟨x_1467, ex_1467⟩ : ∃ z : Int32, z = y4_2 + 1 := ⟨_, rfl⟩
          refine lv_iinc (v := x_1467) (lv' := [(2, .int x_1467), (0, .ref (ad 10 j)), (1, .int i1), (3, .int y4_3)]) hx hb dX4_marks_21 hl (k := 2) rfl (by rw [ex_1467]; rfl) (by decide) rfl (fun ls hl => ?_)
          obtain ⟨x_1468, ex_1468⟩ : ∃ z : Int32, z = y4_3 + 1 := ⟨_, rfl⟩
          refine lv_iinc (v := x_1468) (lv' := [(3, .int x_1468), (2, .int x_1467), (0, .ref (ad 10 j)), (1, .int i1)]) hx hb dX4_marks_24 hl (k := 3) rfl (by rw [ex_1468]; rfl) (by decide) rfl (fun ls hl => ?_)
          refine lv_goto (tgt := 4) hx hb dX4_marks_27 (by decide) ?_
          exact ih4 _ (by rw [← hm4]; exact ms_up (m := 1) ex_1468 (show bn 1 1 (1 : Int32) from bn_k (by decide)) B_1461 (bn_w (bn_eq ex_1468 (bn_add B_1461 (show bn 1 1 (1 : Int32) from bn_k (by decide)) (by decide))) (by decide) : bn 0 14 x_1468) (by decide)) x_1467 x_1468  _ _ _  (bn_w (bn_eq ex_1468 (bn_add B_1461 (show bn 1 1 (1 : Int32) from bn_k (by decide)) (by decide))) (by decide)) rfl Y (lv_sub hl [2, 3, 1, 0] rfl)
  refine lv_iconst (v := 0) hx hb dX4_marks_0 (by decide) ?_
  refine lv_istore_n (lv' := [(2, .int 0), (0, .ref (ad 10 j)), (1, .int i1)]) hx hb dX4_marks_1 rfl hl (by decide) rfl (fun ls hl => ?_)
  refine lv_iconst (v := 0) hx hb dX4_marks_2 (by decide) ?_
  refine lv_istore_n (lv' := [(3, .int 0), (2, .int 0), (0, .ref (ad 10 j)), (1, .int i1)]) hx hb dX4_marks_3 rfl hl (by decide) rfl (fun ls hl => ?_)
  exact J_4 _ 0 0  _ _ _  (bn_w (show bn 0 0 (0 : Int32) from bn_k (by decide)) (by decide)) rfl Y (lv_sub hl [2, 3, 1, 0] rfl)
set_option maxHeartbeats 4000000 in
set_option maxRecDepth 100000 in
theorem x_X4_marksOnKnee {l : Launch} {G : GG}  {L : List Nat} {f : HF} {ad : Nat → Nat → Nat} {rs : RS} {fc : Int × Int} {tc w : Nat → Int × Int} {q : Nat → (Nat → Int32) → Prop} {j : Nat} {i1 i2 : Int32} (I : SH (spC rs fc tc w q) nnC G ad L f) (hW : WBp w 8) (hT : WBp tc 4) (hQ : QIp q) (hj : j < 63) : PMp l yX4_marksOnKnee cX4_marksOnKnee 5 .int 1 0 0 G [.ref (ad 10 j), .int i1, .int i2] L f (fun r => True) := by
  refine PMi.of (post := fun r L1 f1 => (True) ∧ L1 = L ∧ f1 = f) (own := RX4) (by decide) rfl (Nat.le_of_ble_eq_true rfl) (fun sz p e s m args below meth c A ls hA1 hname S Y hl => ?_)
  have hx := S.hx
  have hb := S.hb
  have hl : lv_has ls 5 [(0, .ref (ad 10 j)), (1, .int i1), (2, .int i2)] := hl
  have J_5 : ∀ (n5 : Nat) (y5_3 y5_4 : Int32) (H : Heap) (locs : List Loc) (ls : Array Slot), (bn 0 14 y5_4) → (((14 : Int) - y5_4.toInt).toNat = n5) → (DY G A s [] L f H locs) → (lv_has ls 5 [(0, .ref (ad 10 j)), (1, .int i1), (2, .int i2), (3, .int y5_3), (4, .int y5_4)]) → W p l e (rmD 1 0 0) s m args below meth c H locs (0) (0) (MQ below (va_Qi (fun r (u : List Nat × HF) => (fun r L1 f1 => (True) ∧ L1 = L ∧ f1 = f) r u.1 u.2) (fun u t => pOut G (va_A (va_pl L f) sz) u.1 u.2 t) (va_A (va_pl L f) sz)) args s 0 0 A) (F0 m 5 ls []) := by
    intro n5
    induction n5 using Nat.strongRecOn with
    | _ n5 ih5 =>
      intro y5_3 y5_4 H locs ls b_y5_4 hm5 Y hl
      refine lv_iload hx hb dX4_marksOnKnee_5 (lv_at hl 4 rfl) ?_
      refine lv_aload_n hx hb dX4_marksOnKnee_7 rfl (lv_at hl 0 rfl) ?_
      obtain ⟨v_2665, v_2667, v_2669, v_2671, v_2673, p_ad_10_j, b_2666, b_2668, b_2670, b_2672, b_2674⟩ := opnC_10 (j := j) I hj
      have p_ad_10_j : pt L f (ad 10 j) (.inr (4, [.ref (ad 11 j), .ref (ad 12 j), .int v_2665, .int v_2667, .int v_2669, .int v_2671, .int v_2673])) := p_ad_10_j
      refine pg_get S Y ok_X4 2 (by decide) kf4_28 (v := .int v_2665) p_ad_10_j rfl dX4_marksOnKnee_8 ?_
      refine lv_icmp_ge (tgt := 44) hx hb dX4_marksOnKnee_11 (by decide) (fun c_2675 => ?_) (fun c_2675 => ?_)
      · refine lv_iload_n hx hb dX4_marksOnKnee_44 rfl (lv_at hl 3 rfl) ?_
        exact prI (post := fun r L1 f1 => (True) ∧ L1 = L ∧ f1 = f) S Y rfl (by decide) (by decide) hA1 ⟨trivial, rfl, rfl⟩ dX4_marksOnKnee_45
      · have B_2676 : bn 1 14 v_2665 := bn_w (bn_gtl c_2675 b_2666 b_y5_4) (by decide)
        have B_2677 : bn 0 13 y5_4 := bn_w (bn_gtr c_2675 b_2666 b_y5_4) (by decide)
        refine lv_aload_n hx hb dX4_marksOnKnee_14 rfl (lv_at hl 0 rfl) ?_
        refine lv_iload hx hb dX4_marksOnKnee_15 (lv_at hl 4 rfl) ?_
        refine lv_iload_n hx hb dX4_marksOnKnee_17 rfl (lv_at hl 1 rfl) ?_
        refine cVp (As := [.int y5_4, .int i1]) (rest := []) S Y (x_X4_legibleOn (l := l) (j := j) I hW hT hQ hj) cw_X4_legibleOn km4_60 p_ad_10_j ok_X4.1 rfl rfl ⟨Nat.le_of_ble_eq_true rfl, Nat.le_of_ble_eq_true rfl⟩ hl.1 rfl (Nat.le_of_ble_eq_true rfl) ⟨Nat.le_of_ble_eq_true rfl, Nat.le_of_ble_eq_true rfl⟩ dX4_marksOnKnee_18 (fun r_2678 H locs er_2678 Y => ?_)
        refine lv_if_eq (tgt := 38) hx hb dX4_marksOnKnee_21 (by decide) (fun c_2679 => ?_) (fun c_2679 => ?_)
        · have B_2680 : bn 0 0 r_2678 := bn_w (bn_eq c_2679 (show bn 0 0 (0 : Int32) from bn_k (by decide))) (by decide)
          obtain ⟨x_2682, ex_2682⟩ : ∃ z : Int32, z = y5_4 + 1 := ⟨_, rfl⟩
          refine lv_iinc (v := x_2682) (lv' := [(4, .int x_2682), (0, .ref (ad 10 j)), (1, .int i1), (2, .int i2), (3, .int y5_3)]) hx hb dX4_marksOnKnee_38 hl (k := 4) rfl (by rw [ex_2682]; rfl) (by decide) rfl (fun ls hl => ?_)
          refine lv_goto (tgt := 5) hx hb dX4_marksOnKnee_41 (by decide) ?_
          exact ih5 _ (by rw [← hm5]; exact ms_up (m := 1) ex_2682 (show bn 1 1 (1 : Int32) from bn_k (by decide)) B_2677 (bn_w (bn_eq ex_2682 (bn_add B_2677 (show bn 1 1 (1 : Int32) from bn_k (by decide)) (by decide))) (by decide) : bn 0 14 x_2682) (by decide)) y5_3 x_2682  _ _ _  (bn_w (bn_eq ex_2682 (bn_add B_2677 (show bn 1 1 (1 : Int32) from bn_k (by decide)) (by decide))) (by decide)) rfl Y (lv_sub hl [1, 2, 3, 4, 0] rfl)
        · have B_2681 : bn 1 1 r_2678 := bn_w (bn_nel c_2679 er_2678 (show bn 0 0 (0 : Int32) from bn_k (by decide))) (by decide)
          refine lv_aload_n hx hb dX4_marksOnKnee_24 rfl (lv_at hl 0 rfl) ?_
          refine lv_iload hx hb dX4_marksOnKnee_25 (lv_at hl 4 rfl) ?_
          refine lv_iconst (v := 2) hx hb dX4_marksOnKnee_27 (by decide) ?_
          refine cVp (As := [.int y5_4, .int 2]) (rest := []) S Y (x_X4_get (l := l) (j := j) I hW hT hQ hj) cw_X4_get km4_44 p_ad_10_j ok_X4.1 rfl rfl ⟨Nat.le_of_ble_eq_true rfl, Nat.le_of_ble_eq_true rfl⟩ hl.1 rfl (Nat.le_of_ble_eq_true rfl) ⟨Nat.le_of_ble_eq_true rfl, Nat.le_of_ble_eq_true rfl⟩ dX4_marksOnKnee_28 (fun r_2683 H locs er_2683 Y => ?_)
          refine lv_iload_n hx hb dX4_marksOnKnee_31 rfl (lv_at hl 2 rfl) ?_
          refine lv_icmp_ne (tgt := 38) hx hb dX4_marksOnKnee_32 (by decide) (fun c_2684 => ?_) (fun c_2684 => ?_)
          · obtain ⟨x_2685, ex_2685⟩ : ∃ z : Int32, z = y5_4 + 1 := ⟨_, rfl⟩
            refine lv_iinc (v := x_2685) (lv' := [(4, .int x_2685), (0, .ref (ad 10 j)), (1, .int i1), (2, .int i2), (3, .int y5_3)]) hx hb dX4_marksOnKnee_38 hl (k := 4) rfl (by rw [ex_2685]; rfl) (by decide) rfl (fun ls hl => ?_)
            refine lv_goto (tgt := 5) hx hb dX4_marksOnKnee_41 (by decide) ?_
            exact ih5 _ (by rw [← hm5]; exact ms_up (m := 1) ex_2685 (show bn 1 1 (1 : Int32) from bn_k (by decide)) B_2677 (bn_w (bn_eq ex_2685 (bn_add B_2677 (show bn 1 1 (1 : Int32) from bn_k (by decide)) (by decide))) (by decide) : bn 0 14 x_2685) (by decide)) y5_3 x_2685  _ _ _  (bn_w (bn_eq ex_2685 (bn_add B_2677 (show bn 1 1 (1 : Int32) from bn_k (by decide)) (by decide))) (by decide)) rfl Y (lv_sub hl [1, 2, 3, 4, 0] rfl)
          · obtain ⟨x_2686, ex_2686⟩ : ∃ z : Int32, z = y5_3 + 1 := ⟨_, rfl⟩
            refine lv_iinc (v := x_2686) (lv' := [(3, .int x_2686), (0, .ref (ad 10 j)), (1, .int i1), (2, .int i2), (4, .int y5_4)]) hx hb dX4_marksOnKnee_35 hl (k := 3) rfl (by rw [ex_2686]; rfl) (by decide) rfl (fun ls hl => ?_)
            obtain ⟨x_2687, ex_2687⟩ : ∃ z : Int32, z = y5_4 + 1 := ⟨_, rfl⟩
            refine lv_iinc (v := x_2687) (lv' := [(4, .int x_2687), (3, .int x_2686), (0, .ref (ad 10 j)), (1, .int i1), (2, .int i2)]) hx hb dX4_marksOnKnee_38 hl (k := 4) rfl (by rw [ex_2687]; rfl) (by decide) rfl (fun ls hl => ?_)
            refine lv_goto (tgt := 5) hx hb dX4_marksOnKnee_41 (by decide) ?_
            exact ih5 _ (by rw [← hm5]; exact ms_up (m := 1) ex_2687 (show bn 1 1 (1 : Int32) from bn_k (by decide)) B_2677 (bn_w (bn_eq ex_2687 (bn_add B_2677 (show bn 1 1 (1 : Int32) from bn_k (by decide)) (by decide))) (by decide) : bn 0 14 x_2687) (by decide)) x_2686 x_2687  _ _ _  (bn_w (bn_eq ex_2687 (bn_add B_2677 (show bn 1 1 (1 : Int32) from bn_k (by decide)) (by decide))) (by decide)) rfl Y (lv_sub hl [2, 3, 4, 1, 0] rfl)
  refine lv_iconst (v := 0) hx hb dX4_marksOnKnee_0 (by decide) ?_
  refine lv_istore_n (lv' := [(3, .int 0), (0, .ref (ad 10 j)), (1, .int i1), (2, .int i2)]) hx hb dX4_marksOnKnee_1 rfl hl (by decide) rfl (fun ls hl => ?_)
  refine lv_iconst (v := 0) hx hb dX4_marksOnKnee_2 (by decide) ?_
  refine lv_istore (lv' := [(4, .int 0), (3, .int 0), (0, .ref (ad 10 j)), (1, .int i1), (2, .int i2)]) hx hb dX4_marksOnKnee_3 hl (by decide) rfl (fun ls hl => ?_)
  exact J_5 _ 0 0  _ _ _  (bn_w (show bn 0 0 (0 : Int32) from bn_k (by decide)) (by decide)) rfl Y (lv_sub hl [2, 3, 4, 1, 0] rfl)
set_option maxHeartbeats 4000000 in
set_option maxRecDepth 100000 in
theorem x_X4_draw {l : Launch} {G : GG}  {L : List Nat} {f : HF} {ad : Nat → Nat → Nat} {rs : RS} {fc : Int × Int} {tc w : Nat → Int × Int} {q : Nat → (Nat → Int32) → Prop} {j : Nat} (I : SH (spC rs fc tc w q) nnC G ad L f) (hW : WBp w 8) (hT : WBp tc 4) (hQ : QIp q) (hj : j < 63) : PMi l yX4_draw cX4_draw 2 .int 0 0 0 G [.ref (ad 10 j)] L f (fun r L1 f1 => SH (spC rs fc tc w q) nnC G ad L1 f1) := by
  refine PMi.of (post := fun r L1 f1 => SH (spC rs fc tc w q) nnC G ad L1 f1) (own := RX4) (by decide) rfl (Nat.le_of_ble_eq_true rfl) (fun sz p e s m args below meth c A ls hA1 hname S Y hl => ?_)
  have hx := S.hx
  have hb := S.hb
  have hl : lv_has ls 2 [(0, .ref (ad 10 j))] := hl
  refine lv_aload_n hx hb dX4_draw_0 rfl (lv_at hl 0 rfl) ?_
  obtain ⟨v_2716, v_2718, v_2720, v_2722, v_2724, p_ad_10_j, b_2717, b_2719, b_2721, b_2723, b_2725⟩ := opnC_10 (j := j) I hj
  have p_ad_10_j : pt L f (ad 10 j) (.inr (4, [.ref (ad 11 j), .ref (ad 12 j), .int v_2716, .int v_2718, .int v_2720, .int v_2722, .int v_2724])) := p_ad_10_j
  refine pg_get S Y ok_X4 6 (by decide) kf4_18 (v := .int v_2724) p_ad_10_j rfl dX4_draw_1 ?_
  refine lv_istore_n (lv' := [(1, .int v_2724), (0, .ref (ad 10 j))]) hx hb dX4_draw_4 rfl hl (by decide) rfl (fun ls hl => ?_)
  refine lv_aload_n hx hb dX4_draw_5 rfl (lv_at hl 1 rfl) ?_
  refine lv_aload_n hx hb dX4_draw_6 rfl (lv_at hl 1 rfl) ?_
  refine pg_get S Y ok_X4 6 (by decide) kf4_18 (v := .int v_2724) p_ad_10_j rfl dX4_draw_7 ?_
  refine lv_sipush (v := 367) hx hb dX4_draw_10 (by decide) ?_
  refine lv_imul hx hb dX4_draw_13 ?_
  refine lv_topi (fun x_2726 ex_2726 => ?_)
  refine lv_sipush (v := 241) hx hb dX4_draw_14 (by decide) ?_
  refine lv_iadd hx hb dX4_draw_17 ?_
  refine lv_topi (fun x_2727 ex_2727 => ?_)
  refine lv_sipush (v := 30449) hx hb dX4_draw_18 (by decide) ?_
  refine lv_irem hx hb dX4_draw_21 (by decide) ?_
  refine lv_topi (fun x_2728 ex_2728 => ?_)
  refine pg_put S Y ok_X4 6 (by decide) kf4_18 rfl (fs' := [.ref (ad 11 j), .ref (ad 12 j), .int v_2716, .int v_2718, .int v_2720, .int v_2722, .int x_2728]) (v := .int x_2728) p_ad_10_j rfl rfl rfl (Nat.le_of_ble_eq_true rfl) dX4_draw_22 (fun f_2729 H locs ef_2729 Y => ?_)
  have p_ad_10_j := p_ad_10_j.me ef_2729
  have I := I.up (k := 10) (j := j) hj ef_2729 (okE_o (okFs_c okV_r (okFs_c okV_r (okFs_c (okV_i b_2717) (okFs_c (okV_i b_2719) (okFs_c (okV_i b_2721) (okFs_c (okV_i b_2723) (okFs_c (okV_i (bn_w (bn_eq ex_2728 (bn_rems (show bn 30449 30449 (30449 : Int32) from bn_k (by decide)) (by decide))) (by decide))) okFs_n))))))))
  refine lv_iload_n hx hb dX4_draw_25 rfl (lv_at hl 0 rfl) ?_
  exact prI (post := fun r L1 f1 => SH (spC rs fc tc w q) nnC G ad L1 f1) S Y rfl (by decide) (by decide) hA1 I dX4_draw_26
set_option maxHeartbeats 4000000 in
set_option maxRecDepth 100000 in
theorem x_X4_turnDay {l : Launch} {G : GG}  {L : List Nat} {f : HF} {ad : Nat → Nat → Nat} {rs : RS} {fc : Int × Int} {tc w : Nat → Int × Int} {q : Nat → (Nat → Int32) → Prop} {j : Nat} (I : SH (spC rs fc tc w q) nnC G ad L f) (hW : WBp w 8) (hT : WBp tc 4) (hQ : QIp q) (hj : j < 63) : PMv l yX4_turnDay cX4_turnDay 1 1 0 0 G [.ref (ad 10 j)] L f (fun L1 f1 => SH (spC rs fc tc w q) nnC G ad L1 f1) := by
  refine PMv.of (post := fun L1 f1 => SH (spC rs fc tc w q) nnC G ad L1 f1) (own := RX4) (by decide) rfl (Nat.le_of_ble_eq_true rfl) (fun sz p e s m args below meth c A ls hA1 hname S Y hl => ?_)
  have hx := S.hx
  have hb := S.hb
  have hl : lv_has ls 1 [(0, .ref (ad 10 j))] := hl
  refine lv_aload_n hx hb dX4_turnDay_0 rfl (lv_at hl 0 rfl) ?_
  refine lv_dup hx hb dX4_turnDay_1 rfl ?_
  obtain ⟨v_2784, v_2786, v_2788, v_2790, v_2792, p_ad_10_j, b_2785, b_2787, b_2789, b_2791, b_2793⟩ := opnC_10 (j := j) I hj
  have p_ad_10_j : pt L f (ad 10 j) (.inr (4, [.ref (ad 11 j), .ref (ad 12 j), .int v_2784, .int v_2786, .int v_2788, .int v_2790, .int v_2792])) := p_ad_10_j
  refine pg_get S Y ok_X4 4 (by decide) kf4_34 (v := .int v_2788) p_ad_10_j rfl dX4_turnDay_2 ?_
  refine lv_iconst (v := 1) hx hb dX4_turnDay_5 (by decide) ?_
  refine lv_iadd hx hb dX4_turnDay_6 ?_
  refine lv_topi (fun x_2794 ex_2794 => ?_)
  refine pg_put S Y ok_X4 4 (by decide) kf4_34 rfl (fs' := [.ref (ad 11 j), .ref (ad 12 j), .int v_2784, .int v_2786, .int x_2794, .int v_2790, .int v_2792]) (v := .int x_2794) p_ad_10_j rfl rfl rfl (Nat.le_of_ble_eq_true rfl) dX4_turnDay_7 (fun f_2795 H locs ef_2795 Y => ?_)
  have p_ad_10_j := p_ad_10_j.me ef_2795
  have I := I.up (k := 10) (j := j) hj ef_2795 (okE_o (okFs_c okV_r (okFs_c okV_r (okFs_c (okV_i b_2785) (okFs_c (okV_i b_2787) (okFs_c (okV_i (bn_w (bn_any x_2794) (by decide))) (okFs_c (okV_i b_2791) (okFs_c (okV_i b_2793) okFs_n))))))))
  refine lv_aload_n hx hb dX4_turnDay_10 rfl (lv_at hl 0 rfl) ?_
  refine lv_aload_n hx hb dX4_turnDay_11 rfl (lv_at hl 0 rfl) ?_
  refine cVi (As := []) (rest := [.ref (ad 10 j)]) S Y (x_X4_draw (l := l) (j := j) I hW hT hQ hj) cw_X4_draw km4_64 p_ad_10_j ok_X4.1 rfl rfl ⟨Nat.le_of_ble_eq_true rfl, Nat.le_of_ble_eq_true rfl⟩ hl.1 rfl (Nat.le_of_ble_eq_true rfl) ⟨Nat.le_of_ble_eq_true rfl, Nat.le_of_ble_eq_true rfl⟩ dX4_turnDay_12 (fun r_2798 L_2796 f_2797 H locs I Y => ?_)
  refine lv_bipush (v := 10) hx hb dX4_turnDay_15 (by decide) ?_
  refine lv_irem hx hb dX4_turnDay_17 (by decide) ?_
  refine lv_topi (fun x_2799 ex_2799 => ?_)
  obtain ⟨v_2800, v_2802, v_2804, v_2806, v_2808, p_ad_10_j, b_2801, b_2803, b_2805, b_2807, b_2809⟩ := opnC_10 (j := j) I hj
  have p_ad_10_j : pt L_2796 f_2797 (ad 10 j) (.inr (4, [.ref (ad 11 j), .ref (ad 12 j), .int v_2800, .int v_2802, .int v_2804, .int v_2806, .int v_2808])) := p_ad_10_j
  refine pg_put S Y ok_X4 5 (by decide) kf4_37 rfl (fs' := [.ref (ad 11 j), .ref (ad 12 j), .int v_2800, .int v_2802, .int v_2804, .int x_2799, .int v_2808]) (v := .int x_2799) p_ad_10_j rfl rfl rfl (Nat.le_of_ble_eq_true rfl) dX4_turnDay_18 (fun f_2810 H locs ef_2810 Y => ?_)
  have p_ad_10_j := p_ad_10_j.me ef_2810
  have I := I.up (k := 10) (j := j) hj ef_2810 (okE_o (okFs_c okV_r (okFs_c okV_r (okFs_c (okV_i b_2801) (okFs_c (okV_i b_2803) (okFs_c (okV_i b_2805) (okFs_c (okV_i (bn_w (bn_eq ex_2799 (bn_rems (show bn 10 10 (10 : Int32) from bn_k (by decide)) (by decide))) (by decide))) (okFs_c (okV_i b_2809) okFs_n))))))))
  exact prV (post := fun L1 f1 => SH (spC rs fc tc w q) nnC G ad L1 f1) S Y (by decide) (by decide) hA1 I dX4_turnDay_21
set_option maxHeartbeats 4000000 in
set_option maxRecDepth 100000 in
theorem x_X4_written {l : Launch} {G : GG}  {L : List Nat} {f : HF} {ad : Nat → Nat → Nat} {rs : RS} {fc : Int × Int} {tc w : Nat → Int × Int} {q : Nat → (Nat → Int32) → Prop} {j : Nat} {i1 i2 : Int32} (I : SH (spC rs fc tc w q) nnC G ad L f) (hW : WBp w 8) (hT : WBp tc 4) (hQ : QIp q) (hj : j < 63) : PMp l yX4_written cX4_written 3 .int 0 0 0 G [.ref (ad 10 j), .int i1, .int i2] L f (fun r => True) := by
  refine PMi.of (post := fun r L1 f1 => (True) ∧ L1 = L ∧ f1 = f) (own := RX4) (by decide) rfl (Nat.le_of_ble_eq_true rfl) (fun sz p e s m args below meth c A ls hA1 hname S Y hl => ?_)
  have hx := S.hx
  have hb := S.hb
  have hl : lv_has ls 3 [(0, .ref (ad 10 j)), (1, .int i1), (2, .int i2)] := hl
  refine lv_iload_n hx hb dX4_written_0 rfl (lv_at hl 1 rfl) ?_
  refine lv_if_lt (tgt := 21) hx hb dX4_written_1 (by decide) (fun c_2865 => ?_) (fun c_2865 => ?_)
  · have B_2866 : bn (-2147483648) (-1) i1 := bn_w (bn_ltl c_2865 (bn_any i1) (show bn 0 0 (0 : Int32) from bn_k (by decide))) (by decide)
    refine lv_bipush (v := (-2)) hx hb dX4_written_21 (by decide) ?_
    exact prI (post := fun r L1 f1 => (True) ∧ L1 = L ∧ f1 = f) S Y rfl (by decide) (by decide) hA1 ⟨trivial, rfl, rfl⟩ dX4_written_23
  · have B_2867 : bn 0 2147483647 i1 := bn_w (bn_gel c_2865 (bn_any i1) (show bn 0 0 (0 : Int32) from bn_k (by decide))) (by decide)
    refine lv_iload_n hx hb dX4_written_4 rfl (lv_at hl 1 rfl) ?_
    refine lv_aload_n hx hb dX4_written_5 rfl (lv_at hl 0 rfl) ?_
    obtain ⟨v_2868, v_2870, v_2872, v_2874, v_2876, p_ad_10_j, b_2869, b_2871, b_2873, b_2875, b_2877⟩ := opnC_10 (j := j) I hj
    have p_ad_10_j : pt L f (ad 10 j) (.inr (4, [.ref (ad 11 j), .ref (ad 12 j), .int v_2868, .int v_2870, .int v_2872, .int v_2874, .int v_2876])) := p_ad_10_j
    refine pg_get S Y ok_X4 3 (by decide) kf4_31 (v := .int v_2870) p_ad_10_j rfl dX4_written_6 ?_
    refine lv_icmp_ge (tgt := 21) hx hb dX4_written_9 (by decide) (fun c_2878 => ?_) (fun c_2878 => ?_)
    · refine lv_bipush (v := (-2)) hx hb dX4_written_21 (by decide) ?_
      exact prI (post := fun r L1 f1 => (True) ∧ L1 = L ∧ f1 = f) S Y rfl (by decide) (by decide) hA1 ⟨trivial, rfl, rfl⟩ dX4_written_23
    · have B_2879 : bn 1 30 v_2870 := bn_w (bn_gtl c_2878 b_2871 B_2867) (by decide)
      have B_2880 : bn 0 29 i1 := bn_w (bn_gtr c_2878 b_2871 B_2867) (by decide)
      refine lv_iload_n hx hb dX4_written_12 rfl (lv_at hl 2 rfl) ?_
      refine lv_if_lt (tgt := 21) hx hb dX4_written_13 (by decide) (fun c_2881 => ?_) (fun c_2881 => ?_)
      · have B_2882 : bn (-2147483648) (-1) i2 := bn_w (bn_ltl c_2881 (bn_any i2) (show bn 0 0 (0 : Int32) from bn_k (by decide))) (by decide)
        refine lv_bipush (v := (-2)) hx hb dX4_written_21 (by decide) ?_
        exact prI (post := fun r L1 f1 => (True) ∧ L1 = L ∧ f1 = f) S Y rfl (by decide) (by decide) hA1 ⟨trivial, rfl, rfl⟩ dX4_written_23
      · have B_2883 : bn 0 2147483647 i2 := bn_w (bn_gel c_2881 (bn_any i2) (show bn 0 0 (0 : Int32) from bn_k (by decide))) (by decide)
        refine lv_iload_n hx hb dX4_written_16 rfl (lv_at hl 2 rfl) ?_
        refine lv_iconst (v := 3) hx hb dX4_written_17 (by decide) ?_
        refine lv_icmp_lt (tgt := 24) hx hb dX4_written_18 (by decide) (fun c_2884 => ?_) (fun c_2884 => ?_)
        · have B_2885 : bn 0 2 i2 := bn_w (bn_ltl c_2884 B_2883 (show bn 3 3 (3 : Int32) from bn_k (by decide))) (by decide)
          refine lv_aload_n hx hb dX4_written_24 rfl (lv_at hl 0 rfl) ?_
          refine pg_get S Y ok_X4 1 (by decide) kf4_15 (v := .ref (ad 12 j)) p_ad_10_j rfl dX4_written_25 ?_
          refine lv_iload_n hx hb dX4_written_28 rfl (lv_at hl 1 rfl) ?_
          refine lv_iconst (v := 3) hx hb dX4_written_29 (by decide) ?_
          refine lv_imul hx hb dX4_written_30 ?_
          refine lv_topi (fun x_2887 ex_2887 => ?_)
          refine lv_iload_n hx hb dX4_written_31 rfl (lv_at hl 2 rfl) ?_
          refine lv_iadd hx hb dX4_written_32 ?_
          refine lv_topi (fun x_2888 ex_2888 => ?_)
          obtain ⟨g_2889, p_ad_12_j, o_2890⟩ := I.opi (k := 12) (j := j) hj rfl
          have p_ad_12_j : pt L f (ad 12 j) (.inl (G.2 0, 90, .inl g_2889)) := p_ad_12_j
          obtain ⟨v_2891, ev_2891⟩ : ∃ z, z = g_2889 (x_2888 : Int32).toNatClampNeg := ⟨_, rfl⟩
          refine pg_iald S Y (v := v_2891) p_ad_12_j (vp_bn (bn_eq ex_2888 (bn_add (bn_eq ex_2887 (bn_mul B_2880 (show bn 3 3 (3 : Int32) from bn_k (by decide)) (by decide))) B_2885 (by decide))) (by decide)) ev_2891.symm dX4_written_33 ?_
          exact prI (post := fun r L1 f1 => (True) ∧ L1 = L ∧ f1 = f) S Y rfl (by decide) (by decide) hA1 ⟨trivial, rfl, rfl⟩ dX4_written_34
        · have B_2886 : bn 3 2147483647 i2 := bn_w (bn_gel c_2884 B_2883 (show bn 3 3 (3 : Int32) from bn_k (by decide))) (by decide)
          refine lv_bipush (v := (-2)) hx hb dX4_written_21 (by decide) ?_
          exact prI (post := fun r L1 f1 => (True) ∧ L1 = L ∧ f1 = f) S Y rfl (by decide) (by decide) hA1 ⟨trivial, rfl, rfl⟩ dX4_written_23
set_option maxHeartbeats 4000000 in
set_option maxRecDepth 100000 in
theorem x_X4_writtenOf {l : Launch} {G : GG}  {L : List Nat} {f : HF} {ad : Nat → Nat → Nat} {rs : RS} {fc : Int × Int} {tc w : Nat → Int × Int} {q : Nat → (Nat → Int32) → Prop} {j : Nat} {i1 : Int32} (I : SH (spC rs fc tc w q) nnC G ad L f) (hW : WBp w 8) (hT : WBp tc 4) (hQ : QIp q) (hj : j < 63) : PMp l yX4_writtenOf cX4_writtenOf 4 .int 1 0 0 G [.ref (ad 10 j), .int i1] L f (fun r => True) := by
  refine PMi.of (post := fun r L1 f1 => (True) ∧ L1 = L ∧ f1 = f) (own := RX4) (by decide) rfl (Nat.le_of_ble_eq_true rfl) (fun sz p e s m args below meth c A ls hA1 hname S Y hl => ?_)
  have hx := S.hx
  have hb := S.hb
  have hl : lv_has ls 4 [(0, .ref (ad 10 j)), (1, .int i1)] := hl
  have J_4 : ∀ (n4 : Nat) (y4_2 y4_3 : Int32) (H : Heap) (locs : List Loc) (ls : Array Slot), (bn 0 30 y4_3) → (((30 : Int) - y4_3.toInt).toNat = n4) → (DY G A s [] L f H locs) → (lv_has ls 4 [(0, .ref (ad 10 j)), (1, .int i1), (2, .int y4_2), (3, .int y4_3)]) → W p l e (rmD 1 0 0) s m args below meth c H locs (0) (0) (MQ below (va_Qi (fun r (u : List Nat × HF) => (fun r L1 f1 => (True) ∧ L1 = L ∧ f1 = f) r u.1 u.2) (fun u t => pOut G (va_A (va_pl L f) sz) u.1 u.2 t) (va_A (va_pl L f) sz)) args s 0 0 A) (F0 m 4 ls []) := by
    intro n4
    induction n4 using Nat.strongRecOn with
    | _ n4 ih4 =>
      intro y4_2 y4_3 H locs ls b_y4_3 hm4 Y hl
      refine lv_iload_n hx hb dX4_writtenOf_4 rfl (lv_at hl 3 rfl) ?_
      refine lv_aload_n hx hb dX4_writtenOf_5 rfl (lv_at hl 0 rfl) ?_
      obtain ⟨v_3372, v_3374, v_3376, v_3378, v_3380, p_ad_10_j, b_3373, b_3375, b_3377, b_3379, b_3381⟩ := opnC_10 (j := j) I hj
      have p_ad_10_j : pt L f (ad 10 j) (.inr (4, [.ref (ad 11 j), .ref (ad 12 j), .int v_3372, .int v_3374, .int v_3376, .int v_3378, .int v_3380])) := p_ad_10_j
      refine pg_get S Y ok_X4 3 (by decide) kf4_31 (v := .int v_3374) p_ad_10_j rfl dX4_writtenOf_6 ?_
      refine lv_icmp_ge (tgt := 42) hx hb dX4_writtenOf_9 (by decide) (fun c_3382 => ?_) (fun c_3382 => ?_)
      · refine lv_iload_n hx hb dX4_writtenOf_42 rfl (lv_at hl 2 rfl) ?_
        exact prI (post := fun r L1 f1 => (True) ∧ L1 = L ∧ f1 = f) S Y rfl (by decide) (by decide) hA1 ⟨trivial, rfl, rfl⟩ dX4_writtenOf_43
      · have B_3383 : bn 1 30 v_3374 := bn_w (bn_gtl c_3382 b_3375 b_y4_3) (by decide)
        have B_3384 : bn 0 29 y4_3 := bn_w (bn_gtr c_3382 b_3375 b_y4_3) (by decide)
        refine lv_iload_n hx hb dX4_writtenOf_12 rfl (lv_at hl 1 rfl) ?_
        refine lv_iconst (v := (-1)) hx hb dX4_writtenOf_13 (by decide) ?_
        refine lv_icmp_eq (tgt := 27) hx hb dX4_writtenOf_14 (by decide) (fun c_3385 => ?_) (fun c_3385 => ?_)
        · have B_3386 : bn (-1) (-1) i1 := bn_w (bn_eq c_3385 (show bn (-1) (-1) ((-1) : Int32) from bn_k (by decide))) (by decide)
          refine lv_iload_n hx hb dX4_writtenOf_27 rfl (lv_at hl 2 rfl) ?_
          refine lv_aload_n hx hb dX4_writtenOf_28 rfl (lv_at hl 0 rfl) ?_
          refine lv_iload_n hx hb dX4_writtenOf_29 rfl (lv_at hl 3 rfl) ?_
          refine lv_iconst (v := 2) hx hb dX4_writtenOf_30 (by decide) ?_
          refine cVp (As := [.int y4_3, .int 2]) (rest := [.int y4_2]) S Y (x_X4_written (l := l) (j := j) I hW hT hQ hj) cw_X4_written km4_68 p_ad_10_j ok_X4.1 rfl rfl ⟨Nat.le_of_ble_eq_true rfl, Nat.le_of_ble_eq_true rfl⟩ hl.1 rfl (Nat.le_of_ble_eq_true rfl) ⟨Nat.le_of_ble_eq_true rfl, Nat.le_of_ble_eq_true rfl⟩ dX4_writtenOf_31 (fun r_3387 H locs er_3387 Y => ?_)
          refine lv_iadd hx hb dX4_writtenOf_34 ?_
          refine lv_topi (fun x_3388 ex_3388 => ?_)
          refine lv_istore_n (lv' := [(2, .int x_3388), (0, .ref (ad 10 j)), (1, .int i1), (3, .int y4_3)]) hx hb dX4_writtenOf_35 rfl hl (by decide) rfl (fun ls hl => ?_)
          obtain ⟨x_3389, ex_3389⟩ : ∃ z : Int32, z = y4_3 + 1 := ⟨_, rfl⟩
          refine lv_iinc (v := x_3389) (lv' := [(3, .int x_3389), (2, .int x_3388), (0, .ref (ad 10 j)), (1, .int i1)]) hx hb dX4_writtenOf_36 hl (k := 3) rfl (by rw [ex_3389]; rfl) (by decide) rfl (fun ls hl => ?_)
          refine lv_goto (tgt := 4) hx hb dX4_writtenOf_39 (by decide) ?_
          exact ih4 _ (by rw [← hm4]; exact ms_up (m := 1) ex_3389 (show bn 1 1 (1 : Int32) from bn_k (by decide)) B_3384 (bn_w (bn_eq ex_3389 (bn_add B_3384 (show bn 1 1 (1 : Int32) from bn_k (by decide)) (by decide))) (by decide) : bn 0 30 x_3389) (by decide)) x_3388 x_3389  _ _ _  (bn_w (bn_eq ex_3389 (bn_add B_3384 (show bn 1 1 (1 : Int32) from bn_k (by decide)) (by decide))) (by decide)) rfl Y (lv_sub hl [2, 3, 1, 0] rfl)
        · refine lv_aload_n hx hb dX4_writtenOf_17 rfl (lv_at hl 0 rfl) ?_
          refine lv_iload_n hx hb dX4_writtenOf_18 rfl (lv_at hl 3 rfl) ?_
          refine lv_iconst (v := 1) hx hb dX4_writtenOf_19 (by decide) ?_
          refine cVp (As := [.int y4_3, .int 1]) (rest := []) S Y (x_X4_written (l := l) (j := j) I hW hT hQ hj) cw_X4_written km4_68 p_ad_10_j ok_X4.1 rfl rfl ⟨Nat.le_of_ble_eq_true rfl, Nat.le_of_ble_eq_true rfl⟩ hl.1 rfl (Nat.le_of_ble_eq_true rfl) ⟨Nat.le_of_ble_eq_true rfl, Nat.le_of_ble_eq_true rfl⟩ dX4_writtenOf_20 (fun r_3390 H locs er_3390 Y => ?_)
          refine lv_iload_n hx hb dX4_writtenOf_23 rfl (lv_at hl 1 rfl) ?_
          refine lv_icmp_ne (tgt := 36) hx hb dX4_writtenOf_24 (by decide) (fun c_3391 => ?_) (fun c_3391 => ?_)
          · obtain ⟨x_3392, ex_3392⟩ : ∃ z : Int32, z = y4_3 + 1 := ⟨_, rfl⟩
            refine lv_iinc (v := x_3392) (lv' := [(3, .int x_3392), (0, .ref (ad 10 j)), (1, .int i1), (2, .int y4_2)]) hx hb dX4_writtenOf_36 hl (k := 3) rfl (by rw [ex_3392]; rfl) (by decide) rfl (fun ls hl => ?_)
            refine lv_goto (tgt := 4) hx hb dX4_writtenOf_39 (by decide) ?_
            exact ih4 _ (by rw [← hm4]; exact ms_up (m := 1) ex_3392 (show bn 1 1 (1 : Int32) from bn_k (by decide)) B_3384 (bn_w (bn_eq ex_3392 (bn_add B_3384 (show bn 1 1 (1 : Int32) from bn_k (by decide)) (by decide))) (by decide) : bn 0 30 x_3392) (by decide)) y4_2 x_3392  _ _ _  (bn_w (bn_eq ex_3392 (bn_add B_3384 (show bn 1 1 (1 : Int32) from bn_k (by decide)) (by decide))) (by decide)) rfl Y (lv_sub hl [1, 2, 3, 0] rfl)
          · refine lv_iload_n hx hb dX4_writtenOf_27 rfl (lv_at hl 2 rfl) ?_
            refine lv_aload_n hx hb dX4_writtenOf_28 rfl (lv_at hl 0 rfl) ?_
            refine lv_iload_n hx hb dX4_writtenOf_29 rfl (lv_at hl 3 rfl) ?_
            refine lv_iconst (v := 2) hx hb dX4_writtenOf_30 (by decide) ?_
            refine cVp (As := [.int y4_3, .int 2]) (rest := [.int y4_2]) S Y (x_X4_written (l := l) (j := j) I hW hT hQ hj) cw_X4_written km4_68 p_ad_10_j ok_X4.1 rfl rfl ⟨Nat.le_of_ble_eq_true rfl, Nat.le_of_ble_eq_true rfl⟩ hl.1 rfl (Nat.le_of_ble_eq_true rfl) ⟨Nat.le_of_ble_eq_true rfl, Nat.le_of_ble_eq_true rfl⟩ dX4_writtenOf_31 (fun r_3393 H locs er_3393 Y => ?_)
            refine lv_iadd hx hb dX4_writtenOf_34 ?_
            refine lv_topi (fun x_3394 ex_3394 => ?_)
            refine lv_istore_n (lv' := [(2, .int x_3394), (0, .ref (ad 10 j)), (1, .int i1), (3, .int y4_3)]) hx hb dX4_writtenOf_35 rfl hl (by decide) rfl (fun ls hl => ?_)
            obtain ⟨x_3395, ex_3395⟩ : ∃ z : Int32, z = y4_3 + 1 := ⟨_, rfl⟩
            refine lv_iinc (v := x_3395) (lv' := [(3, .int x_3395), (2, .int x_3394), (0, .ref (ad 10 j)), (1, .int i1)]) hx hb dX4_writtenOf_36 hl (k := 3) rfl (by rw [ex_3395]; rfl) (by decide) rfl (fun ls hl => ?_)
            refine lv_goto (tgt := 4) hx hb dX4_writtenOf_39 (by decide) ?_
            exact ih4 _ (by rw [← hm4]; exact ms_up (m := 1) ex_3395 (show bn 1 1 (1 : Int32) from bn_k (by decide)) B_3384 (bn_w (bn_eq ex_3395 (bn_add B_3384 (show bn 1 1 (1 : Int32) from bn_k (by decide)) (by decide))) (by decide) : bn 0 30 x_3395) (by decide)) x_3394 x_3395  _ _ _  (bn_w (bn_eq ex_3395 (bn_add B_3384 (show bn 1 1 (1 : Int32) from bn_k (by decide)) (by decide))) (by decide)) rfl Y (lv_sub hl [2, 3, 1, 0] rfl)
  refine lv_iconst (v := 0) hx hb dX4_writtenOf_0 (by decide) ?_
  refine lv_istore_n (lv' := [(2, .int 0), (0, .ref (ad 10 j)), (1, .int i1)]) hx hb dX4_writtenOf_1 rfl hl (by decide) rfl (fun ls hl => ?_)
  refine lv_iconst (v := 0) hx hb dX4_writtenOf_2 (by decide) ?_
  refine lv_istore_n (lv' := [(3, .int 0), (2, .int 0), (0, .ref (ad 10 j)), (1, .int i1)]) hx hb dX4_writtenOf_3 rfl hl (by decide) rfl (fun ls hl => ?_)
  exact J_4 _ 0 0  _ _ _  (bn_w (show bn 0 0 (0 : Int32) from bn_k (by decide)) (by decide)) rfl Y (lv_sub hl [2, 3, 1, 0] rfl)
set_option maxHeartbeats 4000000 in
set_option maxRecDepth 100000 in
theorem x_X4_dayOfMost {l : Launch} {G : GG}  {L : List Nat} {f : HF} {ad : Nat → Nat → Nat} {rs : RS} {fc : Int × Int} {tc w : Nat → Int × Int} {q : Nat → (Nat → Int32) → Prop} {j : Nat} (I : SH (spC rs fc tc w q) nnC G ad L f) (hW : WBp w 8) (hT : WBp tc 4) (hQ : QIp q) (hj : j < 63) : PMp l yX4_dayOfMost cX4_dayOfMost 4 .int 1 0 0 G [.ref (ad 10 j)] L f (fun r => True) := by
  refine PMi.of (post := fun r L1 f1 => (True) ∧ L1 = L ∧ f1 = f) (own := RX4) (by decide) rfl (Nat.le_of_ble_eq_true rfl) (fun sz p e s m args below meth c A ls hA1 hname S Y hl => ?_)
  have hx := S.hx
  have hb := S.hb
  have hl : lv_has ls 4 [(0, .ref (ad 10 j))] := hl
  have J_6 : ∀ (n6 : Nat) (y6_1 y6_2 y6_3 : Int32) (H : Heap) (locs : List Loc) (ls : Array Slot), (bn 0 30 y6_3) → (((30 : Int) - y6_3.toInt).toNat = n6) → (DY G A s [] L f H locs) → (lv_has ls 4 [(0, .ref (ad 10 j)), (1, .int y6_1), (2, .int y6_2), (3, .int y6_3)]) → W p l e (rmD 1 0 0) s m args below meth c H locs (0) (0) (MQ below (va_Qi (fun r (u : List Nat × HF) => (fun r L1 f1 => (True) ∧ L1 = L ∧ f1 = f) r u.1 u.2) (fun u t => pOut G (va_A (va_pl L f) sz) u.1 u.2 t) (va_A (va_pl L f) sz)) args s 0 0 A) (F0 m 6 ls []) := by
    intro n6
    induction n6 using Nat.strongRecOn with
    | _ n6 ih6 =>
      intro y6_1 y6_2 y6_3 H locs ls b_y6_3 hm6 Y hl
      refine lv_iload_n hx hb dX4_dayOfMost_6 rfl (lv_at hl 3 rfl) ?_
      refine lv_aload_n hx hb dX4_dayOfMost_7 rfl (lv_at hl 0 rfl) ?_
      obtain ⟨v_3816, v_3818, v_3820, v_3822, v_3824, p_ad_10_j, b_3817, b_3819, b_3821, b_3823, b_3825⟩ := opnC_10 (j := j) I hj
      have p_ad_10_j : pt L f (ad 10 j) (.inr (4, [.ref (ad 11 j), .ref (ad 12 j), .int v_3816, .int v_3818, .int v_3820, .int v_3822, .int v_3824])) := p_ad_10_j
      refine pg_get S Y ok_X4 3 (by decide) kf4_31 (v := .int v_3818) p_ad_10_j rfl dX4_dayOfMost_8 ?_
      refine lv_icmp_ge (tgt := 44) hx hb dX4_dayOfMost_11 (by decide) (fun c_3826 => ?_) (fun c_3826 => ?_)
      · refine lv_iload_n hx hb dX4_dayOfMost_44 rfl (lv_at hl 1 rfl) ?_
        exact prI (post := fun r L1 f1 => (True) ∧ L1 = L ∧ f1 = f) S Y rfl (by decide) (by decide) hA1 ⟨trivial, rfl, rfl⟩ dX4_dayOfMost_45
      · have B_3827 : bn 1 30 v_3818 := bn_w (bn_gtl c_3826 b_3819 b_y6_3) (by decide)
        have B_3828 : bn 0 29 y6_3 := bn_w (bn_gtr c_3826 b_3819 b_y6_3) (by decide)
        refine lv_aload_n hx hb dX4_dayOfMost_14 rfl (lv_at hl 0 rfl) ?_
        refine lv_iload_n hx hb dX4_dayOfMost_15 rfl (lv_at hl 3 rfl) ?_
        refine lv_iconst (v := 2) hx hb dX4_dayOfMost_16 (by decide) ?_
        refine cVp (As := [.int y6_3, .int 2]) (rest := []) S Y (x_X4_written (l := l) (j := j) I hW hT hQ hj) cw_X4_written km4_68 p_ad_10_j ok_X4.1 rfl rfl ⟨Nat.le_of_ble_eq_true rfl, Nat.le_of_ble_eq_true rfl⟩ hl.1 rfl (Nat.le_of_ble_eq_true rfl) ⟨Nat.le_of_ble_eq_true rfl, Nat.le_of_ble_eq_true rfl⟩ dX4_dayOfMost_17 (fun r_3829 H locs er_3829 Y => ?_)
        refine lv_iload_n hx hb dX4_dayOfMost_20 rfl (lv_at hl 2 rfl) ?_
        refine lv_icmp_le (tgt := 38) hx hb dX4_dayOfMost_21 (by decide) (fun c_3830 => ?_) (fun c_3830 => ?_)
        · obtain ⟨x_3833, ex_3833⟩ : ∃ z : Int32, z = y6_3 + 1 := ⟨_, rfl⟩
          refine lv_iinc (v := x_3833) (lv' := [(3, .int x_3833), (0, .ref (ad 10 j)), (1, .int y6_1), (2, .int y6_2)]) hx hb dX4_dayOfMost_38 hl (k := 3) rfl (by rw [ex_3833]; rfl) (by decide) rfl (fun ls hl => ?_)
          refine lv_goto (tgt := 6) hx hb dX4_dayOfMost_41 (by decide) ?_
          exact ih6 _ (by rw [← hm6]; exact ms_up (m := 1) ex_3833 (show bn 1 1 (1 : Int32) from bn_k (by decide)) B_3828 (bn_w (bn_eq ex_3833 (bn_add B_3828 (show bn 1 1 (1 : Int32) from bn_k (by decide)) (by decide))) (by decide) : bn 0 30 x_3833) (by decide)) y6_1 y6_2 x_3833  _ _ _  (bn_w (bn_eq ex_3833 (bn_add B_3828 (show bn 1 1 (1 : Int32) from bn_k (by decide)) (by decide))) (by decide)) rfl Y (lv_sub hl [1, 2, 3, 0] rfl)
        · have B_3831 : bn (-2147483647) 2147483647 r_3829 := bn_w (bn_gtl c_3830 (bn_any r_3829) (bn_any y6_2)) (by decide)
          have B_3832 : bn (-2147483648) 2147483646 y6_2 := bn_w (bn_gtr c_3830 (bn_any r_3829) (bn_any y6_2)) (by decide)
          refine lv_aload_n hx hb dX4_dayOfMost_24 rfl (lv_at hl 0 rfl) ?_
          refine lv_iload_n hx hb dX4_dayOfMost_25 rfl (lv_at hl 3 rfl) ?_
          refine lv_iconst (v := 2) hx hb dX4_dayOfMost_26 (by decide) ?_
          refine cVp (As := [.int y6_3, .int 2]) (rest := []) S Y (x_X4_written (l := l) (j := j) I hW hT hQ hj) cw_X4_written km4_68 p_ad_10_j ok_X4.1 rfl rfl ⟨Nat.le_of_ble_eq_true rfl, Nat.le_of_ble_eq_true rfl⟩ hl.1 rfl (Nat.le_of_ble_eq_true rfl) ⟨Nat.le_of_ble_eq_true rfl, Nat.le_of_ble_eq_true rfl⟩ dX4_dayOfMost_27 (fun r_3834 H locs er_3834 Y => ?_)
          refine lv_istore_n (lv' := [(2, .int r_3834), (0, .ref (ad 10 j)), (1, .int y6_1), (3, .int y6_3)]) hx hb dX4_dayOfMost_30 rfl hl (by decide) rfl (fun ls hl => ?_)
          refine lv_aload_n hx hb dX4_dayOfMost_31 rfl (lv_at hl 1 rfl) ?_
          refine lv_iload_n hx hb dX4_dayOfMost_32 rfl (lv_at hl 3 rfl) ?_
          refine lv_iconst (v := 0) hx hb dX4_dayOfMost_33 (by decide) ?_
          refine cVp (As := [.int y6_3, .int 0]) (rest := []) S Y (x_X4_written (l := l) (j := j) I hW hT hQ hj) cw_X4_written km4_68 p_ad_10_j ok_X4.1 rfl rfl ⟨Nat.le_of_ble_eq_true rfl, Nat.le_of_ble_eq_true rfl⟩ hl.1 rfl (Nat.le_of_ble_eq_true rfl) ⟨Nat.le_of_ble_eq_true rfl, Nat.le_of_ble_eq_true rfl⟩ dX4_dayOfMost_34 (fun r_3835 H locs er_3835 Y => ?_)
          refine lv_istore_n (lv' := [(1, .int r_3835), (2, .int r_3834), (0, .ref (ad 10 j)), (3, .int y6_3)]) hx hb dX4_dayOfMost_37 rfl hl (by decide) rfl (fun ls hl => ?_)
          obtain ⟨x_3836, ex_3836⟩ : ∃ z : Int32, z = y6_3 + 1 := ⟨_, rfl⟩
          refine lv_iinc (v := x_3836) (lv' := [(3, .int x_3836), (1, .int r_3835), (2, .int r_3834), (0, .ref (ad 10 j))]) hx hb dX4_dayOfMost_38 hl (k := 3) rfl (by rw [ex_3836]; rfl) (by decide) rfl (fun ls hl => ?_)
          refine lv_goto (tgt := 6) hx hb dX4_dayOfMost_41 (by decide) ?_
          exact ih6 _ (by rw [← hm6]; exact ms_up (m := 1) ex_3836 (show bn 1 1 (1 : Int32) from bn_k (by decide)) B_3828 (bn_w (bn_eq ex_3836 (bn_add B_3828 (show bn 1 1 (1 : Int32) from bn_k (by decide)) (by decide))) (by decide) : bn 0 30 x_3836) (by decide)) r_3835 r_3834 x_3836  _ _ _  (bn_w (bn_eq ex_3836 (bn_add B_3828 (show bn 1 1 (1 : Int32) from bn_k (by decide)) (by decide))) (by decide)) rfl Y (lv_sub hl [3, 1, 2, 0] rfl)
  refine lv_iconst (v := (-1)) hx hb dX4_dayOfMost_0 (by decide) ?_
  refine lv_istore_n (lv' := [(1, .int (-1)), (0, .ref (ad 10 j))]) hx hb dX4_dayOfMost_1 rfl hl (by decide) rfl (fun ls hl => ?_)
  refine lv_iconst (v := 0) hx hb dX4_dayOfMost_2 (by decide) ?_
  refine lv_istore_n (lv' := [(2, .int 0), (1, .int (-1)), (0, .ref (ad 10 j))]) hx hb dX4_dayOfMost_3 rfl hl (by decide) rfl (fun ls hl => ?_)
  refine lv_iconst (v := 0) hx hb dX4_dayOfMost_4 (by decide) ?_
  refine lv_istore_n (lv' := [(3, .int 0), (2, .int 0), (1, .int (-1)), (0, .ref (ad 10 j))]) hx hb dX4_dayOfMost_5 rfl hl (by decide) rfl (fun ls hl => ?_)
  exact J_6 _ (-1) 0 0  _ _ _  (bn_w (show bn 0 0 (0 : Int32) from bn_k (by decide)) (by decide)) rfl Y (lv_sub hl [3, 2, 1, 0] rfl)
set_option maxHeartbeats 4000000 in
set_option maxRecDepth 100000 in
theorem x_X4_moreWear {l : Launch} {G : GG}  {L : List Nat} {f : HF} {ad : Nat → Nat → Nat} {rs : RS} {fc : Int × Int} {tc w : Nat → Int × Int} {q : Nat → (Nat → Int32) → Prop} {j : Nat} {i1 i2 : Int32} (I : SH (spC rs fc tc w q) nnC G ad L f) (hW : WBp w 8) (hT : WBp tc 4) (hQ : QIp q) (hj : j < 63) : PMv l yX4_moreWear cX4_moreWear 3 1 0 0 G [.ref (ad 10 j), .int i1, .int i2] L f (fun L1 f1 => SH (spC rs fc tc w q) nnC G ad L1 f1) := by
  refine PMv.of (post := fun L1 f1 => SH (spC rs fc tc w q) nnC G ad L1 f1) (own := RX4) (by decide) rfl (Nat.le_of_ble_eq_true rfl) (fun sz p e s m args below meth c A ls hA1 hname S Y hl => ?_)
  have hx := S.hx
  have hb := S.hb
  have hl : lv_has ls 3 [(0, .ref (ad 10 j)), (1, .int i1), (2, .int i2)] := hl
  refine lv_aload_n hx hb dX4_moreWear_0 rfl (lv_at hl 0 rfl) ?_
  refine lv_iload_n hx hb dX4_moreWear_1 rfl (lv_at hl 1 rfl) ?_
  refine lv_iconst (v := 5) hx hb dX4_moreWear_2 (by decide) ?_
  refine lv_bipush (v := 99) hx hb dX4_moreWear_3 (by decide) ?_
  refine lv_aload_n hx hb dX4_moreWear_5 rfl (lv_at hl 0 rfl) ?_
  refine lv_iload_n hx hb dX4_moreWear_6 rfl (lv_at hl 1 rfl) ?_
  refine lv_iconst (v := 5) hx hb dX4_moreWear_7 (by decide) ?_
  refine cVp (As := [.int i1, .int 5]) (rest := [.int 99, .int 5, .int i1, .ref (ad 10 j)]) S Y (x_X4_get (l := l) (j := j) I hW hT hQ hj) cw_X4_get km4_44 (I.opo (k := 10) (j := j) hj rfl).choose_spec.1 ok_X4.1 rfl rfl ⟨Nat.le_of_ble_eq_true rfl, Nat.le_of_ble_eq_true rfl⟩ hl.1 rfl (Nat.le_of_ble_eq_true rfl) ⟨Nat.le_of_ble_eq_true rfl, Nat.le_of_ble_eq_true rfl⟩ dX4_moreWear_8 (fun r_3847 H locs er_3847 Y => ?_)
  refine lv_iload_n hx hb dX4_moreWear_11 rfl (lv_at hl 2 rfl) ?_
  refine lv_iadd hx hb dX4_moreWear_12 ?_
  refine lv_topi (fun x_3848 ex_3848 => ?_)
  refine va_mmin hx hb (S.ml.trans hl.1.symm) S.ow (S.w km4_48) (S.w kMs_min) (S.w kMi) (S.w kMc_min) (Nat.le_of_ble_eq_true rfl) (Nat.le_of_ble_eq_true rfl) (by decide) (by decide) dX4_moreWear_13 ?_
  refine lv_topi (fun x_3849 ex_3849 => ?_)
  refine cVv (As := [.int i1, .int 5, .int x_3849]) (rest := []) S Y (x_X4_put (l := l) (j := j) I hW hT hQ hj) cw_X4_put km4_40 (I.opo (k := 10) (j := j) hj rfl).choose_spec.1 ok_X4.1 rfl rfl ⟨Nat.le_of_ble_eq_true rfl, Nat.le_of_ble_eq_true rfl⟩ hl.1 rfl (Nat.le_of_ble_eq_true rfl) ⟨Nat.le_of_ble_eq_true rfl, Nat.le_of_ble_eq_true rfl⟩ dX4_moreWear_16 (fun L_3850 f_3851 H locs I Y => ?_)
  exact prV (post := fun L1 f1 => SH (spC rs fc tc w q) nnC G ad L1 f1) S Y (by decide) (by decide) hA1 I dX4_moreWear_19
set_option maxHeartbeats 4000000 in
set_option maxRecDepth 100000 in
theorem x_X4_addOath {l : Launch} {G : GG}  {L : List Nat} {f : HF} {ad : Nat → Nat → Nat} {rs : RS} {fc : Int × Int} {tc w : Nat → Int × Int} {q : Nat → (Nat → Int32) → Prop} {j : Nat} {i1 i2 i3 i4 : Int32} (I : SH (spC rs fc tc w q) nnC G ad L f) (hW : WBp w 8) (hT : WBp tc 4) (hQ : QIp q) (hj : j < 63) : PMi l yX4_addOath cX4_addOath 6 .int 1 0 0 G [.ref (ad 10 j), .int i1, .int i2, .int i3, .int i4] L f (fun r L1 f1 => SH (spC rs fc tc w q) nnC G ad L1 f1) := by
  refine PMi.of (post := fun r L1 f1 => SH (spC rs fc tc w q) nnC G ad L1 f1) (own := RX4) (by decide) rfl (Nat.le_of_ble_eq_true rfl) (fun sz p e s m args below meth c A ls hA1 hname S Y hl => ?_)
  have hx := S.hx
  have hb := S.hb
  have hl : lv_has ls 6 [(0, .ref (ad 10 j)), (1, .int i1), (2, .int i2), (3, .int i3), (4, .int i4)] := hl
  refine lv_aload_n hx hb dX4_addOath_0 rfl (lv_at hl 0 rfl) ?_
  obtain ⟨v_3930, v_3932, v_3934, v_3936, v_3938, p_ad_10_j, b_3931, b_3933, b_3935, b_3937, b_3939⟩ := opnC_10 (j := j) I hj
  have p_ad_10_j : pt L f (ad 10 j) (.inr (4, [.ref (ad 11 j), .ref (ad 12 j), .int v_3930, .int v_3932, .int v_3934, .int v_3936, .int v_3938])) := p_ad_10_j
  refine pg_get S Y ok_X4 2 (by decide) kf4_28 (v := .int v_3930) p_ad_10_j rfl dX4_addOath_1 ?_
  refine lv_bipush (v := 14) hx hb dX4_addOath_4 (by decide) ?_
  refine lv_icmp_lt (tgt := 11) hx hb dX4_addOath_6 (by decide) (fun c_3940 => ?_) (fun c_3940 => ?_)
  · have B_3941 : bn 0 13 v_3930 := bn_w (bn_ltl c_3940 b_3931 (show bn 14 14 (14 : Int32) from bn_k (by decide))) (by decide)
    refine lv_aload_n hx hb dX4_addOath_11 rfl (lv_at hl 0 rfl) ?_
    refine pg_get S Y ok_X4 2 (by decide) kf4_28 (v := .int v_3930) p_ad_10_j rfl dX4_addOath_12 ?_
    refine lv_istore (lv' := [(5, .int v_3930), (0, .ref (ad 10 j)), (1, .int i1), (2, .int i2), (3, .int i3), (4, .int i4)]) hx hb dX4_addOath_15 hl (by decide) rfl (fun ls hl => ?_)
    refine lv_aload_n hx hb dX4_addOath_17 rfl (lv_at hl 1 rfl) ?_
    refine lv_dup hx hb dX4_addOath_18 rfl ?_
    refine pg_get S Y ok_X4 2 (by decide) kf4_28 (v := .int v_3930) p_ad_10_j rfl dX4_addOath_19 ?_
    refine lv_iconst (v := 1) hx hb dX4_addOath_22 (by decide) ?_
    refine lv_iadd hx hb dX4_addOath_23 ?_
    refine lv_topi (fun x_3943 ex_3943 => ?_)
    refine pg_put S Y ok_X4 2 (by decide) kf4_28 rfl (fs' := [.ref (ad 11 j), .ref (ad 12 j), .int x_3943, .int v_3932, .int v_3934, .int v_3936, .int v_3938]) (v := .int x_3943) p_ad_10_j rfl rfl rfl (Nat.le_of_ble_eq_true rfl) dX4_addOath_24 (fun f_3944 H locs ef_3944 Y => ?_)
    have p_ad_10_j := p_ad_10_j.me ef_3944
    have I := I.up (k := 10) (j := j) hj ef_3944 (okE_o (okFs_c okV_r (okFs_c okV_r (okFs_c (okV_i (bn_w (bn_eq ex_3943 (bn_add B_3941 (show bn 1 1 (1 : Int32) from bn_k (by decide)) (by decide))) (by decide))) (okFs_c (okV_i b_3933) (okFs_c (okV_i b_3935) (okFs_c (okV_i b_3937) (okFs_c (okV_i b_3939) okFs_n))))))))
    refine lv_aload_n hx hb dX4_addOath_27 rfl (lv_at hl 1 rfl) ?_
    refine lv_iload hx hb dX4_addOath_28 (lv_at hl 0 rfl) ?_
    refine lv_iconst (v := 0) hx hb dX4_addOath_30 (by decide) ?_
    refine lv_iload_n hx hb dX4_addOath_31 rfl (lv_at hl 2 rfl) ?_
    refine cVv (As := [.int v_3930, .int 0, .int i1]) (rest := []) S Y (x_X4_put (l := l) (j := j) I hW hT hQ hj) cw_X4_put km4_40 p_ad_10_j ok_X4.1 rfl rfl ⟨Nat.le_of_ble_eq_true rfl, Nat.le_of_ble_eq_true rfl⟩ hl.1 rfl (Nat.le_of_ble_eq_true rfl) ⟨Nat.le_of_ble_eq_true rfl, Nat.le_of_ble_eq_true rfl⟩ dX4_addOath_32 (fun L_3945 f_3946 H locs I Y => ?_)
    refine lv_aload_n hx hb dX4_addOath_35 rfl (lv_at hl 1 rfl) ?_
    refine lv_iload hx hb dX4_addOath_36 (lv_at hl 0 rfl) ?_
    refine lv_iconst (v := 1) hx hb dX4_addOath_38 (by decide) ?_
    refine lv_iload_n hx hb dX4_addOath_39 rfl (lv_at hl 3 rfl) ?_
    refine cVv (As := [.int v_3930, .int 1, .int i2]) (rest := []) S Y (x_X4_put (l := l) (j := j) I hW hT hQ hj) cw_X4_put km4_40 (I.opo (k := 10) (j := j) hj rfl).choose_spec.1 ok_X4.1 rfl rfl ⟨Nat.le_of_ble_eq_true rfl, Nat.le_of_ble_eq_true rfl⟩ hl.1 rfl (Nat.le_of_ble_eq_true rfl) ⟨Nat.le_of_ble_eq_true rfl, Nat.le_of_ble_eq_true rfl⟩ dX4_addOath_40 (fun L_3947 f_3948 H locs I Y => ?_)
    refine lv_aload_n hx hb dX4_addOath_43 rfl (lv_at hl 1 rfl) ?_
    refine lv_iload hx hb dX4_addOath_44 (lv_at hl 0 rfl) ?_
    refine lv_iconst (v := 2) hx hb dX4_addOath_46 (by decide) ?_
    refine lv_iload_n hx hb dX4_addOath_47 rfl (lv_at hl 4 rfl) ?_
    refine cVv (As := [.int v_3930, .int 2, .int i3]) (rest := []) S Y (x_X4_put (l := l) (j := j) I hW hT hQ hj) cw_X4_put km4_40 (I.opo (k := 10) (j := j) hj rfl).choose_spec.1 ok_X4.1 rfl rfl ⟨Nat.le_of_ble_eq_true rfl, Nat.le_of_ble_eq_true rfl⟩ hl.1 rfl (Nat.le_of_ble_eq_true rfl) ⟨Nat.le_of_ble_eq_true rfl, Nat.le_of_ble_eq_true rfl⟩ dX4_addOath_48 (fun L_3949 f_3950 H locs I Y => ?_)
    refine lv_aload_n hx hb dX4_addOath_51 rfl (lv_at hl 1 rfl) ?_
    refine lv_iload hx hb dX4_addOath_52 (lv_at hl 0 rfl) ?_
    refine lv_iconst (v := 3) hx hb dX4_addOath_54 (by decide) ?_
    refine lv_iload hx hb dX4_addOath_55 (lv_at hl 5 rfl) ?_
    refine cVv (As := [.int v_3930, .int 3, .int i4]) (rest := []) S Y (x_X4_put (l := l) (j := j) I hW hT hQ hj) cw_X4_put km4_40 (I.opo (k := 10) (j := j) hj rfl).choose_spec.1 ok_X4.1 rfl rfl ⟨Nat.le_of_ble_eq_true rfl, Nat.le_of_ble_eq_true rfl⟩ hl.1 rfl (Nat.le_of_ble_eq_true rfl) ⟨Nat.le_of_ble_eq_true rfl, Nat.le_of_ble_eq_true rfl⟩ dX4_addOath_57 (fun L_3951 f_3952 H locs I Y => ?_)
    refine lv_aload_n hx hb dX4_addOath_60 rfl (lv_at hl 1 rfl) ?_
    refine lv_iload hx hb dX4_addOath_61 (lv_at hl 0 rfl) ?_
    refine lv_iconst (v := 4) hx hb dX4_addOath_63 (by decide) ?_
    refine lv_iconst (v := 0) hx hb dX4_addOath_64 (by decide) ?_
    refine cVv (As := [.int v_3930, .int 4, .int 0]) (rest := []) S Y (x_X4_put (l := l) (j := j) I hW hT hQ hj) cw_X4_put km4_40 (I.opo (k := 10) (j := j) hj rfl).choose_spec.1 ok_X4.1 rfl rfl ⟨Nat.le_of_ble_eq_true rfl, Nat.le_of_ble_eq_true rfl⟩ hl.1 rfl (Nat.le_of_ble_eq_true rfl) ⟨Nat.le_of_ble_eq_true rfl, Nat.le_of_ble_eq_true rfl⟩ dX4_addOath_65 (fun L_3953 f_3954 H locs I Y => ?_)
    refine lv_aload_n hx hb dX4_addOath_68 rfl (lv_at hl 1 rfl) ?_
    refine lv_iload hx hb dX4_addOath_69 (lv_at hl 0 rfl) ?_
    refine lv_iconst (v := 5) hx hb dX4_addOath_71 (by decide) ?_
    refine lv_iconst (v := 0) hx hb dX4_addOath_72 (by decide) ?_
    refine cVv (As := [.int v_3930, .int 5, .int 0]) (rest := []) S Y (x_X4_put (l := l) (j := j) I hW hT hQ hj) cw_X4_put km4_40 (I.opo (k := 10) (j := j) hj rfl).choose_spec.1 ok_X4.1 rfl rfl ⟨Nat.le_of_ble_eq_true rfl, Nat.le_of_ble_eq_true rfl⟩ hl.1 rfl (Nat.le_of_ble_eq_true rfl) ⟨Nat.le_of_ble_eq_true rfl, Nat.le_of_ble_eq_true rfl⟩ dX4_addOath_73 (fun L_3955 f_3956 H locs I Y => ?_)
    refine lv_aload_n hx hb dX4_addOath_76 rfl (lv_at hl 1 rfl) ?_
    refine lv_iload hx hb dX4_addOath_77 (lv_at hl 0 rfl) ?_
    refine lv_bipush (v := 6) hx hb dX4_addOath_79 (by decide) ?_
    refine lv_aload_n hx hb dX4_addOath_81 rfl (lv_at hl 1 rfl) ?_
    obtain ⟨v_3957, v_3959, v_3961, v_3963, v_3965, p_ad_10_j, b_3958, b_3960, b_3962, b_3964, b_3966⟩ := opnC_10 (j := j) I hj
    have p_ad_10_j : pt L_3955 f_3956 (ad 10 j) (.inr (4, [.ref (ad 11 j), .ref (ad 12 j), .int v_3957, .int v_3959, .int v_3961, .int v_3963, .int v_3965])) := p_ad_10_j
    refine pg_get S Y ok_X4 4 (by decide) kf4_34 (v := .int v_3961) p_ad_10_j rfl dX4_addOath_82 ?_
    refine cVv (As := [.int v_3930, .int 6, .int v_3961]) (rest := []) S Y (x_X4_put (l := l) (j := j) I hW hT hQ hj) cw_X4_put km4_40 p_ad_10_j ok_X4.1 rfl rfl ⟨Nat.le_of_ble_eq_true rfl, Nat.le_of_ble_eq_true rfl⟩ hl.1 rfl (Nat.le_of_ble_eq_true rfl) ⟨Nat.le_of_ble_eq_true rfl, Nat.le_of_ble_eq_true rfl⟩ dX4_addOath_85 (fun L_3967 f_3968 H locs I Y => ?_)
    refine lv_iload hx hb dX4_addOath_88 (lv_at hl 0 rfl) ?_
    exact prI (post := fun r L1 f1 => SH (spC rs fc tc w q) nnC G ad L1 f1) S Y rfl (by decide) (by decide) hA1 I dX4_addOath_90
  · have B_3942 : bn 14 14 v_3930 := bn_w (bn_gel c_3940 b_3931 (show bn 14 14 (14 : Int32) from bn_k (by decide))) (by decide)
    refine lv_iconst (v := (-1)) hx hb dX4_addOath_9 (by decide) ?_
    exact prI (post := fun r L1 f1 => SH (spC rs fc tc w q) nnC G ad L1 f1) S Y rfl (by decide) (by decide) hA1 I dX4_addOath_10
set_option maxHeartbeats 4000000 in
set_option maxRecDepth 100000 in
theorem x_X4_write {l : Launch} {G : GG}  {L : List Nat} {f : HF} {ad : Nat → Nat → Nat} {rs : RS} {fc : Int × Int} {tc w : Nat → Int × Int} {q : Nat → (Nat → Int32) → Prop} {j : Nat} {i1 i2 : Int32} (I : SH (spC rs fc tc w q) nnC G ad L f) (hW : WBp w 8) (hT : WBp tc 4) (hQ : QIp q) (hj : j < 63) : PMv l yX4_write cX4_write 4 1 0 0 G [.ref (ad 10 j), .int i1, .int i2] L f (fun L1 f1 => SH (spC rs fc tc w q) nnC G ad L1 f1) := by
  refine PMv.of (post := fun L1 f1 => SH (spC rs fc tc w q) nnC G ad L1 f1) (own := RX4) (by decide) rfl (Nat.le_of_ble_eq_true rfl) (fun sz p e s m args below meth c A ls hA1 hname S Y hl => ?_)
  have hx := S.hx
  have hb := S.hb
  have hl : lv_has ls 4 [(0, .ref (ad 10 j)), (1, .int i1), (2, .int i2)] := hl
  refine lv_aload_n hx hb dX4_write_0 rfl (lv_at hl 0 rfl) ?_
  obtain ⟨v_4047, v_4049, v_4051, v_4053, v_4055, p_ad_10_j, b_4048, b_4050, b_4052, b_4054, b_4056⟩ := opnC_10 (j := j) I hj
  have p_ad_10_j : pt L f (ad 10 j) (.inr (4, [.ref (ad 11 j), .ref (ad 12 j), .int v_4047, .int v_4049, .int v_4051, .int v_4053, .int v_4055])) := p_ad_10_j
  refine pg_get S Y ok_X4 3 (by decide) kf4_31 (v := .int v_4049) p_ad_10_j rfl dX4_write_1 ?_
  refine lv_bipush (v := 30) hx hb dX4_write_4 (by decide) ?_
  refine lv_icmp_lt (tgt := 35) hx hb dX4_write_6 (by decide) (fun c_4057 => ?_) (fun c_4057 => ?_)
  · have B_4058 : bn 0 29 v_4049 := bn_w (bn_ltl c_4057 b_4050 (show bn 30 30 (30 : Int32) from bn_k (by decide))) (by decide)
    refine lv_aload_n hx hb dX4_write_35 rfl (lv_at hl 0 rfl) ?_
    refine pg_get S Y ok_X4 3 (by decide) kf4_31 (v := .int v_4049) p_ad_10_j rfl dX4_write_36 ?_
    refine lv_iconst (v := 3) hx hb dX4_write_39 (by decide) ?_
    refine lv_imul hx hb dX4_write_40 ?_
    refine lv_topi (fun x_4060 ex_4060 => ?_)
    refine lv_istore_n (lv' := [(3, .int x_4060), (0, .ref (ad 10 j)), (1, .int i1), (2, .int i2)]) hx hb dX4_write_41 rfl hl (by decide) rfl (fun ls hl => ?_)
    refine lv_aload_n hx hb dX4_write_42 rfl (lv_at hl 1 rfl) ?_
    refine pg_get S Y ok_X4 1 (by decide) kf4_15 (v := .ref (ad 12 j)) p_ad_10_j rfl dX4_write_43 ?_
    refine lv_iload_n hx hb dX4_write_46 rfl (lv_at hl 0 rfl) ?_
    refine lv_iconst (v := 0) hx hb dX4_write_47 (by decide) ?_
    refine lv_iadd hx hb dX4_write_48 ?_
    refine lv_topi (fun x_4061 ex_4061 => ?_)
    refine lv_aload_n hx hb dX4_write_49 rfl (lv_at hl 1 rfl) ?_
    refine pg_get S Y ok_X4 4 (by decide) kf4_34 (v := .int v_4051) p_ad_10_j rfl dX4_write_50 ?_
    obtain ⟨g_4062, p_ad_12_j, o_4063⟩ := I.opi (k := 12) (j := j) hj rfl
    have p_ad_12_j : pt L f (ad 12 j) (.inl (G.2 0, 90, .inl g_4062)) := p_ad_12_j
    refine pg_iast S Y p_ad_12_j (vp_bn (bn_eq ex_4061 (bn_add (bn_eq ex_4060 (bn_mul B_4058 (show bn 3 3 (3 : Int32) from bn_k (by decide)) (by decide))) (show bn 0 0 (0 : Int32) from bn_k (by decide)) (by decide))) (by decide)) dX4_write_53 (fun f_4065 H locs ef_4065 Y => ?_)
    obtain ⟨g_4064, eg_4064⟩ : ∃ z, z = upd (g_4062) (x_4061 : Int32).toNatClampNeg v_4051 := ⟨_, rfl⟩
    rw [← eg_4064] at ef_4065
    have p_ad_10_j := p_ad_10_j.up ef_4065 (I.ne (k := 10) (j := j) (k' := 12) (j' := j) hj hj (Or.inl (by decide)))
    have p_ad_12_j := p_ad_12_j.me ef_4065
    have I := I.up (k := 12) (j := j) hj ef_4065 (okE_a (g := g_4064) trivial)
    refine lv_aload_n hx hb dX4_write_54 rfl (lv_at hl 1 rfl) ?_
    refine pg_get S Y ok_X4 1 (by decide) kf4_15 (v := .ref (ad 12 j)) p_ad_10_j rfl dX4_write_55 ?_
    refine lv_iload_n hx hb dX4_write_58 rfl (lv_at hl 0 rfl) ?_
    refine lv_iconst (v := 1) hx hb dX4_write_59 (by decide) ?_
    refine lv_iadd hx hb dX4_write_60 ?_
    refine lv_topi (fun x_4066 ex_4066 => ?_)
    refine lv_iload_n hx hb dX4_write_61 rfl (lv_at hl 2 rfl) ?_
    refine pg_iast S Y p_ad_12_j (vp_bn (bn_eq ex_4066 (bn_add (bn_eq ex_4060 (bn_mul B_4058 (show bn 3 3 (3 : Int32) from bn_k (by decide)) (by decide))) (show bn 1 1 (1 : Int32) from bn_k (by decide)) (by decide))) (by decide)) dX4_write_62 (fun f_4068 H locs ef_4068 Y => ?_)
    obtain ⟨g_4067, eg_4067⟩ : ∃ z, z = upd (g_4064) (x_4066 : Int32).toNatClampNeg i1 := ⟨_, rfl⟩
    rw [← eg_4067] at ef_4068
    have p_ad_10_j := p_ad_10_j.up ef_4068 (I.ne (k := 10) (j := j) (k' := 12) (j' := j) hj hj (Or.inl (by decide)))
    have p_ad_12_j := p_ad_12_j.me ef_4068
    have I := I.up (k := 12) (j := j) hj ef_4068 (okE_a (g := g_4067) trivial)
    refine lv_aload_n hx hb dX4_write_63 rfl (lv_at hl 1 rfl) ?_
    refine pg_get S Y ok_X4 1 (by decide) kf4_15 (v := .ref (ad 12 j)) p_ad_10_j rfl dX4_write_64 ?_
    refine lv_iload_n hx hb dX4_write_67 rfl (lv_at hl 0 rfl) ?_
    refine lv_iconst (v := 2) hx hb dX4_write_68 (by decide) ?_
    refine lv_iadd hx hb dX4_write_69 ?_
    refine lv_topi (fun x_4069 ex_4069 => ?_)
    refine lv_iload_n hx hb dX4_write_70 rfl (lv_at hl 3 rfl) ?_
    refine pg_iast S Y p_ad_12_j (vp_bn (bn_eq ex_4069 (bn_add (bn_eq ex_4060 (bn_mul B_4058 (show bn 3 3 (3 : Int32) from bn_k (by decide)) (by decide))) (show bn 2 2 (2 : Int32) from bn_k (by decide)) (by decide))) (by decide)) dX4_write_71 (fun f_4071 H locs ef_4071 Y => ?_)
    obtain ⟨g_4070, eg_4070⟩ : ∃ z, z = upd (g_4067) (x_4069 : Int32).toNatClampNeg i2 := ⟨_, rfl⟩
    rw [← eg_4070] at ef_4071
    have p_ad_10_j := p_ad_10_j.up ef_4071 (I.ne (k := 10) (j := j) (k' := 12) (j' := j) hj hj (Or.inl (by decide)))
    have p_ad_12_j := p_ad_12_j.me ef_4071
    have I := I.up (k := 12) (j := j) hj ef_4071 (okE_a (g := g_4070) trivial)
    refine lv_aload_n hx hb dX4_write_72 rfl (lv_at hl 1 rfl) ?_
    refine lv_dup hx hb dX4_write_73 rfl ?_
    refine pg_get S Y ok_X4 3 (by decide) kf4_31 (v := .int v_4049) p_ad_10_j rfl dX4_write_74 ?_
    refine lv_iconst (v := 1) hx hb dX4_write_77 (by decide) ?_
    refine lv_iadd hx hb dX4_write_78 ?_
    refine lv_topi (fun x_4072 ex_4072 => ?_)
    refine pg_put S Y ok_X4 3 (by decide) kf4_31 rfl (fs' := [.ref (ad 11 j), .ref (ad 12 j), .int v_4047, .int x_4072, .int v_4051, .int v_4053, .int v_4055]) (v := .int x_4072) p_ad_10_j rfl rfl rfl (Nat.le_of_ble_eq_true rfl) dX4_write_79 (fun f_4073 H locs ef_4073 Y => ?_)
    have p_ad_12_j := p_ad_12_j.up ef_4073 (I.ne (k := 12) (j := j) (k' := 10) (j' := j) hj hj (Or.inl (by decide)))
    have p_ad_10_j := p_ad_10_j.me ef_4073
    have I := I.up (k := 10) (j := j) hj ef_4073 (okE_o (okFs_c okV_r (okFs_c okV_r (okFs_c (okV_i b_4048) (okFs_c (okV_i (bn_w (bn_eq ex_4072 (bn_add B_4058 (show bn 1 1 (1 : Int32) from bn_k (by decide)) (by decide))) (by decide))) (okFs_c (okV_i b_4052) (okFs_c (okV_i b_4054) (okFs_c (okV_i b_4056) okFs_n))))))))
    exact prV (post := fun L1 f1 => SH (spC rs fc tc w q) nnC G ad L1 f1) S Y (by decide) (by decide) hA1 I dX4_write_82
  · have B_4059 : bn 30 30 v_4049 := bn_w (bn_gel c_4057 b_4050 (show bn 30 30 (30 : Int32) from bn_k (by decide))) (by decide)
    refine lv_aload_n hx hb dX4_write_9 rfl (lv_at hl 0 rfl) ?_
    refine pg_get S Y ok_X4 1 (by decide) kf4_15 (v := .ref (ad 12 j)) p_ad_10_j rfl dX4_write_10 ?_
    refine lv_iconst (v := 3) hx hb dX4_write_13 (by decide) ?_
    refine lv_aload_n hx hb dX4_write_14 rfl (lv_at hl 0 rfl) ?_
    refine pg_get S Y ok_X4 1 (by decide) kf4_15 (v := .ref (ad 12 j)) p_ad_10_j rfl dX4_write_15 ?_
    refine lv_iconst (v := 0) hx hb dX4_write_18 (by decide) ?_
    refine lv_aload_n hx hb dX4_write_19 rfl (lv_at hl 0 rfl) ?_
    refine pg_get S Y ok_X4 1 (by decide) kf4_15 (v := .ref (ad 12 j)) p_ad_10_j rfl dX4_write_20 ?_
    obtain ⟨g_4074, p_ad_12_j, o_4075⟩ := I.opi (k := 12) (j := j) hj rfl
    have p_ad_12_j : pt L f (ad 12 j) (.inl (G.2 0, 90, .inl g_4074)) := p_ad_12_j
    refine pg_alen S Y (k := 0) (v := 90) p_ad_12_j rfl rfl dX4_write_23 ?_
    refine lv_iconst (v := 3) hx hb dX4_write_24 (by decide) ?_
    refine lv_isub hx hb dX4_write_25 ?_
    refine lv_fold (z := 87) (by decide) ?_
    refine pg_copyi S Y hl.1 km4_22 kAn kAs kAi p_ad_12_j p_ad_12_j (by decide) (by decide) (by decide) (by decide) (by decide) (Nat.le_of_ble_eq_true rfl) (Nat.le_of_ble_eq_true rfl) dX4_write_26 (fun f_4077 H locs ef_4077 Y => ?_)
    obtain ⟨g_4076, eg_4076⟩ : ∃ z, z = va_cpy (g_4074) (g_4074) (3 : Int32).toNatClampNeg (0 : Int32).toNatClampNeg (87 : Int32).toNatClampNeg := ⟨_, rfl⟩
    rw [← eg_4076] at ef_4077
    have p_ad_10_j := p_ad_10_j.up ef_4077 (I.ne (k := 10) (j := j) (k' := 12) (j' := j) hj hj (Or.inl (by decide)))
    have p_ad_12_j := p_ad_12_j.me ef_4077
    have I := I.up (k := 12) (j := j) hj ef_4077 (okE_a (g := g_4076) trivial)
    refine lv_aload_n hx hb dX4_write_29 rfl (lv_at hl 0 rfl) ?_
    refine lv_bipush (v := 29) hx hb dX4_write_30 (by decide) ?_
    refine pg_put S Y ok_X4 3 (by decide) kf4_31 rfl (fs' := [.ref (ad 11 j), .ref (ad 12 j), .int v_4047, .int 29, .int v_4051, .int v_4053, .int v_4055]) (v := .int 29) p_ad_10_j rfl rfl rfl (Nat.le_of_ble_eq_true rfl) dX4_write_32 (fun f_4078 H locs ef_4078 Y => ?_)
    have p_ad_12_j := p_ad_12_j.up ef_4078 (I.ne (k := 12) (j := j) (k' := 10) (j' := j) hj hj (Or.inl (by decide)))
    have p_ad_10_j := p_ad_10_j.me ef_4078
    have I := I.up (k := 10) (j := j) hj ef_4078 (okE_o (okFs_c okV_r (okFs_c okV_r (okFs_c (okV_i b_4048) (okFs_c (okV_i (bn_w (show bn 29 29 (29 : Int32) from bn_k (by decide)) (by decide))) (okFs_c (okV_i b_4052) (okFs_c (okV_i b_4054) (okFs_c (okV_i b_4056) okFs_n))))))))
    refine lv_aload_n hx hb dX4_write_35 rfl (lv_at hl 0 rfl) ?_
    refine pg_get S Y ok_X4 3 (by decide) kf4_31 (v := .int 29) p_ad_10_j rfl dX4_write_36 ?_
    refine lv_iconst (v := 3) hx hb dX4_write_39 (by decide) ?_
    refine lv_imul hx hb dX4_write_40 ?_
    refine lv_fold (z := 87) (by decide) ?_
    refine lv_istore_n (lv' := [(3, .int 87), (0, .ref (ad 10 j)), (1, .int i1), (2, .int i2)]) hx hb dX4_write_41 rfl hl (by decide) rfl (fun ls hl => ?_)
    refine lv_aload_n hx hb dX4_write_42 rfl (lv_at hl 1 rfl) ?_
    refine pg_get S Y ok_X4 1 (by decide) kf4_15 (v := .ref (ad 12 j)) p_ad_10_j rfl dX4_write_43 ?_
    refine lv_iload_n hx hb dX4_write_46 rfl (lv_at hl 0 rfl) ?_
    refine lv_iconst (v := 0) hx hb dX4_write_47 (by decide) ?_
    refine lv_iadd hx hb dX4_write_48 ?_
    refine lv_fold (z := 87) (by decide) ?_
    refine lv_aload_n hx hb dX4_write_49 rfl (lv_at hl 1 rfl) ?_
    refine pg_get S Y ok_X4 4 (by decide) kf4_34 (v := .int v_4051) p_ad_10_j rfl dX4_write_50 ?_
    refine pg_iast S Y p_ad_12_j (by unfold vp_in; decide) dX4_write_53 (fun f_4080 H locs ef_4080 Y => ?_)
    obtain ⟨g_4079, eg_4079⟩ : ∃ z, z = upd (g_4076) (87 : Int32).toNatClampNeg v_4051 := ⟨_, rfl⟩
    rw [← eg_4079] at ef_4080
    have p_ad_10_j := p_ad_10_j.up ef_4080 (I.ne (k := 10) (j := j) (k' := 12) (j' := j) hj hj (Or.inl (by decide)))
    have p_ad_12_j := p_ad_12_j.me ef_4080
    have I := I.up (k := 12) (j := j) hj ef_4080 (okE_a (g := g_4079) trivial)
    refine lv_aload_n hx hb dX4_write_54 rfl (lv_at hl 1 rfl) ?_
    refine pg_get S Y ok_X4 1 (by decide) kf4_15 (v := .ref (ad 12 j)) p_ad_10_j rfl dX4_write_55 ?_
    refine lv_iload_n hx hb dX4_write_58 rfl (lv_at hl 0 rfl) ?_
    refine lv_iconst (v := 1) hx hb dX4_write_59 (by decide) ?_
    refine lv_iadd hx hb dX4_write_60 ?_
    refine lv_fold (z := 88) (by decide) ?_
    refine lv_iload_n hx hb dX4_write_61 rfl (lv_at hl 2 rfl) ?_
    refine pg_iast S Y p_ad_12_j (by unfold vp_in; decide) dX4_write_62 (fun f_4082 H locs ef_4082 Y => ?_)
    obtain ⟨g_4081, eg_4081⟩ : ∃ z, z = upd (g_4079) (88 : Int32).toNatClampNeg i1 := ⟨_, rfl⟩
    rw [← eg_4081] at ef_4082
    have p_ad_10_j := p_ad_10_j.up ef_4082 (I.ne (k := 10) (j := j) (k' := 12) (j' := j) hj hj (Or.inl (by decide)))
    have p_ad_12_j := p_ad_12_j.me ef_4082
    have I := I.up (k := 12) (j := j) hj ef_4082 (okE_a (g := g_4081) trivial)
    refine lv_aload_n hx hb dX4_write_63 rfl (lv_at hl 1 rfl) ?_
    refine pg_get S Y ok_X4 1 (by decide) kf4_15 (v := .ref (ad 12 j)) p_ad_10_j rfl dX4_write_64 ?_
    refine lv_iload_n hx hb dX4_write_67 rfl (lv_at hl 0 rfl) ?_
    refine lv_iconst (v := 2) hx hb dX4_write_68 (by decide) ?_
    refine lv_iadd hx hb dX4_write_69 ?_
    refine lv_fold (z := 89) (by decide) ?_
    refine lv_iload_n hx hb dX4_write_70 rfl (lv_at hl 3 rfl) ?_
    refine pg_iast S Y p_ad_12_j (by unfold vp_in; decide) dX4_write_71 (fun f_4084 H locs ef_4084 Y => ?_)
    obtain ⟨g_4083, eg_4083⟩ : ∃ z, z = upd (g_4081) (89 : Int32).toNatClampNeg i2 := ⟨_, rfl⟩
    rw [← eg_4083] at ef_4084
    have p_ad_10_j := p_ad_10_j.up ef_4084 (I.ne (k := 10) (j := j) (k' := 12) (j' := j) hj hj (Or.inl (by decide)))
    have p_ad_12_j := p_ad_12_j.me ef_4084
    have I := I.up (k := 12) (j := j) hj ef_4084 (okE_a (g := g_4083) trivial)
    refine lv_aload_n hx hb dX4_write_72 rfl (lv_at hl 1 rfl) ?_
    refine lv_dup hx hb dX4_write_73 rfl ?_
    refine pg_get S Y ok_X4 3 (by decide) kf4_31 (v := .int 29) p_ad_10_j rfl dX4_write_74 ?_
    refine lv_iconst (v := 1) hx hb dX4_write_77 (by decide) ?_
    refine lv_iadd hx hb dX4_write_78 ?_
    refine lv_fold (z := 30) (by decide) ?_
    refine pg_put S Y ok_X4 3 (by decide) kf4_31 rfl (fs' := [.ref (ad 11 j), .ref (ad 12 j), .int v_4047, .int 30, .int v_4051, .int v_4053, .int v_4055]) (v := .int 30) p_ad_10_j rfl rfl rfl (Nat.le_of_ble_eq_true rfl) dX4_write_79 (fun f_4085 H locs ef_4085 Y => ?_)
    have p_ad_12_j := p_ad_12_j.up ef_4085 (I.ne (k := 12) (j := j) (k' := 10) (j' := j) hj hj (Or.inl (by decide)))
    have p_ad_10_j := p_ad_10_j.me ef_4085
    have I := I.up (k := 10) (j := j) hj ef_4085 (okE_o (okFs_c okV_r (okFs_c okV_r (okFs_c (okV_i b_4048) (okFs_c (okV_i (bn_w (show bn 30 30 (30 : Int32) from bn_k (by decide)) (by decide))) (okFs_c (okV_i b_4052) (okFs_c (okV_i b_4054) (okFs_c (okV_i b_4056) okFs_n))))))))
    exact prV (post := fun L1 f1 => SH (spC rs fc tc w q) nnC G ad L1 f1) S Y (by decide) (by decide) hA1 I dX4_write_82
set_option maxHeartbeats 4000000 in
set_option maxRecDepth 100000 in
theorem x_X4_takeOver {l : Launch} {G : GG}  {L : List Nat} {f : HF} {ad : Nat → Nat → Nat} {rs : RS} {fc : Int × Int} {tc w : Nat → Int × Int} {q : Nat → (Nat → Int32) → Prop} {j i : Nat} (I : SH (spC rs fc tc w q) nnC G ad L f) (hW : WBp w 8) (hT : WBp tc 4) (hQ : QIp q) (hj : j < 63) (hi : i < 63) (hne : j ≠ i) : PMv l yX4_takeOver cX4_takeOver 2 1 0 0 G [.ref (ad 10 j), .ref (ad 10 i)] L f (fun L1 f1 => SH (spC rs fc tc w q) nnC G ad L1 f1) := by
  refine PMv.of (post := fun L1 f1 => SH (spC rs fc tc w q) nnC G ad L1 f1) (own := RX4) (by decide) rfl (Nat.le_of_ble_eq_true rfl) (fun sz p e s m args below meth c A ls hA1 hname S Y hl => ?_)
  have hx := S.hx
  have hb := S.hb
  have hl : lv_has ls 2 [(0, .ref (ad 10 j)), (1, .ref (ad 10 i))] := hl
  refine lv_aload_n hx hb dX4_takeOver_0 rfl (lv_at hl 1 rfl) ?_
  obtain ⟨v_4160, v_4162, v_4164, v_4166, v_4168, p_ad_10_i, b_4161, b_4163, b_4165, b_4167, b_4169⟩ := opnC_10 (j := i) I hi
  have p_ad_10_i : pt L f (ad 10 i) (.inr (4, [.ref (ad 11 i), .ref (ad 12 i), .int v_4160, .int v_4162, .int v_4164, .int v_4166, .int v_4168])) := p_ad_10_i
  refine pg_get S Y ok_X4 0 (by decide) kf4_9 (v := .ref (ad 11 i)) p_ad_10_i rfl dX4_takeOver_1 ?_
  refine lv_iconst (v := 0) hx hb dX4_takeOver_4 (by decide) ?_
  refine lv_aload_n hx hb dX4_takeOver_5 rfl (lv_at hl 0 rfl) ?_
  obtain ⟨v_4170, v_4172, v_4174, v_4176, v_4178, p_ad_10_j, b_4171, b_4173, b_4175, b_4177, b_4179⟩ := opnC_10 (j := j) I hj
  have p_ad_10_j : pt L f (ad 10 j) (.inr (4, [.ref (ad 11 j), .ref (ad 12 j), .int v_4170, .int v_4172, .int v_4174, .int v_4176, .int v_4178])) := p_ad_10_j
  refine pg_get S Y ok_X4 0 (by decide) kf4_9 (v := .ref (ad 11 j)) p_ad_10_j rfl dX4_takeOver_6 ?_
  refine lv_iconst (v := 0) hx hb dX4_takeOver_9 (by decide) ?_
  refine lv_aload_n hx hb dX4_takeOver_10 rfl (lv_at hl 0 rfl) ?_
  refine pg_get S Y ok_X4 0 (by decide) kf4_9 (v := .ref (ad 11 j)) p_ad_10_j rfl dX4_takeOver_11 ?_
  obtain ⟨g_4180, p_ad_11_j, o_4181⟩ := I.opi (k := 11) (j := j) hj rfl
  have p_ad_11_j : pt L f (ad 11 j) (.inl (G.2 0, 98, .inl g_4180)) := p_ad_11_j
  refine pg_alen S Y (k := 0) (v := 98) p_ad_11_j rfl rfl dX4_takeOver_14 ?_
  obtain ⟨g_4182, p_ad_11_i, o_4183⟩ := I.opi (k := 11) (j := i) hi rfl
  have p_ad_11_i : pt L f (ad 11 i) (.inl (G.2 0, 98, .inl g_4182)) := p_ad_11_i
  refine pg_copyi S Y hl.1 km4_22 kAn kAs kAi p_ad_11_i p_ad_11_j (by decide) (by decide) (by decide) (by decide) (by decide) (Nat.le_of_ble_eq_true rfl) (Nat.le_of_ble_eq_true rfl) dX4_takeOver_15 (fun f_4185 H locs ef_4185 Y => ?_)
  obtain ⟨g_4184, eg_4184⟩ : ∃ z, z = va_cpy (g_4182) (g_4180) (0 : Int32).toNatClampNeg (0 : Int32).toNatClampNeg (98 : Int32).toNatClampNeg := ⟨_, rfl⟩
  rw [← eg_4184] at ef_4185
  have p_ad_10_i := p_ad_10_i.up ef_4185 (I.ne (k := 10) (j := i) (k' := 11) (j' := j) hi hj (Or.inl (by decide)))
  have p_ad_10_j := p_ad_10_j.up ef_4185 (I.ne (k := 10) (j := j) (k' := 11) (j' := j) hj hj (Or.inl (by decide)))
  have p_ad_11_i := p_ad_11_i.up ef_4185 (I.ne (k := 11) (j := i) (k' := 11) (j' := j) hi hj (Or.inr (Ne.symm hne)))
  have p_ad_11_j := p_ad_11_j.me ef_4185
  have I := I.up (k := 11) (j := j) hj ef_4185 (okE_a (g := g_4184) trivial)
  refine lv_aload_n hx hb dX4_takeOver_18 rfl (lv_at hl 1 rfl) ?_
  refine pg_get S Y ok_X4 1 (by decide) kf4_15 (v := .ref (ad 12 i)) p_ad_10_i rfl dX4_takeOver_19 ?_
  refine lv_iconst (v := 0) hx hb dX4_takeOver_22 (by decide) ?_
  refine lv_aload_n hx hb dX4_takeOver_23 rfl (lv_at hl 0 rfl) ?_
  refine pg_get S Y ok_X4 1 (by decide) kf4_15 (v := .ref (ad 12 j)) p_ad_10_j rfl dX4_takeOver_24 ?_
  refine lv_iconst (v := 0) hx hb dX4_takeOver_27 (by decide) ?_
  refine lv_aload_n hx hb dX4_takeOver_28 rfl (lv_at hl 0 rfl) ?_
  refine pg_get S Y ok_X4 1 (by decide) kf4_15 (v := .ref (ad 12 j)) p_ad_10_j rfl dX4_takeOver_29 ?_
  obtain ⟨g_4186, p_ad_12_j, o_4187⟩ := I.opi (k := 12) (j := j) hj rfl
  have p_ad_12_j : pt L f_4185 (ad 12 j) (.inl (G.2 0, 90, .inl g_4186)) := p_ad_12_j
  refine pg_alen S Y (k := 0) (v := 90) p_ad_12_j rfl rfl dX4_takeOver_32 ?_
  obtain ⟨g_4188, p_ad_12_i, o_4189⟩ := I.opi (k := 12) (j := i) hi rfl
  have p_ad_12_i : pt L f_4185 (ad 12 i) (.inl (G.2 0, 90, .inl g_4188)) := p_ad_12_i
  refine pg_copyi S Y hl.1 km4_22 kAn kAs kAi p_ad_12_i p_ad_12_j (by decide) (by decide) (by decide) (by decide) (by decide) (Nat.le_of_ble_eq_true rfl) (Nat.le_of_ble_eq_true rfl) dX4_takeOver_33 (fun f_4191 H locs ef_4191 Y => ?_)
  obtain ⟨g_4190, eg_4190⟩ : ∃ z, z = va_cpy (g_4188) (g_4186) (0 : Int32).toNatClampNeg (0 : Int32).toNatClampNeg (90 : Int32).toNatClampNeg := ⟨_, rfl⟩
  rw [← eg_4190] at ef_4191
  have p_ad_10_i := p_ad_10_i.up ef_4191 (I.ne (k := 10) (j := i) (k' := 12) (j' := j) hi hj (Or.inl (by decide)))
  have p_ad_10_j := p_ad_10_j.up ef_4191 (I.ne (k := 10) (j := j) (k' := 12) (j' := j) hj hj (Or.inl (by decide)))
  have p_ad_11_j := p_ad_11_j.up ef_4191 (I.ne (k := 11) (j := j) (k' := 12) (j' := j) hj hj (Or.inl (by decide)))
  have p_ad_11_i := p_ad_11_i.up ef_4191 (I.ne (k := 11) (j := i) (k' := 12) (j' := j) hi hj (Or.inl (by decide)))
  have p_ad_12_i := p_ad_12_i.up ef_4191 (I.ne (k := 12) (j := i) (k' := 12) (j' := j) hi hj (Or.inr (Ne.symm hne)))
  have p_ad_12_j := p_ad_12_j.me ef_4191
  have I := I.up (k := 12) (j := j) hj ef_4191 (okE_a (g := g_4190) trivial)
  refine lv_aload_n hx hb dX4_takeOver_36 rfl (lv_at hl 0 rfl) ?_
  refine lv_aload_n hx hb dX4_takeOver_37 rfl (lv_at hl 1 rfl) ?_
  refine pg_get S Y ok_X4 2 (by decide) kf4_28 (v := .int v_4160) p_ad_10_i rfl dX4_takeOver_38 ?_
  refine pg_put S Y ok_X4 2 (by decide) kf4_28 rfl (fs' := [.ref (ad 11 j), .ref (ad 12 j), .int v_4160, .int v_4172, .int v_4174, .int v_4176, .int v_4178]) (v := .int v_4160) p_ad_10_j rfl rfl rfl (Nat.le_of_ble_eq_true rfl) dX4_takeOver_41 (fun f_4192 H locs ef_4192 Y => ?_)
  have p_ad_10_i := p_ad_10_i.up ef_4192 (I.ne (k := 10) (j := i) (k' := 10) (j' := j) hi hj (Or.inr (Ne.symm hne)))
  have p_ad_11_j := p_ad_11_j.up ef_4192 (I.ne (k := 11) (j := j) (k' := 10) (j' := j) hj hj (Or.inl (by decide)))
  have p_ad_11_i := p_ad_11_i.up ef_4192 (I.ne (k := 11) (j := i) (k' := 10) (j' := j) hi hj (Or.inl (by decide)))
  have p_ad_12_j := p_ad_12_j.up ef_4192 (I.ne (k := 12) (j := j) (k' := 10) (j' := j) hj hj (Or.inl (by decide)))
  have p_ad_12_i := p_ad_12_i.up ef_4192 (I.ne (k := 12) (j := i) (k' := 10) (j' := j) hi hj (Or.inl (by decide)))
  have p_ad_10_j := p_ad_10_j.me ef_4192
  have I := I.up (k := 10) (j := j) hj ef_4192 (okE_o (okFs_c okV_r (okFs_c okV_r (okFs_c (okV_i (bn_w b_4161 (by decide))) (okFs_c (okV_i b_4173) (okFs_c (okV_i b_4175) (okFs_c (okV_i b_4177) (okFs_c (okV_i b_4179) okFs_n))))))))
  refine lv_aload_n hx hb dX4_takeOver_44 rfl (lv_at hl 0 rfl) ?_
  refine lv_aload_n hx hb dX4_takeOver_45 rfl (lv_at hl 1 rfl) ?_
  refine pg_get S Y ok_X4 3 (by decide) kf4_31 (v := .int v_4162) p_ad_10_i rfl dX4_takeOver_46 ?_
  refine pg_put S Y ok_X4 3 (by decide) kf4_31 rfl (fs' := [.ref (ad 11 j), .ref (ad 12 j), .int v_4160, .int v_4162, .int v_4174, .int v_4176, .int v_4178]) (v := .int v_4162) p_ad_10_j rfl rfl rfl (Nat.le_of_ble_eq_true rfl) dX4_takeOver_49 (fun f_4193 H locs ef_4193 Y => ?_)
  have p_ad_10_i := p_ad_10_i.up ef_4193 (I.ne (k := 10) (j := i) (k' := 10) (j' := j) hi hj (Or.inr (Ne.symm hne)))
  have p_ad_11_j := p_ad_11_j.up ef_4193 (I.ne (k := 11) (j := j) (k' := 10) (j' := j) hj hj (Or.inl (by decide)))
  have p_ad_11_i := p_ad_11_i.up ef_4193 (I.ne (k := 11) (j := i) (k' := 10) (j' := j) hi hj (Or.inl (by decide)))
  have p_ad_12_j := p_ad_12_j.up ef_4193 (I.ne (k := 12) (j := j) (k' := 10) (j' := j) hj hj (Or.inl (by decide)))
  have p_ad_12_i := p_ad_12_i.up ef_4193 (I.ne (k := 12) (j := i) (k' := 10) (j' := j) hi hj (Or.inl (by decide)))
  have p_ad_10_j := p_ad_10_j.me ef_4193
  have I := I.up (k := 10) (j := j) hj ef_4193 (okE_o (okFs_c okV_r (okFs_c okV_r (okFs_c (okV_i (bn_w b_4161 (by decide))) (okFs_c (okV_i (bn_w b_4163 (by decide))) (okFs_c (okV_i b_4175) (okFs_c (okV_i b_4177) (okFs_c (okV_i b_4179) okFs_n))))))))
  refine lv_aload_n hx hb dX4_takeOver_52 rfl (lv_at hl 0 rfl) ?_
  refine lv_aload_n hx hb dX4_takeOver_53 rfl (lv_at hl 1 rfl) ?_
  refine pg_get S Y ok_X4 4 (by decide) kf4_34 (v := .int v_4164) p_ad_10_i rfl dX4_takeOver_54 ?_
  refine pg_put S Y ok_X4 4 (by decide) kf4_34 rfl (fs' := [.ref (ad 11 j), .ref (ad 12 j), .int v_4160, .int v_4162, .int v_4164, .int v_4176, .int v_4178]) (v := .int v_4164) p_ad_10_j rfl rfl rfl (Nat.le_of_ble_eq_true rfl) dX4_takeOver_57 (fun f_4194 H locs ef_4194 Y => ?_)
  have p_ad_10_i := p_ad_10_i.up ef_4194 (I.ne (k := 10) (j := i) (k' := 10) (j' := j) hi hj (Or.inr (Ne.symm hne)))
  have p_ad_11_j := p_ad_11_j.up ef_4194 (I.ne (k := 11) (j := j) (k' := 10) (j' := j) hj hj (Or.inl (by decide)))
  have p_ad_11_i := p_ad_11_i.up ef_4194 (I.ne (k := 11) (j := i) (k' := 10) (j' := j) hi hj (Or.inl (by decide)))
  have p_ad_12_j := p_ad_12_j.up ef_4194 (I.ne (k := 12) (j := j) (k' := 10) (j' := j) hj hj (Or.inl (by decide)))
  have p_ad_12_i := p_ad_12_i.up ef_4194 (I.ne (k := 12) (j := i) (k' := 10) (j' := j) hi hj (Or.inl (by decide)))
  have p_ad_10_j := p_ad_10_j.me ef_4194
  have I := I.up (k := 10) (j := j) hj ef_4194 (okE_o (okFs_c okV_r (okFs_c okV_r (okFs_c (okV_i (bn_w b_4161 (by decide))) (okFs_c (okV_i (bn_w b_4163 (by decide))) (okFs_c (okV_i (bn_w (bn_any v_4164) (by decide))) (okFs_c (okV_i b_4177) (okFs_c (okV_i b_4179) okFs_n))))))))
  refine lv_aload_n hx hb dX4_takeOver_60 rfl (lv_at hl 0 rfl) ?_
  refine lv_aload_n hx hb dX4_takeOver_61 rfl (lv_at hl 1 rfl) ?_
  refine pg_get S Y ok_X4 5 (by decide) kf4_37 (v := .int v_4166) p_ad_10_i rfl dX4_takeOver_62 ?_
  refine pg_put S Y ok_X4 5 (by decide) kf4_37 rfl (fs' := [.ref (ad 11 j), .ref (ad 12 j), .int v_4160, .int v_4162, .int v_4164, .int v_4166, .int v_4178]) (v := .int v_4166) p_ad_10_j rfl rfl rfl (Nat.le_of_ble_eq_true rfl) dX4_takeOver_65 (fun f_4195 H locs ef_4195 Y => ?_)
  have p_ad_10_i := p_ad_10_i.up ef_4195 (I.ne (k := 10) (j := i) (k' := 10) (j' := j) hi hj (Or.inr (Ne.symm hne)))
  have p_ad_11_j := p_ad_11_j.up ef_4195 (I.ne (k := 11) (j := j) (k' := 10) (j' := j) hj hj (Or.inl (by decide)))
  have p_ad_11_i := p_ad_11_i.up ef_4195 (I.ne (k := 11) (j := i) (k' := 10) (j' := j) hi hj (Or.inl (by decide)))
  have p_ad_12_j := p_ad_12_j.up ef_4195 (I.ne (k := 12) (j := j) (k' := 10) (j' := j) hj hj (Or.inl (by decide)))
  have p_ad_12_i := p_ad_12_i.up ef_4195 (I.ne (k := 12) (j := i) (k' := 10) (j' := j) hi hj (Or.inl (by decide)))
  have p_ad_10_j := p_ad_10_j.me ef_4195
  have I := I.up (k := 10) (j := j) hj ef_4195 (okE_o (okFs_c okV_r (okFs_c okV_r (okFs_c (okV_i (bn_w b_4161 (by decide))) (okFs_c (okV_i (bn_w b_4163 (by decide))) (okFs_c (okV_i (bn_w (bn_any v_4164) (by decide))) (okFs_c (okV_i (bn_w (bn_any v_4166) (by decide))) (okFs_c (okV_i b_4179) okFs_n))))))))
  refine lv_aload_n hx hb dX4_takeOver_68 rfl (lv_at hl 0 rfl) ?_
  refine lv_aload_n hx hb dX4_takeOver_69 rfl (lv_at hl 1 rfl) ?_
  refine pg_get S Y ok_X4 6 (by decide) kf4_18 (v := .int v_4168) p_ad_10_i rfl dX4_takeOver_70 ?_
  refine pg_put S Y ok_X4 6 (by decide) kf4_18 rfl (fs' := [.ref (ad 11 j), .ref (ad 12 j), .int v_4160, .int v_4162, .int v_4164, .int v_4166, .int v_4168]) (v := .int v_4168) p_ad_10_j rfl rfl rfl (Nat.le_of_ble_eq_true rfl) dX4_takeOver_73 (fun f_4196 H locs ef_4196 Y => ?_)
  have p_ad_10_i := p_ad_10_i.up ef_4196 (I.ne (k := 10) (j := i) (k' := 10) (j' := j) hi hj (Or.inr (Ne.symm hne)))
  have p_ad_11_j := p_ad_11_j.up ef_4196 (I.ne (k := 11) (j := j) (k' := 10) (j' := j) hj hj (Or.inl (by decide)))
  have p_ad_11_i := p_ad_11_i.up ef_4196 (I.ne (k := 11) (j := i) (k' := 10) (j' := j) hi hj (Or.inl (by decide)))
  have p_ad_12_j := p_ad_12_j.up ef_4196 (I.ne (k := 12) (j := j) (k' := 10) (j' := j) hj hj (Or.inl (by decide)))
  have p_ad_12_i := p_ad_12_i.up ef_4196 (I.ne (k := 12) (j := i) (k' := 10) (j' := j) hi hj (Or.inl (by decide)))
  have p_ad_10_j := p_ad_10_j.me ef_4196
  have I := I.up (k := 10) (j := j) hj ef_4196 (okE_o (okFs_c okV_r (okFs_c okV_r (okFs_c (okV_i (bn_w b_4161 (by decide))) (okFs_c (okV_i (bn_w b_4163 (by decide))) (okFs_c (okV_i (bn_w (bn_any v_4164) (by decide))) (okFs_c (okV_i (bn_w (bn_any v_4166) (by decide))) (okFs_c (okV_i (bn_w (bn_any v_4168) (by decide))) okFs_n))))))))
  exact prV (post := fun L1 f1 => SH (spC rs fc tc w q) nnC G ad L1 f1) S Y (by decide) (by decide) hA1 I dX4_takeOver_76
