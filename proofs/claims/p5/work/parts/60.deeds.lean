theorem dX1_remember_0 : decode cX1_remember 0 = .ok (.aload_n 0, 1) := by decide +kernel
theorem dX1_remember_1 : decode cX1_remember 1 = .ok (.getfield 27, 3) := by decide +kernel
theorem ok_X1 : clOK 1 RX1 TX1 5 tyX1 := ⟨rfl, fun w h => ⟨(show ∀ w ∈ u_ws RX1 TX1 5, w ∈ lw_tbl by decide +kernel) w h, (show ∀ w ∈ u_ws RX1 TX1 5, gw w = true by decide +kernel) w h⟩, tyX1_ok, nmX1⟩
theorem kf1_27 : inW (Cond.fieldLink RX1 27 "KneeOaths$Deeds" "inYears" "Z") := ⟨List.mem_of_getElem? (i := 421) (by decide +kernel), by decide +kernel⟩
theorem dX1_remember_4 : decode cX1_remember 4 = .ok (.ifCond .ne 10, 3) := by decide +kernel
theorem dX1_remember_14 : decode cX1_remember 14 = .ok (.return_, 1) := by decide +kernel
theorem dX1_remember_7 : decode cX1_remember 7 = .ok (.aload_n 0, 1) := by decide +kernel
theorem dX1_remember_8 : decode cX1_remember 8 = .ok (.getfield 15, 3) := by decide +kernel
theorem kf1_15 : inW (Cond.fieldLink RX1 15 "KneeOaths$Deeds" "world" "LKneeOaths$World;") := ⟨List.mem_of_getElem? (i := 417) (by decide +kernel), by decide +kernel⟩
theorem dX1_remember_11 : decode cX1_remember 11 = .ok (.invokevirtual 31, 3) := by decide +kernel
theorem cw_X10_remember : CWv yX10_remember cX10_remember 1 none 0 := ⟨⟨⟨List.mem_of_getElem? (i := 126) (by decide +kernel), by decide +kernel⟩, ⟨List.mem_of_getElem? (i := 888) (by decide +kernel), by decide +kernel⟩, by decide +kernel⟩, ⟨List.mem_of_getElem? (i := 886) (by decide +kernel), by decide +kernel⟩, ⟨List.mem_of_getElem? (i := 887) (by decide +kernel), by decide +kernel⟩⟩
theorem km1_31 : inW (Cond.methodLink RX1 31 yX10_remember) := ⟨List.mem_of_getElem? (i := 885) (by decide +kernel), by decide +kernel⟩
theorem dX1_swearIn_0 : decode cX1_swearIn 0 = .ok (.aload_n 0, 1) := by decide +kernel
theorem dX1_swearIn_1 : decode cX1_swearIn 1 = .ok (.getfield 15, 3) := by decide +kernel
theorem dX1_swearIn_4 : decode cX1_swearIn 4 = .ok (.iload_n 1, 1) := by decide +kernel
theorem dX1_swearIn_5 : decode cX1_swearIn 5 = .ok (.invokevirtual 36, 3) := by decide +kernel
theorem cw_X10_has : CWv yX10_has cX10_has 2 (some .boolean) 1 := ⟨⟨⟨List.mem_of_getElem? (i := 126) (by decide +kernel), by decide +kernel⟩, ⟨List.mem_of_getElem? (i := 879) (by decide +kernel), by decide +kernel⟩, by decide +kernel⟩, ⟨List.mem_of_getElem? (i := 877) (by decide +kernel), by decide +kernel⟩, ⟨List.mem_of_getElem? (i := 878) (by decide +kernel), by decide +kernel⟩⟩
theorem km1_36 : inW (Cond.methodLink RX1 36 yX10_has) := ⟨List.mem_of_getElem? (i := 876) (by decide +kernel), by decide +kernel⟩
theorem dX1_swearIn_8 : decode cX1_swearIn 8 = .ok (.ifCond .eq 54, 3) := by decide +kernel
theorem dX1_swearIn_62 : decode cX1_swearIn 62 = .ok (.iconst (-1), 1) := by decide +kernel
theorem dX1_swearIn_63 : decode cX1_swearIn 63 = .ok (.ireturn, 1) := by decide +kernel
theorem dX1_swearIn_11 : decode cX1_swearIn 11 = .ok (.aload_n 0, 1) := by decide +kernel
theorem dX1_swearIn_12 : decode cX1_swearIn 12 = .ok (.getfield 15, 3) := by decide +kernel
theorem dX1_swearIn_15 : decode cX1_swearIn 15 = .ok (.iload_n 2, 1) := by decide +kernel
theorem dX1_swearIn_16 : decode cX1_swearIn 16 = .ok (.invokevirtual 36, 3) := by decide +kernel
theorem dX1_swearIn_19 : decode cX1_swearIn 19 = .ok (.ifCond .eq 43, 3) := by decide +kernel
theorem dX1_swearIn_22 : decode cX1_swearIn 22 = .ok (.iload_n 1, 1) := by decide +kernel
theorem dX1_swearIn_23 : decode cX1_swearIn 23 = .ok (.iload_n 2, 1) := by decide +kernel
theorem dX1_swearIn_24 : decode cX1_swearIn 24 = .ok (.if_icmp .eq 38, 3) := by decide +kernel
theorem dX1_swearIn_27 : decode cX1_swearIn 27 = .ok (.aload_n 0, 1) := by decide +kernel
theorem dX1_swearIn_28 : decode cX1_swearIn 28 = .ok (.getfield 15, 3) := by decide +kernel
theorem dX1_swearIn_31 : decode cX1_swearIn 31 = .ok (.getfield 40, 3) := by decide +kernel
theorem kf1_40 : inW (Cond.fieldLinkNest RX1 40 "KneeOaths$World" "now" "LKneeOaths$Ledger;" "KneeOaths") := ⟨List.mem_of_getElem? (i := 269) (by decide +kernel), by decide +kernel⟩
theorem dX1_swearIn_34 : decode cX1_swearIn 34 = .ok (.getfield 44, 3) := by decide +kernel
theorem kf1_44 : inW (Cond.fieldLinkNest RX1 44 "KneeOaths$Ledger" "oathCount" "I" "KneeOaths") := ⟨List.mem_of_getElem? (i := 165) (by decide +kernel), by decide +kernel⟩
theorem dX1_swearIn_37 : decode cX1_swearIn 37 = .ok (.bipush 14, 2) := by decide +kernel
theorem dX1_swearIn_39 : decode cX1_swearIn 39 = .ok (.if_icmp .ge 23, 3) := by decide +kernel
theorem dX1_swearIn_42 : decode cX1_swearIn 42 = .ok (.iload_n 3, 1) := by decide +kernel
theorem dX1_swearIn_43 : decode cX1_swearIn 43 = .ok (.iconst 0, 1) := by decide +kernel
theorem dX1_swearIn_44 : decode cX1_swearIn 44 = .ok (.iconst 1, 1) := by decide +kernel
theorem dX1_swearIn_45 : decode cX1_swearIn 45 = .ok (.invokestatic 50, 3) := by decide +kernel
theorem km1_50 : inW (Cond.methodLinkNest RX1 50 yX11_within "KneeOaths") := ⟨List.mem_of_getElem? (i := 880) (by decide +kernel), by decide +kernel⟩
theorem dX1_swearIn_48 : decode cX1_swearIn 48 = .ok (.ifCond .eq 14, 3) := by decide +kernel
theorem dX1_swearIn_51 : decode cX1_swearIn 51 = .ok (.iload 4, 2) := by decide +kernel
theorem dX1_swearIn_53 : decode cX1_swearIn 53 = .ok (.iconst 1, 1) := by decide +kernel
theorem dX1_swearIn_54 : decode cX1_swearIn 54 = .ok (.bipush 9, 2) := by decide +kernel
theorem dX1_swearIn_56 : decode cX1_swearIn 56 = .ok (.invokestatic 50, 3) := by decide +kernel
theorem dX1_swearIn_59 : decode cX1_swearIn 59 = .ok (.ifCond .ne 5, 3) := by decide +kernel
theorem dX1_swearIn_64 : decode cX1_swearIn 64 = .ok (.aload_n 0, 1) := by decide +kernel
theorem dX1_swearIn_65 : decode cX1_swearIn 65 = .ok (.invokevirtual 54, 3) := by decide +kernel
theorem cw_X1_remember : CWv yX1_remember cX1_remember 1 none 0 := ⟨⟨⟨List.mem_of_getElem? (i := 133) (by decide +kernel), by decide +kernel⟩, ⟨List.mem_of_getElem? (i := 884) (by decide +kernel), by decide +kernel⟩, by decide +kernel⟩, ⟨List.mem_of_getElem? (i := 883) (by decide +kernel), by decide +kernel⟩, ⟨List.mem_of_getElem? (i := 27) (by decide +kernel), by decide +kernel⟩⟩
theorem km1_54 : inW (Cond.methodLink RX1 54 yX1_remember) := ⟨List.mem_of_getElem? (i := 881) (by decide +kernel), by decide +kernel⟩
theorem dX1_swearIn_68 : decode cX1_swearIn 68 = .ok (.aload_n 0, 1) := by decide +kernel
theorem dX1_swearIn_69 : decode cX1_swearIn 69 = .ok (.getfield 15, 3) := by decide +kernel
theorem dX1_swearIn_72 : decode cX1_swearIn 72 = .ok (.getfield 40, 3) := by decide +kernel
theorem dX1_swearIn_75 : decode cX1_swearIn 75 = .ok (.iload_n 1, 1) := by decide +kernel
theorem dX1_swearIn_76 : decode cX1_swearIn 76 = .ok (.iload_n 2, 1) := by decide +kernel
theorem dX1_swearIn_77 : decode cX1_swearIn 77 = .ok (.iload_n 3, 1) := by decide +kernel
theorem dX1_swearIn_78 : decode cX1_swearIn 78 = .ok (.iload 4, 2) := by decide +kernel
theorem dX1_swearIn_80 : decode cX1_swearIn 80 = .ok (.invokevirtual 55, 3) := by decide +kernel
theorem cw_X4_addOath : CWv yX4_addOath cX4_addOath 6 (some .int) 4 := ⟨⟨⟨List.mem_of_getElem? (i := 125) (by decide +kernel), by decide +kernel⟩, ⟨List.mem_of_getElem? (i := 899) (by decide +kernel), by decide +kernel⟩, by decide +kernel⟩, ⟨List.mem_of_getElem? (i := 897) (by decide +kernel), by decide +kernel⟩, ⟨List.mem_of_getElem? (i := 898) (by decide +kernel), by decide +kernel⟩⟩
theorem km1_55 : inW (Cond.methodLink RX1 55 yX4_addOath) := ⟨List.mem_of_getElem? (i := 896) (by decide +kernel), by decide +kernel⟩
theorem dX1_swearIn_83 : decode cX1_swearIn 83 = .ok (.ireturn, 1) := by decide +kernel
theorem dX1_breakOath_0 : decode cX1_breakOath 0 = .ok (.aload_n 0, 1) := by decide +kernel
theorem dX1_breakOath_1 : decode cX1_breakOath 1 = .ok (.getfield 15, 3) := by decide +kernel
theorem dX1_breakOath_4 : decode cX1_breakOath 4 = .ok (.getfield 40, 3) := by decide +kernel
theorem dX1_breakOath_7 : decode cX1_breakOath 7 = .ok (.iload_n 1, 1) := by decide +kernel
theorem dX1_breakOath_8 : decode cX1_breakOath 8 = .ok (.iconst 4, 1) := by decide +kernel
theorem dX1_breakOath_9 : decode cX1_breakOath 9 = .ok (.invokevirtual 59, 3) := by decide +kernel
theorem km1_59 : inW (Cond.methodLink RX1 59 yX4_get) := ⟨List.mem_of_getElem? (i := 912) (by decide +kernel), by decide +kernel⟩
theorem dX1_breakOath_12 : decode cX1_breakOath 12 = .ok (.ifCond .eq 5, 3) := by decide +kernel
theorem dX1_breakOath_17 : decode cX1_breakOath 17 = .ok (.aload_n 0, 1) := by decide +kernel
theorem dX1_breakOath_18 : decode cX1_breakOath 18 = .ok (.invokevirtual 54, 3) := by decide +kernel
theorem dX1_breakOath_21 : decode cX1_breakOath 21 = .ok (.aload_n 0, 1) := by decide +kernel
theorem dX1_breakOath_22 : decode cX1_breakOath 22 = .ok (.getfield 15, 3) := by decide +kernel
theorem dX1_breakOath_25 : decode cX1_breakOath 25 = .ok (.getfield 40, 3) := by decide +kernel
theorem dX1_breakOath_28 : decode cX1_breakOath 28 = .ok (.iload_n 1, 1) := by decide +kernel
theorem dX1_breakOath_29 : decode cX1_breakOath 29 = .ok (.iconst 4, 1) := by decide +kernel
theorem dX1_breakOath_30 : decode cX1_breakOath 30 = .ok (.iconst 1, 1) := by decide +kernel
theorem dX1_breakOath_31 : decode cX1_breakOath 31 = .ok (.invokevirtual 63, 3) := by decide +kernel
theorem km1_63 : inW (Cond.methodLink RX1 63 yX4_put) := ⟨List.mem_of_getElem? (i := 916) (by decide +kernel), by decide +kernel⟩
theorem dX1_breakOath_34 : decode cX1_breakOath 34 = .ok (.iconst 1, 1) := by decide +kernel
theorem dX1_breakOath_35 : decode cX1_breakOath 35 = .ok (.ireturn, 1) := by decide +kernel
theorem dX1_breakOath_15 : decode cX1_breakOath 15 = .ok (.iconst 0, 1) := by decide +kernel
theorem dX1_breakOath_16 : decode cX1_breakOath 16 = .ok (.ireturn, 1) := by decide +kernel
theorem dX1_releaseOath_0 : decode cX1_releaseOath 0 = .ok (.aload_n 0, 1) := by decide +kernel
theorem dX1_releaseOath_1 : decode cX1_releaseOath 1 = .ok (.getfield 15, 3) := by decide +kernel
theorem dX1_releaseOath_4 : decode cX1_releaseOath 4 = .ok (.getfield 40, 3) := by decide +kernel
theorem dX1_releaseOath_7 : decode cX1_releaseOath 7 = .ok (.iload_n 1, 1) := by decide +kernel
theorem dX1_releaseOath_8 : decode cX1_releaseOath 8 = .ok (.invokevirtual 67, 3) := by decide +kernel
theorem km1_67 : inW (Cond.methodLink RX1 67 yX4_unreleased) := ⟨List.mem_of_getElem? (i := 925) (by decide +kernel), by decide +kernel⟩
theorem dX1_releaseOath_11 : decode cX1_releaseOath 11 = .ok (.ifCond .ne 5, 3) := by decide +kernel
theorem dX1_releaseOath_16 : decode cX1_releaseOath 16 = .ok (.aload_n 0, 1) := by decide +kernel
theorem dX1_releaseOath_17 : decode cX1_releaseOath 17 = .ok (.invokevirtual 54, 3) := by decide +kernel
theorem dX1_releaseOath_20 : decode cX1_releaseOath 20 = .ok (.aload_n 0, 1) := by decide +kernel
theorem dX1_releaseOath_21 : decode cX1_releaseOath 21 = .ok (.getfield 15, 3) := by decide +kernel
theorem dX1_releaseOath_24 : decode cX1_releaseOath 24 = .ok (.getfield 40, 3) := by decide +kernel
theorem dX1_releaseOath_27 : decode cX1_releaseOath 27 = .ok (.iload_n 1, 1) := by decide +kernel
theorem dX1_releaseOath_28 : decode cX1_releaseOath 28 = .ok (.iconst 4, 1) := by decide +kernel
theorem dX1_releaseOath_29 : decode cX1_releaseOath 29 = .ok (.iconst 2, 1) := by decide +kernel
theorem dX1_releaseOath_30 : decode cX1_releaseOath 30 = .ok (.invokevirtual 63, 3) := by decide +kernel
theorem dX1_releaseOath_33 : decode cX1_releaseOath 33 = .ok (.iconst 1, 1) := by decide +kernel
theorem dX1_releaseOath_34 : decode cX1_releaseOath 34 = .ok (.ireturn, 1) := by decide +kernel
theorem dX1_releaseOath_14 : decode cX1_releaseOath 14 = .ok (.iconst 0, 1) := by decide +kernel
theorem dX1_releaseOath_15 : decode cX1_releaseOath 15 = .ok (.ireturn, 1) := by decide +kernel
theorem dX1_wearDown_0 : decode cX1_wearDown 0 = .ok (.aload_n 1, 1) := by decide +kernel
theorem dX1_wearDown_1 : decode cX1_wearDown 1 = .ok (.getfield 44, 3) := by decide +kernel
theorem dX1_wearDown_4 : decode cX1_wearDown 4 = .ok (.bipush 14, 2) := by decide +kernel
theorem dX1_wearDown_6 : decode cX1_wearDown 6 = .ok (.invokestatic 74, 3) := by decide +kernel
theorem km1_74 : inW (Cond.methodLink RX1 74 Lib.Math.min.name) := ⟨List.mem_of_getElem? (i := 946) (by decide +kernel), by decide +kernel⟩
theorem dX1_wearDown_9 : decode cX1_wearDown 9 = .ok (.istore_n 3, 1) := by decide +kernel
theorem dX1_wearDown_10 : decode cX1_wearDown 10 = .ok (.iconst 0, 1) := by decide +kernel
theorem dX1_wearDown_11 : decode cX1_wearDown 11 = .ok (.istore 4, 2) := by decide +kernel
theorem dX1_wearDown_13 : decode cX1_wearDown 13 = .ok (.iload 4, 2) := by decide +kernel
theorem dX1_wearDown_15 : decode cX1_wearDown 15 = .ok (.iload_n 3, 1) := by decide +kernel
theorem dX1_wearDown_16 : decode cX1_wearDown 16 = .ok (.if_icmp .ge 69, 3) := by decide +kernel
theorem dX1_wearDown_85 : decode cX1_wearDown 85 = .ok (.iconst 0, 1) := by decide +kernel
theorem dX1_wearDown_86 : decode cX1_wearDown 86 = .ok (.istore 4, 2) := by decide +kernel
theorem dX1_wearDown_19 : decode cX1_wearDown 19 = .ok (.aload_n 1, 1) := by decide +kernel
theorem dX1_wearDown_20 : decode cX1_wearDown 20 = .ok (.iload 4, 2) := by decide +kernel
theorem dX1_wearDown_22 : decode cX1_wearDown 22 = .ok (.iconst 1, 1) := by decide +kernel
theorem dX1_wearDown_23 : decode cX1_wearDown 23 = .ok (.invokevirtual 59, 3) := by decide +kernel
theorem dX1_wearDown_26 : decode cX1_wearDown 26 = .ok (.iload_n 2, 1) := by decide +kernel
theorem dX1_wearDown_27 : decode cX1_wearDown 27 = .ok (.if_icmp .ne 16, 3) := by decide +kernel
theorem dX1_wearDown_43 : decode cX1_wearDown 43 = .ok (.iconst 0, 1) := by decide +kernel
theorem dX1_wearDown_44 : decode cX1_wearDown 44 = .ok (.istore 5, 2) := by decide +kernel
theorem dX1_wearDown_46 : decode cX1_wearDown 46 = .ok (.aload_n 0, 1) := by decide +kernel
theorem dX1_wearDown_47 : decode cX1_wearDown 47 = .ok (.getfield 9, 3) := by decide +kernel
theorem kf1_9 : inW (Cond.fieldLink RX1 9 "KneeOaths$Deeds" "more" "[I") := ⟨List.mem_of_getElem? (i := 420) (by decide +kernel), by decide +kernel⟩
theorem dX1_wearDown_50 : decode cX1_wearDown 50 = .ok (.iload 4, 2) := by decide +kernel
theorem dX1_wearDown_52 : decode cX1_wearDown 52 = .ok (.iload 5, 2) := by decide +kernel
theorem dX1_wearDown_54 : decode cX1_wearDown 54 = .ok (.ifCond .eq 23, 3) := by decide +kernel
theorem dX1_wearDown_77 : decode cX1_wearDown 77 = .ok (.iconst 0, 1) := by decide +kernel
theorem dX1_wearDown_78 : decode cX1_wearDown 78 = .ok (.iastore, 1) := by decide +kernel
theorem dX1_wearDown_79 : decode cX1_wearDown 79 = .ok (.iinc 4 1, 3) := by decide +kernel
theorem dX1_wearDown_82 : decode cX1_wearDown 82 = .ok (.goto (-69), 3) := by decide +kernel
theorem dX1_wearDown_30 : decode cX1_wearDown 30 = .ok (.aload_n 1, 1) := by decide +kernel
theorem dX1_wearDown_31 : decode cX1_wearDown 31 = .ok (.iload 4, 2) := by decide +kernel
theorem dX1_wearDown_33 : decode cX1_wearDown 33 = .ok (.invokevirtual 67, 3) := by decide +kernel
theorem dX1_wearDown_36 : decode cX1_wearDown 36 = .ok (.ifCond .eq 7, 3) := by decide +kernel
theorem dX1_wearDown_39 : decode cX1_wearDown 39 = .ok (.iconst 1, 1) := by decide +kernel
theorem dX1_wearDown_40 : decode cX1_wearDown 40 = .ok (.goto 4, 3) := by decide +kernel
theorem dX1_wearDown_57 : decode cX1_wearDown 57 = .ok (.aload_n 0, 1) := by decide +kernel
theorem dX1_wearDown_58 : decode cX1_wearDown 58 = .ok (.getfield 19, 3) := by decide +kernel
theorem kf1_19 : inW (Cond.fieldLink RX1 19 "KneeOaths$Deeds" "judge" "LKneeOaths$Judge;") := ⟨List.mem_of_getElem? (i := 418) (by decide +kernel), by decide +kernel⟩
theorem dX1_wearDown_61 : decode cX1_wearDown 61 = .ok (.aload_n 0, 1) := by decide +kernel
theorem dX1_wearDown_62 : decode cX1_wearDown 62 = .ok (.getfield 15, 3) := by decide +kernel
theorem dX1_wearDown_65 : decode cX1_wearDown 65 = .ok (.getfield 79, 3) := by decide +kernel
theorem kf1_79 : inW (Cond.fieldLinkNest RX1 79 "KneeOaths$World" "ruling" "I" "KneeOaths") := ⟨List.mem_of_getElem? (i := 297) (by decide +kernel), by decide +kernel⟩
theorem dX1_wearDown_68 : decode cX1_wearDown 68 = .ok (.aload_n 1, 1) := by decide +kernel
theorem dX1_wearDown_69 : decode cX1_wearDown 69 = .ok (.iload 4, 2) := by decide +kernel
theorem dX1_wearDown_71 : decode cX1_wearDown 71 = .ok (.invokevirtual 82, 3) := by decide +kernel
theorem km1_82 : inW (Cond.methodLink RX1 82 yX3_wearOf) := ⟨List.mem_of_getElem? (i := 947) (by decide +kernel), by decide +kernel⟩
theorem dX1_wearDown_74 : decode cX1_wearDown 74 = .ok (.goto 4, 3) := by decide +kernel
theorem dX1_wearDown_88 : decode cX1_wearDown 88 = .ok (.iload 4, 2) := by decide +kernel
theorem dX1_wearDown_90 : decode cX1_wearDown 90 = .ok (.iload_n 3, 1) := by decide +kernel
theorem dX1_wearDown_91 : decode cX1_wearDown 91 = .ok (.if_icmp .ge 22, 3) := by decide +kernel
theorem dX1_wearDown_113 : decode cX1_wearDown 113 = .ok (.return_, 1) := by decide +kernel
theorem dX1_wearDown_94 : decode cX1_wearDown 94 = .ok (.aload_n 1, 1) := by decide +kernel
theorem dX1_wearDown_95 : decode cX1_wearDown 95 = .ok (.iload 4, 2) := by decide +kernel
theorem dX1_wearDown_97 : decode cX1_wearDown 97 = .ok (.aload_n 0, 1) := by decide +kernel
theorem dX1_wearDown_98 : decode cX1_wearDown 98 = .ok (.getfield 9, 3) := by decide +kernel
theorem dX1_wearDown_101 : decode cX1_wearDown 101 = .ok (.iload 4, 2) := by decide +kernel
theorem dX1_wearDown_103 : decode cX1_wearDown 103 = .ok (.iaload, 1) := by decide +kernel
theorem dX1_wearDown_104 : decode cX1_wearDown 104 = .ok (.invokevirtual 88, 3) := by decide +kernel
theorem cw_X4_moreWear : CWv yX4_moreWear cX4_moreWear 3 none 2 := ⟨⟨⟨List.mem_of_getElem? (i := 125) (by decide +kernel), by decide +kernel⟩, ⟨List.mem_of_getElem? (i := 1016) (by decide +kernel), by decide +kernel⟩, by decide +kernel⟩, ⟨List.mem_of_getElem? (i := 1014) (by decide +kernel), by decide +kernel⟩, ⟨List.mem_of_getElem? (i := 1015) (by decide +kernel), by decide +kernel⟩⟩
theorem km1_88 : inW (Cond.methodLink RX1 88 yX4_moreWear) := ⟨List.mem_of_getElem? (i := 1013) (by decide +kernel), by decide +kernel⟩
theorem dX1_wearDown_107 : decode cX1_wearDown 107 = .ok (.iinc 4 1, 3) := by decide +kernel
theorem dX1_wearDown_110 : decode cX1_wearDown 110 = .ok (.goto (-22), 3) := by decide +kernel
theorem dX1_kneelDown_0 : decode cX1_kneelDown 0 = .ok (.aload_n 0, 1) := by decide +kernel
theorem dX1_kneelDown_1 : decode cX1_kneelDown 1 = .ok (.getfield 15, 3) := by decide +kernel
theorem dX1_kneelDown_4 : decode cX1_kneelDown 4 = .ok (.iload_n 1, 1) := by decide +kernel
theorem dX1_kneelDown_5 : decode cX1_kneelDown 5 = .ok (.invokevirtual 36, 3) := by decide +kernel
theorem dX1_kneelDown_8 : decode cX1_kneelDown 8 = .ok (.ifCond .ne 5, 3) := by decide +kernel
theorem dX1_kneelDown_13 : decode cX1_kneelDown 13 = .ok (.aload_n 0, 1) := by decide +kernel
theorem dX1_kneelDown_14 : decode cX1_kneelDown 14 = .ok (.invokevirtual 54, 3) := by decide +kernel
theorem dX1_kneelDown_17 : decode cX1_kneelDown 17 = .ok (.aload_n 0, 1) := by decide +kernel
theorem dX1_kneelDown_18 : decode cX1_kneelDown 18 = .ok (.aload_n 0, 1) := by decide +kernel
theorem dX1_kneelDown_19 : decode cX1_kneelDown 19 = .ok (.getfield 15, 3) := by decide +kernel
theorem dX1_kneelDown_22 : decode cX1_kneelDown 22 = .ok (.getfield 40, 3) := by decide +kernel
theorem dX1_kneelDown_25 : decode cX1_kneelDown 25 = .ok (.iload_n 1, 1) := by decide +kernel
theorem dX1_kneelDown_26 : decode cX1_kneelDown 26 = .ok (.invokevirtual 70, 3) := by decide +kernel
theorem cw_X1_wearDown : CWv yX1_wearDown cX1_wearDown 6 none 2 := ⟨⟨⟨List.mem_of_getElem? (i := 133) (by decide +kernel), by decide +kernel⟩, ⟨List.mem_of_getElem? (i := 945) (by decide +kernel), by decide +kernel⟩, by decide +kernel⟩, ⟨List.mem_of_getElem? (i := 943) (by decide +kernel), by decide +kernel⟩, ⟨List.mem_of_getElem? (i := 944) (by decide +kernel), by decide +kernel⟩⟩
theorem km1_70 : inW (Cond.methodLink RX1 70 yX1_wearDown) := ⟨List.mem_of_getElem? (i := 942) (by decide +kernel), by decide +kernel⟩
theorem dX1_kneelDown_29 : decode cX1_kneelDown 29 = .ok (.iconst 1, 1) := by decide +kernel
theorem dX1_kneelDown_30 : decode cX1_kneelDown 30 = .ok (.ireturn, 1) := by decide +kernel
theorem dX1_kneelDown_11 : decode cX1_kneelDown 11 = .ok (.iconst 0, 1) := by decide +kernel
theorem dX1_kneelDown_12 : decode cX1_kneelDown 12 = .ok (.ireturn, 1) := by decide +kernel
theorem dX1_slide_0 : decode cX1_slide 0 = .ok (.aload_n 0, 1) := by decide +kernel
theorem dX1_slide_1 : decode cX1_slide 1 = .ok (.getfield 15, 3) := by decide +kernel
theorem dX1_slide_4 : decode cX1_slide 4 = .ok (.iload_n 1, 1) := by decide +kernel
theorem dX1_slide_5 : decode cX1_slide 5 = .ok (.invokevirtual 36, 3) := by decide +kernel
theorem dX1_slide_8 : decode cX1_slide 8 = .ok (.ifCond .eq 12, 3) := by decide +kernel
theorem dX1_slide_20 : decode cX1_slide 20 = .ok (.iconst 0, 1) := by decide +kernel
theorem dX1_slide_21 : decode cX1_slide 21 = .ok (.ireturn, 1) := by decide +kernel
theorem dX1_slide_11 : decode cX1_slide 11 = .ok (.iload_n 2, 1) := by decide +kernel
theorem dX1_slide_12 : decode cX1_slide 12 = .ok (.iconst 0, 1) := by decide +kernel
theorem dX1_slide_13 : decode cX1_slide 13 = .ok (.iconst 1, 1) := by decide +kernel
theorem dX1_slide_14 : decode cX1_slide 14 = .ok (.invokestatic 50, 3) := by decide +kernel
theorem dX1_slide_17 : decode cX1_slide 17 = .ok (.ifCond .ne 5, 3) := by decide +kernel
theorem dX1_slide_22 : decode cX1_slide 22 = .ok (.aload_n 0, 1) := by decide +kernel
theorem dX1_slide_23 : decode cX1_slide 23 = .ok (.invokevirtual 54, 3) := by decide +kernel
theorem dX1_slide_26 : decode cX1_slide 26 = .ok (.iconst 0, 1) := by decide +kernel
theorem dX1_slide_27 : decode cX1_slide 27 = .ok (.istore_n 3, 1) := by decide +kernel
theorem dX1_slide_28 : decode cX1_slide 28 = .ok (.iload_n 3, 1) := by decide +kernel
theorem dX1_slide_29 : decode cX1_slide 29 = .ok (.aload_n 0, 1) := by decide +kernel
theorem dX1_slide_30 : decode cX1_slide 30 = .ok (.getfield 15, 3) := by decide +kernel
theorem dX1_slide_33 : decode cX1_slide 33 = .ok (.getfield 40, 3) := by decide +kernel
theorem dX1_slide_36 : decode cX1_slide 36 = .ok (.getfield 44, 3) := by decide +kernel
theorem dX1_slide_39 : decode cX1_slide 39 = .ok (.if_icmp .ge 54, 3) := by decide +kernel
theorem dX1_slide_93 : decode cX1_slide 93 = .ok (.iconst 1, 1) := by decide +kernel
theorem dX1_slide_94 : decode cX1_slide 94 = .ok (.ireturn, 1) := by decide +kernel
theorem dX1_slide_42 : decode cX1_slide 42 = .ok (.aload_n 0, 1) := by decide +kernel
theorem dX1_slide_43 : decode cX1_slide 43 = .ok (.getfield 15, 3) := by decide +kernel
theorem dX1_slide_46 : decode cX1_slide 46 = .ok (.getfield 40, 3) := by decide +kernel
theorem dX1_slide_49 : decode cX1_slide 49 = .ok (.iload_n 3, 1) := by decide +kernel
theorem dX1_slide_50 : decode cX1_slide 50 = .ok (.iconst 1, 1) := by decide +kernel
theorem dX1_slide_51 : decode cX1_slide 51 = .ok (.invokevirtual 59, 3) := by decide +kernel
theorem dX1_slide_54 : decode cX1_slide 54 = .ok (.iload_n 1, 1) := by decide +kernel
theorem dX1_slide_55 : decode cX1_slide 55 = .ok (.if_icmp .ne 32, 3) := by decide +kernel
theorem dX1_slide_87 : decode cX1_slide 87 = .ok (.iinc 3 1, 3) := by decide +kernel
theorem dX1_slide_90 : decode cX1_slide 90 = .ok (.goto (-62), 3) := by decide +kernel
theorem dX1_slide_58 : decode cX1_slide 58 = .ok (.aload_n 0, 1) := by decide +kernel
theorem dX1_slide_59 : decode cX1_slide 59 = .ok (.getfield 15, 3) := by decide +kernel
theorem dX1_slide_62 : decode cX1_slide 62 = .ok (.getfield 40, 3) := by decide +kernel
theorem dX1_slide_65 : decode cX1_slide 65 = .ok (.iload_n 3, 1) := by decide +kernel
theorem dX1_slide_66 : decode cX1_slide 66 = .ok (.iconst 2, 1) := by decide +kernel
theorem dX1_slide_67 : decode cX1_slide 67 = .ok (.invokevirtual 59, 3) := by decide +kernel
theorem dX1_slide_70 : decode cX1_slide 70 = .ok (.iload_n 2, 1) := by decide +kernel
theorem dX1_slide_71 : decode cX1_slide 71 = .ok (.if_icmp .ne 16, 3) := by decide +kernel
theorem dX1_slide_74 : decode cX1_slide 74 = .ok (.aload_n 0, 1) := by decide +kernel
theorem dX1_slide_75 : decode cX1_slide 75 = .ok (.getfield 15, 3) := by decide +kernel
theorem dX1_slide_78 : decode cX1_slide 78 = .ok (.getfield 40, 3) := by decide +kernel
theorem dX1_slide_81 : decode cX1_slide 81 = .ok (.iload_n 3, 1) := by decide +kernel
theorem dX1_slide_82 : decode cX1_slide 82 = .ok (.bipush 30, 2) := by decide +kernel
theorem dX1_slide_84 : decode cX1_slide 84 = .ok (.invokevirtual 88, 3) := by decide +kernel
theorem dX1_strikeOut_0 : decode cX1_strikeOut 0 = .ok (.aload_n 0, 1) := by decide +kernel
theorem dX1_strikeOut_1 : decode cX1_strikeOut 1 = .ok (.getfield 23, 3) := by decide +kernel
theorem kf1_23 : inW (Cond.fieldLink RX1 23 "KneeOaths$Deeds" "rings" "LKneeOaths$Rings;") := ⟨List.mem_of_getElem? (i := 419) (by decide +kernel), by decide +kernel⟩
theorem dX1_strikeOut_4 : decode cX1_strikeOut 4 = .ok (.iload_n 1, 1) := by decide +kernel
theorem dX1_strikeOut_5 : decode cX1_strikeOut 5 = .ok (.invokevirtual 92, 3) := by decide +kernel
theorem cw_X6_isRing : CWv yX6_isRing cX6_isRing 8 (some .boolean) 1 := ⟨⟨⟨List.mem_of_getElem? (i := 132) (by decide +kernel), by decide +kernel⟩, ⟨List.mem_of_getElem? (i := 1038) (by decide +kernel), by decide +kernel⟩, by decide +kernel⟩, ⟨List.mem_of_getElem? (i := 1036) (by decide +kernel), by decide +kernel⟩, ⟨List.mem_of_getElem? (i := 1037) (by decide +kernel), by decide +kernel⟩⟩
theorem km1_92 : inW (Cond.methodLink RX1 92 yX6_isRing) := ⟨List.mem_of_getElem? (i := 1035) (by decide +kernel), by decide +kernel⟩
theorem dX1_strikeOut_8 : decode cX1_strikeOut 8 = .ok (.ifCond .ne 5, 3) := by decide +kernel
theorem dX1_strikeOut_13 : decode cX1_strikeOut 13 = .ok (.aload_n 0, 1) := by decide +kernel
theorem dX1_strikeOut_14 : decode cX1_strikeOut 14 = .ok (.invokevirtual 54, 3) := by decide +kernel
theorem dX1_strikeOut_17 : decode cX1_strikeOut 17 = .ok (.aload_n 0, 1) := by decide +kernel
theorem dX1_strikeOut_18 : decode cX1_strikeOut 18 = .ok (.getfield 15, 3) := by decide +kernel
theorem dX1_strikeOut_21 : decode cX1_strikeOut 21 = .ok (.getfield 40, 3) := by decide +kernel
theorem dX1_strikeOut_24 : decode cX1_strikeOut 24 = .ok (.astore_n 2, 1) := by decide +kernel
theorem dX1_strikeOut_25 : decode cX1_strikeOut 25 = .ok (.bipush 9, 2) := by decide +kernel
theorem dX1_strikeOut_27 : decode cX1_strikeOut 27 = .ok (.istore_n 3, 1) := by decide +kernel
theorem dX1_strikeOut_28 : decode cX1_strikeOut 28 = .ok (.iconst 0, 1) := by decide +kernel
theorem dX1_strikeOut_29 : decode cX1_strikeOut 29 = .ok (.istore 4, 2) := by decide +kernel
theorem dX1_strikeOut_11 : decode cX1_strikeOut 11 = .ok (.iconst (-1), 1) := by decide +kernel
theorem dX1_strikeOut_12 : decode cX1_strikeOut 12 = .ok (.ireturn, 1) := by decide +kernel
theorem dX1_strikeOut_31 : decode cX1_strikeOut 31 = .ok (.iload 4, 2) := by decide +kernel
theorem dX1_strikeOut_33 : decode cX1_strikeOut 33 = .ok (.aload_n 2, 1) := by decide +kernel
theorem dX1_strikeOut_34 : decode cX1_strikeOut 34 = .ok (.getfield 44, 3) := by decide +kernel
theorem dX1_strikeOut_37 : decode cX1_strikeOut 37 = .ok (.if_icmp .ge 30, 3) := by decide +kernel
theorem dX1_strikeOut_67 : decode cX1_strikeOut 67 = .ok (.iconst 0, 1) := by decide +kernel
theorem dX1_strikeOut_68 : decode cX1_strikeOut 68 = .ok (.istore 4, 2) := by decide +kernel
theorem dX1_strikeOut_40 : decode cX1_strikeOut 40 = .ok (.iload_n 1, 1) := by decide +kernel
theorem dX1_strikeOut_41 : decode cX1_strikeOut 41 = .ok (.iload 4, 2) := by decide +kernel
theorem dX1_strikeOut_43 : decode cX1_strikeOut 43 = .ok (.ishr, 1) := by decide +kernel
theorem dX1_strikeOut_44 : decode cX1_strikeOut 44 = .ok (.iconst 1, 1) := by decide +kernel
theorem dX1_strikeOut_45 : decode cX1_strikeOut 45 = .ok (.iand, 1) := by decide +kernel
theorem dX1_strikeOut_46 : decode cX1_strikeOut 46 = .ok (.ifCond .eq 15, 3) := by decide +kernel
theorem dX1_strikeOut_61 : decode cX1_strikeOut 61 = .ok (.iinc 4 1, 3) := by decide +kernel
theorem dX1_strikeOut_64 : decode cX1_strikeOut 64 = .ok (.goto (-33), 3) := by decide +kernel
theorem dX1_strikeOut_49 : decode cX1_strikeOut 49 = .ok (.iload_n 3, 1) := by decide +kernel
theorem dX1_strikeOut_50 : decode cX1_strikeOut 50 = .ok (.aload_n 2, 1) := by decide +kernel
theorem dX1_strikeOut_51 : decode cX1_strikeOut 51 = .ok (.iload 4, 2) := by decide +kernel
theorem dX1_strikeOut_53 : decode cX1_strikeOut 53 = .ok (.iconst 3, 1) := by decide +kernel
theorem dX1_strikeOut_54 : decode cX1_strikeOut 54 = .ok (.invokevirtual 59, 3) := by decide +kernel
theorem dX1_strikeOut_57 : decode cX1_strikeOut 57 = .ok (.invokestatic 74, 3) := by decide +kernel
theorem dX1_strikeOut_60 : decode cX1_strikeOut 60 = .ok (.istore_n 3, 1) := by decide +kernel
theorem dX1_strikeOut_70 : decode cX1_strikeOut 70 = .ok (.iload 4, 2) := by decide +kernel
theorem dX1_strikeOut_72 : decode cX1_strikeOut 72 = .ok (.aload_n 2, 1) := by decide +kernel
theorem dX1_strikeOut_73 : decode cX1_strikeOut 73 = .ok (.getfield 44, 3) := by decide +kernel
theorem dX1_strikeOut_76 : decode cX1_strikeOut 76 = .ok (.if_icmp .ge 55, 3) := by decide +kernel
theorem dX1_strikeOut_131 : decode cX1_strikeOut 131 = .ok (.iload_n 3, 1) := by decide +kernel
theorem dX1_strikeOut_132 : decode cX1_strikeOut 132 = .ok (.ireturn, 1) := by decide +kernel
theorem dX1_strikeOut_79 : decode cX1_strikeOut 79 = .ok (.iload_n 1, 1) := by decide +kernel
theorem dX1_strikeOut_80 : decode cX1_strikeOut 80 = .ok (.iload 4, 2) := by decide +kernel
theorem dX1_strikeOut_82 : decode cX1_strikeOut 82 = .ok (.ishr, 1) := by decide +kernel
theorem dX1_strikeOut_83 : decode cX1_strikeOut 83 = .ok (.iconst 1, 1) := by decide +kernel
theorem dX1_strikeOut_84 : decode cX1_strikeOut 84 = .ok (.iand, 1) := by decide +kernel
theorem dX1_strikeOut_85 : decode cX1_strikeOut 85 = .ok (.ifCond .eq 40, 3) := by decide +kernel
theorem dX1_strikeOut_125 : decode cX1_strikeOut 125 = .ok (.iinc 4 1, 3) := by decide +kernel
theorem dX1_strikeOut_128 : decode cX1_strikeOut 128 = .ok (.goto (-58), 3) := by decide +kernel
theorem dX1_strikeOut_88 : decode cX1_strikeOut 88 = .ok (.aload_n 2, 1) := by decide +kernel
theorem dX1_strikeOut_89 : decode cX1_strikeOut 89 = .ok (.iload 4, 2) := by decide +kernel
theorem dX1_strikeOut_91 : decode cX1_strikeOut 91 = .ok (.iconst 3, 1) := by decide +kernel
theorem dX1_strikeOut_92 : decode cX1_strikeOut 92 = .ok (.invokevirtual 59, 3) := by decide +kernel
theorem dX1_strikeOut_95 : decode cX1_strikeOut 95 = .ok (.iload_n 3, 1) := by decide +kernel
theorem dX1_strikeOut_96 : decode cX1_strikeOut 96 = .ok (.isub, 1) := by decide +kernel
theorem dX1_strikeOut_97 : decode cX1_strikeOut 97 = .ok (.istore 5, 2) := by decide +kernel
theorem dX1_strikeOut_99 : decode cX1_strikeOut 99 = .ok (.aload_n 2, 1) := by decide +kernel
theorem dX1_strikeOut_100 : decode cX1_strikeOut 100 = .ok (.iload 4, 2) := by decide +kernel
theorem dX1_strikeOut_102 : decode cX1_strikeOut 102 = .ok (.iconst 3, 1) := by decide +kernel
theorem dX1_strikeOut_103 : decode cX1_strikeOut 103 = .ok (.iload 5, 2) := by decide +kernel
theorem dX1_strikeOut_105 : decode cX1_strikeOut 105 = .ok (.invokevirtual 63, 3) := by decide +kernel
theorem dX1_strikeOut_108 : decode cX1_strikeOut 108 = .ok (.aload_n 2, 1) := by decide +kernel
theorem dX1_strikeOut_109 : decode cX1_strikeOut 109 = .ok (.iload 4, 2) := by decide +kernel
theorem dX1_strikeOut_111 : decode cX1_strikeOut 111 = .ok (.iconst 4, 1) := by decide +kernel
theorem dX1_strikeOut_112 : decode cX1_strikeOut 112 = .ok (.iload 5, 2) := by decide +kernel
theorem dX1_strikeOut_114 : decode cX1_strikeOut 114 = .ok (.ifCond .ne 7, 3) := by decide +kernel
theorem dX1_strikeOut_121 : decode cX1_strikeOut 121 = .ok (.iconst 0, 1) := by decide +kernel
theorem dX1_strikeOut_122 : decode cX1_strikeOut 122 = .ok (.invokevirtual 63, 3) := by decide +kernel
theorem dX1_strikeOut_117 : decode cX1_strikeOut 117 = .ok (.iconst 2, 1) := by decide +kernel
theorem dX1_strikeOut_118 : decode cX1_strikeOut 118 = .ok (.goto 4, 3) := by decide +kernel
theorem dX1_passDay_0 : decode cX1_passDay 0 = .ok (.aload_n 0, 1) := by decide +kernel
theorem dX1_passDay_1 : decode cX1_passDay 1 = .ok (.getfield 15, 3) := by decide +kernel
theorem dX1_passDay_4 : decode cX1_passDay 4 = .ok (.getfield 40, 3) := by decide +kernel
theorem dX1_passDay_7 : decode cX1_passDay 7 = .ok (.astore_n 1, 1) := by decide +kernel
theorem dX1_passDay_8 : decode cX1_passDay 8 = .ok (.aload_n 1, 1) := by decide +kernel
theorem dX1_passDay_9 : decode cX1_passDay 9 = .ok (.invokevirtual 97, 3) := by decide +kernel
theorem cw_X4_lastsOn : CWv yX4_lastsOn cX4_lastsOn 1 (some .boolean) 0 := ⟨⟨⟨List.mem_of_getElem? (i := 125) (by decide +kernel), by decide +kernel⟩, ⟨List.mem_of_getElem? (i := 1071) (by decide +kernel), by decide +kernel⟩, by decide +kernel⟩, ⟨List.mem_of_getElem? (i := 1069) (by decide +kernel), by decide +kernel⟩, ⟨List.mem_of_getElem? (i := 1070) (by decide +kernel), by decide +kernel⟩⟩
theorem km1_97 : inW (Cond.methodLink RX1 97 yX4_lastsOn) := ⟨List.mem_of_getElem? (i := 1068) (by decide +kernel), by decide +kernel⟩
theorem dX1_passDay_12 : decode cX1_passDay 12 = .ok (.ifCond .ne 5, 3) := by decide +kernel
theorem dX1_passDay_17 : decode cX1_passDay 17 = .ok (.aload_n 0, 1) := by decide +kernel
theorem dX1_passDay_18 : decode cX1_passDay 18 = .ok (.invokevirtual 54, 3) := by decide +kernel
theorem dX1_passDay_21 : decode cX1_passDay 21 = .ok (.iconst 0, 1) := by decide +kernel
theorem dX1_passDay_22 : decode cX1_passDay 22 = .ok (.istore_n 2, 1) := by decide +kernel
theorem dX1_passDay_15 : decode cX1_passDay 15 = .ok (.iconst 0, 1) := by decide +kernel
theorem dX1_passDay_16 : decode cX1_passDay 16 = .ok (.ireturn, 1) := by decide +kernel
theorem dX1_passDay_23 : decode cX1_passDay 23 = .ok (.iload_n 2, 1) := by decide +kernel
theorem dX1_passDay_24 : decode cX1_passDay 24 = .ok (.aload_n 0, 1) := by decide +kernel
theorem dX1_passDay_25 : decode cX1_passDay 25 = .ok (.getfield 15, 3) := by decide +kernel
theorem dX1_passDay_28 : decode cX1_passDay 28 = .ok (.getfield 101, 3) := by decide +kernel
theorem kf1_101 : inW (Cond.fieldLinkNest RX1 101 "KneeOaths$World" "people" "I" "KneeOaths") := ⟨List.mem_of_getElem? (i := 291) (by decide +kernel), by decide +kernel⟩
theorem dX1_passDay_31 : decode cX1_passDay 31 = .ok (.if_icmp .ge 29, 3) := by decide +kernel
theorem dX1_passDay_60 : decode cX1_passDay 60 = .ok (.aload_n 1, 1) := by decide +kernel
theorem dX1_passDay_61 : decode cX1_passDay 61 = .ok (.invokevirtual 111, 3) := by decide +kernel
theorem cw_X4_turnDay : CWv yX4_turnDay cX4_turnDay 1 none 0 := ⟨⟨⟨List.mem_of_getElem? (i := 125) (by decide +kernel), by decide +kernel⟩, ⟨List.mem_of_getElem? (i := 1088) (by decide +kernel), by decide +kernel⟩, by decide +kernel⟩, ⟨List.mem_of_getElem? (i := 1086) (by decide +kernel), by decide +kernel⟩, ⟨List.mem_of_getElem? (i := 1087) (by decide +kernel), by decide +kernel⟩⟩
theorem km1_111 : inW (Cond.methodLink RX1 111 yX4_turnDay) := ⟨List.mem_of_getElem? (i := 1085) (by decide +kernel), by decide +kernel⟩
theorem dX1_passDay_64 : decode cX1_passDay 64 = .ok (.iconst 1, 1) := by decide +kernel
theorem dX1_passDay_65 : decode cX1_passDay 65 = .ok (.ireturn, 1) := by decide +kernel
theorem dX1_passDay_34 : decode cX1_passDay 34 = .ok (.aload_n 0, 1) := by decide +kernel
theorem dX1_passDay_35 : decode cX1_passDay 35 = .ok (.getfield 19, 3) := by decide +kernel
theorem dX1_passDay_38 : decode cX1_passDay 38 = .ok (.aload_n 1, 1) := by decide +kernel
theorem dX1_passDay_39 : decode cX1_passDay 39 = .ok (.iload_n 2, 1) := by decide +kernel
theorem dX1_passDay_40 : decode cX1_passDay 40 = .ok (.invokevirtual 104, 3) := by decide +kernel
theorem cw_X3_acheOf : CWv yX3_acheOf cX3_acheOf 5 (some .int) 2 := ⟨⟨⟨List.mem_of_getElem? (i := 131) (by decide +kernel), by decide +kernel⟩, ⟨List.mem_of_getElem? (i := 1075) (by decide +kernel), by decide +kernel⟩, by decide +kernel⟩, ⟨List.mem_of_getElem? (i := 1073) (by decide +kernel), by decide +kernel⟩, ⟨List.mem_of_getElem? (i := 1074) (by decide +kernel), by decide +kernel⟩⟩
theorem km1_104 : inW (Cond.methodLink RX1 104 yX3_acheOf) := ⟨List.mem_of_getElem? (i := 1072) (by decide +kernel), by decide +kernel⟩
theorem dX1_passDay_43 : decode cX1_passDay 43 = .ok (.istore_n 3, 1) := by decide +kernel
theorem dX1_passDay_44 : decode cX1_passDay 44 = .ok (.iload_n 3, 1) := by decide +kernel
theorem dX1_passDay_45 : decode cX1_passDay 45 = .ok (.ifCond .le 9, 3) := by decide +kernel
theorem dX1_passDay_54 : decode cX1_passDay 54 = .ok (.iinc 2 1, 3) := by decide +kernel
theorem dX1_passDay_57 : decode cX1_passDay 57 = .ok (.goto (-34), 3) := by decide +kernel
theorem dX1_passDay_48 : decode cX1_passDay 48 = .ok (.aload_n 1, 1) := by decide +kernel
theorem dX1_passDay_49 : decode cX1_passDay 49 = .ok (.iload_n 2, 1) := by decide +kernel
theorem dX1_passDay_50 : decode cX1_passDay 50 = .ok (.iload_n 3, 1) := by decide +kernel
theorem dX1_passDay_51 : decode cX1_passDay 51 = .ok (.invokevirtual 108, 3) := by decide +kernel
theorem cw_X4_write : CWv yX4_write cX4_write 4 none 2 := ⟨⟨⟨List.mem_of_getElem? (i := 125) (by decide +kernel), by decide +kernel⟩, ⟨List.mem_of_getElem? (i := 1084) (by decide +kernel), by decide +kernel⟩, by decide +kernel⟩, ⟨List.mem_of_getElem? (i := 1082) (by decide +kernel), by decide +kernel⟩, ⟨List.mem_of_getElem? (i := 1083) (by decide +kernel), by decide +kernel⟩⟩
theorem km1_108 : inW (Cond.methodLink RX1 108 yX4_write) := ⟨List.mem_of_getElem? (i := 1081) (by decide +kernel), by decide +kernel⟩
theorem dX1_perform_0 : decode cX1_perform 0 = .ok (.aload_n 1, 1) := by decide +kernel
theorem dX1_perform_1 : decode cX1_perform 1 = .ok (.iload_n 2, 1) := by decide +kernel
theorem dX1_perform_2 : decode cX1_perform 2 = .ok (.iconst 1, 1) := by decide +kernel
theorem dX1_perform_3 : decode cX1_perform 3 = .ok (.invokevirtual 114, 3) := by decide +kernel
theorem cw_X7_clause : CWv yX7_clause cX7_clause 3 (some .int) 2 := ⟨⟨⟨List.mem_of_getElem? (i := 129) (by decide +kernel), by decide +kernel⟩, ⟨List.mem_of_getElem? (i := 1105) (by decide +kernel), by decide +kernel⟩, by decide +kernel⟩, ⟨List.mem_of_getElem? (i := 1103) (by decide +kernel), by decide +kernel⟩, ⟨List.mem_of_getElem? (i := 1104) (by decide +kernel), by decide +kernel⟩⟩
theorem km1_114 : inW (Cond.methodLink RX1 114 yX7_clause) := ⟨List.mem_of_getElem? (i := 1102) (by decide +kernel), by decide +kernel⟩
theorem dX1_perform_6 : decode cX1_perform 6 = .ok (.istore_n 3, 1) := by decide +kernel
theorem dX1_perform_7 : decode cX1_perform 7 = .ok (.aload_n 1, 1) := by decide +kernel
theorem dX1_perform_8 : decode cX1_perform 8 = .ok (.iload_n 2, 1) := by decide +kernel
theorem dX1_perform_9 : decode cX1_perform 9 = .ok (.iconst 2, 1) := by decide +kernel
theorem dX1_perform_10 : decode cX1_perform 10 = .ok (.invokevirtual 114, 3) := by decide +kernel
theorem dX1_perform_13 : decode cX1_perform 13 = .ok (.istore 4, 2) := by decide +kernel
theorem dX1_perform_15 : decode cX1_perform 15 = .ok (.aload_n 1, 1) := by decide +kernel
theorem dX1_perform_16 : decode cX1_perform 16 = .ok (.iload_n 2, 1) := by decide +kernel
theorem dX1_perform_17 : decode cX1_perform 17 = .ok (.iconst 0, 1) := by decide +kernel
theorem dX1_perform_18 : decode cX1_perform 18 = .ok (.invokevirtual 114, 3) := by decide +kernel
theorem dX1_perform_21 : decode cX1_perform 21 = .ok (.tableswitch 143 3 9 #[43, 63, 92, 98, 104, 110, 117], 43) := by decide +kernel
theorem sw_3_9 (x : Int32) : x = 3 ∨ x = 4 ∨ x = 5 ∨ x = 6 ∨ x = 7 ∨ x = 8 ∨ x = 9 ∨ (x.toInt < 3 ∨ 9 < x.toInt) := by
  have key : ∀ k : Int32, x.toInt = k.toInt → x = k := fun k h => Int32.toInt_inj.mp h
  by_cases h1 : x.toInt < 3
  · simp [h1]
  by_cases h2 : 9 < x.toInt
  · simp [h2]
  have h3 : x.toInt = 3 ∨ x.toInt = 4 ∨ x.toInt = 5 ∨ x.toInt = 6 ∨ x.toInt = 7 ∨ x.toInt = 8 ∨ x.toInt = 9 := by omega
  rcases h3 with h | h | h | h | h | h | h
  · rw [key 3 (h.trans (by decide))]; decide
  · rw [key 4 (h.trans (by decide))]; decide
  · rw [key 5 (h.trans (by decide))]; decide
  · rw [key 6 (h.trans (by decide))]; decide
  · rw [key 7 (h.trans (by decide))]; decide
  · rw [key 8 (h.trans (by decide))]; decide
  · rw [key 9 (h.trans (by decide))]; decide
theorem dX1_perform_64 : decode cX1_perform 64 = .ok (.aload_n 0, 1) := by decide +kernel
theorem dX1_perform_65 : decode cX1_perform 65 = .ok (.getfield 15, 3) := by decide +kernel
theorem dX1_perform_68 : decode cX1_perform 68 = .ok (.iload_n 3, 1) := by decide +kernel
theorem dX1_perform_69 : decode cX1_perform 69 = .ok (.iload 4, 2) := by decide +kernel
theorem dX1_perform_71 : decode cX1_perform 71 = .ok (.invokevirtual 119, 3) := by decide +kernel
theorem cw_X10_welcome : CWv yX10_welcome cX10_welcome 3 (some .int) 2 := ⟨⟨⟨List.mem_of_getElem? (i := 126) (by decide +kernel), by decide +kernel⟩, ⟨List.mem_of_getElem? (i := 540) (by decide +kernel), by decide +kernel⟩, by decide +kernel⟩, ⟨List.mem_of_getElem? (i := 538) (by decide +kernel), by decide +kernel⟩, ⟨List.mem_of_getElem? (i := 539) (by decide +kernel), by decide +kernel⟩⟩
theorem km1_119 : inW (Cond.methodLink RX1 119 yX10_welcome) := ⟨List.mem_of_getElem? (i := 1106) (by decide +kernel), by decide +kernel⟩
theorem dX1_perform_74 : decode cX1_perform 74 = .ok (.iconst (-1), 1) := by decide +kernel
theorem dX1_perform_75 : decode cX1_perform 75 = .ok (.if_icmp .eq 7, 3) := by decide +kernel
theorem dX1_perform_82 : decode cX1_perform 82 = .ok (.iconst 0, 1) := by decide +kernel
theorem dX1_perform_83 : decode cX1_perform 83 = .ok (.ireturn, 1) := by decide +kernel
theorem dX1_perform_78 : decode cX1_perform 78 = .ok (.iconst 1, 1) := by decide +kernel
theorem dX1_perform_79 : decode cX1_perform 79 = .ok (.goto 4, 3) := by decide +kernel
theorem dX1_perform_84 : decode cX1_perform 84 = .ok (.aload_n 0, 1) := by decide +kernel
theorem dX1_perform_85 : decode cX1_perform 85 = .ok (.iload_n 3, 1) := by decide +kernel
theorem dX1_perform_86 : decode cX1_perform 86 = .ok (.iload 4, 2) := by decide +kernel
theorem dX1_perform_88 : decode cX1_perform 88 = .ok (.aload_n 1, 1) := by decide +kernel
theorem dX1_perform_89 : decode cX1_perform 89 = .ok (.iload_n 2, 1) := by decide +kernel
theorem dX1_perform_90 : decode cX1_perform 90 = .ok (.iconst 3, 1) := by decide +kernel
theorem dX1_perform_91 : decode cX1_perform 91 = .ok (.invokevirtual 114, 3) := by decide +kernel
theorem dX1_perform_94 : decode cX1_perform 94 = .ok (.aload_n 1, 1) := by decide +kernel
theorem dX1_perform_95 : decode cX1_perform 95 = .ok (.iload_n 2, 1) := by decide +kernel
theorem dX1_perform_96 : decode cX1_perform 96 = .ok (.iconst 4, 1) := by decide +kernel
theorem dX1_perform_97 : decode cX1_perform 97 = .ok (.invokevirtual 114, 3) := by decide +kernel
theorem dX1_perform_100 : decode cX1_perform 100 = .ok (.invokevirtual 122, 3) := by decide +kernel
theorem cw_X1_swearIn : CWv yX1_swearIn cX1_swearIn 5 (some .int) 4 := ⟨⟨⟨List.mem_of_getElem? (i := 133) (by decide +kernel), by decide +kernel⟩, ⟨List.mem_of_getElem? (i := 875) (by decide +kernel), by decide +kernel⟩, by decide +kernel⟩, ⟨List.mem_of_getElem? (i := 873) (by decide +kernel), by decide +kernel⟩, ⟨List.mem_of_getElem? (i := 874) (by decide +kernel), by decide +kernel⟩⟩
theorem km1_122 : inW (Cond.methodLink RX1 122 yX1_swearIn) := ⟨List.mem_of_getElem? (i := 1107) (by decide +kernel), by decide +kernel⟩
theorem dX1_perform_103 : decode cX1_perform 103 = .ok (.iconst (-1), 1) := by decide +kernel
theorem dX1_perform_104 : decode cX1_perform 104 = .ok (.if_icmp .eq 7, 3) := by decide +kernel
theorem dX1_perform_111 : decode cX1_perform 111 = .ok (.iconst 0, 1) := by decide +kernel
theorem dX1_perform_112 : decode cX1_perform 112 = .ok (.ireturn, 1) := by decide +kernel
theorem dX1_perform_107 : decode cX1_perform 107 = .ok (.iconst 1, 1) := by decide +kernel
theorem dX1_perform_108 : decode cX1_perform 108 = .ok (.goto 4, 3) := by decide +kernel
theorem dX1_perform_113 : decode cX1_perform 113 = .ok (.aload_n 0, 1) := by decide +kernel
theorem dX1_perform_114 : decode cX1_perform 114 = .ok (.iload_n 3, 1) := by decide +kernel
theorem dX1_perform_115 : decode cX1_perform 115 = .ok (.invokevirtual 125, 3) := by decide +kernel
theorem cw_X1_breakOath : CWv yX1_breakOath cX1_breakOath 2 (some .boolean) 1 := ⟨⟨⟨List.mem_of_getElem? (i := 133) (by decide +kernel), by decide +kernel⟩, ⟨List.mem_of_getElem? (i := 911) (by decide +kernel), by decide +kernel⟩, by decide +kernel⟩, ⟨List.mem_of_getElem? (i := 909) (by decide +kernel), by decide +kernel⟩, ⟨List.mem_of_getElem? (i := 910) (by decide +kernel), by decide +kernel⟩⟩
theorem km1_125 : inW (Cond.methodLink RX1 125 yX1_breakOath) := ⟨List.mem_of_getElem? (i := 1108) (by decide +kernel), by decide +kernel⟩
theorem dX1_perform_118 : decode cX1_perform 118 = .ok (.ireturn, 1) := by decide +kernel
theorem dX1_perform_119 : decode cX1_perform 119 = .ok (.aload_n 0, 1) := by decide +kernel
theorem dX1_perform_120 : decode cX1_perform 120 = .ok (.iload_n 3, 1) := by decide +kernel
theorem dX1_perform_121 : decode cX1_perform 121 = .ok (.invokevirtual 128, 3) := by decide +kernel
theorem cw_X1_releaseOath : CWv yX1_releaseOath cX1_releaseOath 2 (some .boolean) 1 := ⟨⟨⟨List.mem_of_getElem? (i := 133) (by decide +kernel), by decide +kernel⟩, ⟨List.mem_of_getElem? (i := 924) (by decide +kernel), by decide +kernel⟩, by decide +kernel⟩, ⟨List.mem_of_getElem? (i := 922) (by decide +kernel), by decide +kernel⟩, ⟨List.mem_of_getElem? (i := 923) (by decide +kernel), by decide +kernel⟩⟩
theorem km1_128 : inW (Cond.methodLink RX1 128 yX1_releaseOath) := ⟨List.mem_of_getElem? (i := 1109) (by decide +kernel), by decide +kernel⟩
theorem dX1_perform_124 : decode cX1_perform 124 = .ok (.ireturn, 1) := by decide +kernel
theorem dX1_perform_125 : decode cX1_perform 125 = .ok (.aload_n 0, 1) := by decide +kernel
theorem dX1_perform_126 : decode cX1_perform 126 = .ok (.iload_n 3, 1) := by decide +kernel
theorem dX1_perform_127 : decode cX1_perform 127 = .ok (.invokevirtual 131, 3) := by decide +kernel
theorem cw_X1_kneelDown : CWv yX1_kneelDown cX1_kneelDown 2 (some .boolean) 1 := ⟨⟨⟨List.mem_of_getElem? (i := 133) (by decide +kernel), by decide +kernel⟩, ⟨List.mem_of_getElem? (i := 941) (by decide +kernel), by decide +kernel⟩, by decide +kernel⟩, ⟨List.mem_of_getElem? (i := 939) (by decide +kernel), by decide +kernel⟩, ⟨List.mem_of_getElem? (i := 940) (by decide +kernel), by decide +kernel⟩⟩
theorem km1_131 : inW (Cond.methodLink RX1 131 yX1_kneelDown) := ⟨List.mem_of_getElem? (i := 1110) (by decide +kernel), by decide +kernel⟩
theorem dX1_perform_130 : decode cX1_perform 130 = .ok (.ireturn, 1) := by decide +kernel
theorem dX1_perform_131 : decode cX1_perform 131 = .ok (.aload_n 0, 1) := by decide +kernel
theorem dX1_perform_132 : decode cX1_perform 132 = .ok (.iload_n 3, 1) := by decide +kernel
theorem dX1_perform_133 : decode cX1_perform 133 = .ok (.iconst 0, 1) := by decide +kernel
theorem dX1_perform_134 : decode cX1_perform 134 = .ok (.invokevirtual 134, 3) := by decide +kernel
theorem cw_X1_slide : CWv yX1_slide cX1_slide 4 (some .boolean) 2 := ⟨⟨⟨List.mem_of_getElem? (i := 133) (by decide +kernel), by decide +kernel⟩, ⟨List.mem_of_getElem? (i := 1026) (by decide +kernel), by decide +kernel⟩, by decide +kernel⟩, ⟨List.mem_of_getElem? (i := 1024) (by decide +kernel), by decide +kernel⟩, ⟨List.mem_of_getElem? (i := 1025) (by decide +kernel), by decide +kernel⟩⟩
theorem km1_134 : inW (Cond.methodLink RX1 134 yX1_slide) := ⟨List.mem_of_getElem? (i := 1111) (by decide +kernel), by decide +kernel⟩
theorem dX1_perform_137 : decode cX1_perform 137 = .ok (.ireturn, 1) := by decide +kernel
theorem dX1_perform_138 : decode cX1_perform 138 = .ok (.iconst 0, 1) := by decide +kernel
theorem dX1_perform_139 : decode cX1_perform 139 = .ok (.istore 5, 2) := by decide +kernel
theorem dX1_perform_164 : decode cX1_perform 164 = .ok (.iconst 1, 1) := by decide +kernel
theorem dX1_perform_165 : decode cX1_perform 165 = .ok (.ireturn, 1) := by decide +kernel
theorem dX1_perform_141 : decode cX1_perform 141 = .ok (.iload 5, 2) := by decide +kernel
theorem dX1_perform_143 : decode cX1_perform 143 = .ok (.iload_n 3, 1) := by decide +kernel
theorem dX1_perform_144 : decode cX1_perform 144 = .ok (.if_icmp .ge 18, 3) := by decide +kernel
theorem dX1_perform_162 : decode cX1_perform 162 = .ok (.iconst 1, 1) := by decide +kernel
theorem dX1_perform_163 : decode cX1_perform 163 = .ok (.ireturn, 1) := by decide +kernel
theorem dX1_perform_147 : decode cX1_perform 147 = .ok (.aload_n 0, 1) := by decide +kernel
theorem dX1_perform_148 : decode cX1_perform 148 = .ok (.invokevirtual 138, 3) := by decide +kernel
theorem cw_X1_passDay : CWv yX1_passDay cX1_passDay 4 (some .boolean) 0 := ⟨⟨⟨List.mem_of_getElem? (i := 133) (by decide +kernel), by decide +kernel⟩, ⟨List.mem_of_getElem? (i := 1067) (by decide +kernel), by decide +kernel⟩, by decide +kernel⟩, ⟨List.mem_of_getElem? (i := 1065) (by decide +kernel), by decide +kernel⟩, ⟨List.mem_of_getElem? (i := 1066) (by decide +kernel), by decide +kernel⟩⟩
theorem km1_138 : inW (Cond.methodLink RX1 138 yX1_passDay) := ⟨List.mem_of_getElem? (i := 1112) (by decide +kernel), by decide +kernel⟩
theorem dX1_perform_151 : decode cX1_perform 151 = .ok (.ifCond .ne 5, 3) := by decide +kernel
theorem dX1_perform_156 : decode cX1_perform 156 = .ok (.iinc 5 1, 3) := by decide +kernel
theorem dX1_perform_159 : decode cX1_perform 159 = .ok (.goto (-18), 3) := by decide +kernel
theorem dX1_perform_154 : decode cX1_perform 154 = .ok (.iconst 0, 1) := by decide +kernel
theorem dX1_perform_155 : decode cX1_perform 155 = .ok (.ireturn, 1) := by decide +kernel
theorem dX1_beginYears_0 : decode cX1_beginYears 0 = .ok (.aload_n 0, 1) := by decide +kernel
theorem dX1_beginYears_1 : decode cX1_beginYears 1 = .ok (.invokevirtual 54, 3) := by decide +kernel
theorem dX1_beginYears_4 : decode cX1_beginYears 4 = .ok (.aload_n 0, 1) := by decide +kernel
theorem dX1_beginYears_5 : decode cX1_beginYears 5 = .ok (.iconst 1, 1) := by decide +kernel
theorem dX1_beginYears_6 : decode cX1_beginYears 6 = .ok (.putfield 27, 3) := by decide +kernel
theorem dX1_beginYears_9 : decode cX1_beginYears 9 = .ok (.aload_n 0, 1) := by decide +kernel
theorem dX1_beginYears_10 : decode cX1_beginYears 10 = .ok (.getfield 15, 3) := by decide +kernel
theorem dX1_beginYears_13 : decode cX1_beginYears 13 = .ok (.getfield 40, 3) := by decide +kernel
theorem dX1_beginYears_16 : decode cX1_beginYears 16 = .ok (.iload_n 1, 1) := by decide +kernel
theorem dX1_beginYears_17 : decode cX1_beginYears 17 = .ok (.iconst 2, 1) := by decide +kernel
theorem dX1_beginYears_18 : decode cX1_beginYears 18 = .ok (.imul, 1) := by decide +kernel
theorem dX1_beginYears_19 : decode cX1_beginYears 19 = .ok (.sipush 137, 3) := by decide +kernel
theorem dX1_beginYears_22 : decode cX1_beginYears 22 = .ok (.iadd, 1) := by decide +kernel
theorem dX1_beginYears_23 : decode cX1_beginYears 23 = .ok (.putfield 141, 3) := by decide +kernel
theorem kf1_141 : inW (Cond.fieldLinkNest RX1 141 "KneeOaths$Ledger" "x" "I" "KneeOaths") := ⟨List.mem_of_getElem? (i := 180) (by decide +kernel), by decide +kernel⟩
theorem dX1_beginYears_26 : decode cX1_beginYears 26 = .ok (.return_, 1) := by decide +kernel
theorem dX1_endYears_0 : decode cX1_endYears 0 = .ok (.aload_n 0, 1) := by decide +kernel
theorem dX1_endYears_1 : decode cX1_endYears 1 = .ok (.iconst 0, 1) := by decide +kernel
theorem dX1_endYears_2 : decode cX1_endYears 2 = .ok (.putfield 27, 3) := by decide +kernel
theorem dX1_endYears_5 : decode cX1_endYears 5 = .ok (.return_, 1) := by decide +kernel
theorem dX1_liveOn_0 : decode cX1_liveOn 0 = .ok (.aload_n 0, 1) := by decide +kernel
theorem dX1_liveOn_1 : decode cX1_liveOn 1 = .ok (.getfield 15, 3) := by decide +kernel
theorem dX1_liveOn_4 : decode cX1_liveOn 4 = .ok (.getfield 40, 3) := by decide +kernel
theorem dX1_liveOn_7 : decode cX1_liveOn 7 = .ok (.invokevirtual 144, 3) := by decide +kernel
theorem km1_144 : inW (Cond.methodLink RX1 144 yX4_draw) := ⟨List.mem_of_getElem? (i := 1125) (by decide +kernel), by decide +kernel⟩
theorem dX1_liveOn_10 : decode cX1_liveOn 10 = .ok (.istore_n 1, 1) := by decide +kernel
theorem dX1_liveOn_11 : decode cX1_liveOn 11 = .ok (.aload_n 0, 1) := by decide +kernel
theorem dX1_liveOn_12 : decode cX1_liveOn 12 = .ok (.getfield 15, 3) := by decide +kernel
theorem dX1_liveOn_15 : decode cX1_liveOn 15 = .ok (.getfield 101, 3) := by decide +kernel
theorem dX1_liveOn_18 : decode cX1_liveOn 18 = .ok (.istore_n 2, 1) := by decide +kernel
theorem dX1_liveOn_19 : decode cX1_liveOn 19 = .ok (.aload_n 0, 1) := by decide +kernel
theorem dX1_liveOn_20 : decode cX1_liveOn 20 = .ok (.getfield 15, 3) := by decide +kernel
theorem dX1_liveOn_23 : decode cX1_liveOn 23 = .ok (.getfield 40, 3) := by decide +kernel
theorem dX1_liveOn_26 : decode cX1_liveOn 26 = .ok (.getfield 44, 3) := by decide +kernel
theorem dX1_liveOn_29 : decode cX1_liveOn 29 = .ok (.istore_n 3, 1) := by decide +kernel
theorem dX1_liveOn_30 : decode cX1_liveOn 30 = .ok (.iload_n 2, 1) := by decide +kernel
theorem dX1_liveOn_31 : decode cX1_liveOn 31 = .ok (.ifCond .le 9, 3) := by decide +kernel
theorem dX1_liveOn_40 : decode cX1_liveOn 40 = .ok (.iconst (-1), 1) := by decide +kernel
theorem dX1_liveOn_34 : decode cX1_liveOn 34 = .ok (.iload_n 1, 1) := by decide +kernel
theorem dX1_liveOn_35 : decode cX1_liveOn 35 = .ok (.iload_n 2, 1) := by decide +kernel
theorem dX1_liveOn_36 : decode cX1_liveOn 36 = .ok (.irem, 1) := by decide +kernel
theorem dX1_liveOn_37 : decode cX1_liveOn 37 = .ok (.goto 4, 3) := by decide +kernel
theorem dX1_liveOn_41 : decode cX1_liveOn 41 = .ok (.istore 4, 2) := by decide +kernel
theorem dX1_liveOn_43 : decode cX1_liveOn 43 = .ok (.iload_n 3, 1) := by decide +kernel
theorem dX1_liveOn_44 : decode cX1_liveOn 44 = .ok (.ifCond .le 9, 3) := by decide +kernel
theorem dX1_liveOn_53 : decode cX1_liveOn 53 = .ok (.iconst (-1), 1) := by decide +kernel
theorem dX1_liveOn_47 : decode cX1_liveOn 47 = .ok (.iload_n 1, 1) := by decide +kernel
theorem dX1_liveOn_48 : decode cX1_liveOn 48 = .ok (.iload_n 3, 1) := by decide +kernel
theorem dX1_liveOn_49 : decode cX1_liveOn 49 = .ok (.irem, 1) := by decide +kernel
theorem dX1_liveOn_50 : decode cX1_liveOn 50 = .ok (.goto 4, 3) := by decide +kernel
theorem dX1_liveOn_54 : decode cX1_liveOn 54 = .ok (.istore 5, 2) := by decide +kernel
theorem dX1_liveOn_56 : decode cX1_liveOn 56 = .ok (.iload_n 1, 1) := by decide +kernel
theorem dX1_liveOn_57 : decode cX1_liveOn 57 = .ok (.bipush 7, 2) := by decide +kernel
theorem dX1_liveOn_59 : decode cX1_liveOn 59 = .ok (.irem, 1) := by decide +kernel
theorem dX1_liveOn_60 : decode cX1_liveOn 60 = .ok (.tableswitch 124 0 4 #[36, 69, 79, 95, 105], 36) := by decide +kernel
theorem sw_0_4 (x : Int32) : x = 0 ∨ x = 1 ∨ x = 2 ∨ x = 3 ∨ x = 4 ∨ (x.toInt < 0 ∨ 4 < x.toInt) := by
  have key : ∀ k : Int32, x.toInt = k.toInt → x = k := fun k h => Int32.toInt_inj.mp h
  by_cases h1 : x.toInt < 0
  · simp [h1]
  by_cases h2 : 4 < x.toInt
  · simp [h2]
  have h3 : x.toInt = 0 ∨ x.toInt = 1 ∨ x.toInt = 2 ∨ x.toInt = 3 ∨ x.toInt = 4 := by omega
  rcases h3 with h | h | h | h | h
  · rw [key 0 (h.trans (by decide))]; decide
  · rw [key 1 (h.trans (by decide))]; decide
  · rw [key 2 (h.trans (by decide))]; decide
  · rw [key 3 (h.trans (by decide))]; decide
  · rw [key 4 (h.trans (by decide))]; decide
theorem dX1_liveOn_96 : decode cX1_liveOn 96 = .ok (.aload_n 0, 1) := by decide +kernel
theorem dX1_liveOn_97 : decode cX1_liveOn 97 = .ok (.iload 4, 2) := by decide +kernel
theorem dX1_liveOn_99 : decode cX1_liveOn 99 = .ok (.iload_n 2, 1) := by decide +kernel
theorem dX1_liveOn_100 : decode cX1_liveOn 100 = .ok (.ifCond .le 12, 3) := by decide +kernel
theorem dX1_liveOn_112 : decode cX1_liveOn 112 = .ok (.iconst (-1), 1) := by decide +kernel
theorem dX1_liveOn_103 : decode cX1_liveOn 103 = .ok (.iload_n 1, 1) := by decide +kernel
theorem dX1_liveOn_104 : decode cX1_liveOn 104 = .ok (.bipush 7, 2) := by decide +kernel
theorem dX1_liveOn_106 : decode cX1_liveOn 106 = .ok (.idiv, 1) := by decide +kernel
theorem dX1_liveOn_107 : decode cX1_liveOn 107 = .ok (.iload_n 2, 1) := by decide +kernel
theorem dX1_liveOn_108 : decode cX1_liveOn 108 = .ok (.irem, 1) := by decide +kernel
theorem dX1_liveOn_109 : decode cX1_liveOn 109 = .ok (.goto 4, 3) := by decide +kernel
theorem dX1_liveOn_129 : decode cX1_liveOn 129 = .ok (.aload_n 0, 1) := by decide +kernel
theorem dX1_liveOn_130 : decode cX1_liveOn 130 = .ok (.iload 5, 2) := by decide +kernel
theorem dX1_liveOn_132 : decode cX1_liveOn 132 = .ok (.invokevirtual 125, 3) := by decide +kernel
theorem dX1_liveOn_135 : decode cX1_liveOn 135 = .ok (.pop, 1) := by decide +kernel
theorem dX1_liveOn_136 : decode cX1_liveOn 136 = .ok (.goto 53, 3) := by decide +kernel
theorem dX1_liveOn_189 : decode cX1_liveOn 189 = .ok (.return_, 1) := by decide +kernel
theorem dX1_liveOn_139 : decode cX1_liveOn 139 = .ok (.iload_n 1, 1) := by decide +kernel
theorem dX1_liveOn_140 : decode cX1_liveOn 140 = .ok (.iconst 5, 1) := by decide +kernel
theorem dX1_liveOn_141 : decode cX1_liveOn 141 = .ok (.irem, 1) := by decide +kernel
theorem dX1_liveOn_142 : decode cX1_liveOn 142 = .ok (.ifCond .ne 47, 3) := by decide +kernel
theorem dX1_liveOn_145 : decode cX1_liveOn 145 = .ok (.aload_n 0, 1) := by decide +kernel
theorem dX1_liveOn_146 : decode cX1_liveOn 146 = .ok (.iload 5, 2) := by decide +kernel
theorem dX1_liveOn_148 : decode cX1_liveOn 148 = .ok (.invokevirtual 128, 3) := by decide +kernel
theorem dX1_liveOn_151 : decode cX1_liveOn 151 = .ok (.pop, 1) := by decide +kernel
theorem dX1_liveOn_152 : decode cX1_liveOn 152 = .ok (.goto 37, 3) := by decide +kernel
theorem dX1_liveOn_155 : decode cX1_liveOn 155 = .ok (.aload_n 0, 1) := by decide +kernel
theorem dX1_liveOn_156 : decode cX1_liveOn 156 = .ok (.iload 4, 2) := by decide +kernel
theorem dX1_liveOn_158 : decode cX1_liveOn 158 = .ok (.invokevirtual 131, 3) := by decide +kernel
theorem dX1_liveOn_161 : decode cX1_liveOn 161 = .ok (.pop, 1) := by decide +kernel
theorem dX1_liveOn_162 : decode cX1_liveOn 162 = .ok (.goto 27, 3) := by decide +kernel
theorem dX1_liveOn_165 : decode cX1_liveOn 165 = .ok (.iload_n 1, 1) := by decide +kernel
theorem dX1_liveOn_166 : decode cX1_liveOn 166 = .ok (.iconst 3, 1) := by decide +kernel
theorem dX1_liveOn_167 : decode cX1_liveOn 167 = .ok (.irem, 1) := by decide +kernel
theorem dX1_liveOn_168 : decode cX1_liveOn 168 = .ok (.ifCond .ne 21, 3) := by decide +kernel
theorem dX1_liveOn_171 : decode cX1_liveOn 171 = .ok (.aload_n 0, 1) := by decide +kernel
theorem dX1_liveOn_172 : decode cX1_liveOn 172 = .ok (.iload 4, 2) := by decide +kernel
theorem dX1_liveOn_174 : decode cX1_liveOn 174 = .ok (.iload_n 1, 1) := by decide +kernel
theorem dX1_liveOn_175 : decode cX1_liveOn 175 = .ok (.iconst 2, 1) := by decide +kernel
theorem dX1_liveOn_176 : decode cX1_liveOn 176 = .ok (.irem, 1) := by decide +kernel
theorem dX1_liveOn_177 : decode cX1_liveOn 177 = .ok (.invokevirtual 134, 3) := by decide +kernel
theorem dX1_liveOn_180 : decode cX1_liveOn 180 = .ok (.pop, 1) := by decide +kernel
theorem dX1_liveOn_181 : decode cX1_liveOn 181 = .ok (.goto 8, 3) := by decide +kernel
theorem dX1_liveOn_184 : decode cX1_liveOn 184 = .ok (.aload_n 0, 1) := by decide +kernel
theorem dX1_liveOn_185 : decode cX1_liveOn 185 = .ok (.invokevirtual 138, 3) := by decide +kernel
theorem dX1_liveOn_188 : decode cX1_liveOn 188 = .ok (.pop, 1) := by decide +kernel
theorem dX1_liveOn_113 : decode cX1_liveOn 113 = .ok (.iload_n 1, 1) := by decide +kernel
theorem dX1_liveOn_114 : decode cX1_liveOn 114 = .ok (.iconst 2, 1) := by decide +kernel
theorem dX1_liveOn_115 : decode cX1_liveOn 115 = .ok (.irem, 1) := by decide +kernel
theorem dX1_liveOn_116 : decode cX1_liveOn 116 = .ok (.iconst 1, 1) := by decide +kernel
theorem dX1_liveOn_117 : decode cX1_liveOn 117 = .ok (.iload_n 1, 1) := by decide +kernel
theorem dX1_liveOn_118 : decode cX1_liveOn 118 = .ok (.bipush 9, 2) := by decide +kernel
theorem dX1_liveOn_120 : decode cX1_liveOn 120 = .ok (.irem, 1) := by decide +kernel
theorem dX1_liveOn_121 : decode cX1_liveOn 121 = .ok (.iadd, 1) := by decide +kernel
theorem dX1_liveOn_122 : decode cX1_liveOn 122 = .ok (.invokevirtual 122, 3) := by decide +kernel
theorem dX1_liveOn_125 : decode cX1_liveOn 125 = .ok (.pop, 1) := by decide +kernel
theorem dX1_liveOn_126 : decode cX1_liveOn 126 = .ok (.goto 63, 3) := by decide +kernel
set_option maxHeartbeats 4000000 in
set_option maxRecDepth 100000 in
theorem x_X1_remember {l : Launch} {G : GG}  {L : List Nat} {f : HF} {ad : Nat → Nat → Nat} {rs : RS} {fc : Int × Int} {tc w : Nat → Int × Int} {q : Nat → (Nat → Int32) → Prop} (I : SH (spC rs fc tc w q) nnC G ad L f) (hW : WBp w 8) (hT : WBp tc 4) (hQ : QIp q) : PMv l yX1_remember cX1_remember 1 3 0 0 G [.ref (ad 5 0)] L f (fun L1 f1 => SH (spC rs fc tc w q) nnC G ad L1 f1) := by
  refine PMv.of (post := fun L1 f1 => SH (spC rs fc tc w q) nnC G ad L1 f1) (own := RX1) (by decide) rfl (Nat.le_of_ble_eq_true rfl) (fun sz p e s m args below meth c A ls hA1 hname S Y hl => ?_)
  have hx := S.hx
  have hb := S.hb
  have hl : lv_has ls 1 [(0, .ref (ad 5 0))] := hl
  refine lv_aload_n hx hb dX1_remember_0 rfl (lv_at hl 0 rfl) ?_
  obtain ⟨v_15986, p_ad_5_0, b_15987⟩ := opnC_5 (j := 0) I (by decide)
  have p_ad_5_0 : pt L f (ad 5 0) (.inr (1, [.ref (ad 1 0), .ref (ad 3 0), .ref (ad 4 0), .ref (ad 55 0), .int v_15986])) := p_ad_5_0
  refine pg_get S Y ok_X1 4 (by decide) kf1_27 (v := .int v_15986) p_ad_5_0 rfl dX1_remember_1 ?_
  refine lv_if_ne (tgt := 14) hx hb dX1_remember_4 (by decide) (fun c_15988 => ?_) (fun c_15988 => ?_)
  · have B_15989 : bn 1 1 v_15986 := bn_w (bn_nel c_15988 b_15987 (show bn 0 0 (0 : Int32) from bn_k (by decide))) (by decide)
    exact prV (post := fun L1 f1 => SH (spC rs fc tc w q) nnC G ad L1 f1) S Y (by decide) (by decide) hA1 I dX1_remember_14
  · have B_15990 : bn 0 0 v_15986 := bn_w (bn_eq c_15988 (show bn 0 0 (0 : Int32) from bn_k (by decide))) (by decide)
    refine lv_aload_n hx hb dX1_remember_7 rfl (lv_at hl 0 rfl) ?_
    refine pg_get S Y ok_X1 0 (by decide) kf1_15 (v := .ref (ad 1 0)) p_ad_5_0 rfl dX1_remember_8 ?_
    refine cVv (As := []) (rest := []) S Y (x_X10_remember (l := l) I hW hT hQ) cw_X10_remember km1_31 (I.opo (k := 1) (j := 0) (by decide) rfl).choose_spec.1 ok_X10.1 rfl rfl ⟨Nat.le_of_ble_eq_true rfl, Nat.le_of_ble_eq_true rfl⟩ hl.1 rfl (Nat.le_of_ble_eq_true rfl) ⟨Nat.le_of_ble_eq_true rfl, Nat.le_of_ble_eq_true rfl⟩ dX1_remember_11 (fun L_15991 f_15992 H locs I Y => ?_)
    exact prV (post := fun L1 f1 => SH (spC rs fc tc w q) nnC G ad L1 f1) S Y (by decide) (by decide) hA1 I dX1_remember_14
set_option maxHeartbeats 4000000 in
set_option maxRecDepth 100000 in
theorem x_X1_swearIn {l : Launch} {G : GG}  {L : List Nat} {f : HF} {ad : Nat → Nat → Nat} {rs : RS} {fc : Int × Int} {tc w : Nat → Int × Int} {q : Nat → (Nat → Int32) → Prop} {i1 i2 i3 i4 : Int32} (I : SH (spC rs fc tc w q) nnC G ad L f) (hW : WBp w 8) (hT : WBp tc 4) (hQ : QIp q) : PMi l yX1_swearIn cX1_swearIn 5 .int 4 0 0 G [.ref (ad 5 0), .int i1, .int i2, .int i3, .int i4] L f (fun r L1 f1 => SH (spC rs fc tc w q) nnC G ad L1 f1) := by
  refine PMi.of (post := fun r L1 f1 => SH (spC rs fc tc w q) nnC G ad L1 f1) (own := RX1) (by decide) rfl (Nat.le_of_ble_eq_true rfl) (fun sz p e s m args below meth c A ls hA1 hname S Y hl => ?_)
  have hx := S.hx
  have hb := S.hb
  have hl : lv_has ls 5 [(0, .ref (ad 5 0)), (1, .int i1), (2, .int i2), (3, .int i3), (4, .int i4)] := hl
  refine lv_aload_n hx hb dX1_swearIn_0 rfl (lv_at hl 0 rfl) ?_
  obtain ⟨v_16111, p_ad_5_0, b_16112⟩ := opnC_5 (j := 0) I (by decide)
  have p_ad_5_0 : pt L f (ad 5 0) (.inr (1, [.ref (ad 1 0), .ref (ad 3 0), .ref (ad 4 0), .ref (ad 55 0), .int v_16111])) := p_ad_5_0
  refine pg_get S Y ok_X1 0 (by decide) kf1_15 (v := .ref (ad 1 0)) p_ad_5_0 rfl dX1_swearIn_1 ?_
  refine lv_iload_n hx hb dX1_swearIn_4 rfl (lv_at hl 1 rfl) ?_
  refine cVp (As := [.int i1]) (rest := []) S Y (x_X10_has (l := l) I hW hT hQ) cw_X10_has km1_36 (I.opo (k := 1) (j := 0) (by decide) rfl).choose_spec.1 ok_X10.1 rfl rfl ⟨Nat.le_of_ble_eq_true rfl, Nat.le_of_ble_eq_true rfl⟩ hl.1 rfl (Nat.le_of_ble_eq_true rfl) ⟨Nat.le_of_ble_eq_true rfl, Nat.le_of_ble_eq_true rfl⟩ dX1_swearIn_5 (fun r_16113 H locs er_16113 Y => ?_)
  refine lv_if_eq (tgt := 62) hx hb dX1_swearIn_8 (by decide) (fun c_16114 => ?_) (fun c_16114 => ?_)
  · have B_16115 : bn 0 0 r_16113 := bn_w (bn_eq c_16114 (show bn 0 0 (0 : Int32) from bn_k (by decide))) (by decide)
    refine lv_iconst (v := (-1)) hx hb dX1_swearIn_62 (by decide) ?_
    exact prI (post := fun r L1 f1 => SH (spC rs fc tc w q) nnC G ad L1 f1) S Y rfl (by decide) (by decide) hA1 I dX1_swearIn_63
  · have B_16116 : bn 1 1 r_16113 := bn_w (bn_nel c_16114 er_16113 (show bn 0 0 (0 : Int32) from bn_k (by decide))) (by decide)
    refine lv_aload_n hx hb dX1_swearIn_11 rfl (lv_at hl 0 rfl) ?_
    refine pg_get S Y ok_X1 0 (by decide) kf1_15 (v := .ref (ad 1 0)) p_ad_5_0 rfl dX1_swearIn_12 ?_
    refine lv_iload_n hx hb dX1_swearIn_15 rfl (lv_at hl 2 rfl) ?_
    refine cVp (As := [.int i2]) (rest := []) S Y (x_X10_has (l := l) I hW hT hQ) cw_X10_has km1_36 (I.opo (k := 1) (j := 0) (by decide) rfl).choose_spec.1 ok_X10.1 rfl rfl ⟨Nat.le_of_ble_eq_true rfl, Nat.le_of_ble_eq_true rfl⟩ hl.1 rfl (Nat.le_of_ble_eq_true rfl) ⟨Nat.le_of_ble_eq_true rfl, Nat.le_of_ble_eq_true rfl⟩ dX1_swearIn_16 (fun r_16117 H locs er_16117 Y => ?_)
    refine lv_if_eq (tgt := 62) hx hb dX1_swearIn_19 (by decide) (fun c_16118 => ?_) (fun c_16118 => ?_)
    · have B_16119 : bn 0 0 r_16117 := bn_w (bn_eq c_16118 (show bn 0 0 (0 : Int32) from bn_k (by decide))) (by decide)
      refine lv_iconst (v := (-1)) hx hb dX1_swearIn_62 (by decide) ?_
      exact prI (post := fun r L1 f1 => SH (spC rs fc tc w q) nnC G ad L1 f1) S Y rfl (by decide) (by decide) hA1 I dX1_swearIn_63
    · have B_16120 : bn 1 1 r_16117 := bn_w (bn_nel c_16118 er_16117 (show bn 0 0 (0 : Int32) from bn_k (by decide))) (by decide)
      refine lv_iload_n hx hb dX1_swearIn_22 rfl (lv_at hl 1 rfl) ?_
      refine lv_iload_n hx hb dX1_swearIn_23 rfl (lv_at hl 2 rfl) ?_
      refine lv_icmp_eq (tgt := 62) hx hb dX1_swearIn_24 (by decide) (fun c_16121 => ?_) (fun c_16121 => ?_)
      · refine lv_iconst (v := (-1)) hx hb dX1_swearIn_62 (by decide) ?_
        exact prI (post := fun r L1 f1 => SH (spC rs fc tc w q) nnC G ad L1 f1) S Y rfl (by decide) (by decide) hA1 I dX1_swearIn_63
      · refine lv_aload_n hx hb dX1_swearIn_27 rfl (lv_at hl 0 rfl) ?_
        refine pg_get S Y ok_X1 0 (by decide) kf1_15 (v := .ref (ad 1 0)) p_ad_5_0 rfl dX1_swearIn_28 ?_
        obtain ⟨v_16122, v_16124, v_16126, v_16128, v_16130, p_ad_1_0, b_16123, b_16125, b_16127, b_16129, b_16131⟩ := opnC_1 (j := 0) I (by decide)
        have p_ad_1_0 : pt L f (ad 1 0) (.inr (10, [.ref (ad 40 0), .ref (ad 41 0), .ref (ad 42 0), .ref (ad 10 0), .ref (ad 43 0), .ref (ad 20 0), .ref (ad 20 1), .ref (ad 20 2), .ref (ad 20 3), .ref (ad 20 4), .int v_16122, .int v_16124, .int v_16126, .int v_16128, .int v_16130])) := p_ad_1_0
        refine pg_getN S Y ok_X10 3 (by decide) kf1_40 (v := .ref (ad 10 0)) p_ad_1_0 rfl dX1_swearIn_31 ?_
        obtain ⟨v_16132, v_16134, v_16136, v_16138, v_16140, p_ad_10_0, b_16133, b_16135, b_16137, b_16139, b_16141⟩ := opnC_10 (j := 0) I (by decide)
        have p_ad_10_0 : pt L f (ad 10 0) (.inr (4, [.ref (ad 11 0), .ref (ad 12 0), .int v_16132, .int v_16134, .int v_16136, .int v_16138, .int v_16140])) := p_ad_10_0
        refine pg_getN S Y ok_X4 2 (by decide) kf1_44 (v := .int v_16132) p_ad_10_0 rfl dX1_swearIn_34 ?_
        refine lv_bipush (v := 14) hx hb dX1_swearIn_37 (by decide) ?_
        refine lv_icmp_ge (tgt := 62) hx hb dX1_swearIn_39 (by decide) (fun c_16142 => ?_) (fun c_16142 => ?_)
        · have B_16143 : bn 14 14 v_16132 := bn_w (bn_ler c_16142 (show bn 14 14 (14 : Int32) from bn_k (by decide)) b_16133) (by decide)
          refine lv_iconst (v := (-1)) hx hb dX1_swearIn_62 (by decide) ?_
          exact prI (post := fun r L1 f1 => SH (spC rs fc tc w q) nnC G ad L1 f1) S Y rfl (by decide) (by decide) hA1 I dX1_swearIn_63
        · have B_16144 : bn 0 13 v_16132 := bn_w (bn_gtr c_16142 (show bn 14 14 (14 : Int32) from bn_k (by decide)) b_16133) (by decide)
          refine lv_iload_n hx hb dX1_swearIn_42 rfl (lv_at hl 3 rfl) ?_
          refine lv_iconst (v := 0) hx hb dX1_swearIn_43 (by decide) ?_
          refine lv_iconst (v := 1) hx hb dX1_swearIn_44 (by decide) ?_
          refine cNp (As := [.int i3, .int 0, .int 1]) (rest := []) S Y (x_X11_within (l := l) ) cw_X11_within km1_50 rfl ⟨Nat.le_of_ble_eq_true rfl, Nat.le_of_ble_eq_true rfl⟩ hl.1 rfl (Nat.le_of_ble_eq_true rfl) ⟨Nat.le_of_ble_eq_true rfl, Nat.le_of_ble_eq_true rfl⟩ dX1_swearIn_45 (fun r_16145 H locs er_16145 Y => ?_)
          refine lv_if_eq (tgt := 62) hx hb dX1_swearIn_48 (by decide) (fun c_16146 => ?_) (fun c_16146 => ?_)
          · have B_16147 : bn 0 0 r_16145 := bn_w (bn_eq c_16146 (show bn 0 0 (0 : Int32) from bn_k (by decide))) (by decide)
            refine lv_iconst (v := (-1)) hx hb dX1_swearIn_62 (by decide) ?_
            exact prI (post := fun r L1 f1 => SH (spC rs fc tc w q) nnC G ad L1 f1) S Y rfl (by decide) (by decide) hA1 I dX1_swearIn_63
          · have B_16148 : bn 1 1 r_16145 := bn_w (bn_nel c_16146 er_16145 (show bn 0 0 (0 : Int32) from bn_k (by decide))) (by decide)
            refine lv_iload hx hb dX1_swearIn_51 (lv_at hl 4 rfl) ?_
            refine lv_iconst (v := 1) hx hb dX1_swearIn_53 (by decide) ?_
            refine lv_bipush (v := 9) hx hb dX1_swearIn_54 (by decide) ?_
            refine cNp (As := [.int i4, .int 1, .int 9]) (rest := []) S Y (x_X11_within (l := l) ) cw_X11_within km1_50 rfl ⟨Nat.le_of_ble_eq_true rfl, Nat.le_of_ble_eq_true rfl⟩ hl.1 rfl (Nat.le_of_ble_eq_true rfl) ⟨Nat.le_of_ble_eq_true rfl, Nat.le_of_ble_eq_true rfl⟩ dX1_swearIn_56 (fun r_16149 H locs er_16149 Y => ?_)
            refine lv_if_ne (tgt := 64) hx hb dX1_swearIn_59 (by decide) (fun c_16150 => ?_) (fun c_16150 => ?_)
            · have B_16151 : bn 1 1 r_16149 := bn_w (bn_nel c_16150 er_16149 (show bn 0 0 (0 : Int32) from bn_k (by decide))) (by decide)
              refine lv_aload_n hx hb dX1_swearIn_64 rfl (lv_at hl 0 rfl) ?_
              refine cVv (As := []) (rest := []) S Y (x_X1_remember (l := l) I hW hT hQ) cw_X1_remember km1_54 p_ad_5_0 ok_X1.1 rfl rfl ⟨Nat.le_of_ble_eq_true rfl, Nat.le_of_ble_eq_true rfl⟩ hl.1 rfl (Nat.le_of_ble_eq_true rfl) ⟨Nat.le_of_ble_eq_true rfl, Nat.le_of_ble_eq_true rfl⟩ dX1_swearIn_65 (fun L_16153 f_16154 H locs I Y => ?_)
              refine lv_aload_n hx hb dX1_swearIn_68 rfl (lv_at hl 0 rfl) ?_
              obtain ⟨v_16155, p_ad_5_0, b_16156⟩ := opnC_5 (j := 0) I (by decide)
              have p_ad_5_0 : pt L_16153 f_16154 (ad 5 0) (.inr (1, [.ref (ad 1 0), .ref (ad 3 0), .ref (ad 4 0), .ref (ad 55 0), .int v_16155])) := p_ad_5_0
              refine pg_get S Y ok_X1 0 (by decide) kf1_15 (v := .ref (ad 1 0)) p_ad_5_0 rfl dX1_swearIn_69 ?_
              obtain ⟨v_16157, v_16159, v_16161, v_16163, v_16165, p_ad_1_0, b_16158, b_16160, b_16162, b_16164, b_16166⟩ := opnC_1 (j := 0) I (by decide)
              have p_ad_1_0 : pt L_16153 f_16154 (ad 1 0) (.inr (10, [.ref (ad 40 0), .ref (ad 41 0), .ref (ad 42 0), .ref (ad 10 0), .ref (ad 43 0), .ref (ad 20 0), .ref (ad 20 1), .ref (ad 20 2), .ref (ad 20 3), .ref (ad 20 4), .int v_16157, .int v_16159, .int v_16161, .int v_16163, .int v_16165])) := p_ad_1_0
              refine pg_getN S Y ok_X10 3 (by decide) kf1_40 (v := .ref (ad 10 0)) p_ad_1_0 rfl dX1_swearIn_72 ?_
              refine lv_iload_n hx hb dX1_swearIn_75 rfl (lv_at hl 1 rfl) ?_
              refine lv_iload_n hx hb dX1_swearIn_76 rfl (lv_at hl 2 rfl) ?_
              refine lv_iload_n hx hb dX1_swearIn_77 rfl (lv_at hl 3 rfl) ?_
              refine lv_iload hx hb dX1_swearIn_78 (lv_at hl 4 rfl) ?_
              refine cVi (As := [.int i1, .int i2, .int i3, .int i4]) (rest := []) S Y (x_X4_addOath (l := l) (j := 0) I hW hT hQ (by decide)) cw_X4_addOath km1_55 (I.opo (k := 10) (j := 0) (by decide) rfl).choose_spec.1 ok_X4.1 rfl rfl ⟨Nat.le_of_ble_eq_true rfl, Nat.le_of_ble_eq_true rfl⟩ hl.1 rfl (Nat.le_of_ble_eq_true rfl) ⟨Nat.le_of_ble_eq_true rfl, Nat.le_of_ble_eq_true rfl⟩ dX1_swearIn_80 (fun r_16169 L_16167 f_16168 H locs I Y => ?_)
              exact prI (post := fun r L1 f1 => SH (spC rs fc tc w q) nnC G ad L1 f1) S Y rfl (by decide) (by decide) hA1 I dX1_swearIn_83
            · have B_16152 : bn 0 0 r_16149 := bn_w (bn_eq c_16150 (show bn 0 0 (0 : Int32) from bn_k (by decide))) (by decide)
              refine lv_iconst (v := (-1)) hx hb dX1_swearIn_62 (by decide) ?_
              exact prI (post := fun r L1 f1 => SH (spC rs fc tc w q) nnC G ad L1 f1) S Y rfl (by decide) (by decide) hA1 I dX1_swearIn_63
set_option maxHeartbeats 4000000 in
set_option maxRecDepth 100000 in
theorem x_X1_breakOath {l : Launch} {G : GG}  {L : List Nat} {f : HF} {ad : Nat → Nat → Nat} {rs : RS} {fc : Int × Int} {tc w : Nat → Int × Int} {q : Nat → (Nat → Int32) → Prop} {i1 : Int32} (I : SH (spC rs fc tc w q) nnC G ad L f) (hW : WBp w 8) (hT : WBp tc 4) (hQ : QIp q) : PMi l yX1_breakOath cX1_breakOath 2 .boolean 4 0 0 G [.ref (ad 5 0), .int i1] L f (fun r L1 f1 => bn 0 1 r ∧ SH (spC rs fc tc w q) nnC G ad L1 f1) := by
  refine PMi.of (post := fun r L1 f1 => bn 0 1 r ∧ SH (spC rs fc tc w q) nnC G ad L1 f1) (own := RX1) (by decide) rfl (Nat.le_of_ble_eq_true rfl) (fun sz p e s m args below meth c A ls hA1 hname S Y hl => ?_)
  have hx := S.hx
  have hb := S.hb
  have hl : lv_has ls 2 [(0, .ref (ad 5 0)), (1, .int i1)] := hl
  refine lv_aload_n hx hb dX1_breakOath_0 rfl (lv_at hl 0 rfl) ?_
  obtain ⟨v_16232, p_ad_5_0, b_16233⟩ := opnC_5 (j := 0) I (by decide)
  have p_ad_5_0 : pt L f (ad 5 0) (.inr (1, [.ref (ad 1 0), .ref (ad 3 0), .ref (ad 4 0), .ref (ad 55 0), .int v_16232])) := p_ad_5_0
  refine pg_get S Y ok_X1 0 (by decide) kf1_15 (v := .ref (ad 1 0)) p_ad_5_0 rfl dX1_breakOath_1 ?_
  obtain ⟨v_16234, v_16236, v_16238, v_16240, v_16242, p_ad_1_0, b_16235, b_16237, b_16239, b_16241, b_16243⟩ := opnC_1 (j := 0) I (by decide)
  have p_ad_1_0 : pt L f (ad 1 0) (.inr (10, [.ref (ad 40 0), .ref (ad 41 0), .ref (ad 42 0), .ref (ad 10 0), .ref (ad 43 0), .ref (ad 20 0), .ref (ad 20 1), .ref (ad 20 2), .ref (ad 20 3), .ref (ad 20 4), .int v_16234, .int v_16236, .int v_16238, .int v_16240, .int v_16242])) := p_ad_1_0
  refine pg_getN S Y ok_X10 3 (by decide) kf1_40 (v := .ref (ad 10 0)) p_ad_1_0 rfl dX1_breakOath_4 ?_
  refine lv_iload_n hx hb dX1_breakOath_7 rfl (lv_at hl 1 rfl) ?_
  refine lv_iconst (v := 4) hx hb dX1_breakOath_8 (by decide) ?_
  refine cVp (As := [.int i1, .int 4]) (rest := []) S Y (x_X4_get (l := l) (j := 0) I hW hT hQ (by decide)) cw_X4_get km1_59 (I.opo (k := 10) (j := 0) (by decide) rfl).choose_spec.1 ok_X4.1 rfl rfl ⟨Nat.le_of_ble_eq_true rfl, Nat.le_of_ble_eq_true rfl⟩ hl.1 rfl (Nat.le_of_ble_eq_true rfl) ⟨Nat.le_of_ble_eq_true rfl, Nat.le_of_ble_eq_true rfl⟩ dX1_breakOath_9 (fun r_16244 H locs er_16244 Y => ?_)
  refine lv_if_eq (tgt := 17) hx hb dX1_breakOath_12 (by decide) (fun c_16245 => ?_) (fun c_16245 => ?_)
  · have B_16246 : bn 0 0 r_16244 := bn_w (bn_eq c_16245 (show bn 0 0 (0 : Int32) from bn_k (by decide))) (by decide)
    refine lv_aload_n hx hb dX1_breakOath_17 rfl (lv_at hl 0 rfl) ?_
    refine cVv (As := []) (rest := []) S Y (x_X1_remember (l := l) I hW hT hQ) cw_X1_remember km1_54 p_ad_5_0 ok_X1.1 rfl rfl ⟨Nat.le_of_ble_eq_true rfl, Nat.le_of_ble_eq_true rfl⟩ hl.1 rfl (Nat.le_of_ble_eq_true rfl) ⟨Nat.le_of_ble_eq_true rfl, Nat.le_of_ble_eq_true rfl⟩ dX1_breakOath_18 (fun L_16247 f_16248 H locs I Y => ?_)
    refine lv_aload_n hx hb dX1_breakOath_21 rfl (lv_at hl 0 rfl) ?_
    obtain ⟨v_16249, p_ad_5_0, b_16250⟩ := opnC_5 (j := 0) I (by decide)
    have p_ad_5_0 : pt L_16247 f_16248 (ad 5 0) (.inr (1, [.ref (ad 1 0), .ref (ad 3 0), .ref (ad 4 0), .ref (ad 55 0), .int v_16249])) := p_ad_5_0
    refine pg_get S Y ok_X1 0 (by decide) kf1_15 (v := .ref (ad 1 0)) p_ad_5_0 rfl dX1_breakOath_22 ?_
    obtain ⟨v_16251, v_16253, v_16255, v_16257, v_16259, p_ad_1_0, b_16252, b_16254, b_16256, b_16258, b_16260⟩ := opnC_1 (j := 0) I (by decide)
    have p_ad_1_0 : pt L_16247 f_16248 (ad 1 0) (.inr (10, [.ref (ad 40 0), .ref (ad 41 0), .ref (ad 42 0), .ref (ad 10 0), .ref (ad 43 0), .ref (ad 20 0), .ref (ad 20 1), .ref (ad 20 2), .ref (ad 20 3), .ref (ad 20 4), .int v_16251, .int v_16253, .int v_16255, .int v_16257, .int v_16259])) := p_ad_1_0
    refine pg_getN S Y ok_X10 3 (by decide) kf1_40 (v := .ref (ad 10 0)) p_ad_1_0 rfl dX1_breakOath_25 ?_
    refine lv_iload_n hx hb dX1_breakOath_28 rfl (lv_at hl 1 rfl) ?_
    refine lv_iconst (v := 4) hx hb dX1_breakOath_29 (by decide) ?_
    refine lv_iconst (v := 1) hx hb dX1_breakOath_30 (by decide) ?_
    refine cVv (As := [.int i1, .int 4, .int 1]) (rest := []) S Y (x_X4_put (l := l) (j := 0) I hW hT hQ (by decide)) cw_X4_put km1_63 (I.opo (k := 10) (j := 0) (by decide) rfl).choose_spec.1 ok_X4.1 rfl rfl ⟨Nat.le_of_ble_eq_true rfl, Nat.le_of_ble_eq_true rfl⟩ hl.1 rfl (Nat.le_of_ble_eq_true rfl) ⟨Nat.le_of_ble_eq_true rfl, Nat.le_of_ble_eq_true rfl⟩ dX1_breakOath_31 (fun L_16261 f_16262 H locs I Y => ?_)
    refine lv_iconst (v := 1) hx hb dX1_breakOath_34 (by decide) ?_
    exact prI (post := fun r L1 f1 => bn 0 1 r ∧ SH (spC rs fc tc w q) nnC G ad L1 f1) S Y rfl (by decide) (by decide) hA1 ⟨bn_w (show bn 1 1 (1 : Int32) from bn_k (by decide)) (by decide), I⟩ dX1_breakOath_35
  · refine lv_iconst (v := 0) hx hb dX1_breakOath_15 (by decide) ?_
    exact prI (post := fun r L1 f1 => bn 0 1 r ∧ SH (spC rs fc tc w q) nnC G ad L1 f1) S Y rfl (by decide) (by decide) hA1 ⟨bn_w (show bn 0 0 (0 : Int32) from bn_k (by decide)) (by decide), I⟩ dX1_breakOath_16
set_option maxHeartbeats 4000000 in
set_option maxRecDepth 100000 in
theorem x_X1_releaseOath {l : Launch} {G : GG}  {L : List Nat} {f : HF} {ad : Nat → Nat → Nat} {rs : RS} {fc : Int × Int} {tc w : Nat → Int × Int} {q : Nat → (Nat → Int32) → Prop} {i1 : Int32} (I : SH (spC rs fc tc w q) nnC G ad L f) (hW : WBp w 8) (hT : WBp tc 4) (hQ : QIp q) : PMi l yX1_releaseOath cX1_releaseOath 2 .boolean 4 0 0 G [.ref (ad 5 0), .int i1] L f (fun r L1 f1 => bn 0 1 r ∧ SH (spC rs fc tc w q) nnC G ad L1 f1) := by
  refine PMi.of (post := fun r L1 f1 => bn 0 1 r ∧ SH (spC rs fc tc w q) nnC G ad L1 f1) (own := RX1) (by decide) rfl (Nat.le_of_ble_eq_true rfl) (fun sz p e s m args below meth c A ls hA1 hname S Y hl => ?_)
  have hx := S.hx
  have hb := S.hb
  have hl : lv_has ls 2 [(0, .ref (ad 5 0)), (1, .int i1)] := hl
  refine lv_aload_n hx hb dX1_releaseOath_0 rfl (lv_at hl 0 rfl) ?_
  obtain ⟨v_16327, p_ad_5_0, b_16328⟩ := opnC_5 (j := 0) I (by decide)
  have p_ad_5_0 : pt L f (ad 5 0) (.inr (1, [.ref (ad 1 0), .ref (ad 3 0), .ref (ad 4 0), .ref (ad 55 0), .int v_16327])) := p_ad_5_0
  refine pg_get S Y ok_X1 0 (by decide) kf1_15 (v := .ref (ad 1 0)) p_ad_5_0 rfl dX1_releaseOath_1 ?_
  obtain ⟨v_16329, v_16331, v_16333, v_16335, v_16337, p_ad_1_0, b_16330, b_16332, b_16334, b_16336, b_16338⟩ := opnC_1 (j := 0) I (by decide)
  have p_ad_1_0 : pt L f (ad 1 0) (.inr (10, [.ref (ad 40 0), .ref (ad 41 0), .ref (ad 42 0), .ref (ad 10 0), .ref (ad 43 0), .ref (ad 20 0), .ref (ad 20 1), .ref (ad 20 2), .ref (ad 20 3), .ref (ad 20 4), .int v_16329, .int v_16331, .int v_16333, .int v_16335, .int v_16337])) := p_ad_1_0
  refine pg_getN S Y ok_X10 3 (by decide) kf1_40 (v := .ref (ad 10 0)) p_ad_1_0 rfl dX1_releaseOath_4 ?_
  refine lv_iload_n hx hb dX1_releaseOath_7 rfl (lv_at hl 1 rfl) ?_
  refine cVp (As := [.int i1]) (rest := []) S Y (x_X4_unreleased (l := l) (j := 0) I hW hT hQ (by decide)) cw_X4_unreleased km1_67 (I.opo (k := 10) (j := 0) (by decide) rfl).choose_spec.1 ok_X4.1 rfl rfl ⟨Nat.le_of_ble_eq_true rfl, Nat.le_of_ble_eq_true rfl⟩ hl.1 rfl (Nat.le_of_ble_eq_true rfl) ⟨Nat.le_of_ble_eq_true rfl, Nat.le_of_ble_eq_true rfl⟩ dX1_releaseOath_8 (fun r_16339 H locs er_16339 Y => ?_)
  refine lv_if_ne (tgt := 16) hx hb dX1_releaseOath_11 (by decide) (fun c_16340 => ?_) (fun c_16340 => ?_)
  · have B_16341 : bn 1 1 r_16339 := bn_w (bn_nel c_16340 er_16339 (show bn 0 0 (0 : Int32) from bn_k (by decide))) (by decide)
    refine lv_aload_n hx hb dX1_releaseOath_16 rfl (lv_at hl 0 rfl) ?_
    refine cVv (As := []) (rest := []) S Y (x_X1_remember (l := l) I hW hT hQ) cw_X1_remember km1_54 p_ad_5_0 ok_X1.1 rfl rfl ⟨Nat.le_of_ble_eq_true rfl, Nat.le_of_ble_eq_true rfl⟩ hl.1 rfl (Nat.le_of_ble_eq_true rfl) ⟨Nat.le_of_ble_eq_true rfl, Nat.le_of_ble_eq_true rfl⟩ dX1_releaseOath_17 (fun L_16343 f_16344 H locs I Y => ?_)
    refine lv_aload_n hx hb dX1_releaseOath_20 rfl (lv_at hl 0 rfl) ?_
    obtain ⟨v_16345, p_ad_5_0, b_16346⟩ := opnC_5 (j := 0) I (by decide)
    have p_ad_5_0 : pt L_16343 f_16344 (ad 5 0) (.inr (1, [.ref (ad 1 0), .ref (ad 3 0), .ref (ad 4 0), .ref (ad 55 0), .int v_16345])) := p_ad_5_0
    refine pg_get S Y ok_X1 0 (by decide) kf1_15 (v := .ref (ad 1 0)) p_ad_5_0 rfl dX1_releaseOath_21 ?_
    obtain ⟨v_16347, v_16349, v_16351, v_16353, v_16355, p_ad_1_0, b_16348, b_16350, b_16352, b_16354, b_16356⟩ := opnC_1 (j := 0) I (by decide)
    have p_ad_1_0 : pt L_16343 f_16344 (ad 1 0) (.inr (10, [.ref (ad 40 0), .ref (ad 41 0), .ref (ad 42 0), .ref (ad 10 0), .ref (ad 43 0), .ref (ad 20 0), .ref (ad 20 1), .ref (ad 20 2), .ref (ad 20 3), .ref (ad 20 4), .int v_16347, .int v_16349, .int v_16351, .int v_16353, .int v_16355])) := p_ad_1_0
    refine pg_getN S Y ok_X10 3 (by decide) kf1_40 (v := .ref (ad 10 0)) p_ad_1_0 rfl dX1_releaseOath_24 ?_
    refine lv_iload_n hx hb dX1_releaseOath_27 rfl (lv_at hl 1 rfl) ?_
    refine lv_iconst (v := 4) hx hb dX1_releaseOath_28 (by decide) ?_
    refine lv_iconst (v := 2) hx hb dX1_releaseOath_29 (by decide) ?_
    refine cVv (As := [.int i1, .int 4, .int 2]) (rest := []) S Y (x_X4_put (l := l) (j := 0) I hW hT hQ (by decide)) cw_X4_put km1_63 (I.opo (k := 10) (j := 0) (by decide) rfl).choose_spec.1 ok_X4.1 rfl rfl ⟨Nat.le_of_ble_eq_true rfl, Nat.le_of_ble_eq_true rfl⟩ hl.1 rfl (Nat.le_of_ble_eq_true rfl) ⟨Nat.le_of_ble_eq_true rfl, Nat.le_of_ble_eq_true rfl⟩ dX1_releaseOath_30 (fun L_16357 f_16358 H locs I Y => ?_)
    refine lv_iconst (v := 1) hx hb dX1_releaseOath_33 (by decide) ?_
    exact prI (post := fun r L1 f1 => bn 0 1 r ∧ SH (spC rs fc tc w q) nnC G ad L1 f1) S Y rfl (by decide) (by decide) hA1 ⟨bn_w (show bn 1 1 (1 : Int32) from bn_k (by decide)) (by decide), I⟩ dX1_releaseOath_34
  · have B_16342 : bn 0 0 r_16339 := bn_w (bn_eq c_16340 (show bn 0 0 (0 : Int32) from bn_k (by decide))) (by decide)
    refine lv_iconst (v := 0) hx hb dX1_releaseOath_14 (by decide) ?_
    exact prI (post := fun r L1 f1 => bn 0 1 r ∧ SH (spC rs fc tc w q) nnC G ad L1 f1) S Y rfl (by decide) (by decide) hA1 ⟨bn_w (show bn 0 0 (0 : Int32) from bn_k (by decide)) (by decide), I⟩ dX1_releaseOath_15
set_option maxHeartbeats 4000000 in
set_option maxRecDepth 100000 in
theorem x_X1_wearDown {l : Launch} {G : GG}  {L : List Nat} {f : HF} {ad : Nat → Nat → Nat} {rs : RS} {fc : Int × Int} {tc w : Nat → Int × Int} {q : Nat → (Nat → Int32) → Prop} {j : Nat} {i1 : Int32} (I : SH (spC rs fc tc w q) nnC G ad L f) (hW : WBp w 8) (hT : WBp tc 4) (hQ : QIp q) (hj : j < 63) : PMv l yX1_wearDown cX1_wearDown 6 4 0 0 G [.ref (ad 5 0), .ref (ad 10 j), .int i1] L f (fun L1 f1 => SH (spC rs fc tc w q) nnC G ad L1 f1) := by
  refine PMv.of (post := fun L1 f1 => SH (spC rs fc tc w q) nnC G ad L1 f1) (own := RX1) (by decide) rfl (Nat.le_of_ble_eq_true rfl) (fun sz p e s m args below meth c A ls hA1 hname S Y hl => ?_)
  have hx := S.hx
  have hb := S.hb
  have hl : lv_has ls 6 [(0, .ref (ad 5 0)), (1, .ref (ad 10 j)), (2, .int i1)] := hl
  have J_88 : ∀ (n88 : Nat) (y88_3 y88_4 : Int32) (L_88 : List Nat) (f_88 : HF) (H : Heap) (locs : List Loc) (ls : Array Slot), (SH (spC rs fc tc w q) nnC G ad L_88 f_88) → (bn 0 14 y88_3) → (bn 0 14 y88_4) → (((14 : Int) - y88_4.toInt).toNat = n88) → (DY G A s [] L_88 f_88 H locs) → (lv_has ls 6 [(0, .ref (ad 5 0)), (1, .ref (ad 10 j)), (2, .int i1), (3, .int y88_3), (4, .int y88_4)]) → W p l e (rmD 4 0 0) s m args below meth c H locs (0) (0) (MQ below (va_Qv (fun (u : List Nat × HF) => (fun L1 f1 => SH (spC rs fc tc w q) nnC G ad L1 f1) u.1 u.2) (fun u t => pOut G (va_A (va_pl L f) sz) u.1 u.2 t) (va_A (va_pl L f) sz)) args s 0 0 A) (F0 m 88 ls []) := by
    intro n88
    induction n88 using Nat.strongRecOn with
    | _ n88 ih88 =>
      intro y88_3 y88_4 L_88 f_88 H locs ls I b_y88_3 b_y88_4 hm88 Y hl
      refine lv_iload hx hb dX1_wearDown_88 (lv_at hl 4 rfl) ?_
      refine lv_iload_n hx hb dX1_wearDown_90 rfl (lv_at hl 3 rfl) ?_
      refine lv_icmp_ge (tgt := 113) hx hb dX1_wearDown_91 (by decide) (fun c_17137 => ?_) (fun c_17137 => ?_)
      · exact prV (post := fun L1 f1 => SH (spC rs fc tc w q) nnC G ad L1 f1) S Y (by decide) (by decide) hA1 I dX1_wearDown_113
      · have B_17138 : bn 1 14 y88_3 := bn_w (bn_gtl c_17137 b_y88_3 b_y88_4) (by decide)
        have B_17139 : bn 0 13 y88_4 := bn_w (bn_gtr c_17137 b_y88_3 b_y88_4) (by decide)
        refine lv_aload_n hx hb dX1_wearDown_94 rfl (lv_at hl 1 rfl) ?_
        refine lv_iload hx hb dX1_wearDown_95 (lv_at hl 4 rfl) ?_
        refine lv_aload_n hx hb dX1_wearDown_97 rfl (lv_at hl 0 rfl) ?_
        obtain ⟨v_17140, p_ad_5_0, b_17141⟩ := opnC_5 (j := 0) I (by decide)
        have p_ad_5_0 : pt L_88 f_88 (ad 5 0) (.inr (1, [.ref (ad 1 0), .ref (ad 3 0), .ref (ad 4 0), .ref (ad 55 0), .int v_17140])) := p_ad_5_0
        refine pg_get S Y ok_X1 3 (by decide) kf1_9 (v := .ref (ad 55 0)) p_ad_5_0 rfl dX1_wearDown_98 ?_
        refine lv_iload hx hb dX1_wearDown_101 (lv_at hl 4 rfl) ?_
        obtain ⟨g_17142, p_ad_55_0, o_17143⟩ := I.opi (k := 55) (j := 0) (by decide) rfl
        have p_ad_55_0 : pt L_88 f_88 (ad 55 0) (.inl (G.2 0, 14, .inl g_17142)) := p_ad_55_0
        obtain ⟨v_17144, ev_17144⟩ : ∃ z, z = g_17142 (y88_4 : Int32).toNatClampNeg := ⟨_, rfl⟩
        refine pg_iald S Y (v := v_17144) p_ad_55_0 (vp_bn B_17139 (by decide)) ev_17144.symm dX1_wearDown_103 ?_
        refine cVv (As := [.int y88_4, .int v_17144]) (rest := []) S Y (x_X4_moreWear (l := l) (j := j) I hW hT hQ hj) cw_X4_moreWear km1_88 (I.opo (k := 10) (j := j) hj rfl).choose_spec.1 ok_X4.1 rfl rfl ⟨Nat.le_of_ble_eq_true rfl, Nat.le_of_ble_eq_true rfl⟩ hl.1 rfl (Nat.le_of_ble_eq_true rfl) ⟨Nat.le_of_ble_eq_true rfl, Nat.le_of_ble_eq_true rfl⟩ dX1_wearDown_104 (fun L_17145 f_17146 H locs I Y => ?_)
        obtain ⟨x_17147, ex_17147⟩ : ∃ z : Int32, z = y88_4 + 1 := ⟨_, rfl⟩
        refine lv_iinc (v := x_17147) (lv' := [(4, .int x_17147), (0, .ref (ad 5 0)), (1, .ref (ad 10 j)), (2, .int i1), (3, .int y88_3)]) hx hb dX1_wearDown_107 hl (k := 4) rfl (by rw [ex_17147]; rfl) (by decide) rfl (fun ls hl => ?_)
        refine lv_goto (tgt := 88) hx hb dX1_wearDown_110 (by decide) ?_
        exact ih88 _ (by rw [← hm88]; exact ms_up (m := 1) ex_17147 (show bn 1 1 (1 : Int32) from bn_k (by decide)) B_17139 (bn_w (bn_eq ex_17147 (bn_add B_17139 (show bn 1 1 (1 : Int32) from bn_k (by decide)) (by decide))) (by decide) : bn 0 14 x_17147) (by decide)) y88_3 x_17147 _ _  _ _ _ I (bn_w B_17138 (by decide)) (bn_w (bn_eq ex_17147 (bn_add B_17139 (show bn 1 1 (1 : Int32) from bn_k (by decide)) (by decide))) (by decide)) rfl Y (lv_sub hl [1, 2, 3, 4, 0] rfl)
  have J_13 : ∀ (n13 : Nat) (y13_3 y13_4 : Int32) (L_13 : List Nat) (f_13 : HF) (H : Heap) (locs : List Loc) (ls : Array Slot), (SH (spC rs fc tc w q) nnC G ad L_13 f_13) → (bn 0 14 y13_3) → (bn 0 14 y13_4) → (((14 : Int) - y13_4.toInt).toNat = n13) → (DY G A s [] L_13 f_13 H locs) → (lv_has ls 6 [(0, .ref (ad 5 0)), (1, .ref (ad 10 j)), (2, .int i1), (3, .int y13_3), (4, .int y13_4)]) → W p l e (rmD 4 0 0) s m args below meth c H locs (0) (0) (MQ below (va_Qv (fun (u : List Nat × HF) => (fun L1 f1 => SH (spC rs fc tc w q) nnC G ad L1 f1) u.1 u.2) (fun u t => pOut G (va_A (va_pl L f) sz) u.1 u.2 t) (va_A (va_pl L f) sz)) args s 0 0 A) (F0 m 13 ls []) := by
    intro n13
    induction n13 using Nat.strongRecOn with
    | _ n13 ih13 =>
      intro y13_3 y13_4 L_13 f_13 H locs ls I b_y13_3 b_y13_4 hm13 Y hl
      refine lv_iload hx hb dX1_wearDown_13 (lv_at hl 4 rfl) ?_
      refine lv_iload_n hx hb dX1_wearDown_15 rfl (lv_at hl 3 rfl) ?_
      refine lv_icmp_ge (tgt := 85) hx hb dX1_wearDown_16 (by decide) (fun c_17148 => ?_) (fun c_17148 => ?_)
      · refine lv_iconst (v := 0) hx hb dX1_wearDown_85 (by decide) ?_
        refine lv_istore (lv' := [(4, .int 0), (0, .ref (ad 5 0)), (1, .ref (ad 10 j)), (2, .int i1), (3, .int y13_3)]) hx hb dX1_wearDown_86 hl (by decide) rfl (fun ls hl => ?_)
        exact J_88 _ y13_3 0 _ _  _ _ _ I (bn_w b_y13_3 (by decide)) (bn_w (show bn 0 0 (0 : Int32) from bn_k (by decide)) (by decide)) rfl Y (lv_sub hl [1, 2, 3, 4, 0] rfl)
      · have B_17149 : bn 1 14 y13_3 := bn_w (bn_gtl c_17148 b_y13_3 b_y13_4) (by decide)
        have B_17150 : bn 0 13 y13_4 := bn_w (bn_gtr c_17148 b_y13_3 b_y13_4) (by decide)
        refine lv_aload_n hx hb dX1_wearDown_19 rfl (lv_at hl 1 rfl) ?_
        refine lv_iload hx hb dX1_wearDown_20 (lv_at hl 4 rfl) ?_
        refine lv_iconst (v := 1) hx hb dX1_wearDown_22 (by decide) ?_
        refine cVp (As := [.int y13_4, .int 1]) (rest := []) S Y (x_X4_get (l := l) (j := j) I hW hT hQ hj) cw_X4_get km1_59 (I.opo (k := 10) (j := j) hj rfl).choose_spec.1 ok_X4.1 rfl rfl ⟨Nat.le_of_ble_eq_true rfl, Nat.le_of_ble_eq_true rfl⟩ hl.1 rfl (Nat.le_of_ble_eq_true rfl) ⟨Nat.le_of_ble_eq_true rfl, Nat.le_of_ble_eq_true rfl⟩ dX1_wearDown_23 (fun r_17151 H locs er_17151 Y => ?_)
        refine lv_iload_n hx hb dX1_wearDown_26 rfl (lv_at hl 2 rfl) ?_
        refine lv_icmp_ne (tgt := 43) hx hb dX1_wearDown_27 (by decide) (fun c_17152 => ?_) (fun c_17152 => ?_)
        · refine lv_iconst (v := 0) hx hb dX1_wearDown_43 (by decide) ?_
          refine lv_istore (lv' := [(5, .int 0), (0, .ref (ad 5 0)), (1, .ref (ad 10 j)), (2, .int i1), (3, .int y13_3), (4, .int y13_4)]) hx hb dX1_wearDown_44 hl (by decide) rfl (fun ls hl => ?_)
          refine lv_aload_n hx hb dX1_wearDown_46 rfl (lv_at hl 1 rfl) ?_
          obtain ⟨v_17153, p_ad_5_0, b_17154⟩ := opnC_5 (j := 0) I (by decide)
          have p_ad_5_0 : pt L_13 f_13 (ad 5 0) (.inr (1, [.ref (ad 1 0), .ref (ad 3 0), .ref (ad 4 0), .ref (ad 55 0), .int v_17153])) := p_ad_5_0
          refine pg_get S Y ok_X1 3 (by decide) kf1_9 (v := .ref (ad 55 0)) p_ad_5_0 rfl dX1_wearDown_47 ?_
          refine lv_iload hx hb dX1_wearDown_50 (lv_at hl 5 rfl) ?_
          refine lv_iload hx hb dX1_wearDown_52 (lv_at hl 0 rfl) ?_
          refine lv_if_eq (tgt := 77) hx hb dX1_wearDown_54 (by decide) (fun _ => ?_) (fun h => absurd (by decide) h)
          refine lv_iconst (v := 0) hx hb dX1_wearDown_77 (by decide) ?_
          obtain ⟨g_17155, p_ad_55_0, o_17156⟩ := I.opi (k := 55) (j := 0) (by decide) rfl
          have p_ad_55_0 : pt L_13 f_13 (ad 55 0) (.inl (G.2 0, 14, .inl g_17155)) := p_ad_55_0
          refine pg_iast S Y p_ad_55_0 (vp_bn B_17150 (by decide)) dX1_wearDown_78 (fun f_17158 H locs ef_17158 Y => ?_)
          obtain ⟨g_17157, eg_17157⟩ : ∃ z, z = upd (g_17155) (y13_4 : Int32).toNatClampNeg 0 := ⟨_, rfl⟩
          rw [← eg_17157] at ef_17158
          have p_ad_5_0 := p_ad_5_0.up ef_17158 (I.ne (k := 5) (j := 0) (k' := 55) (j' := 0) (by decide) (by decide) (Or.inl (by decide)))
          have p_ad_55_0 := p_ad_55_0.me ef_17158
          have I := I.up (k := 55) (j := 0) (by decide) ef_17158 (okE_a (g := g_17157) trivial)
          obtain ⟨x_17159, ex_17159⟩ : ∃ z : Int32, z = y13_4 + 1 := ⟨_, rfl⟩
          refine lv_iinc (v := x_17159) (lv' := [(4, .int x_17159), (5, .int 0), (0, .ref (ad 5 0)), (1, .ref (ad 10 j)), (2, .int i1), (3, .int y13_3)]) hx hb dX1_wearDown_79 hl (k := 5) rfl (by rw [ex_17159]; rfl) (by decide) rfl (fun ls hl => ?_)
          refine lv_goto (tgt := 13) hx hb dX1_wearDown_82 (by decide) ?_
          exact ih13 _ (by rw [← hm13]; exact ms_up (m := 1) ex_17159 (show bn 1 1 (1 : Int32) from bn_k (by decide)) B_17150 (bn_w (bn_eq ex_17159 (bn_add B_17150 (show bn 1 1 (1 : Int32) from bn_k (by decide)) (by decide))) (by decide) : bn 0 14 x_17159) (by decide)) y13_3 x_17159 _ _  _ _ _ I (bn_w B_17149 (by decide)) (bn_w (bn_eq ex_17159 (bn_add B_17150 (show bn 1 1 (1 : Int32) from bn_k (by decide)) (by decide))) (by decide)) rfl Y (lv_sub hl [2, 3, 4, 5, 0] rfl)
        · refine lv_aload_n hx hb dX1_wearDown_30 rfl (lv_at hl 1 rfl) ?_
          refine lv_iload hx hb dX1_wearDown_31 (lv_at hl 4 rfl) ?_
          refine cVp (As := [.int y13_4]) (rest := []) S Y (x_X4_unreleased (l := l) (j := j) I hW hT hQ hj) cw_X4_unreleased km1_67 (I.opo (k := 10) (j := j) hj rfl).choose_spec.1 ok_X4.1 rfl rfl ⟨Nat.le_of_ble_eq_true rfl, Nat.le_of_ble_eq_true rfl⟩ hl.1 rfl (Nat.le_of_ble_eq_true rfl) ⟨Nat.le_of_ble_eq_true rfl, Nat.le_of_ble_eq_true rfl⟩ dX1_wearDown_33 (fun r_17160 H locs er_17160 Y => ?_)
          refine lv_if_eq (tgt := 43) hx hb dX1_wearDown_36 (by decide) (fun c_17161 => ?_) (fun c_17161 => ?_)
          · have B_17162 : bn 0 0 r_17160 := bn_w (bn_eq c_17161 (show bn 0 0 (0 : Int32) from bn_k (by decide))) (by decide)
            refine lv_iconst (v := 0) hx hb dX1_wearDown_43 (by decide) ?_
            refine lv_istore (lv' := [(5, .int 0), (0, .ref (ad 5 0)), (1, .ref (ad 10 j)), (2, .int i1), (3, .int y13_3), (4, .int y13_4)]) hx hb dX1_wearDown_44 hl (by decide) rfl (fun ls hl => ?_)
            refine lv_aload_n hx hb dX1_wearDown_46 rfl (lv_at hl 1 rfl) ?_
            obtain ⟨v_17164, p_ad_5_0, b_17165⟩ := opnC_5 (j := 0) I (by decide)
            have p_ad_5_0 : pt L_13 f_13 (ad 5 0) (.inr (1, [.ref (ad 1 0), .ref (ad 3 0), .ref (ad 4 0), .ref (ad 55 0), .int v_17164])) := p_ad_5_0
            refine pg_get S Y ok_X1 3 (by decide) kf1_9 (v := .ref (ad 55 0)) p_ad_5_0 rfl dX1_wearDown_47 ?_
            refine lv_iload hx hb dX1_wearDown_50 (lv_at hl 5 rfl) ?_
            refine lv_iload hx hb dX1_wearDown_52 (lv_at hl 0 rfl) ?_
            refine lv_if_eq (tgt := 77) hx hb dX1_wearDown_54 (by decide) (fun _ => ?_) (fun h => absurd (by decide) h)
            refine lv_iconst (v := 0) hx hb dX1_wearDown_77 (by decide) ?_
            obtain ⟨g_17166, p_ad_55_0, o_17167⟩ := I.opi (k := 55) (j := 0) (by decide) rfl
            have p_ad_55_0 : pt L_13 f_13 (ad 55 0) (.inl (G.2 0, 14, .inl g_17166)) := p_ad_55_0
            refine pg_iast S Y p_ad_55_0 (vp_bn B_17150 (by decide)) dX1_wearDown_78 (fun f_17169 H locs ef_17169 Y => ?_)
            obtain ⟨g_17168, eg_17168⟩ : ∃ z, z = upd (g_17166) (y13_4 : Int32).toNatClampNeg 0 := ⟨_, rfl⟩
            rw [← eg_17168] at ef_17169
            have p_ad_5_0 := p_ad_5_0.up ef_17169 (I.ne (k := 5) (j := 0) (k' := 55) (j' := 0) (by decide) (by decide) (Or.inl (by decide)))
            have p_ad_55_0 := p_ad_55_0.me ef_17169
            have I := I.up (k := 55) (j := 0) (by decide) ef_17169 (okE_a (g := g_17168) trivial)
            obtain ⟨x_17170, ex_17170⟩ : ∃ z : Int32, z = y13_4 + 1 := ⟨_, rfl⟩
            refine lv_iinc (v := x_17170) (lv' := [(4, .int x_17170), (5, .int 0), (0, .ref (ad 5 0)), (1, .ref (ad 10 j)), (2, .int i1), (3, .int y13_3)]) hx hb dX1_wearDown_79 hl (k := 5) rfl (by rw [ex_17170]; rfl) (by decide) rfl (fun ls hl => ?_)
            refine lv_goto (tgt := 13) hx hb dX1_wearDown_82 (by decide) ?_
            exact ih13 _ (by rw [← hm13]; exact ms_up (m := 1) ex_17170 (show bn 1 1 (1 : Int32) from bn_k (by decide)) B_17150 (bn_w (bn_eq ex_17170 (bn_add B_17150 (show bn 1 1 (1 : Int32) from bn_k (by decide)) (by decide))) (by decide) : bn 0 14 x_17170) (by decide)) y13_3 x_17170 _ _  _ _ _ I (bn_w B_17149 (by decide)) (bn_w (bn_eq ex_17170 (bn_add B_17150 (show bn 1 1 (1 : Int32) from bn_k (by decide)) (by decide))) (by decide)) rfl Y (lv_sub hl [2, 3, 4, 5, 0] rfl)
          · have B_17163 : bn 1 1 r_17160 := bn_w (bn_nel c_17161 er_17160 (show bn 0 0 (0 : Int32) from bn_k (by decide))) (by decide)
            refine lv_iconst (v := 1) hx hb dX1_wearDown_39 (by decide) ?_
            refine lv_goto (tgt := 44) hx hb dX1_wearDown_40 (by decide) ?_
            refine lv_istore (lv' := [(5, .int 1), (0, .ref (ad 5 0)), (1, .ref (ad 10 j)), (2, .int i1), (3, .int y13_3), (4, .int y13_4)]) hx hb dX1_wearDown_44 hl (by decide) rfl (fun ls hl => ?_)
            refine lv_aload_n hx hb dX1_wearDown_46 rfl (lv_at hl 1 rfl) ?_
            obtain ⟨v_17171, p_ad_5_0, b_17172⟩ := opnC_5 (j := 0) I (by decide)
            have p_ad_5_0 : pt L_13 f_13 (ad 5 0) (.inr (1, [.ref (ad 1 0), .ref (ad 3 0), .ref (ad 4 0), .ref (ad 55 0), .int v_17171])) := p_ad_5_0
            refine pg_get S Y ok_X1 3 (by decide) kf1_9 (v := .ref (ad 55 0)) p_ad_5_0 rfl dX1_wearDown_47 ?_
            refine lv_iload hx hb dX1_wearDown_50 (lv_at hl 5 rfl) ?_
            refine lv_iload hx hb dX1_wearDown_52 (lv_at hl 0 rfl) ?_
            refine lv_if_eq (tgt := 77) hx hb dX1_wearDown_54 (by decide) (fun h => absurd h (by decide)) (fun _ => ?_)
            refine lv_aload_n hx hb dX1_wearDown_57 rfl (lv_at hl 1 rfl) ?_
            refine pg_get S Y ok_X1 1 (by decide) kf1_19 (v := .ref (ad 3 0)) p_ad_5_0 rfl dX1_wearDown_58 ?_
            refine lv_aload_n hx hb dX1_wearDown_61 rfl (lv_at hl 1 rfl) ?_
            refine pg_get S Y ok_X1 0 (by decide) kf1_15 (v := .ref (ad 1 0)) p_ad_5_0 rfl dX1_wearDown_62 ?_
            obtain ⟨v_17173, v_17175, v_17177, v_17179, v_17181, p_ad_1_0, b_17174, b_17176, b_17178, b_17180, b_17182⟩ := opnC_1 (j := 0) I (by decide)
            have p_ad_1_0 : pt L_13 f_13 (ad 1 0) (.inr (10, [.ref (ad 40 0), .ref (ad 41 0), .ref (ad 42 0), .ref (ad 10 0), .ref (ad 43 0), .ref (ad 20 0), .ref (ad 20 1), .ref (ad 20 2), .ref (ad 20 3), .ref (ad 20 4), .int v_17173, .int v_17175, .int v_17177, .int v_17179, .int v_17181])) := p_ad_1_0
            refine pg_getN S Y ok_X10 12 (by decide) kf1_79 (v := .int v_17177) p_ad_1_0 rfl dX1_wearDown_65 ?_
            refine lv_aload_n hx hb dX1_wearDown_68 rfl (lv_at hl 2 rfl) ?_
            refine lv_iload hx hb dX1_wearDown_69 (lv_at hl 5 rfl) ?_
            refine cVi (As := [.int v_17177, .ref (ad 10 j), .int y13_4]) (rest := [.int y13_4, .ref (ad 55 0)]) S Y (x_X3_wearOf (l := l) (j := j) I hW hT hQ hj) cw_X3_wearOf km1_82 (I.opo (k := 3) (j := 0) (by decide) rfl).choose_spec.1 ok_X3.1 rfl rfl ⟨Nat.le_of_ble_eq_true rfl, Nat.le_of_ble_eq_true rfl⟩ hl.1 rfl (Nat.le_of_ble_eq_true rfl) ⟨Nat.le_of_ble_eq_true rfl, Nat.le_of_ble_eq_true rfl⟩ dX1_wearDown_71 (fun r_17185 L_17183 f_17184 H locs I Y => ?_)
            refine lv_goto (tgt := 78) hx hb dX1_wearDown_74 (by decide) ?_
            obtain ⟨g_17186, p_ad_55_0, o_17187⟩ := I.opi (k := 55) (j := 0) (by decide) rfl
            have p_ad_55_0 : pt L_17183 f_17184 (ad 55 0) (.inl (G.2 0, 14, .inl g_17186)) := p_ad_55_0
            refine pg_iast S Y p_ad_55_0 (vp_bn B_17150 (by decide)) dX1_wearDown_78 (fun f_17189 H locs ef_17189 Y => ?_)
            obtain ⟨g_17188, eg_17188⟩ : ∃ z, z = upd (g_17186) (y13_4 : Int32).toNatClampNeg r_17185 := ⟨_, rfl⟩
            rw [← eg_17188] at ef_17189
            have p_ad_55_0 := p_ad_55_0.me ef_17189
            have I := I.up (k := 55) (j := 0) (by decide) ef_17189 (okE_a (g := g_17188) trivial)
            obtain ⟨x_17190, ex_17190⟩ : ∃ z : Int32, z = y13_4 + 1 := ⟨_, rfl⟩
            refine lv_iinc (v := x_17190) (lv' := [(4, .int x_17190), (5, .int 1), (0, .ref (ad 5 0)), (1, .ref (ad 10 j)), (2, .int i1), (3, .int y13_3)]) hx hb dX1_wearDown_79 hl (k := 5) rfl (by rw [ex_17190]; rfl) (by decide) rfl (fun ls hl => ?_)
            refine lv_goto (tgt := 13) hx hb dX1_wearDown_82 (by decide) ?_
            exact ih13 _ (by rw [← hm13]; exact ms_up (m := 1) ex_17190 (show bn 1 1 (1 : Int32) from bn_k (by decide)) B_17150 (bn_w (bn_eq ex_17190 (bn_add B_17150 (show bn 1 1 (1 : Int32) from bn_k (by decide)) (by decide))) (by decide) : bn 0 14 x_17190) (by decide)) y13_3 x_17190 _ _  _ _ _ I (bn_w B_17149 (by decide)) (bn_w (bn_eq ex_17190 (bn_add B_17150 (show bn 1 1 (1 : Int32) from bn_k (by decide)) (by decide))) (by decide)) rfl Y (lv_sub hl [2, 3, 4, 5, 0] rfl)
  refine lv_aload_n hx hb dX1_wearDown_0 rfl (lv_at hl 1 rfl) ?_
  obtain ⟨v_17191, v_17193, v_17195, v_17197, v_17199, p_ad_10_j, b_17192, b_17194, b_17196, b_17198, b_17200⟩ := opnC_10 (j := j) I hj
  have p_ad_10_j : pt L f (ad 10 j) (.inr (4, [.ref (ad 11 j), .ref (ad 12 j), .int v_17191, .int v_17193, .int v_17195, .int v_17197, .int v_17199])) := p_ad_10_j
  refine pg_getN S Y ok_X4 2 (by decide) kf1_44 (v := .int v_17191) p_ad_10_j rfl dX1_wearDown_1 ?_
  refine lv_bipush (v := 14) hx hb dX1_wearDown_4 (by decide) ?_
  refine va_mmin hx hb (S.ml.trans hl.1.symm) S.ow (S.w km1_74) (S.w kMs_min) (S.w kMi) (S.w kMc_min) (Nat.le_of_ble_eq_true rfl) (Nat.le_of_ble_eq_true rfl) (by decide) (by decide) dX1_wearDown_6 ?_
  refine lv_topi (fun x_17201 ex_17201 => ?_)
  refine lv_istore_n (lv' := [(3, .int x_17201), (0, .ref (ad 5 0)), (1, .ref (ad 10 j)), (2, .int i1)]) hx hb dX1_wearDown_9 rfl hl (by decide) rfl (fun ls hl => ?_)
  refine lv_iconst (v := 0) hx hb dX1_wearDown_10 (by decide) ?_
  refine lv_istore (lv' := [(4, .int 0), (3, .int x_17201), (0, .ref (ad 5 0)), (1, .ref (ad 10 j)), (2, .int i1)]) hx hb dX1_wearDown_11 hl (by decide) rfl (fun ls hl => ?_)
  exact J_13 _ x_17201 0 _ _  _ _ _ I (bn_w (bn_eq ex_17201 (bn_min b_17192 (show bn 14 14 (14 : Int32) from bn_k (by decide)))) (by decide)) (bn_w (show bn 0 0 (0 : Int32) from bn_k (by decide)) (by decide)) rfl Y (lv_sub hl [2, 3, 4, 1, 0] rfl)
set_option maxHeartbeats 4000000 in
set_option maxRecDepth 100000 in
theorem x_X1_kneelDown {l : Launch} {G : GG}  {L : List Nat} {f : HF} {ad : Nat → Nat → Nat} {rs : RS} {fc : Int × Int} {tc w : Nat → Int × Int} {q : Nat → (Nat → Int32) → Prop} {i1 : Int32} (I : SH (spC rs fc tc w q) nnC G ad L f) (hW : WBp w 8) (hT : WBp tc 4) (hQ : QIp q) : PMi l yX1_kneelDown cX1_kneelDown 2 .boolean 5 0 0 G [.ref (ad 5 0), .int i1] L f (fun r L1 f1 => bn 0 1 r ∧ SH (spC rs fc tc w q) nnC G ad L1 f1) := by
  refine PMi.of (post := fun r L1 f1 => bn 0 1 r ∧ SH (spC rs fc tc w q) nnC G ad L1 f1) (own := RX1) (by decide) rfl (Nat.le_of_ble_eq_true rfl) (fun sz p e s m args below meth c A ls hA1 hname S Y hl => ?_)
  have hx := S.hx
  have hb := S.hb
  have hl : lv_has ls 2 [(0, .ref (ad 5 0)), (1, .int i1)] := hl
  refine lv_aload_n hx hb dX1_kneelDown_0 rfl (lv_at hl 0 rfl) ?_
  obtain ⟨v_17246, p_ad_5_0, b_17247⟩ := opnC_5 (j := 0) I (by decide)
  have p_ad_5_0 : pt L f (ad 5 0) (.inr (1, [.ref (ad 1 0), .ref (ad 3 0), .ref (ad 4 0), .ref (ad 55 0), .int v_17246])) := p_ad_5_0
  refine pg_get S Y ok_X1 0 (by decide) kf1_15 (v := .ref (ad 1 0)) p_ad_5_0 rfl dX1_kneelDown_1 ?_
  refine lv_iload_n hx hb dX1_kneelDown_4 rfl (lv_at hl 1 rfl) ?_
  refine cVp (As := [.int i1]) (rest := []) S Y (x_X10_has (l := l) I hW hT hQ) cw_X10_has km1_36 (I.opo (k := 1) (j := 0) (by decide) rfl).choose_spec.1 ok_X10.1 rfl rfl ⟨Nat.le_of_ble_eq_true rfl, Nat.le_of_ble_eq_true rfl⟩ hl.1 rfl (Nat.le_of_ble_eq_true rfl) ⟨Nat.le_of_ble_eq_true rfl, Nat.le_of_ble_eq_true rfl⟩ dX1_kneelDown_5 (fun r_17248 H locs er_17248 Y => ?_)
  refine lv_if_ne (tgt := 13) hx hb dX1_kneelDown_8 (by decide) (fun c_17249 => ?_) (fun c_17249 => ?_)
  · have B_17250 : bn 1 1 r_17248 := bn_w (bn_nel c_17249 er_17248 (show bn 0 0 (0 : Int32) from bn_k (by decide))) (by decide)
    refine lv_aload_n hx hb dX1_kneelDown_13 rfl (lv_at hl 0 rfl) ?_
    refine cVv (As := []) (rest := []) S Y (x_X1_remember (l := l) I hW hT hQ) cw_X1_remember km1_54 p_ad_5_0 ok_X1.1 rfl rfl ⟨Nat.le_of_ble_eq_true rfl, Nat.le_of_ble_eq_true rfl⟩ hl.1 rfl (Nat.le_of_ble_eq_true rfl) ⟨Nat.le_of_ble_eq_true rfl, Nat.le_of_ble_eq_true rfl⟩ dX1_kneelDown_14 (fun L_17252 f_17253 H locs I Y => ?_)
    refine lv_aload_n hx hb dX1_kneelDown_17 rfl (lv_at hl 0 rfl) ?_
    refine lv_aload_n hx hb dX1_kneelDown_18 rfl (lv_at hl 0 rfl) ?_
    obtain ⟨v_17254, p_ad_5_0, b_17255⟩ := opnC_5 (j := 0) I (by decide)
    have p_ad_5_0 : pt L_17252 f_17253 (ad 5 0) (.inr (1, [.ref (ad 1 0), .ref (ad 3 0), .ref (ad 4 0), .ref (ad 55 0), .int v_17254])) := p_ad_5_0
    refine pg_get S Y ok_X1 0 (by decide) kf1_15 (v := .ref (ad 1 0)) p_ad_5_0 rfl dX1_kneelDown_19 ?_
    obtain ⟨v_17256, v_17258, v_17260, v_17262, v_17264, p_ad_1_0, b_17257, b_17259, b_17261, b_17263, b_17265⟩ := opnC_1 (j := 0) I (by decide)
    have p_ad_1_0 : pt L_17252 f_17253 (ad 1 0) (.inr (10, [.ref (ad 40 0), .ref (ad 41 0), .ref (ad 42 0), .ref (ad 10 0), .ref (ad 43 0), .ref (ad 20 0), .ref (ad 20 1), .ref (ad 20 2), .ref (ad 20 3), .ref (ad 20 4), .int v_17256, .int v_17258, .int v_17260, .int v_17262, .int v_17264])) := p_ad_1_0
    refine pg_getN S Y ok_X10 3 (by decide) kf1_40 (v := .ref (ad 10 0)) p_ad_1_0 rfl dX1_kneelDown_22 ?_
    refine lv_iload_n hx hb dX1_kneelDown_25 rfl (lv_at hl 1 rfl) ?_
    refine cVv (As := [.ref (ad 10 0), .int i1]) (rest := []) S Y (x_X1_wearDown (l := l) (j := 0) I hW hT hQ (by decide)) cw_X1_wearDown km1_70 p_ad_5_0 ok_X1.1 rfl rfl ⟨Nat.le_of_ble_eq_true rfl, Nat.le_of_ble_eq_true rfl⟩ hl.1 rfl (Nat.le_of_ble_eq_true rfl) ⟨Nat.le_of_ble_eq_true rfl, Nat.le_of_ble_eq_true rfl⟩ dX1_kneelDown_26 (fun L_17266 f_17267 H locs I Y => ?_)
    refine lv_iconst (v := 1) hx hb dX1_kneelDown_29 (by decide) ?_
    exact prI (post := fun r L1 f1 => bn 0 1 r ∧ SH (spC rs fc tc w q) nnC G ad L1 f1) S Y rfl (by decide) (by decide) hA1 ⟨bn_w (show bn 1 1 (1 : Int32) from bn_k (by decide)) (by decide), I⟩ dX1_kneelDown_30
  · have B_17251 : bn 0 0 r_17248 := bn_w (bn_eq c_17249 (show bn 0 0 (0 : Int32) from bn_k (by decide))) (by decide)
    refine lv_iconst (v := 0) hx hb dX1_kneelDown_11 (by decide) ?_
    exact prI (post := fun r L1 f1 => bn 0 1 r ∧ SH (spC rs fc tc w q) nnC G ad L1 f1) S Y rfl (by decide) (by decide) hA1 ⟨bn_w (show bn 0 0 (0 : Int32) from bn_k (by decide)) (by decide), I⟩ dX1_kneelDown_12
set_option maxHeartbeats 4000000 in
set_option maxRecDepth 100000 in
theorem x_X1_slide {l : Launch} {G : GG}  {L : List Nat} {f : HF} {ad : Nat → Nat → Nat} {rs : RS} {fc : Int × Int} {tc w : Nat → Int × Int} {q : Nat → (Nat → Int32) → Prop} {i1 i2 : Int32} (I : SH (spC rs fc tc w q) nnC G ad L f) (hW : WBp w 8) (hT : WBp tc 4) (hQ : QIp q) : PMi l yX1_slide cX1_slide 4 .boolean 4 0 0 G [.ref (ad 5 0), .int i1, .int i2] L f (fun r L1 f1 => bn 0 1 r ∧ SH (spC rs fc tc w q) nnC G ad L1 f1) := by
  refine PMi.of (post := fun r L1 f1 => bn 0 1 r ∧ SH (spC rs fc tc w q) nnC G ad L1 f1) (own := RX1) (by decide) rfl (Nat.le_of_ble_eq_true rfl) (fun sz p e s m args below meth c A ls hA1 hname S Y hl => ?_)
  have hx := S.hx
  have hb := S.hb
  have hl : lv_has ls 4 [(0, .ref (ad 5 0)), (1, .int i1), (2, .int i2)] := hl
  have J_28 : ∀ (n28 : Nat) (y28_3 : Int32) (L_28 : List Nat) (f_28 : HF) (H : Heap) (locs : List Loc) (ls : Array Slot), (SH (spC rs fc tc w q) nnC G ad L_28 f_28) → (bn 0 14 y28_3) → (((14 : Int) - y28_3.toInt).toNat = n28) → (DY G A s [] L_28 f_28 H locs) → (lv_has ls 4 [(0, .ref (ad 5 0)), (1, .int i1), (2, .int i2), (3, .int y28_3)]) → W p l e (rmD 4 0 0) s m args below meth c H locs (0) (0) (MQ below (va_Qi (fun r (u : List Nat × HF) => (fun r L1 f1 => bn 0 1 r ∧ SH (spC rs fc tc w q) nnC G ad L1 f1) r u.1 u.2) (fun u t => pOut G (va_A (va_pl L f) sz) u.1 u.2 t) (va_A (va_pl L f) sz)) args s 0 0 A) (F0 m 28 ls []) := by
    intro n28
    induction n28 using Nat.strongRecOn with
    | _ n28 ih28 =>
      intro y28_3 L_28 f_28 H locs ls I b_y28_3 hm28 Y hl
      refine lv_iload_n hx hb dX1_slide_28 rfl (lv_at hl 3 rfl) ?_
      refine lv_aload_n hx hb dX1_slide_29 rfl (lv_at hl 0 rfl) ?_
      obtain ⟨v_17768, p_ad_5_0, b_17769⟩ := opnC_5 (j := 0) I (by decide)
      have p_ad_5_0 : pt L_28 f_28 (ad 5 0) (.inr (1, [.ref (ad 1 0), .ref (ad 3 0), .ref (ad 4 0), .ref (ad 55 0), .int v_17768])) := p_ad_5_0
      refine pg_get S Y ok_X1 0 (by decide) kf1_15 (v := .ref (ad 1 0)) p_ad_5_0 rfl dX1_slide_30 ?_
      obtain ⟨v_17770, v_17772, v_17774, v_17776, v_17778, p_ad_1_0, b_17771, b_17773, b_17775, b_17777, b_17779⟩ := opnC_1 (j := 0) I (by decide)
      have p_ad_1_0 : pt L_28 f_28 (ad 1 0) (.inr (10, [.ref (ad 40 0), .ref (ad 41 0), .ref (ad 42 0), .ref (ad 10 0), .ref (ad 43 0), .ref (ad 20 0), .ref (ad 20 1), .ref (ad 20 2), .ref (ad 20 3), .ref (ad 20 4), .int v_17770, .int v_17772, .int v_17774, .int v_17776, .int v_17778])) := p_ad_1_0
      refine pg_getN S Y ok_X10 3 (by decide) kf1_40 (v := .ref (ad 10 0)) p_ad_1_0 rfl dX1_slide_33 ?_
      obtain ⟨v_17780, v_17782, v_17784, v_17786, v_17788, p_ad_10_0, b_17781, b_17783, b_17785, b_17787, b_17789⟩ := opnC_10 (j := 0) I (by decide)
      have p_ad_10_0 : pt L_28 f_28 (ad 10 0) (.inr (4, [.ref (ad 11 0), .ref (ad 12 0), .int v_17780, .int v_17782, .int v_17784, .int v_17786, .int v_17788])) := p_ad_10_0
      refine pg_getN S Y ok_X4 2 (by decide) kf1_44 (v := .int v_17780) p_ad_10_0 rfl dX1_slide_36 ?_
      refine lv_icmp_ge (tgt := 93) hx hb dX1_slide_39 (by decide) (fun c_17790 => ?_) (fun c_17790 => ?_)
      · refine lv_iconst (v := 1) hx hb dX1_slide_93 (by decide) ?_
        exact prI (post := fun r L1 f1 => bn 0 1 r ∧ SH (spC rs fc tc w q) nnC G ad L1 f1) S Y rfl (by decide) (by decide) hA1 ⟨bn_w (show bn 1 1 (1 : Int32) from bn_k (by decide)) (by decide), I⟩ dX1_slide_94
      · have B_17791 : bn 1 14 v_17780 := bn_w (bn_gtl c_17790 b_17781 b_y28_3) (by decide)
        have B_17792 : bn 0 13 y28_3 := bn_w (bn_gtr c_17790 b_17781 b_y28_3) (by decide)
        refine lv_aload_n hx hb dX1_slide_42 rfl (lv_at hl 0 rfl) ?_
        refine pg_get S Y ok_X1 0 (by decide) kf1_15 (v := .ref (ad 1 0)) p_ad_5_0 rfl dX1_slide_43 ?_
        refine pg_getN S Y ok_X10 3 (by decide) kf1_40 (v := .ref (ad 10 0)) p_ad_1_0 rfl dX1_slide_46 ?_
        refine lv_iload_n hx hb dX1_slide_49 rfl (lv_at hl 3 rfl) ?_
        refine lv_iconst (v := 1) hx hb dX1_slide_50 (by decide) ?_
        refine cVp (As := [.int y28_3, .int 1]) (rest := []) S Y (x_X4_get (l := l) (j := 0) I hW hT hQ (by decide)) cw_X4_get km1_59 p_ad_10_0 ok_X4.1 rfl rfl ⟨Nat.le_of_ble_eq_true rfl, Nat.le_of_ble_eq_true rfl⟩ hl.1 rfl (Nat.le_of_ble_eq_true rfl) ⟨Nat.le_of_ble_eq_true rfl, Nat.le_of_ble_eq_true rfl⟩ dX1_slide_51 (fun r_17793 H locs er_17793 Y => ?_)
        refine lv_iload_n hx hb dX1_slide_54 rfl (lv_at hl 1 rfl) ?_
        refine lv_icmp_ne (tgt := 87) hx hb dX1_slide_55 (by decide) (fun c_17794 => ?_) (fun c_17794 => ?_)
        · obtain ⟨x_17795, ex_17795⟩ : ∃ z : Int32, z = y28_3 + 1 := ⟨_, rfl⟩
          refine lv_iinc (v := x_17795) (lv' := [(3, .int x_17795), (0, .ref (ad 5 0)), (1, .int i1), (2, .int i2)]) hx hb dX1_slide_87 hl (k := 3) rfl (by rw [ex_17795]; rfl) (by decide) rfl (fun ls hl => ?_)
          refine lv_goto (tgt := 28) hx hb dX1_slide_90 (by decide) ?_
          exact ih28 _ (by rw [← hm28]; exact ms_up (m := 1) ex_17795 (show bn 1 1 (1 : Int32) from bn_k (by decide)) B_17792 (bn_w (bn_eq ex_17795 (bn_add B_17792 (show bn 1 1 (1 : Int32) from bn_k (by decide)) (by decide))) (by decide) : bn 0 14 x_17795) (by decide)) x_17795 _ _  _ _ _ I (bn_w (bn_eq ex_17795 (bn_add B_17792 (show bn 1 1 (1 : Int32) from bn_k (by decide)) (by decide))) (by decide)) rfl Y (lv_sub hl [1, 2, 3, 0] rfl)
        · refine lv_aload_n hx hb dX1_slide_58 rfl (lv_at hl 0 rfl) ?_
          refine pg_get S Y ok_X1 0 (by decide) kf1_15 (v := .ref (ad 1 0)) p_ad_5_0 rfl dX1_slide_59 ?_
          refine pg_getN S Y ok_X10 3 (by decide) kf1_40 (v := .ref (ad 10 0)) p_ad_1_0 rfl dX1_slide_62 ?_
          refine lv_iload_n hx hb dX1_slide_65 rfl (lv_at hl 3 rfl) ?_
          refine lv_iconst (v := 2) hx hb dX1_slide_66 (by decide) ?_
          refine cVp (As := [.int y28_3, .int 2]) (rest := []) S Y (x_X4_get (l := l) (j := 0) I hW hT hQ (by decide)) cw_X4_get km1_59 p_ad_10_0 ok_X4.1 rfl rfl ⟨Nat.le_of_ble_eq_true rfl, Nat.le_of_ble_eq_true rfl⟩ hl.1 rfl (Nat.le_of_ble_eq_true rfl) ⟨Nat.le_of_ble_eq_true rfl, Nat.le_of_ble_eq_true rfl⟩ dX1_slide_67 (fun r_17796 H locs er_17796 Y => ?_)
          refine lv_iload_n hx hb dX1_slide_70 rfl (lv_at hl 2 rfl) ?_
          refine lv_icmp_ne (tgt := 87) hx hb dX1_slide_71 (by decide) (fun c_17797 => ?_) (fun c_17797 => ?_)
          · obtain ⟨x_17798, ex_17798⟩ : ∃ z : Int32, z = y28_3 + 1 := ⟨_, rfl⟩
            refine lv_iinc (v := x_17798) (lv' := [(3, .int x_17798), (0, .ref (ad 5 0)), (1, .int i1), (2, .int i2)]) hx hb dX1_slide_87 hl (k := 3) rfl (by rw [ex_17798]; rfl) (by decide) rfl (fun ls hl => ?_)
            refine lv_goto (tgt := 28) hx hb dX1_slide_90 (by decide) ?_
            exact ih28 _ (by rw [← hm28]; exact ms_up (m := 1) ex_17798 (show bn 1 1 (1 : Int32) from bn_k (by decide)) B_17792 (bn_w (bn_eq ex_17798 (bn_add B_17792 (show bn 1 1 (1 : Int32) from bn_k (by decide)) (by decide))) (by decide) : bn 0 14 x_17798) (by decide)) x_17798 _ _  _ _ _ I (bn_w (bn_eq ex_17798 (bn_add B_17792 (show bn 1 1 (1 : Int32) from bn_k (by decide)) (by decide))) (by decide)) rfl Y (lv_sub hl [1, 2, 3, 0] rfl)
          · refine lv_aload_n hx hb dX1_slide_74 rfl (lv_at hl 0 rfl) ?_
            refine pg_get S Y ok_X1 0 (by decide) kf1_15 (v := .ref (ad 1 0)) p_ad_5_0 rfl dX1_slide_75 ?_
            refine pg_getN S Y ok_X10 3 (by decide) kf1_40 (v := .ref (ad 10 0)) p_ad_1_0 rfl dX1_slide_78 ?_
            refine lv_iload_n hx hb dX1_slide_81 rfl (lv_at hl 3 rfl) ?_
            refine lv_bipush (v := 30) hx hb dX1_slide_82 (by decide) ?_
            refine cVv (As := [.int y28_3, .int 30]) (rest := []) S Y (x_X4_moreWear (l := l) (j := 0) I hW hT hQ (by decide)) cw_X4_moreWear km1_88 p_ad_10_0 ok_X4.1 rfl rfl ⟨Nat.le_of_ble_eq_true rfl, Nat.le_of_ble_eq_true rfl⟩ hl.1 rfl (Nat.le_of_ble_eq_true rfl) ⟨Nat.le_of_ble_eq_true rfl, Nat.le_of_ble_eq_true rfl⟩ dX1_slide_84 (fun L_17799 f_17800 H locs I Y => ?_)
            obtain ⟨x_17801, ex_17801⟩ : ∃ z : Int32, z = y28_3 + 1 := ⟨_, rfl⟩
            refine lv_iinc (v := x_17801) (lv' := [(3, .int x_17801), (0, .ref (ad 5 0)), (1, .int i1), (2, .int i2)]) hx hb dX1_slide_87 hl (k := 3) rfl (by rw [ex_17801]; rfl) (by decide) rfl (fun ls hl => ?_)
            refine lv_goto (tgt := 28) hx hb dX1_slide_90 (by decide) ?_
            exact ih28 _ (by rw [← hm28]; exact ms_up (m := 1) ex_17801 (show bn 1 1 (1 : Int32) from bn_k (by decide)) B_17792 (bn_w (bn_eq ex_17801 (bn_add B_17792 (show bn 1 1 (1 : Int32) from bn_k (by decide)) (by decide))) (by decide) : bn 0 14 x_17801) (by decide)) x_17801 _ _  _ _ _ I (bn_w (bn_eq ex_17801 (bn_add B_17792 (show bn 1 1 (1 : Int32) from bn_k (by decide)) (by decide))) (by decide)) rfl Y (lv_sub hl [1, 2, 3, 0] rfl)
  refine lv_aload_n hx hb dX1_slide_0 rfl (lv_at hl 0 rfl) ?_
  obtain ⟨v_17802, p_ad_5_0, b_17803⟩ := opnC_5 (j := 0) I (by decide)
  have p_ad_5_0 : pt L f (ad 5 0) (.inr (1, [.ref (ad 1 0), .ref (ad 3 0), .ref (ad 4 0), .ref (ad 55 0), .int v_17802])) := p_ad_5_0
  refine pg_get S Y ok_X1 0 (by decide) kf1_15 (v := .ref (ad 1 0)) p_ad_5_0 rfl dX1_slide_1 ?_
  refine lv_iload_n hx hb dX1_slide_4 rfl (lv_at hl 1 rfl) ?_
  refine cVp (As := [.int i1]) (rest := []) S Y (x_X10_has (l := l) I hW hT hQ) cw_X10_has km1_36 (I.opo (k := 1) (j := 0) (by decide) rfl).choose_spec.1 ok_X10.1 rfl rfl ⟨Nat.le_of_ble_eq_true rfl, Nat.le_of_ble_eq_true rfl⟩ hl.1 rfl (Nat.le_of_ble_eq_true rfl) ⟨Nat.le_of_ble_eq_true rfl, Nat.le_of_ble_eq_true rfl⟩ dX1_slide_5 (fun r_17804 H locs er_17804 Y => ?_)
  refine lv_if_eq (tgt := 20) hx hb dX1_slide_8 (by decide) (fun c_17805 => ?_) (fun c_17805 => ?_)
  · have B_17806 : bn 0 0 r_17804 := bn_w (bn_eq c_17805 (show bn 0 0 (0 : Int32) from bn_k (by decide))) (by decide)
    refine lv_iconst (v := 0) hx hb dX1_slide_20 (by decide) ?_
    exact prI (post := fun r L1 f1 => bn 0 1 r ∧ SH (spC rs fc tc w q) nnC G ad L1 f1) S Y rfl (by decide) (by decide) hA1 ⟨bn_w (show bn 0 0 (0 : Int32) from bn_k (by decide)) (by decide), I⟩ dX1_slide_21
  · have B_17807 : bn 1 1 r_17804 := bn_w (bn_nel c_17805 er_17804 (show bn 0 0 (0 : Int32) from bn_k (by decide))) (by decide)
    refine lv_iload_n hx hb dX1_slide_11 rfl (lv_at hl 2 rfl) ?_
    refine lv_iconst (v := 0) hx hb dX1_slide_12 (by decide) ?_
    refine lv_iconst (v := 1) hx hb dX1_slide_13 (by decide) ?_
    refine cNp (As := [.int i2, .int 0, .int 1]) (rest := []) S Y (x_X11_within (l := l) ) cw_X11_within km1_50 rfl ⟨Nat.le_of_ble_eq_true rfl, Nat.le_of_ble_eq_true rfl⟩ hl.1 rfl (Nat.le_of_ble_eq_true rfl) ⟨Nat.le_of_ble_eq_true rfl, Nat.le_of_ble_eq_true rfl⟩ dX1_slide_14 (fun r_17808 H locs er_17808 Y => ?_)
    refine lv_if_ne (tgt := 22) hx hb dX1_slide_17 (by decide) (fun c_17809 => ?_) (fun c_17809 => ?_)
    · have B_17810 : bn 1 1 r_17808 := bn_w (bn_nel c_17809 er_17808 (show bn 0 0 (0 : Int32) from bn_k (by decide))) (by decide)
      refine lv_aload_n hx hb dX1_slide_22 rfl (lv_at hl 0 rfl) ?_
      refine cVv (As := []) (rest := []) S Y (x_X1_remember (l := l) I hW hT hQ) cw_X1_remember km1_54 p_ad_5_0 ok_X1.1 rfl rfl ⟨Nat.le_of_ble_eq_true rfl, Nat.le_of_ble_eq_true rfl⟩ hl.1 rfl (Nat.le_of_ble_eq_true rfl) ⟨Nat.le_of_ble_eq_true rfl, Nat.le_of_ble_eq_true rfl⟩ dX1_slide_23 (fun L_17812 f_17813 H locs I Y => ?_)
      refine lv_iconst (v := 0) hx hb dX1_slide_26 (by decide) ?_
      refine lv_istore_n (lv' := [(3, .int 0), (0, .ref (ad 5 0)), (1, .int i1), (2, .int i2)]) hx hb dX1_slide_27 rfl hl (by decide) rfl (fun ls hl => ?_)
      exact J_28 _ 0 _ _  _ _ _ I (bn_w (show bn 0 0 (0 : Int32) from bn_k (by decide)) (by decide)) rfl Y (lv_sub hl [1, 2, 3, 0] rfl)
    · have B_17811 : bn 0 0 r_17808 := bn_w (bn_eq c_17809 (show bn 0 0 (0 : Int32) from bn_k (by decide))) (by decide)
      refine lv_iconst (v := 0) hx hb dX1_slide_20 (by decide) ?_
      exact prI (post := fun r L1 f1 => bn 0 1 r ∧ SH (spC rs fc tc w q) nnC G ad L1 f1) S Y rfl (by decide) (by decide) hA1 ⟨bn_w (show bn 0 0 (0 : Int32) from bn_k (by decide)) (by decide), I⟩ dX1_slide_21
set_option maxHeartbeats 4000000 in
set_option maxRecDepth 100000 in
theorem x_X1_strikeOut {l : Launch} {G : GG}  {L : List Nat} {f : HF} {ad : Nat → Nat → Nat} {rs : RS} {fc : Int × Int} {tc w : Nat → Int × Int} {q : Nat → (Nat → Int32) → Prop} {i1 : Int32} (I : SH (spC rs fc tc w q) nnC G ad L f) (hW : WBp w 8) (hT : WBp tc 4) (hQ : QIp q) : PMi l yX1_strikeOut cX1_strikeOut 6 .int 6 0 0 G [.ref (ad 5 0), .int i1] L f (fun r L1 f1 => SH (spC rs fc tc w q) nnC G ad L1 f1) := by
  refine PMi.of (post := fun r L1 f1 => SH (spC rs fc tc w q) nnC G ad L1 f1) (own := RX1) (by decide) rfl (Nat.le_of_ble_eq_true rfl) (fun sz p e s m args below meth c A ls hA1 hname S Y hl => ?_)
  have hx := S.hx
  have hb := S.hb
  have hl : lv_has ls 6 [(0, .ref (ad 5 0)), (1, .int i1)] := hl
  have J_70 : ∀ (n70 : Nat) (y70_3 y70_4 : Int32) (L_70 : List Nat) (f_70 : HF) (H : Heap) (locs : List Loc) (ls : Array Slot), (SH (spC rs fc tc w q) nnC G ad L_70 f_70) → (bn (-2147483648) 9 y70_3) → (bn 0 14 y70_4) → (((14 : Int) - y70_4.toInt).toNat = n70) → (DY G A s [] L_70 f_70 H locs) → (lv_has ls 6 [(0, .ref (ad 5 0)), (1, .int i1), (2, .ref (ad 10 0)), (3, .int y70_3), (4, .int y70_4)]) → W p l e (rmD 6 0 0) s m args below meth c H locs (0) (0) (MQ below (va_Qi (fun r (u : List Nat × HF) => (fun r L1 f1 => SH (spC rs fc tc w q) nnC G ad L1 f1) r u.1 u.2) (fun u t => pOut G (va_A (va_pl L f) sz) u.1 u.2 t) (va_A (va_pl L f) sz)) args s 0 0 A) (F0 m 70 ls []) := by
    intro n70
    induction n70 using Nat.strongRecOn with
    | _ n70 ih70 =>
      intro y70_3 y70_4 L_70 f_70 H locs ls I b_y70_3 b_y70_4 hm70 Y hl
      refine lv_iload hx hb dX1_strikeOut_70 (lv_at hl 4 rfl) ?_
      refine lv_aload_n hx hb dX1_strikeOut_72 rfl (lv_at hl 2 rfl) ?_
      obtain ⟨v_18572, v_18574, v_18576, v_18578, v_18580, p_ad_10_0, b_18573, b_18575, b_18577, b_18579, b_18581⟩ := opnC_10 (j := 0) I (by decide)
      have p_ad_10_0 : pt L_70 f_70 (ad 10 0) (.inr (4, [.ref (ad 11 0), .ref (ad 12 0), .int v_18572, .int v_18574, .int v_18576, .int v_18578, .int v_18580])) := p_ad_10_0
      refine pg_getN S Y ok_X4 2 (by decide) kf1_44 (v := .int v_18572) p_ad_10_0 rfl dX1_strikeOut_73 ?_
      refine lv_icmp_ge (tgt := 131) hx hb dX1_strikeOut_76 (by decide) (fun c_18582 => ?_) (fun c_18582 => ?_)
      · refine lv_iload_n hx hb dX1_strikeOut_131 rfl (lv_at hl 3 rfl) ?_
        exact prI (post := fun r L1 f1 => SH (spC rs fc tc w q) nnC G ad L1 f1) S Y rfl (by decide) (by decide) hA1 I dX1_strikeOut_132
      · have B_18583 : bn 1 14 v_18572 := bn_w (bn_gtl c_18582 b_18573 b_y70_4) (by decide)
        have B_18584 : bn 0 13 y70_4 := bn_w (bn_gtr c_18582 b_18573 b_y70_4) (by decide)
        refine lv_iload_n hx hb dX1_strikeOut_79 rfl (lv_at hl 1 rfl) ?_
        refine lv_iload hx hb dX1_strikeOut_80 (lv_at hl 4 rfl) ?_
        refine lv_ishr hx hb dX1_strikeOut_82 ?_
        refine lv_topi (fun x_18585 ex_18585 => ?_)
        refine lv_iconst (v := 1) hx hb dX1_strikeOut_83 (by decide) ?_
        refine lv_iand hx hb dX1_strikeOut_84 ?_
        refine lv_topi (fun x_18586 ex_18586 => ?_)
        refine lv_if_eq (tgt := 125) hx hb dX1_strikeOut_85 (by decide) (fun c_18587 => ?_) (fun c_18587 => ?_)
        · have B_18588 : bn 0 0 x_18586 := bn_w (bn_eq c_18587 (show bn 0 0 (0 : Int32) from bn_k (by decide))) (by decide)
          obtain ⟨x_18589, ex_18589⟩ : ∃ z : Int32, z = y70_4 + 1 := ⟨_, rfl⟩
          refine lv_iinc (v := x_18589) (lv' := [(4, .int x_18589), (0, .ref (ad 5 0)), (1, .int i1), (2, .ref (ad 10 0)), (3, .int y70_3)]) hx hb dX1_strikeOut_125 hl (k := 4) rfl (by rw [ex_18589]; rfl) (by decide) rfl (fun ls hl => ?_)
          refine lv_goto (tgt := 70) hx hb dX1_strikeOut_128 (by decide) ?_
          exact ih70 _ (by rw [← hm70]; exact ms_up (m := 1) ex_18589 (show bn 1 1 (1 : Int32) from bn_k (by decide)) B_18584 (bn_w (bn_eq ex_18589 (bn_add B_18584 (show bn 1 1 (1 : Int32) from bn_k (by decide)) (by decide))) (by decide) : bn 0 14 x_18589) (by decide)) y70_3 x_18589 _ _  _ _ _ I (bn_w b_y70_3 (by decide)) (bn_w (bn_eq ex_18589 (bn_add B_18584 (show bn 1 1 (1 : Int32) from bn_k (by decide)) (by decide))) (by decide)) rfl Y (lv_sub hl [1, 2, 3, 4, 0] rfl)
        · refine lv_aload_n hx hb dX1_strikeOut_88 rfl (lv_at hl 2 rfl) ?_
          refine lv_iload hx hb dX1_strikeOut_89 (lv_at hl 4 rfl) ?_
          refine lv_iconst (v := 3) hx hb dX1_strikeOut_91 (by decide) ?_
          refine cVp (As := [.int y70_4, .int 3]) (rest := []) S Y (x_X4_get (l := l) (j := 0) I hW hT hQ (by decide)) cw_X4_get km1_59 p_ad_10_0 ok_X4.1 rfl rfl ⟨Nat.le_of_ble_eq_true rfl, Nat.le_of_ble_eq_true rfl⟩ hl.1 rfl (Nat.le_of_ble_eq_true rfl) ⟨Nat.le_of_ble_eq_true rfl, Nat.le_of_ble_eq_true rfl⟩ dX1_strikeOut_92 (fun r_18590 H locs er_18590 Y => ?_)
          refine lv_iload_n hx hb dX1_strikeOut_95 rfl (lv_at hl 3 rfl) ?_
          refine lv_isub hx hb dX1_strikeOut_96 ?_
          refine lv_topi (fun x_18591 ex_18591 => ?_)
          refine lv_istore (lv' := [(5, .int x_18591), (0, .ref (ad 5 0)), (1, .int i1), (2, .ref (ad 10 0)), (3, .int y70_3), (4, .int y70_4)]) hx hb dX1_strikeOut_97 hl (by decide) rfl (fun ls hl => ?_)
          refine lv_aload_n hx hb dX1_strikeOut_99 rfl (lv_at hl 3 rfl) ?_
          refine lv_iload hx hb dX1_strikeOut_100 (lv_at hl 5 rfl) ?_
          refine lv_iconst (v := 3) hx hb dX1_strikeOut_102 (by decide) ?_
          refine lv_iload hx hb dX1_strikeOut_103 (lv_at hl 0 rfl) ?_
          refine cVv (As := [.int y70_4, .int 3, .int x_18591]) (rest := []) S Y (x_X4_put (l := l) (j := 0) I hW hT hQ (by decide)) cw_X4_put km1_63 p_ad_10_0 ok_X4.1 rfl rfl ⟨Nat.le_of_ble_eq_true rfl, Nat.le_of_ble_eq_true rfl⟩ hl.1 rfl (Nat.le_of_ble_eq_true rfl) ⟨Nat.le_of_ble_eq_true rfl, Nat.le_of_ble_eq_true rfl⟩ dX1_strikeOut_105 (fun L_18592 f_18593 H locs I Y => ?_)
          refine lv_aload_n hx hb dX1_strikeOut_108 rfl (lv_at hl 3 rfl) ?_
          refine lv_iload hx hb dX1_strikeOut_109 (lv_at hl 5 rfl) ?_
          refine lv_iconst (v := 4) hx hb dX1_strikeOut_111 (by decide) ?_
          refine lv_iload hx hb dX1_strikeOut_112 (lv_at hl 0 rfl) ?_
          refine lv_if_ne (tgt := 121) hx hb dX1_strikeOut_114 (by decide) (fun c_18594 => ?_) (fun c_18594 => ?_)
          · refine lv_iconst (v := 0) hx hb dX1_strikeOut_121 (by decide) ?_
            refine cVv (As := [.int y70_4, .int 4, .int 0]) (rest := []) S Y (x_X4_put (l := l) (j := 0) I hW hT hQ (by decide)) cw_X4_put km1_63 (I.opo (k := 10) (j := 0) (by decide) rfl).choose_spec.1 ok_X4.1 rfl rfl ⟨Nat.le_of_ble_eq_true rfl, Nat.le_of_ble_eq_true rfl⟩ hl.1 rfl (Nat.le_of_ble_eq_true rfl) ⟨Nat.le_of_ble_eq_true rfl, Nat.le_of_ble_eq_true rfl⟩ dX1_strikeOut_122 (fun L_18596 f_18597 H locs I Y => ?_)
            obtain ⟨x_18598, ex_18598⟩ : ∃ z : Int32, z = y70_4 + 1 := ⟨_, rfl⟩
            refine lv_iinc (v := x_18598) (lv' := [(4, .int x_18598), (5, .int x_18591), (0, .ref (ad 5 0)), (1, .int i1), (2, .ref (ad 10 0)), (3, .int y70_3)]) hx hb dX1_strikeOut_125 hl (k := 5) rfl (by rw [ex_18598]; rfl) (by decide) rfl (fun ls hl => ?_)
            refine lv_goto (tgt := 70) hx hb dX1_strikeOut_128 (by decide) ?_
            exact ih70 _ (by rw [← hm70]; exact ms_up (m := 1) ex_18598 (show bn 1 1 (1 : Int32) from bn_k (by decide)) B_18584 (bn_w (bn_eq ex_18598 (bn_add B_18584 (show bn 1 1 (1 : Int32) from bn_k (by decide)) (by decide))) (by decide) : bn 0 14 x_18598) (by decide)) y70_3 x_18598 _ _  _ _ _ I (bn_w b_y70_3 (by decide)) (bn_w (bn_eq ex_18598 (bn_add B_18584 (show bn 1 1 (1 : Int32) from bn_k (by decide)) (by decide))) (by decide)) rfl Y (lv_sub hl [2, 3, 4, 5, 0] rfl)
          · have B_18595 : bn 0 0 x_18591 := bn_w (bn_eq c_18594 (show bn 0 0 (0 : Int32) from bn_k (by decide))) (by decide)
            refine lv_iconst (v := 2) hx hb dX1_strikeOut_117 (by decide) ?_
            refine lv_goto (tgt := 122) hx hb dX1_strikeOut_118 (by decide) ?_
            refine cVv (As := [.int y70_4, .int 4, .int 2]) (rest := []) S Y (x_X4_put (l := l) (j := 0) I hW hT hQ (by decide)) cw_X4_put km1_63 (I.opo (k := 10) (j := 0) (by decide) rfl).choose_spec.1 ok_X4.1 rfl rfl ⟨Nat.le_of_ble_eq_true rfl, Nat.le_of_ble_eq_true rfl⟩ hl.1 rfl (Nat.le_of_ble_eq_true rfl) ⟨Nat.le_of_ble_eq_true rfl, Nat.le_of_ble_eq_true rfl⟩ dX1_strikeOut_122 (fun L_18599 f_18600 H locs I Y => ?_)
            obtain ⟨x_18601, ex_18601⟩ : ∃ z : Int32, z = y70_4 + 1 := ⟨_, rfl⟩
            refine lv_iinc (v := x_18601) (lv' := [(4, .int x_18601), (5, .int x_18591), (0, .ref (ad 5 0)), (1, .int i1), (2, .ref (ad 10 0)), (3, .int y70_3)]) hx hb dX1_strikeOut_125 hl (k := 5) rfl (by rw [ex_18601]; rfl) (by decide) rfl (fun ls hl => ?_)
            refine lv_goto (tgt := 70) hx hb dX1_strikeOut_128 (by decide) ?_
            exact ih70 _ (by rw [← hm70]; exact ms_up (m := 1) ex_18601 (show bn 1 1 (1 : Int32) from bn_k (by decide)) B_18584 (bn_w (bn_eq ex_18601 (bn_add B_18584 (show bn 1 1 (1 : Int32) from bn_k (by decide)) (by decide))) (by decide) : bn 0 14 x_18601) (by decide)) y70_3 x_18601 _ _  _ _ _ I (bn_w b_y70_3 (by decide)) (bn_w (bn_eq ex_18601 (bn_add B_18584 (show bn 1 1 (1 : Int32) from bn_k (by decide)) (by decide))) (by decide)) rfl Y (lv_sub hl [2, 3, 4, 5, 0] rfl)
  have J_31 : ∀ (n31 : Nat) (y31_3 y31_4 : Int32) (L_31 : List Nat) (f_31 : HF) (H : Heap) (locs : List Loc) (ls : Array Slot), (SH (spC rs fc tc w q) nnC G ad L_31 f_31) → (bn (-2147483648) 9 y31_3) → (bn 0 14 y31_4) → (((14 : Int) - y31_4.toInt).toNat = n31) → (DY G A s [] L_31 f_31 H locs) → (lv_has ls 6 [(0, .ref (ad 5 0)), (1, .int i1), (2, .ref (ad 10 0)), (3, .int y31_3), (4, .int y31_4)]) → W p l e (rmD 6 0 0) s m args below meth c H locs (0) (0) (MQ below (va_Qi (fun r (u : List Nat × HF) => (fun r L1 f1 => SH (spC rs fc tc w q) nnC G ad L1 f1) r u.1 u.2) (fun u t => pOut G (va_A (va_pl L f) sz) u.1 u.2 t) (va_A (va_pl L f) sz)) args s 0 0 A) (F0 m 31 ls []) := by
    intro n31
    induction n31 using Nat.strongRecOn with
    | _ n31 ih31 =>
      intro y31_3 y31_4 L_31 f_31 H locs ls I b_y31_3 b_y31_4 hm31 Y hl
      refine lv_iload hx hb dX1_strikeOut_31 (lv_at hl 4 rfl) ?_
      refine lv_aload_n hx hb dX1_strikeOut_33 rfl (lv_at hl 2 rfl) ?_
      obtain ⟨v_18602, v_18604, v_18606, v_18608, v_18610, p_ad_10_0, b_18603, b_18605, b_18607, b_18609, b_18611⟩ := opnC_10 (j := 0) I (by decide)
      have p_ad_10_0 : pt L_31 f_31 (ad 10 0) (.inr (4, [.ref (ad 11 0), .ref (ad 12 0), .int v_18602, .int v_18604, .int v_18606, .int v_18608, .int v_18610])) := p_ad_10_0
      refine pg_getN S Y ok_X4 2 (by decide) kf1_44 (v := .int v_18602) p_ad_10_0 rfl dX1_strikeOut_34 ?_
      refine lv_icmp_ge (tgt := 67) hx hb dX1_strikeOut_37 (by decide) (fun c_18612 => ?_) (fun c_18612 => ?_)
      · refine lv_iconst (v := 0) hx hb dX1_strikeOut_67 (by decide) ?_
        refine lv_istore (lv' := [(4, .int 0), (0, .ref (ad 5 0)), (1, .int i1), (2, .ref (ad 10 0)), (3, .int y31_3)]) hx hb dX1_strikeOut_68 hl (by decide) rfl (fun ls hl => ?_)
        exact J_70 _ y31_3 0 _ _  _ _ _ I (bn_w b_y31_3 (by decide)) (bn_w (show bn 0 0 (0 : Int32) from bn_k (by decide)) (by decide)) rfl Y (lv_sub hl [1, 2, 3, 4, 0] rfl)
      · have B_18613 : bn 1 14 v_18602 := bn_w (bn_gtl c_18612 b_18603 b_y31_4) (by decide)
        have B_18614 : bn 0 13 y31_4 := bn_w (bn_gtr c_18612 b_18603 b_y31_4) (by decide)
        refine lv_iload_n hx hb dX1_strikeOut_40 rfl (lv_at hl 1 rfl) ?_
        refine lv_iload hx hb dX1_strikeOut_41 (lv_at hl 4 rfl) ?_
        refine lv_ishr hx hb dX1_strikeOut_43 ?_
        refine lv_topi (fun x_18615 ex_18615 => ?_)
        refine lv_iconst (v := 1) hx hb dX1_strikeOut_44 (by decide) ?_
        refine lv_iand hx hb dX1_strikeOut_45 ?_
        refine lv_topi (fun x_18616 ex_18616 => ?_)
        refine lv_if_eq (tgt := 61) hx hb dX1_strikeOut_46 (by decide) (fun c_18617 => ?_) (fun c_18617 => ?_)
        · have B_18618 : bn 0 0 x_18616 := bn_w (bn_eq c_18617 (show bn 0 0 (0 : Int32) from bn_k (by decide))) (by decide)
          obtain ⟨x_18619, ex_18619⟩ : ∃ z : Int32, z = y31_4 + 1 := ⟨_, rfl⟩
          refine lv_iinc (v := x_18619) (lv' := [(4, .int x_18619), (0, .ref (ad 5 0)), (1, .int i1), (2, .ref (ad 10 0)), (3, .int y31_3)]) hx hb dX1_strikeOut_61 hl (k := 4) rfl (by rw [ex_18619]; rfl) (by decide) rfl (fun ls hl => ?_)
          refine lv_goto (tgt := 31) hx hb dX1_strikeOut_64 (by decide) ?_
          exact ih31 _ (by rw [← hm31]; exact ms_up (m := 1) ex_18619 (show bn 1 1 (1 : Int32) from bn_k (by decide)) B_18614 (bn_w (bn_eq ex_18619 (bn_add B_18614 (show bn 1 1 (1 : Int32) from bn_k (by decide)) (by decide))) (by decide) : bn 0 14 x_18619) (by decide)) y31_3 x_18619 _ _  _ _ _ I (bn_w b_y31_3 (by decide)) (bn_w (bn_eq ex_18619 (bn_add B_18614 (show bn 1 1 (1 : Int32) from bn_k (by decide)) (by decide))) (by decide)) rfl Y (lv_sub hl [1, 2, 3, 4, 0] rfl)
        · refine lv_iload_n hx hb dX1_strikeOut_49 rfl (lv_at hl 3 rfl) ?_
          refine lv_aload_n hx hb dX1_strikeOut_50 rfl (lv_at hl 2 rfl) ?_
          refine lv_iload hx hb dX1_strikeOut_51 (lv_at hl 4 rfl) ?_
          refine lv_iconst (v := 3) hx hb dX1_strikeOut_53 (by decide) ?_
          refine cVp (As := [.int y31_4, .int 3]) (rest := [.int y31_3]) S Y (x_X4_get (l := l) (j := 0) I hW hT hQ (by decide)) cw_X4_get km1_59 p_ad_10_0 ok_X4.1 rfl rfl ⟨Nat.le_of_ble_eq_true rfl, Nat.le_of_ble_eq_true rfl⟩ hl.1 rfl (Nat.le_of_ble_eq_true rfl) ⟨Nat.le_of_ble_eq_true rfl, Nat.le_of_ble_eq_true rfl⟩ dX1_strikeOut_54 (fun r_18620 H locs er_18620 Y => ?_)
          refine va_mmin hx hb (S.ml.trans hl.1.symm) S.ow (S.w km1_74) (S.w kMs_min) (S.w kMi) (S.w kMc_min) (Nat.le_of_ble_eq_true rfl) (Nat.le_of_ble_eq_true rfl) (by decide) (by decide) dX1_strikeOut_57 ?_
          refine lv_topi (fun x_18621 ex_18621 => ?_)
          refine lv_istore_n (lv' := [(3, .int x_18621), (0, .ref (ad 5 0)), (1, .int i1), (2, .ref (ad 10 0)), (4, .int y31_4)]) hx hb dX1_strikeOut_60 rfl hl (by decide) rfl (fun ls hl => ?_)
          obtain ⟨x_18622, ex_18622⟩ : ∃ z : Int32, z = y31_4 + 1 := ⟨_, rfl⟩
          refine lv_iinc (v := x_18622) (lv' := [(4, .int x_18622), (3, .int x_18621), (0, .ref (ad 5 0)), (1, .int i1), (2, .ref (ad 10 0))]) hx hb dX1_strikeOut_61 hl (k := 4) rfl (by rw [ex_18622]; rfl) (by decide) rfl (fun ls hl => ?_)
          refine lv_goto (tgt := 31) hx hb dX1_strikeOut_64 (by decide) ?_
          exact ih31 _ (by rw [← hm31]; exact ms_up (m := 1) ex_18622 (show bn 1 1 (1 : Int32) from bn_k (by decide)) B_18614 (bn_w (bn_eq ex_18622 (bn_add B_18614 (show bn 1 1 (1 : Int32) from bn_k (by decide)) (by decide))) (by decide) : bn 0 14 x_18622) (by decide)) x_18621 x_18622 _ _  _ _ _ I (bn_w (bn_eq ex_18621 (bn_min b_y31_3 (bn_any r_18620))) (by decide)) (bn_w (bn_eq ex_18622 (bn_add B_18614 (show bn 1 1 (1 : Int32) from bn_k (by decide)) (by decide))) (by decide)) rfl Y (lv_sub hl [2, 3, 4, 1, 0] rfl)
  refine lv_aload_n hx hb dX1_strikeOut_0 rfl (lv_at hl 0 rfl) ?_
  obtain ⟨v_18623, p_ad_5_0, b_18624⟩ := opnC_5 (j := 0) I (by decide)
  have p_ad_5_0 : pt L f (ad 5 0) (.inr (1, [.ref (ad 1 0), .ref (ad 3 0), .ref (ad 4 0), .ref (ad 55 0), .int v_18623])) := p_ad_5_0
  refine pg_get S Y ok_X1 2 (by decide) kf1_23 (v := .ref (ad 4 0)) p_ad_5_0 rfl dX1_strikeOut_1 ?_
  refine lv_iload_n hx hb dX1_strikeOut_4 rfl (lv_at hl 1 rfl) ?_
  refine cVi (As := [.int i1]) (rest := []) S Y (x_X6_isRing (l := l) I hW hT hQ) cw_X6_isRing km1_92 (I.opo (k := 4) (j := 0) (by decide) rfl).choose_spec.1 ok_X6.1 rfl rfl ⟨Nat.le_of_ble_eq_true rfl, Nat.le_of_ble_eq_true rfl⟩ hl.1 rfl (Nat.le_of_ble_eq_true rfl) ⟨Nat.le_of_ble_eq_true rfl, Nat.le_of_ble_eq_true rfl⟩ dX1_strikeOut_5 (fun r_18627 L_18625 f_18626 H locs hr_18627 Y => ?_)
  obtain ⟨er_18627, I⟩ := hr_18627
  refine lv_if_ne (tgt := 13) hx hb dX1_strikeOut_8 (by decide) (fun c_18628 => ?_) (fun c_18628 => ?_)
  · have B_18629 : bn 1 1 r_18627 := bn_w (bn_nel c_18628 er_18627 (show bn 0 0 (0 : Int32) from bn_k (by decide))) (by decide)
    refine lv_aload_n hx hb dX1_strikeOut_13 rfl (lv_at hl 0 rfl) ?_
    refine cVv (As := []) (rest := []) S Y (x_X1_remember (l := l) I hW hT hQ) cw_X1_remember km1_54 (I.opo (k := 5) (j := 0) (by decide) rfl).choose_spec.1 ok_X1.1 rfl rfl ⟨Nat.le_of_ble_eq_true rfl, Nat.le_of_ble_eq_true rfl⟩ hl.1 rfl (Nat.le_of_ble_eq_true rfl) ⟨Nat.le_of_ble_eq_true rfl, Nat.le_of_ble_eq_true rfl⟩ dX1_strikeOut_14 (fun L_18631 f_18632 H locs I Y => ?_)
    refine lv_aload_n hx hb dX1_strikeOut_17 rfl (lv_at hl 0 rfl) ?_
    obtain ⟨v_18633, p_ad_5_0, b_18634⟩ := opnC_5 (j := 0) I (by decide)
    have p_ad_5_0 : pt L_18631 f_18632 (ad 5 0) (.inr (1, [.ref (ad 1 0), .ref (ad 3 0), .ref (ad 4 0), .ref (ad 55 0), .int v_18633])) := p_ad_5_0
    refine pg_get S Y ok_X1 0 (by decide) kf1_15 (v := .ref (ad 1 0)) p_ad_5_0 rfl dX1_strikeOut_18 ?_
    obtain ⟨v_18635, v_18637, v_18639, v_18641, v_18643, p_ad_1_0, b_18636, b_18638, b_18640, b_18642, b_18644⟩ := opnC_1 (j := 0) I (by decide)
    have p_ad_1_0 : pt L_18631 f_18632 (ad 1 0) (.inr (10, [.ref (ad 40 0), .ref (ad 41 0), .ref (ad 42 0), .ref (ad 10 0), .ref (ad 43 0), .ref (ad 20 0), .ref (ad 20 1), .ref (ad 20 2), .ref (ad 20 3), .ref (ad 20 4), .int v_18635, .int v_18637, .int v_18639, .int v_18641, .int v_18643])) := p_ad_1_0
    refine pg_getN S Y ok_X10 3 (by decide) kf1_40 (v := .ref (ad 10 0)) p_ad_1_0 rfl dX1_strikeOut_21 ?_
    refine lv_astore_n (lv' := [(2, .ref (ad 10 0)), (0, .ref (ad 5 0)), (1, .int i1)]) hx hb dX1_strikeOut_24 rfl hl (by decide) rfl (fun ls hl => ?_)
    refine lv_bipush (v := 9) hx hb dX1_strikeOut_25 (by decide) ?_
    refine lv_istore_n (lv' := [(3, .int 9), (2, .ref (ad 10 0)), (0, .ref (ad 5 0)), (1, .int i1)]) hx hb dX1_strikeOut_27 rfl hl (by decide) rfl (fun ls hl => ?_)
    refine lv_iconst (v := 0) hx hb dX1_strikeOut_28 (by decide) ?_
    refine lv_istore (lv' := [(4, .int 0), (3, .int 9), (2, .ref (ad 10 0)), (0, .ref (ad 5 0)), (1, .int i1)]) hx hb dX1_strikeOut_29 hl (by decide) rfl (fun ls hl => ?_)
    exact J_31 _ 9 0 _ _  _ _ _ I (bn_w (show bn 9 9 (9 : Int32) from bn_k (by decide)) (by decide)) (bn_w (show bn 0 0 (0 : Int32) from bn_k (by decide)) (by decide)) rfl Y (lv_sub hl [3, 4, 2, 1, 0] rfl)
  · have B_18630 : bn 0 0 r_18627 := bn_w (bn_eq c_18628 (show bn 0 0 (0 : Int32) from bn_k (by decide))) (by decide)
    refine lv_iconst (v := (-1)) hx hb dX1_strikeOut_11 (by decide) ?_
    exact prI (post := fun r L1 f1 => SH (spC rs fc tc w q) nnC G ad L1 f1) S Y rfl (by decide) (by decide) hA1 I dX1_strikeOut_12
set_option maxHeartbeats 4000000 in
set_option maxRecDepth 100000 in
theorem x_X1_passDay {l : Launch} {G : GG}  {L : List Nat} {f : HF} {ad : Nat → Nat → Nat} {rs : RS} {fc : Int × Int} {tc w : Nat → Int × Int} {q : Nat → (Nat → Int32) → Prop} (I : SH (spC rs fc tc w q) nnC G ad L f) (hW : WBp w 8) (hT : WBp tc 4) (hQ : QIp q) : PMi l yX1_passDay cX1_passDay 4 .boolean 5 0 0 G [.ref (ad 5 0)] L f (fun r L1 f1 => bn 0 1 r ∧ SH (spC rs fc tc w q) nnC G ad L1 f1) := by
  refine PMi.of (post := fun r L1 f1 => bn 0 1 r ∧ SH (spC rs fc tc w q) nnC G ad L1 f1) (own := RX1) (by decide) rfl (Nat.le_of_ble_eq_true rfl) (fun sz p e s m args below meth c A ls hA1 hname S Y hl => ?_)
  have hx := S.hx
  have hb := S.hb
  have hl : lv_has ls 4 [(0, .ref (ad 5 0))] := hl
  have J_23 : ∀ (n23 : Nat) (y23_2 : Int32) (L_23 : List Nat) (f_23 : HF) (H : Heap) (locs : List Loc) (ls : Array Slot), (SH (spC rs fc tc w q) nnC G ad L_23 f_23) → (bn 0 6 y23_2) → (((6 : Int) - y23_2.toInt).toNat = n23) → (DY G A s [] L_23 f_23 H locs) → (lv_has ls 4 [(0, .ref (ad 5 0)), (1, .ref (ad 10 0)), (2, .int y23_2)]) → W p l e (rmD 5 0 0) s m args below meth c H locs (0) (0) (MQ below (va_Qi (fun r (u : List Nat × HF) => (fun r L1 f1 => bn 0 1 r ∧ SH (spC rs fc tc w q) nnC G ad L1 f1) r u.1 u.2) (fun u t => pOut G (va_A (va_pl L f) sz) u.1 u.2 t) (va_A (va_pl L f) sz)) args s 0 0 A) (F0 m 23 ls []) := by
    intro n23
    induction n23 using Nat.strongRecOn with
    | _ n23 ih23 =>
      intro y23_2 L_23 f_23 H locs ls I b_y23_2 hm23 Y hl
      refine lv_iload_n hx hb dX1_passDay_23 rfl (lv_at hl 2 rfl) ?_
      refine lv_aload_n hx hb dX1_passDay_24 rfl (lv_at hl 0 rfl) ?_
      obtain ⟨v_18897, p_ad_5_0, b_18898⟩ := opnC_5 (j := 0) I (by decide)
      have p_ad_5_0 : pt L_23 f_23 (ad 5 0) (.inr (1, [.ref (ad 1 0), .ref (ad 3 0), .ref (ad 4 0), .ref (ad 55 0), .int v_18897])) := p_ad_5_0
      refine pg_get S Y ok_X1 0 (by decide) kf1_15 (v := .ref (ad 1 0)) p_ad_5_0 rfl dX1_passDay_25 ?_
      obtain ⟨v_18899, v_18901, v_18903, v_18905, v_18907, p_ad_1_0, b_18900, b_18902, b_18904, b_18906, b_18908⟩ := opnC_1 (j := 0) I (by decide)
      have p_ad_1_0 : pt L_23 f_23 (ad 1 0) (.inr (10, [.ref (ad 40 0), .ref (ad 41 0), .ref (ad 42 0), .ref (ad 10 0), .ref (ad 43 0), .ref (ad 20 0), .ref (ad 20 1), .ref (ad 20 2), .ref (ad 20 3), .ref (ad 20 4), .int v_18899, .int v_18901, .int v_18903, .int v_18905, .int v_18907])) := p_ad_1_0
      refine pg_getN S Y ok_X10 10 (by decide) kf1_101 (v := .int v_18899) p_ad_1_0 rfl dX1_passDay_28 ?_
      refine lv_icmp_ge (tgt := 60) hx hb dX1_passDay_31 (by decide) (fun c_18909 => ?_) (fun c_18909 => ?_)
      · refine lv_aload_n hx hb dX1_passDay_60 rfl (lv_at hl 1 rfl) ?_
        refine cVv (As := []) (rest := []) S Y (x_X4_turnDay (l := l) (j := 0) I hW hT hQ (by decide)) cw_X4_turnDay km1_111 (I.opo (k := 10) (j := 0) (by decide) rfl).choose_spec.1 ok_X4.1 rfl rfl ⟨Nat.le_of_ble_eq_true rfl, Nat.le_of_ble_eq_true rfl⟩ hl.1 rfl (Nat.le_of_ble_eq_true rfl) ⟨Nat.le_of_ble_eq_true rfl, Nat.le_of_ble_eq_true rfl⟩ dX1_passDay_61 (fun L_18912 f_18913 H locs I Y => ?_)
        refine lv_iconst (v := 1) hx hb dX1_passDay_64 (by decide) ?_
        exact prI (post := fun r L1 f1 => bn 0 1 r ∧ SH (spC rs fc tc w q) nnC G ad L1 f1) S Y rfl (by decide) (by decide) hA1 ⟨bn_w (show bn 1 1 (1 : Int32) from bn_k (by decide)) (by decide), I⟩ dX1_passDay_65
      · have B_18910 : bn 1 6 v_18899 := bn_w (bn_gtl c_18909 b_18900 b_y23_2) (by decide)
        have B_18911 : bn 0 5 y23_2 := bn_w (bn_gtr c_18909 b_18900 b_y23_2) (by decide)
        refine lv_aload_n hx hb dX1_passDay_34 rfl (lv_at hl 0 rfl) ?_
        refine pg_get S Y ok_X1 1 (by decide) kf1_19 (v := .ref (ad 3 0)) p_ad_5_0 rfl dX1_passDay_35 ?_
        refine lv_aload_n hx hb dX1_passDay_38 rfl (lv_at hl 1 rfl) ?_
        refine lv_iload_n hx hb dX1_passDay_39 rfl (lv_at hl 2 rfl) ?_
        refine cVi (As := [.ref (ad 10 0), .int y23_2]) (rest := []) S Y (x_X3_acheOf (l := l) (j := 0) I hW hT hQ (by decide)) cw_X3_acheOf km1_104 (I.opo (k := 3) (j := 0) (by decide) rfl).choose_spec.1 ok_X3.1 rfl rfl ⟨Nat.le_of_ble_eq_true rfl, Nat.le_of_ble_eq_true rfl⟩ hl.1 rfl (Nat.le_of_ble_eq_true rfl) ⟨Nat.le_of_ble_eq_true rfl, Nat.le_of_ble_eq_true rfl⟩ dX1_passDay_40 (fun r_18916 L_18914 f_18915 H locs I Y => ?_)
        refine lv_istore_n (lv' := [(3, .int r_18916), (0, .ref (ad 5 0)), (1, .ref (ad 10 0)), (2, .int y23_2)]) hx hb dX1_passDay_43 rfl hl (by decide) rfl (fun ls hl => ?_)
        refine lv_iload_n hx hb dX1_passDay_44 rfl (lv_at hl 0 rfl) ?_
        refine lv_if_le (tgt := 54) hx hb dX1_passDay_45 (by decide) (fun c_18917 => ?_) (fun c_18917 => ?_)
        · have B_18918 : bn (-2147483648) 0 r_18916 := bn_w (bn_lel c_18917 (bn_any r_18916) (show bn 0 0 (0 : Int32) from bn_k (by decide))) (by decide)
          obtain ⟨x_18920, ex_18920⟩ : ∃ z : Int32, z = y23_2 + 1 := ⟨_, rfl⟩
          refine lv_iinc (v := x_18920) (lv' := [(2, .int x_18920), (3, .int r_18916), (0, .ref (ad 5 0)), (1, .ref (ad 10 0))]) hx hb dX1_passDay_54 hl (k := 3) rfl (by rw [ex_18920]; rfl) (by decide) rfl (fun ls hl => ?_)
          refine lv_goto (tgt := 23) hx hb dX1_passDay_57 (by decide) ?_
          exact ih23 _ (by rw [← hm23]; exact ms_up (m := 1) ex_18920 (show bn 1 1 (1 : Int32) from bn_k (by decide)) B_18911 (bn_w (bn_eq ex_18920 (bn_add B_18911 (show bn 1 1 (1 : Int32) from bn_k (by decide)) (by decide))) (by decide) : bn 0 6 x_18920) (by decide)) x_18920 _ _  _ _ _ I (bn_w (bn_eq ex_18920 (bn_add B_18911 (show bn 1 1 (1 : Int32) from bn_k (by decide)) (by decide))) (by decide)) rfl Y (lv_sub hl [2, 3, 0] rfl)
        · have B_18919 : bn 1 2147483647 r_18916 := bn_w (bn_gtl c_18917 (bn_any r_18916) (show bn 0 0 (0 : Int32) from bn_k (by decide))) (by decide)
          refine lv_aload_n hx hb dX1_passDay_48 rfl (lv_at hl 2 rfl) ?_
          refine lv_iload_n hx hb dX1_passDay_49 rfl (lv_at hl 3 rfl) ?_
          refine lv_iload_n hx hb dX1_passDay_50 rfl (lv_at hl 0 rfl) ?_
          refine cVv (As := [.int y23_2, .int r_18916]) (rest := []) S Y (x_X4_write (l := l) (j := 0) I hW hT hQ (by decide)) cw_X4_write km1_108 (I.opo (k := 10) (j := 0) (by decide) rfl).choose_spec.1 ok_X4.1 rfl rfl ⟨Nat.le_of_ble_eq_true rfl, Nat.le_of_ble_eq_true rfl⟩ hl.1 rfl (Nat.le_of_ble_eq_true rfl) ⟨Nat.le_of_ble_eq_true rfl, Nat.le_of_ble_eq_true rfl⟩ dX1_passDay_51 (fun L_18921 f_18922 H locs I Y => ?_)
          obtain ⟨x_18923, ex_18923⟩ : ∃ z : Int32, z = y23_2 + 1 := ⟨_, rfl⟩
          refine lv_iinc (v := x_18923) (lv' := [(2, .int x_18923), (3, .int r_18916), (0, .ref (ad 5 0)), (1, .ref (ad 10 0))]) hx hb dX1_passDay_54 hl (k := 3) rfl (by rw [ex_18923]; rfl) (by decide) rfl (fun ls hl => ?_)
          refine lv_goto (tgt := 23) hx hb dX1_passDay_57 (by decide) ?_
          exact ih23 _ (by rw [← hm23]; exact ms_up (m := 1) ex_18923 (show bn 1 1 (1 : Int32) from bn_k (by decide)) B_18911 (bn_w (bn_eq ex_18923 (bn_add B_18911 (show bn 1 1 (1 : Int32) from bn_k (by decide)) (by decide))) (by decide) : bn 0 6 x_18923) (by decide)) x_18923 _ _  _ _ _ I (bn_w (bn_eq ex_18923 (bn_add B_18911 (show bn 1 1 (1 : Int32) from bn_k (by decide)) (by decide))) (by decide)) rfl Y (lv_sub hl [2, 3, 0] rfl)
  refine lv_aload_n hx hb dX1_passDay_0 rfl (lv_at hl 0 rfl) ?_
  obtain ⟨v_18924, p_ad_5_0, b_18925⟩ := opnC_5 (j := 0) I (by decide)
  have p_ad_5_0 : pt L f (ad 5 0) (.inr (1, [.ref (ad 1 0), .ref (ad 3 0), .ref (ad 4 0), .ref (ad 55 0), .int v_18924])) := p_ad_5_0
  refine pg_get S Y ok_X1 0 (by decide) kf1_15 (v := .ref (ad 1 0)) p_ad_5_0 rfl dX1_passDay_1 ?_
  obtain ⟨v_18926, v_18928, v_18930, v_18932, v_18934, p_ad_1_0, b_18927, b_18929, b_18931, b_18933, b_18935⟩ := opnC_1 (j := 0) I (by decide)
  have p_ad_1_0 : pt L f (ad 1 0) (.inr (10, [.ref (ad 40 0), .ref (ad 41 0), .ref (ad 42 0), .ref (ad 10 0), .ref (ad 43 0), .ref (ad 20 0), .ref (ad 20 1), .ref (ad 20 2), .ref (ad 20 3), .ref (ad 20 4), .int v_18926, .int v_18928, .int v_18930, .int v_18932, .int v_18934])) := p_ad_1_0
  refine pg_getN S Y ok_X10 3 (by decide) kf1_40 (v := .ref (ad 10 0)) p_ad_1_0 rfl dX1_passDay_4 ?_
  refine lv_astore_n (lv' := [(1, .ref (ad 10 0)), (0, .ref (ad 5 0))]) hx hb dX1_passDay_7 rfl hl (by decide) rfl (fun ls hl => ?_)
  refine lv_aload_n hx hb dX1_passDay_8 rfl (lv_at hl 0 rfl) ?_
  refine cVp (As := []) (rest := []) S Y (x_X4_lastsOn (l := l) (j := 0) I hW hT hQ (by decide)) cw_X4_lastsOn km1_97 (I.opo (k := 10) (j := 0) (by decide) rfl).choose_spec.1 ok_X4.1 rfl rfl ⟨Nat.le_of_ble_eq_true rfl, Nat.le_of_ble_eq_true rfl⟩ hl.1 rfl (Nat.le_of_ble_eq_true rfl) ⟨Nat.le_of_ble_eq_true rfl, Nat.le_of_ble_eq_true rfl⟩ dX1_passDay_9 (fun r_18936 H locs er_18936 Y => ?_)
  refine lv_if_ne (tgt := 17) hx hb dX1_passDay_12 (by decide) (fun c_18937 => ?_) (fun c_18937 => ?_)
  · have B_18938 : bn 1 1 r_18936 := bn_w (bn_nel c_18937 er_18936 (show bn 0 0 (0 : Int32) from bn_k (by decide))) (by decide)
    refine lv_aload_n hx hb dX1_passDay_17 rfl (lv_at hl 1 rfl) ?_
    refine cVv (As := []) (rest := []) S Y (x_X1_remember (l := l) I hW hT hQ) cw_X1_remember km1_54 p_ad_5_0 ok_X1.1 rfl rfl ⟨Nat.le_of_ble_eq_true rfl, Nat.le_of_ble_eq_true rfl⟩ hl.1 rfl (Nat.le_of_ble_eq_true rfl) ⟨Nat.le_of_ble_eq_true rfl, Nat.le_of_ble_eq_true rfl⟩ dX1_passDay_18 (fun L_18940 f_18941 H locs I Y => ?_)
    refine lv_iconst (v := 0) hx hb dX1_passDay_21 (by decide) ?_
    refine lv_istore_n (lv' := [(2, .int 0), (1, .ref (ad 10 0)), (0, .ref (ad 5 0))]) hx hb dX1_passDay_22 rfl hl (by decide) rfl (fun ls hl => ?_)
    exact J_23 _ 0 _ _  _ _ _ I (bn_w (show bn 0 0 (0 : Int32) from bn_k (by decide)) (by decide)) rfl Y (lv_sub hl [2, 1, 0] rfl)
  · have B_18939 : bn 0 0 r_18936 := bn_w (bn_eq c_18937 (show bn 0 0 (0 : Int32) from bn_k (by decide))) (by decide)
    refine lv_iconst (v := 0) hx hb dX1_passDay_15 (by decide) ?_
    exact prI (post := fun r L1 f1 => bn 0 1 r ∧ SH (spC rs fc tc w q) nnC G ad L1 f1) S Y rfl (by decide) (by decide) hA1 ⟨bn_w (show bn 0 0 (0 : Int32) from bn_k (by decide)) (by decide), I⟩ dX1_passDay_16
set_option maxHeartbeats 4000000 in
set_option maxRecDepth 100000 in
theorem x_X1_perform {l : Launch} {G : GG}  {L : List Nat} {f : HF} {ad : Nat → Nat → Nat} {rs : RS} {fc : Int × Int} {tc w : Nat → Int × Int} {q : Nat → (Nat → Int32) → Prop} {j : Nat} {i1 : Int32} (I : SH (spC rs fc tc w q) nnC G ad L f) (hW : WBp w 8) (hT : WBp tc 4) (hQ : QIp q) (hj : j < 8) : PMi l yX1_perform cX1_perform 6 .boolean 6 0 0 G [.ref (ad 5 0), .ref (ad 30 j), .int i1] L f (fun r L1 f1 => bn 0 1 r ∧ SH (spC rs fc tc w q) nnC G ad L1 f1) := by
  refine PMi.of (post := fun r L1 f1 => bn 0 1 r ∧ SH (spC rs fc tc w q) nnC G ad L1 f1) (own := RX1) (by decide) rfl (Nat.le_of_ble_eq_true rfl) (fun sz p e s m args below meth c A ls hA1 hname S Y hl => ?_)
  have hx := S.hx
  have hb := S.hb
  have hl : lv_has ls 6 [(0, .ref (ad 5 0)), (1, .ref (ad 30 j)), (2, .int i1)] := hl
  have J_141 : ∀ (n141 : Nat) (y141_3 y141_4 y141_5 : Int32) (L_141 : List Nat) (f_141 : HF) (H : Heap) (locs : List Loc) (ls : Array Slot), (SH (spC rs fc tc w q) nnC G ad L_141 f_141) → (bn 0 2147483647 y141_5) → (((2147483647 : Int) - y141_5.toInt).toNat = n141) → (DY G A s [] L_141 f_141 H locs) → (lv_has ls 6 [(0, .ref (ad 5 0)), (1, .ref (ad 30 j)), (2, .int i1), (3, .int y141_3), (4, .int y141_4), (5, .int y141_5)]) → W p l e (rmD 6 0 0) s m args below meth c H locs (0) (0) (MQ below (va_Qi (fun r (u : List Nat × HF) => (fun r L1 f1 => bn 0 1 r ∧ SH (spC rs fc tc w q) nnC G ad L1 f1) r u.1 u.2) (fun u t => pOut G (va_A (va_pl L f) sz) u.1 u.2 t) (va_A (va_pl L f) sz)) args s 0 0 A) (F0 m 141 ls []) := by
    intro n141
    induction n141 using Nat.strongRecOn with
    | _ n141 ih141 =>
      intro y141_3 y141_4 y141_5 L_141 f_141 H locs ls I b_y141_5 hm141 Y hl
      refine lv_iload hx hb dX1_perform_141 (lv_at hl 5 rfl) ?_
      refine lv_iload_n hx hb dX1_perform_143 rfl (lv_at hl 3 rfl) ?_
      refine lv_icmp_ge (tgt := 162) hx hb dX1_perform_144 (by decide) (fun c_19512 => ?_) (fun c_19512 => ?_)
      · refine lv_iconst (v := 1) hx hb dX1_perform_162 (by decide) ?_
        exact prI (post := fun r L1 f1 => bn 0 1 r ∧ SH (spC rs fc tc w q) nnC G ad L1 f1) S Y rfl (by decide) (by decide) hA1 ⟨bn_w (show bn 1 1 (1 : Int32) from bn_k (by decide)) (by decide), I⟩ dX1_perform_163
      · have B_19513 : bn 1 2147483647 y141_3 := bn_w (bn_gtl c_19512 (bn_any y141_3) b_y141_5) (by decide)
        have B_19514 : bn 0 2147483646 y141_5 := bn_w (bn_gtr c_19512 (bn_any y141_3) b_y141_5) (by decide)
        refine lv_aload_n hx hb dX1_perform_147 rfl (lv_at hl 0 rfl) ?_
        refine cVi (As := []) (rest := []) S Y (x_X1_passDay (l := l) I hW hT hQ) cw_X1_passDay km1_138 (I.opo (k := 5) (j := 0) (by decide) rfl).choose_spec.1 ok_X1.1 rfl rfl ⟨Nat.le_of_ble_eq_true rfl, Nat.le_of_ble_eq_true rfl⟩ hl.1 rfl (Nat.le_of_ble_eq_true rfl) ⟨Nat.le_of_ble_eq_true rfl, Nat.le_of_ble_eq_true rfl⟩ dX1_perform_148 (fun r_19517 L_19515 f_19516 H locs hr_19517 Y => ?_)
        obtain ⟨er_19517, I⟩ := hr_19517
        refine lv_if_ne (tgt := 156) hx hb dX1_perform_151 (by decide) (fun c_19518 => ?_) (fun c_19518 => ?_)
        · have B_19519 : bn 1 1 r_19517 := bn_w (bn_nel c_19518 er_19517 (show bn 0 0 (0 : Int32) from bn_k (by decide))) (by decide)
          obtain ⟨x_19521, ex_19521⟩ : ∃ z : Int32, z = y141_5 + 1 := ⟨_, rfl⟩
          refine lv_iinc (v := x_19521) (lv' := [(5, .int x_19521), (0, .ref (ad 5 0)), (1, .ref (ad 30 j)), (2, .int i1), (3, .int y141_3), (4, .int y141_4)]) hx hb dX1_perform_156 hl (k := 5) rfl (by rw [ex_19521]; rfl) (by decide) rfl (fun ls hl => ?_)
          refine lv_goto (tgt := 141) hx hb dX1_perform_159 (by decide) ?_
          exact ih141 _ (by rw [← hm141]; exact ms_up (m := 1) ex_19521 (show bn 1 1 (1 : Int32) from bn_k (by decide)) B_19514 (bn_w (bn_eq ex_19521 (bn_add B_19514 (show bn 1 1 (1 : Int32) from bn_k (by decide)) (by decide))) (by decide) : bn 0 2147483647 x_19521) (by decide)) y141_3 y141_4 x_19521 _ _  _ _ _ I (bn_w (bn_eq ex_19521 (bn_add B_19514 (show bn 1 1 (1 : Int32) from bn_k (by decide)) (by decide))) (by decide)) rfl Y (lv_sub hl [1, 2, 3, 4, 5, 0] rfl)
        · have B_19520 : bn 0 0 r_19517 := bn_w (bn_eq c_19518 (show bn 0 0 (0 : Int32) from bn_k (by decide))) (by decide)
          refine lv_iconst (v := 0) hx hb dX1_perform_154 (by decide) ?_
          exact prI (post := fun r L1 f1 => bn 0 1 r ∧ SH (spC rs fc tc w q) nnC G ad L1 f1) S Y rfl (by decide) (by decide) hA1 ⟨bn_w (show bn 0 0 (0 : Int32) from bn_k (by decide)) (by decide), I⟩ dX1_perform_155
  refine lv_aload_n hx hb dX1_perform_0 rfl (lv_at hl 1 rfl) ?_
  refine lv_iload_n hx hb dX1_perform_1 rfl (lv_at hl 2 rfl) ?_
  refine lv_iconst (v := 1) hx hb dX1_perform_2 (by decide) ?_
  refine cVp (As := [.int i1, .int 1]) (rest := []) S Y (x_X7_clause (l := l) (j := j) I hW hT hQ hj) cw_X7_clause km1_114 (I.opo (k := 30) (j := j) hj rfl).choose_spec.1 ok_X7.1 rfl rfl ⟨Nat.le_of_ble_eq_true rfl, Nat.le_of_ble_eq_true rfl⟩ hl.1 rfl (Nat.le_of_ble_eq_true rfl) ⟨Nat.le_of_ble_eq_true rfl, Nat.le_of_ble_eq_true rfl⟩ dX1_perform_3 (fun r_19522 H locs er_19522 Y => ?_)
  refine lv_istore_n (lv' := [(3, .int r_19522), (0, .ref (ad 5 0)), (1, .ref (ad 30 j)), (2, .int i1)]) hx hb dX1_perform_6 rfl hl (by decide) rfl (fun ls hl => ?_)
  refine lv_aload_n hx hb dX1_perform_7 rfl (lv_at hl 2 rfl) ?_
  refine lv_iload_n hx hb dX1_perform_8 rfl (lv_at hl 3 rfl) ?_
  refine lv_iconst (v := 2) hx hb dX1_perform_9 (by decide) ?_
  refine cVp (As := [.int i1, .int 2]) (rest := []) S Y (x_X7_clause (l := l) (j := j) I hW hT hQ hj) cw_X7_clause km1_114 (I.opo (k := 30) (j := j) hj rfl).choose_spec.1 ok_X7.1 rfl rfl ⟨Nat.le_of_ble_eq_true rfl, Nat.le_of_ble_eq_true rfl⟩ hl.1 rfl (Nat.le_of_ble_eq_true rfl) ⟨Nat.le_of_ble_eq_true rfl, Nat.le_of_ble_eq_true rfl⟩ dX1_perform_10 (fun r_19523 H locs er_19523 Y => ?_)
  refine lv_istore (lv' := [(4, .int r_19523), (3, .int r_19522), (0, .ref (ad 5 0)), (1, .ref (ad 30 j)), (2, .int i1)]) hx hb dX1_perform_13 hl (by decide) rfl (fun ls hl => ?_)
  refine lv_aload_n hx hb dX1_perform_15 rfl (lv_at hl 3 rfl) ?_
  refine lv_iload_n hx hb dX1_perform_16 rfl (lv_at hl 4 rfl) ?_
  refine lv_iconst (v := 0) hx hb dX1_perform_17 (by decide) ?_
  refine cVp (As := [.int i1, .int 0]) (rest := []) S Y (x_X7_clause (l := l) (j := j) I hW hT hQ hj) cw_X7_clause km1_114 (I.opo (k := 30) (j := j) hj rfl).choose_spec.1 ok_X7.1 rfl rfl ⟨Nat.le_of_ble_eq_true rfl, Nat.le_of_ble_eq_true rfl⟩ hl.1 rfl (Nat.le_of_ble_eq_true rfl) ⟨Nat.le_of_ble_eq_true rfl, Nat.le_of_ble_eq_true rfl⟩ dX1_perform_18 (fun r_19524 H locs er_19524 Y => ?_)
  rcases sw_3_9 r_19524 with h_19525 | h_19525 | h_19525 | h_19525 | h_19525 | h_19525 | h_19525 | h_19525
  · refine lv_fold (z := 3) h_19525 ?_
    refine lv_tableIn (off := 43) (tgt := 64) hx hb dX1_perform_21 (by decide) (by decide) (by decide) (by decide) ?_
    refine lv_aload_n hx hb dX1_perform_64 rfl (lv_at hl 2 rfl) ?_
    obtain ⟨v_19526, p_ad_5_0, b_19527⟩ := opnC_5 (j := 0) I (by decide)
    have p_ad_5_0 : pt L f (ad 5 0) (.inr (1, [.ref (ad 1 0), .ref (ad 3 0), .ref (ad 4 0), .ref (ad 55 0), .int v_19526])) := p_ad_5_0
    refine pg_get S Y ok_X1 0 (by decide) kf1_15 (v := .ref (ad 1 0)) p_ad_5_0 rfl dX1_perform_65 ?_
    refine lv_iload_n hx hb dX1_perform_68 rfl (lv_at hl 1 rfl) ?_
    refine lv_iload hx hb dX1_perform_69 (lv_at hl 0 rfl) ?_
    refine cVi (As := [.int r_19522, .int r_19523]) (rest := []) S Y (x_X10_welcome (l := l) I hW hT hQ) cw_X10_welcome km1_119 (I.opo (k := 1) (j := 0) (by decide) rfl).choose_spec.1 ok_X10.1 rfl rfl ⟨Nat.le_of_ble_eq_true rfl, Nat.le_of_ble_eq_true rfl⟩ hl.1 rfl (Nat.le_of_ble_eq_true rfl) ⟨Nat.le_of_ble_eq_true rfl, Nat.le_of_ble_eq_true rfl⟩ dX1_perform_71 (fun r_19530 L_19528 f_19529 H locs I Y => ?_)
    refine lv_iconst (v := (-1)) hx hb dX1_perform_74 (by decide) ?_
    refine lv_icmp_eq (tgt := 82) hx hb dX1_perform_75 (by decide) (fun c_19531 => ?_) (fun c_19531 => ?_)
    · have B_19532 : bn (-1) (-1) r_19530 := bn_w (bn_eq c_19531 (show bn (-1) (-1) ((-1) : Int32) from bn_k (by decide))) (by decide)
      refine lv_iconst (v := 0) hx hb dX1_perform_82 (by decide) ?_
      exact prI (post := fun r L1 f1 => bn 0 1 r ∧ SH (spC rs fc tc w q) nnC G ad L1 f1) S Y rfl (by decide) (by decide) hA1 ⟨bn_w (show bn 0 0 (0 : Int32) from bn_k (by decide)) (by decide), I⟩ dX1_perform_83
    · refine lv_iconst (v := 1) hx hb dX1_perform_78 (by decide) ?_
      refine lv_goto (tgt := 83) hx hb dX1_perform_79 (by decide) ?_
      exact prI (post := fun r L1 f1 => bn 0 1 r ∧ SH (spC rs fc tc w q) nnC G ad L1 f1) S Y rfl (by decide) (by decide) hA1 ⟨bn_w (show bn 1 1 (1 : Int32) from bn_k (by decide)) (by decide), I⟩ dX1_perform_83
  · refine lv_fold (z := 4) h_19525 ?_
    refine lv_tableIn (off := 63) (tgt := 84) hx hb dX1_perform_21 (by decide) (by decide) (by decide) (by decide) ?_
    refine lv_aload_n hx hb dX1_perform_84 rfl (lv_at hl 2 rfl) ?_
    refine lv_iload_n hx hb dX1_perform_85 rfl (lv_at hl 1 rfl) ?_
    refine lv_iload hx hb dX1_perform_86 (lv_at hl 0 rfl) ?_
    refine lv_aload_n hx hb dX1_perform_88 rfl (lv_at hl 3 rfl) ?_
    refine lv_iload_n hx hb dX1_perform_89 rfl (lv_at hl 4 rfl) ?_
    refine lv_iconst (v := 3) hx hb dX1_perform_90 (by decide) ?_
    refine cVp (As := [.int i1, .int 3]) (rest := [.int r_19523, .int r_19522, .ref (ad 5 0)]) S Y (x_X7_clause (l := l) (j := j) I hW hT hQ hj) cw_X7_clause km1_114 (I.opo (k := 30) (j := j) hj rfl).choose_spec.1 ok_X7.1 rfl rfl ⟨Nat.le_of_ble_eq_true rfl, Nat.le_of_ble_eq_true rfl⟩ hl.1 rfl (Nat.le_of_ble_eq_true rfl) ⟨Nat.le_of_ble_eq_true rfl, Nat.le_of_ble_eq_true rfl⟩ dX1_perform_91 (fun r_19533 H locs er_19533 Y => ?_)
    refine lv_aload_n hx hb dX1_perform_94 rfl (lv_at hl 3 rfl) ?_
    refine lv_iload_n hx hb dX1_perform_95 rfl (lv_at hl 4 rfl) ?_
    refine lv_iconst (v := 4) hx hb dX1_perform_96 (by decide) ?_
    refine cVp (As := [.int i1, .int 4]) (rest := [.int r_19533, .int r_19523, .int r_19522, .ref (ad 5 0)]) S Y (x_X7_clause (l := l) (j := j) I hW hT hQ hj) cw_X7_clause km1_114 (I.opo (k := 30) (j := j) hj rfl).choose_spec.1 ok_X7.1 rfl rfl ⟨Nat.le_of_ble_eq_true rfl, Nat.le_of_ble_eq_true rfl⟩ hl.1 rfl (Nat.le_of_ble_eq_true rfl) ⟨Nat.le_of_ble_eq_true rfl, Nat.le_of_ble_eq_true rfl⟩ dX1_perform_97 (fun r_19534 H locs er_19534 Y => ?_)
    refine cVi (As := [.int r_19522, .int r_19523, .int r_19533, .int r_19534]) (rest := []) S Y (x_X1_swearIn (l := l) I hW hT hQ) cw_X1_swearIn km1_122 (I.opo (k := 5) (j := 0) (by decide) rfl).choose_spec.1 ok_X1.1 rfl rfl ⟨Nat.le_of_ble_eq_true rfl, Nat.le_of_ble_eq_true rfl⟩ hl.1 rfl (Nat.le_of_ble_eq_true rfl) ⟨Nat.le_of_ble_eq_true rfl, Nat.le_of_ble_eq_true rfl⟩ dX1_perform_100 (fun r_19537 L_19535 f_19536 H locs I Y => ?_)
    refine lv_iconst (v := (-1)) hx hb dX1_perform_103 (by decide) ?_
    refine lv_icmp_eq (tgt := 111) hx hb dX1_perform_104 (by decide) (fun c_19538 => ?_) (fun c_19538 => ?_)
    · have B_19539 : bn (-1) (-1) r_19537 := bn_w (bn_eq c_19538 (show bn (-1) (-1) ((-1) : Int32) from bn_k (by decide))) (by decide)
      refine lv_iconst (v := 0) hx hb dX1_perform_111 (by decide) ?_
      exact prI (post := fun r L1 f1 => bn 0 1 r ∧ SH (spC rs fc tc w q) nnC G ad L1 f1) S Y rfl (by decide) (by decide) hA1 ⟨bn_w (show bn 0 0 (0 : Int32) from bn_k (by decide)) (by decide), I⟩ dX1_perform_112
    · refine lv_iconst (v := 1) hx hb dX1_perform_107 (by decide) ?_
      refine lv_goto (tgt := 112) hx hb dX1_perform_108 (by decide) ?_
      exact prI (post := fun r L1 f1 => bn 0 1 r ∧ SH (spC rs fc tc w q) nnC G ad L1 f1) S Y rfl (by decide) (by decide) hA1 ⟨bn_w (show bn 1 1 (1 : Int32) from bn_k (by decide)) (by decide), I⟩ dX1_perform_112
  · refine lv_fold (z := 5) h_19525 ?_
    refine lv_tableIn (off := 92) (tgt := 113) hx hb dX1_perform_21 (by decide) (by decide) (by decide) (by decide) ?_
    refine lv_aload_n hx hb dX1_perform_113 rfl (lv_at hl 2 rfl) ?_
    refine lv_iload_n hx hb dX1_perform_114 rfl (lv_at hl 1 rfl) ?_
    refine cVi (As := [.int r_19522]) (rest := []) S Y (x_X1_breakOath (l := l) I hW hT hQ) cw_X1_breakOath km1_125 (I.opo (k := 5) (j := 0) (by decide) rfl).choose_spec.1 ok_X1.1 rfl rfl ⟨Nat.le_of_ble_eq_true rfl, Nat.le_of_ble_eq_true rfl⟩ hl.1 rfl (Nat.le_of_ble_eq_true rfl) ⟨Nat.le_of_ble_eq_true rfl, Nat.le_of_ble_eq_true rfl⟩ dX1_perform_115 (fun r_19542 L_19540 f_19541 H locs hr_19542 Y => ?_)
    obtain ⟨er_19542, I⟩ := hr_19542
    exact prI (post := fun r L1 f1 => bn 0 1 r ∧ SH (spC rs fc tc w q) nnC G ad L1 f1) S Y (nw_b (bn_w er_19542 (by decide))) (by decide) (by decide) hA1 ⟨bn_w er_19542 (by decide), I⟩ dX1_perform_118
  · refine lv_fold (z := 6) h_19525 ?_
    refine lv_tableIn (off := 98) (tgt := 119) hx hb dX1_perform_21 (by decide) (by decide) (by decide) (by decide) ?_
    refine lv_aload_n hx hb dX1_perform_119 rfl (lv_at hl 2 rfl) ?_
    refine lv_iload_n hx hb dX1_perform_120 rfl (lv_at hl 1 rfl) ?_
    refine cVi (As := [.int r_19522]) (rest := []) S Y (x_X1_releaseOath (l := l) I hW hT hQ) cw_X1_releaseOath km1_128 (I.opo (k := 5) (j := 0) (by decide) rfl).choose_spec.1 ok_X1.1 rfl rfl ⟨Nat.le_of_ble_eq_true rfl, Nat.le_of_ble_eq_true rfl⟩ hl.1 rfl (Nat.le_of_ble_eq_true rfl) ⟨Nat.le_of_ble_eq_true rfl, Nat.le_of_ble_eq_true rfl⟩ dX1_perform_121 (fun r_19545 L_19543 f_19544 H locs hr_19545 Y => ?_)
    obtain ⟨er_19545, I⟩ := hr_19545
    exact prI (post := fun r L1 f1 => bn 0 1 r ∧ SH (spC rs fc tc w q) nnC G ad L1 f1) S Y (nw_b (bn_w er_19545 (by decide))) (by decide) (by decide) hA1 ⟨bn_w er_19545 (by decide), I⟩ dX1_perform_124
  · refine lv_fold (z := 7) h_19525 ?_
    refine lv_tableIn (off := 104) (tgt := 125) hx hb dX1_perform_21 (by decide) (by decide) (by decide) (by decide) ?_
    refine lv_aload_n hx hb dX1_perform_125 rfl (lv_at hl 2 rfl) ?_
    refine lv_iload_n hx hb dX1_perform_126 rfl (lv_at hl 1 rfl) ?_
    refine cVi (As := [.int r_19522]) (rest := []) S Y (x_X1_kneelDown (l := l) I hW hT hQ) cw_X1_kneelDown km1_131 (I.opo (k := 5) (j := 0) (by decide) rfl).choose_spec.1 ok_X1.1 rfl rfl ⟨Nat.le_of_ble_eq_true rfl, Nat.le_of_ble_eq_true rfl⟩ hl.1 rfl (Nat.le_of_ble_eq_true rfl) ⟨Nat.le_of_ble_eq_true rfl, Nat.le_of_ble_eq_true rfl⟩ dX1_perform_127 (fun r_19548 L_19546 f_19547 H locs hr_19548 Y => ?_)
    obtain ⟨er_19548, I⟩ := hr_19548
    exact prI (post := fun r L1 f1 => bn 0 1 r ∧ SH (spC rs fc tc w q) nnC G ad L1 f1) S Y (nw_b (bn_w er_19548 (by decide))) (by decide) (by decide) hA1 ⟨bn_w er_19548 (by decide), I⟩ dX1_perform_130
  · refine lv_fold (z := 8) h_19525 ?_
    refine lv_tableIn (off := 110) (tgt := 131) hx hb dX1_perform_21 (by decide) (by decide) (by decide) (by decide) ?_
    refine lv_aload_n hx hb dX1_perform_131 rfl (lv_at hl 2 rfl) ?_
    refine lv_iload_n hx hb dX1_perform_132 rfl (lv_at hl 1 rfl) ?_
    refine lv_iconst (v := 0) hx hb dX1_perform_133 (by decide) ?_
    refine cVi (As := [.int r_19522, .int 0]) (rest := []) S Y (x_X1_slide (l := l) I hW hT hQ) cw_X1_slide km1_134 (I.opo (k := 5) (j := 0) (by decide) rfl).choose_spec.1 ok_X1.1 rfl rfl ⟨Nat.le_of_ble_eq_true rfl, Nat.le_of_ble_eq_true rfl⟩ hl.1 rfl (Nat.le_of_ble_eq_true rfl) ⟨Nat.le_of_ble_eq_true rfl, Nat.le_of_ble_eq_true rfl⟩ dX1_perform_134 (fun r_19551 L_19549 f_19550 H locs hr_19551 Y => ?_)
    obtain ⟨er_19551, I⟩ := hr_19551
    exact prI (post := fun r L1 f1 => bn 0 1 r ∧ SH (spC rs fc tc w q) nnC G ad L1 f1) S Y (nw_b (bn_w er_19551 (by decide))) (by decide) (by decide) hA1 ⟨bn_w er_19551 (by decide), I⟩ dX1_perform_137
  · refine lv_fold (z := 9) h_19525 ?_
    refine lv_tableIn (off := 117) (tgt := 138) hx hb dX1_perform_21 (by decide) (by decide) (by decide) (by decide) ?_
    refine lv_iconst (v := 0) hx hb dX1_perform_138 (by decide) ?_
    refine lv_istore (lv' := [(5, .int 0), (4, .int r_19523), (3, .int r_19522), (0, .ref (ad 5 0)), (1, .ref (ad 30 j)), (2, .int i1)]) hx hb dX1_perform_139 hl (by decide) rfl (fun ls hl => ?_)
    exact J_141 _ r_19522 r_19523 0 _ _  _ _ _ I (bn_w (show bn 0 0 (0 : Int32) from bn_k (by decide)) (by decide)) rfl Y (lv_sub hl [3, 4, 5, 2, 1, 0] rfl)
  · refine lv_tableOut (tgt := 164) hx hb dX1_perform_21 h_19525 (by decide) ?_
    refine lv_iconst (v := 1) hx hb dX1_perform_164 (by decide) ?_
    exact prI (post := fun r L1 f1 => bn 0 1 r ∧ SH (spC rs fc tc w q) nnC G ad L1 f1) S Y rfl (by decide) (by decide) hA1 ⟨bn_w (show bn 1 1 (1 : Int32) from bn_k (by decide)) (by decide), I⟩ dX1_perform_165
set_option maxHeartbeats 4000000 in
set_option maxRecDepth 100000 in
theorem x_X1_beginYears {l : Launch} {G : GG}  {L : List Nat} {f : HF} {ad : Nat → Nat → Nat} {rs : RS} {fc : Int × Int} {tc w : Nat → Int × Int} {q : Nat → (Nat → Int32) → Prop} {i1 : Int32} (I : SH (spC rs fc tc w q) nnC G ad L f) (hW : WBp w 8) (hT : WBp tc 4) (hQ : QIp q) : PMv l yX1_beginYears cX1_beginYears 2 4 0 0 G [.ref (ad 5 0), .int i1] L f (fun L1 f1 => SH (spC rs fc tc w q) nnC G ad L1 f1) := by
  refine PMv.of (post := fun L1 f1 => SH (spC rs fc tc w q) nnC G ad L1 f1) (own := RX1) (by decide) rfl (Nat.le_of_ble_eq_true rfl) (fun sz p e s m args below meth c A ls hA1 hname S Y hl => ?_)
  have hx := S.hx
  have hb := S.hb
  have hl : lv_has ls 2 [(0, .ref (ad 5 0)), (1, .int i1)] := hl
  refine lv_aload_n hx hb dX1_beginYears_0 rfl (lv_at hl 0 rfl) ?_
  refine cVv (As := []) (rest := []) S Y (x_X1_remember (l := l) I hW hT hQ) cw_X1_remember km1_54 (I.opo (k := 5) (j := 0) (by decide) rfl).choose_spec.1 ok_X1.1 rfl rfl ⟨Nat.le_of_ble_eq_true rfl, Nat.le_of_ble_eq_true rfl⟩ hl.1 rfl (Nat.le_of_ble_eq_true rfl) ⟨Nat.le_of_ble_eq_true rfl, Nat.le_of_ble_eq_true rfl⟩ dX1_beginYears_1 (fun L_19608 f_19609 H locs I Y => ?_)
  refine lv_aload_n hx hb dX1_beginYears_4 rfl (lv_at hl 0 rfl) ?_
  refine lv_iconst (v := 1) hx hb dX1_beginYears_5 (by decide) ?_
  obtain ⟨v_19610, p_ad_5_0, b_19611⟩ := opnC_5 (j := 0) I (by decide)
  have p_ad_5_0 : pt L_19608 f_19609 (ad 5 0) (.inr (1, [.ref (ad 1 0), .ref (ad 3 0), .ref (ad 4 0), .ref (ad 55 0), .int v_19610])) := p_ad_5_0
  refine pg_put S Y ok_X1 4 (by decide) kf1_27 rfl (fs' := [.ref (ad 1 0), .ref (ad 3 0), .ref (ad 4 0), .ref (ad 55 0), .int 1]) (v := .int 1) p_ad_5_0 rfl rfl rfl (Nat.le_of_ble_eq_true rfl) dX1_beginYears_6 (fun f_19612 H locs ef_19612 Y => ?_)
  have p_ad_5_0 := p_ad_5_0.me ef_19612
  have I := I.up (k := 5) (j := 0) (by decide) ef_19612 (okE_o (okFs_c okV_r (okFs_c okV_r (okFs_c okV_r (okFs_c okV_r (okFs_c (okV_i (bn_w (show bn 1 1 (1 : Int32) from bn_k (by decide)) (by decide))) okFs_n))))))
  refine lv_aload_n hx hb dX1_beginYears_9 rfl (lv_at hl 0 rfl) ?_
  refine pg_get S Y ok_X1 0 (by decide) kf1_15 (v := .ref (ad 1 0)) p_ad_5_0 rfl dX1_beginYears_10 ?_
  obtain ⟨v_19613, v_19615, v_19617, v_19619, v_19621, p_ad_1_0, b_19614, b_19616, b_19618, b_19620, b_19622⟩ := opnC_1 (j := 0) I (by decide)
  have p_ad_1_0 : pt L_19608 f_19612 (ad 1 0) (.inr (10, [.ref (ad 40 0), .ref (ad 41 0), .ref (ad 42 0), .ref (ad 10 0), .ref (ad 43 0), .ref (ad 20 0), .ref (ad 20 1), .ref (ad 20 2), .ref (ad 20 3), .ref (ad 20 4), .int v_19613, .int v_19615, .int v_19617, .int v_19619, .int v_19621])) := p_ad_1_0
  refine pg_getN S Y ok_X10 3 (by decide) kf1_40 (v := .ref (ad 10 0)) p_ad_1_0 rfl dX1_beginYears_13 ?_
  refine lv_iload_n hx hb dX1_beginYears_16 rfl (lv_at hl 1 rfl) ?_
  refine lv_iconst (v := 2) hx hb dX1_beginYears_17 (by decide) ?_
  refine lv_imul hx hb dX1_beginYears_18 ?_
  refine lv_topi (fun x_19623 ex_19623 => ?_)
  refine lv_sipush (v := 137) hx hb dX1_beginYears_19 (by decide) ?_
  refine lv_iadd hx hb dX1_beginYears_22 ?_
  refine lv_topi (fun x_19624 ex_19624 => ?_)
  obtain ⟨v_19625, v_19627, v_19629, v_19631, v_19633, p_ad_10_0, b_19626, b_19628, b_19630, b_19632, b_19634⟩ := opnC_10 (j := 0) I (by decide)
  have p_ad_10_0 : pt L_19608 f_19612 (ad 10 0) (.inr (4, [.ref (ad 11 0), .ref (ad 12 0), .int v_19625, .int v_19627, .int v_19629, .int v_19631, .int v_19633])) := p_ad_10_0
  refine pg_putN S Y ok_X4 6 (by decide) kf1_141 rfl (fs' := [.ref (ad 11 0), .ref (ad 12 0), .int v_19625, .int v_19627, .int v_19629, .int v_19631, .int x_19624]) (v := .int x_19624) p_ad_10_0 rfl rfl rfl (Nat.le_of_ble_eq_true rfl) dX1_beginYears_23 (fun f_19635 H locs ef_19635 Y => ?_)
  have p_ad_5_0 := p_ad_5_0.up ef_19635 (I.ne (k := 5) (j := 0) (k' := 10) (j' := 0) (by decide) (by decide) (Or.inl (by decide)))
  have p_ad_1_0 := p_ad_1_0.up ef_19635 (I.ne (k := 1) (j := 0) (k' := 10) (j' := 0) (by decide) (by decide) (Or.inl (by decide)))
  have p_ad_10_0 := p_ad_10_0.me ef_19635
  have I := I.up (k := 10) (j := 0) (by decide) ef_19635 (okE_o (okFs_c okV_r (okFs_c okV_r (okFs_c (okV_i b_19626) (okFs_c (okV_i b_19628) (okFs_c (okV_i b_19630) (okFs_c (okV_i b_19632) (okFs_c (okV_i (bn_w (bn_any x_19624) (by decide))) okFs_n))))))))
  exact prV (post := fun L1 f1 => SH (spC rs fc tc w q) nnC G ad L1 f1) S Y (by decide) (by decide) hA1 I dX1_beginYears_26
set_option maxHeartbeats 4000000 in
set_option maxRecDepth 100000 in
theorem x_X1_endYears {l : Launch} {G : GG}  {L : List Nat} {f : HF} {ad : Nat → Nat → Nat} {rs : RS} {fc : Int × Int} {tc w : Nat → Int × Int} {q : Nat → (Nat → Int32) → Prop} (I : SH (spC rs fc tc w q) nnC G ad L f) (hW : WBp w 8) (hT : WBp tc 4) (hQ : QIp q) : PMv l yX1_endYears cX1_endYears 1 0 0 0 G [.ref (ad 5 0)] L f (fun L1 f1 => SH (spC rs fc tc w q) nnC G ad L1 f1) := by
  refine PMv.of (post := fun L1 f1 => SH (spC rs fc tc w q) nnC G ad L1 f1) (own := RX1) (by decide) rfl (Nat.le_of_ble_eq_true rfl) (fun sz p e s m args below meth c A ls hA1 hname S Y hl => ?_)
  have hx := S.hx
  have hb := S.hb
  have hl : lv_has ls 1 [(0, .ref (ad 5 0))] := hl
  refine lv_aload_n hx hb dX1_endYears_0 rfl (lv_at hl 0 rfl) ?_
  refine lv_iconst (v := 0) hx hb dX1_endYears_1 (by decide) ?_
  obtain ⟨v_19642, p_ad_5_0, b_19643⟩ := opnC_5 (j := 0) I (by decide)
  have p_ad_5_0 : pt L f (ad 5 0) (.inr (1, [.ref (ad 1 0), .ref (ad 3 0), .ref (ad 4 0), .ref (ad 55 0), .int v_19642])) := p_ad_5_0
  refine pg_put S Y ok_X1 4 (by decide) kf1_27 rfl (fs' := [.ref (ad 1 0), .ref (ad 3 0), .ref (ad 4 0), .ref (ad 55 0), .int 0]) (v := .int 0) p_ad_5_0 rfl rfl rfl (Nat.le_of_ble_eq_true rfl) dX1_endYears_2 (fun f_19644 H locs ef_19644 Y => ?_)
  have p_ad_5_0 := p_ad_5_0.me ef_19644
  have I := I.up (k := 5) (j := 0) (by decide) ef_19644 (okE_o (okFs_c okV_r (okFs_c okV_r (okFs_c okV_r (okFs_c okV_r (okFs_c (okV_i (bn_w (show bn 0 0 (0 : Int32) from bn_k (by decide)) (by decide))) okFs_n))))))
  exact prV (post := fun L1 f1 => SH (spC rs fc tc w q) nnC G ad L1 f1) S Y (by decide) (by decide) hA1 I dX1_endYears_5
set_option maxHeartbeats 4000000 in
set_option maxRecDepth 100000 in
theorem x_X1_liveOn {l : Launch} {G : GG}  {L : List Nat} {f : HF} {ad : Nat → Nat → Nat} {rs : RS} {fc : Int × Int} {tc w : Nat → Int × Int} {q : Nat → (Nat → Int32) → Prop} (I : SH (spC rs fc tc w q) nnC G ad L f) (hW : WBp w 8) (hT : WBp tc 4) (hQ : QIp q) : PMv l yX1_liveOn cX1_liveOn 6 6 0 0 G [.ref (ad 5 0)] L f (fun L1 f1 => SH (spC rs fc tc w q) nnC G ad L1 f1) := by
  refine PMv.of (post := fun L1 f1 => SH (spC rs fc tc w q) nnC G ad L1 f1) (own := RX1) (by decide) rfl (Nat.le_of_ble_eq_true rfl) (fun sz p e s m args below meth c A ls hA1 hname S Y hl => ?_)
  have hx := S.hx
  have hb := S.hb
  have hl : lv_has ls 6 [(0, .ref (ad 5 0))] := hl
  have J_113 : ∀ (y113_1 y113_2 y113_3 y113_4 y113_5 y113_s0 y113_s1 : Int32) (L_113 : List Nat) (f_113 : HF) (H : Heap) (locs : List Loc) (ls : Array Slot), (SH (spC rs fc tc w q) nnC G ad L_113 f_113) → (bn 0 6 y113_2) → (bn 0 14 y113_3) → (bn (-5) 5 y113_4) → (bn (-13) 13 y113_5) → (bn (-5) 5 y113_s0) → (bn (-5) 5 y113_s1) → (DY G A s [] L_113 f_113 H locs) → (lv_has ls 6 [(0, .ref (ad 5 0)), (1, .int y113_1), (2, .int y113_2), (3, .int y113_3), (4, .int y113_4), (5, .int y113_5)]) → W p l e (rmD 6 0 0) s m args below meth c H locs (0) (0) (MQ below (va_Qv (fun (u : List Nat × HF) => (fun L1 f1 => SH (spC rs fc tc w q) nnC G ad L1 f1) u.1 u.2) (fun u t => pOut G (va_A (va_pl L f) sz) u.1 u.2 t) (va_A (va_pl L f) sz)) args s 0 0 A) (F0 m 113 ls [.int y113_s0, .int y113_s1, .ref (ad 5 0)]) := by
    intro y113_1 y113_2 y113_3 y113_4 y113_5 y113_s0 y113_s1 L_113 f_113 H locs ls I b_y113_2 b_y113_3 b_y113_4 b_y113_5 b_y113_s0 b_y113_s1 Y hl
    refine lv_iload_n hx hb dX1_liveOn_113 rfl (lv_at hl 1 rfl) ?_
    refine lv_iconst (v := 2) hx hb dX1_liveOn_114 (by decide) ?_
    refine lv_irem hx hb dX1_liveOn_115 (by decide) ?_
    refine lv_topi (fun x_19805 ex_19805 => ?_)
    refine lv_iconst (v := 1) hx hb dX1_liveOn_116 (by decide) ?_
    refine lv_iload_n hx hb dX1_liveOn_117 rfl (lv_at hl 1 rfl) ?_
    refine lv_bipush (v := 9) hx hb dX1_liveOn_118 (by decide) ?_
    refine lv_irem hx hb dX1_liveOn_120 (by decide) ?_
    refine lv_topi (fun x_19806 ex_19806 => ?_)
    refine lv_iadd hx hb dX1_liveOn_121 ?_
    refine lv_topi (fun x_19807 ex_19807 => ?_)
    refine cVi (As := [.int y113_s1, .int y113_s0, .int x_19805, .int x_19807]) (rest := []) S Y (x_X1_swearIn (l := l) I hW hT hQ) cw_X1_swearIn km1_122 (I.opo (k := 5) (j := 0) (by decide) rfl).choose_spec.1 ok_X1.1 rfl rfl ⟨Nat.le_of_ble_eq_true rfl, Nat.le_of_ble_eq_true rfl⟩ hl.1 rfl (Nat.le_of_ble_eq_true rfl) ⟨Nat.le_of_ble_eq_true rfl, Nat.le_of_ble_eq_true rfl⟩ dX1_liveOn_122 (fun r_19810 L_19808 f_19809 H locs I Y => ?_)
    refine lv_pop hx hb dX1_liveOn_125 rfl ?_
    refine lv_goto (tgt := 189) hx hb dX1_liveOn_126 (by decide) ?_
    exact prV (post := fun L1 f1 => SH (spC rs fc tc w q) nnC G ad L1 f1) S Y (by decide) (by decide) hA1 I dX1_liveOn_189
  have J_54 : ∀ (y54_1 y54_2 y54_3 y54_4 y54_s0 : Int32) (L_54 : List Nat) (f_54 : HF) (H : Heap) (locs : List Loc) (ls : Array Slot), (SH (spC rs fc tc w q) nnC G ad L_54 f_54) → (bn 0 6 y54_2) → (bn 0 14 y54_3) → (bn (-5) 5 y54_4) → (bn (-13) 13 y54_s0) → (DY G A s [] L_54 f_54 H locs) → (lv_has ls 6 [(0, .ref (ad 5 0)), (1, .int y54_1), (2, .int y54_2), (3, .int y54_3), (4, .int y54_4)]) → W p l e (rmD 6 0 0) s m args below meth c H locs (0) (0) (MQ below (va_Qv (fun (u : List Nat × HF) => (fun L1 f1 => SH (spC rs fc tc w q) nnC G ad L1 f1) u.1 u.2) (fun u t => pOut G (va_A (va_pl L f) sz) u.1 u.2 t) (va_A (va_pl L f) sz)) args s 0 0 A) (F0 m 54 ls [.int y54_s0]) := by
    intro y54_1 y54_2 y54_3 y54_4 y54_s0 L_54 f_54 H locs ls I b_y54_2 b_y54_3 b_y54_4 b_y54_s0 Y hl
    refine lv_istore (lv' := [(5, .int y54_s0), (0, .ref (ad 5 0)), (1, .int y54_1), (2, .int y54_2), (3, .int y54_3), (4, .int y54_4)]) hx hb dX1_liveOn_54 hl (by decide) rfl (fun ls hl => ?_)
    refine lv_iload_n hx hb dX1_liveOn_56 rfl (lv_at hl 2 rfl) ?_
    refine lv_bipush (v := 7) hx hb dX1_liveOn_57 (by decide) ?_
    refine lv_irem hx hb dX1_liveOn_59 (by decide) ?_
    refine lv_topi (fun x_19811 ex_19811 => ?_)
    rcases sw_0_4 x_19811 with h_19812 | h_19812 | h_19812 | h_19812 | h_19812 | h_19812
    · refine lv_fold (z := 0) h_19812 ?_
      refine lv_tableIn (off := 36) (tgt := 96) hx hb dX1_liveOn_60 (by decide) (by decide) (by decide) (by decide) ?_
      refine lv_aload_n hx hb dX1_liveOn_96 rfl (lv_at hl 1 rfl) ?_
      refine lv_iload hx hb dX1_liveOn_97 (lv_at hl 5 rfl) ?_
      refine lv_iload_n hx hb dX1_liveOn_99 rfl (lv_at hl 3 rfl) ?_
      refine lv_if_le (tgt := 112) hx hb dX1_liveOn_100 (by decide) (fun c_19813 => ?_) (fun c_19813 => ?_)
      · have B_19814 : bn 0 0 y54_2 := bn_w (bn_lel c_19813 b_y54_2 (show bn 0 0 (0 : Int32) from bn_k (by decide))) (by decide)
        refine lv_iconst (v := (-1)) hx hb dX1_liveOn_112 (by decide) ?_
        exact J_113 y54_1 y54_2 y54_3 y54_4 y54_s0 (-1) y54_4 _ _  _ _ _ I (bn_w B_19814 (by decide)) (bn_w b_y54_3 (by decide)) (bn_w b_y54_4 (by decide)) (bn_w b_y54_s0 (by decide)) (bn_w (show bn (-1) (-1) ((-1) : Int32) from bn_k (by decide)) (by decide)) (bn_w b_y54_4 (by decide)) Y (lv_sub hl [1, 2, 3, 4, 5, 0] rfl)
      · have B_19815 : bn 1 6 y54_2 := bn_w (bn_gtl c_19813 b_y54_2 (show bn 0 0 (0 : Int32) from bn_k (by decide))) (by decide)
        refine lv_iload_n hx hb dX1_liveOn_103 rfl (lv_at hl 2 rfl) ?_
        refine lv_bipush (v := 7) hx hb dX1_liveOn_104 (by decide) ?_
        refine lv_idiv hx hb dX1_liveOn_106 (by decide) ?_
        refine lv_topi (fun x_19816 ex_19816 => ?_)
        refine lv_iload_n hx hb dX1_liveOn_107 rfl (lv_at hl 3 rfl) ?_
        refine lv_irem hx hb dX1_liveOn_108 (nz_bn B_19815 (by decide)) ?_
        refine lv_topi (fun x_19817 ex_19817 => ?_)
        refine lv_goto (tgt := 113) hx hb dX1_liveOn_109 (by decide) ?_
        exact J_113 y54_1 y54_2 y54_3 y54_4 y54_s0 x_19817 y54_4 _ _  _ _ _ I (bn_w B_19815 (by decide)) (bn_w b_y54_3 (by decide)) (bn_w b_y54_4 (by decide)) (bn_w b_y54_s0 (by decide)) (bn_w (bn_eq ex_19817 (bn_rems B_19815 (by decide))) (by decide)) (bn_w b_y54_4 (by decide)) Y (lv_sub hl [1, 2, 3, 4, 5, 0] rfl)
    · refine lv_fold (z := 1) h_19812 ?_
      refine lv_tableIn (off := 69) (tgt := 129) hx hb dX1_liveOn_60 (by decide) (by decide) (by decide) (by decide) ?_
      refine lv_aload_n hx hb dX1_liveOn_129 rfl (lv_at hl 1 rfl) ?_
      refine lv_iload hx hb dX1_liveOn_130 (lv_at hl 0 rfl) ?_
      refine cVi (As := [.int y54_s0]) (rest := []) S Y (x_X1_breakOath (l := l) I hW hT hQ) cw_X1_breakOath km1_125 (I.opo (k := 5) (j := 0) (by decide) rfl).choose_spec.1 ok_X1.1 rfl rfl ⟨Nat.le_of_ble_eq_true rfl, Nat.le_of_ble_eq_true rfl⟩ hl.1 rfl (Nat.le_of_ble_eq_true rfl) ⟨Nat.le_of_ble_eq_true rfl, Nat.le_of_ble_eq_true rfl⟩ dX1_liveOn_132 (fun r_19820 L_19818 f_19819 H locs hr_19820 Y => ?_)
      obtain ⟨er_19820, I⟩ := hr_19820
      refine lv_pop hx hb dX1_liveOn_135 rfl ?_
      refine lv_goto (tgt := 189) hx hb dX1_liveOn_136 (by decide) ?_
      exact prV (post := fun L1 f1 => SH (spC rs fc tc w q) nnC G ad L1 f1) S Y (by decide) (by decide) hA1 I dX1_liveOn_189
    · refine lv_fold (z := 2) h_19812 ?_
      refine lv_tableIn (off := 79) (tgt := 139) hx hb dX1_liveOn_60 (by decide) (by decide) (by decide) (by decide) ?_
      refine lv_iload_n hx hb dX1_liveOn_139 rfl (lv_at hl 2 rfl) ?_
      refine lv_iconst (v := 5) hx hb dX1_liveOn_140 (by decide) ?_
      refine lv_irem hx hb dX1_liveOn_141 (by decide) ?_
      refine lv_topi (fun x_19821 ex_19821 => ?_)
      refine lv_if_ne (tgt := 189) hx hb dX1_liveOn_142 (by decide) (fun c_19822 => ?_) (fun c_19822 => ?_)
      · exact prV (post := fun L1 f1 => SH (spC rs fc tc w q) nnC G ad L1 f1) S Y (by decide) (by decide) hA1 I dX1_liveOn_189
      · have B_19823 : bn 0 0 x_19821 := bn_w (bn_eq c_19822 (show bn 0 0 (0 : Int32) from bn_k (by decide))) (by decide)
        refine lv_aload_n hx hb dX1_liveOn_145 rfl (lv_at hl 1 rfl) ?_
        refine lv_iload hx hb dX1_liveOn_146 (lv_at hl 0 rfl) ?_
        refine cVi (As := [.int y54_s0]) (rest := []) S Y (x_X1_releaseOath (l := l) I hW hT hQ) cw_X1_releaseOath km1_128 (I.opo (k := 5) (j := 0) (by decide) rfl).choose_spec.1 ok_X1.1 rfl rfl ⟨Nat.le_of_ble_eq_true rfl, Nat.le_of_ble_eq_true rfl⟩ hl.1 rfl (Nat.le_of_ble_eq_true rfl) ⟨Nat.le_of_ble_eq_true rfl, Nat.le_of_ble_eq_true rfl⟩ dX1_liveOn_148 (fun r_19826 L_19824 f_19825 H locs hr_19826 Y => ?_)
        obtain ⟨er_19826, I⟩ := hr_19826
        refine lv_pop hx hb dX1_liveOn_151 rfl ?_
        refine lv_goto (tgt := 189) hx hb dX1_liveOn_152 (by decide) ?_
        exact prV (post := fun L1 f1 => SH (spC rs fc tc w q) nnC G ad L1 f1) S Y (by decide) (by decide) hA1 I dX1_liveOn_189
    · refine lv_fold (z := 3) h_19812 ?_
      refine lv_tableIn (off := 95) (tgt := 155) hx hb dX1_liveOn_60 (by decide) (by decide) (by decide) (by decide) ?_
      refine lv_aload_n hx hb dX1_liveOn_155 rfl (lv_at hl 1 rfl) ?_
      refine lv_iload hx hb dX1_liveOn_156 (lv_at hl 5 rfl) ?_
      refine cVi (As := [.int y54_4]) (rest := []) S Y (x_X1_kneelDown (l := l) I hW hT hQ) cw_X1_kneelDown km1_131 (I.opo (k := 5) (j := 0) (by decide) rfl).choose_spec.1 ok_X1.1 rfl rfl ⟨Nat.le_of_ble_eq_true rfl, Nat.le_of_ble_eq_true rfl⟩ hl.1 rfl (Nat.le_of_ble_eq_true rfl) ⟨Nat.le_of_ble_eq_true rfl, Nat.le_of_ble_eq_true rfl⟩ dX1_liveOn_158 (fun r_19829 L_19827 f_19828 H locs hr_19829 Y => ?_)
      obtain ⟨er_19829, I⟩ := hr_19829
      refine lv_pop hx hb dX1_liveOn_161 rfl ?_
      refine lv_goto (tgt := 189) hx hb dX1_liveOn_162 (by decide) ?_
      exact prV (post := fun L1 f1 => SH (spC rs fc tc w q) nnC G ad L1 f1) S Y (by decide) (by decide) hA1 I dX1_liveOn_189
    · refine lv_fold (z := 4) h_19812 ?_
      refine lv_tableIn (off := 105) (tgt := 165) hx hb dX1_liveOn_60 (by decide) (by decide) (by decide) (by decide) ?_
      refine lv_iload_n hx hb dX1_liveOn_165 rfl (lv_at hl 2 rfl) ?_
      refine lv_iconst (v := 3) hx hb dX1_liveOn_166 (by decide) ?_
      refine lv_irem hx hb dX1_liveOn_167 (by decide) ?_
      refine lv_topi (fun x_19830 ex_19830 => ?_)
      refine lv_if_ne (tgt := 189) hx hb dX1_liveOn_168 (by decide) (fun c_19831 => ?_) (fun c_19831 => ?_)
      · exact prV (post := fun L1 f1 => SH (spC rs fc tc w q) nnC G ad L1 f1) S Y (by decide) (by decide) hA1 I dX1_liveOn_189
      · have B_19832 : bn 0 0 x_19830 := bn_w (bn_eq c_19831 (show bn 0 0 (0 : Int32) from bn_k (by decide))) (by decide)
        refine lv_aload_n hx hb dX1_liveOn_171 rfl (lv_at hl 1 rfl) ?_
        refine lv_iload hx hb dX1_liveOn_172 (lv_at hl 5 rfl) ?_
        refine lv_iload_n hx hb dX1_liveOn_174 rfl (lv_at hl 2 rfl) ?_
        refine lv_iconst (v := 2) hx hb dX1_liveOn_175 (by decide) ?_
        refine lv_irem hx hb dX1_liveOn_176 (by decide) ?_
        refine lv_topi (fun x_19833 ex_19833 => ?_)
        refine cVi (As := [.int y54_4, .int x_19833]) (rest := []) S Y (x_X1_slide (l := l) I hW hT hQ) cw_X1_slide km1_134 (I.opo (k := 5) (j := 0) (by decide) rfl).choose_spec.1 ok_X1.1 rfl rfl ⟨Nat.le_of_ble_eq_true rfl, Nat.le_of_ble_eq_true rfl⟩ hl.1 rfl (Nat.le_of_ble_eq_true rfl) ⟨Nat.le_of_ble_eq_true rfl, Nat.le_of_ble_eq_true rfl⟩ dX1_liveOn_177 (fun r_19836 L_19834 f_19835 H locs hr_19836 Y => ?_)
        obtain ⟨er_19836, I⟩ := hr_19836
        refine lv_pop hx hb dX1_liveOn_180 rfl ?_
        refine lv_goto (tgt := 189) hx hb dX1_liveOn_181 (by decide) ?_
        exact prV (post := fun L1 f1 => SH (spC rs fc tc w q) nnC G ad L1 f1) S Y (by decide) (by decide) hA1 I dX1_liveOn_189
    · refine lv_tableOut (tgt := 184) hx hb dX1_liveOn_60 h_19812 (by decide) ?_
      refine lv_aload_n hx hb dX1_liveOn_184 rfl (lv_at hl 1 rfl) ?_
      refine cVi (As := []) (rest := []) S Y (x_X1_passDay (l := l) I hW hT hQ) cw_X1_passDay km1_138 (I.opo (k := 5) (j := 0) (by decide) rfl).choose_spec.1 ok_X1.1 rfl rfl ⟨Nat.le_of_ble_eq_true rfl, Nat.le_of_ble_eq_true rfl⟩ hl.1 rfl (Nat.le_of_ble_eq_true rfl) ⟨Nat.le_of_ble_eq_true rfl, Nat.le_of_ble_eq_true rfl⟩ dX1_liveOn_185 (fun r_19839 L_19837 f_19838 H locs hr_19839 Y => ?_)
      obtain ⟨er_19839, I⟩ := hr_19839
      refine lv_pop hx hb dX1_liveOn_188 rfl ?_
      exact prV (post := fun L1 f1 => SH (spC rs fc tc w q) nnC G ad L1 f1) S Y (by decide) (by decide) hA1 I dX1_liveOn_189
  have J_41 : ∀ (y41_1 y41_2 y41_3 y41_s0 : Int32) (L_41 : List Nat) (f_41 : HF) (H : Heap) (locs : List Loc) (ls : Array Slot), (SH (spC rs fc tc w q) nnC G ad L_41 f_41) → (bn 0 6 y41_2) → (bn 0 14 y41_3) → (bn (-5) 5 y41_s0) → (DY G A s [] L_41 f_41 H locs) → (lv_has ls 6 [(0, .ref (ad 5 0)), (1, .int y41_1), (2, .int y41_2), (3, .int y41_3)]) → W p l e (rmD 6 0 0) s m args below meth c H locs (0) (0) (MQ below (va_Qv (fun (u : List Nat × HF) => (fun L1 f1 => SH (spC rs fc tc w q) nnC G ad L1 f1) u.1 u.2) (fun u t => pOut G (va_A (va_pl L f) sz) u.1 u.2 t) (va_A (va_pl L f) sz)) args s 0 0 A) (F0 m 41 ls [.int y41_s0]) := by
    intro y41_1 y41_2 y41_3 y41_s0 L_41 f_41 H locs ls I b_y41_2 b_y41_3 b_y41_s0 Y hl
    refine lv_istore (lv' := [(4, .int y41_s0), (0, .ref (ad 5 0)), (1, .int y41_1), (2, .int y41_2), (3, .int y41_3)]) hx hb dX1_liveOn_41 hl (by decide) rfl (fun ls hl => ?_)
    refine lv_iload_n hx hb dX1_liveOn_43 rfl (lv_at hl 4 rfl) ?_
    refine lv_if_le (tgt := 53) hx hb dX1_liveOn_44 (by decide) (fun c_19840 => ?_) (fun c_19840 => ?_)
    · have B_19841 : bn 0 0 y41_3 := bn_w (bn_lel c_19840 b_y41_3 (show bn 0 0 (0 : Int32) from bn_k (by decide))) (by decide)
      refine lv_iconst (v := (-1)) hx hb dX1_liveOn_53 (by decide) ?_
      exact J_54 y41_1 y41_2 y41_3 y41_s0 (-1) _ _  _ _ _ I (bn_w b_y41_2 (by decide)) (bn_w B_19841 (by decide)) (bn_w b_y41_s0 (by decide)) (bn_w (show bn (-1) (-1) ((-1) : Int32) from bn_k (by decide)) (by decide)) Y (lv_sub hl [1, 2, 3, 4, 0] rfl)
    · have B_19842 : bn 1 14 y41_3 := bn_w (bn_gtl c_19840 b_y41_3 (show bn 0 0 (0 : Int32) from bn_k (by decide))) (by decide)
      refine lv_iload_n hx hb dX1_liveOn_47 rfl (lv_at hl 2 rfl) ?_
      refine lv_iload_n hx hb dX1_liveOn_48 rfl (lv_at hl 4 rfl) ?_
      refine lv_irem hx hb dX1_liveOn_49 (nz_bn B_19842 (by decide)) ?_
      refine lv_topi (fun x_19843 ex_19843 => ?_)
      refine lv_goto (tgt := 54) hx hb dX1_liveOn_50 (by decide) ?_
      exact J_54 y41_1 y41_2 y41_3 y41_s0 x_19843 _ _  _ _ _ I (bn_w b_y41_2 (by decide)) (bn_w B_19842 (by decide)) (bn_w b_y41_s0 (by decide)) (bn_w (bn_eq ex_19843 (bn_rems B_19842 (by decide))) (by decide)) Y (lv_sub hl [1, 2, 3, 4, 0] rfl)
  refine lv_aload_n hx hb dX1_liveOn_0 rfl (lv_at hl 0 rfl) ?_
  obtain ⟨v_19844, p_ad_5_0, b_19845⟩ := opnC_5 (j := 0) I (by decide)
  have p_ad_5_0 : pt L f (ad 5 0) (.inr (1, [.ref (ad 1 0), .ref (ad 3 0), .ref (ad 4 0), .ref (ad 55 0), .int v_19844])) := p_ad_5_0
  refine pg_get S Y ok_X1 0 (by decide) kf1_15 (v := .ref (ad 1 0)) p_ad_5_0 rfl dX1_liveOn_1 ?_
  obtain ⟨v_19846, v_19848, v_19850, v_19852, v_19854, p_ad_1_0, b_19847, b_19849, b_19851, b_19853, b_19855⟩ := opnC_1 (j := 0) I (by decide)
  have p_ad_1_0 : pt L f (ad 1 0) (.inr (10, [.ref (ad 40 0), .ref (ad 41 0), .ref (ad 42 0), .ref (ad 10 0), .ref (ad 43 0), .ref (ad 20 0), .ref (ad 20 1), .ref (ad 20 2), .ref (ad 20 3), .ref (ad 20 4), .int v_19846, .int v_19848, .int v_19850, .int v_19852, .int v_19854])) := p_ad_1_0
  refine pg_getN S Y ok_X10 3 (by decide) kf1_40 (v := .ref (ad 10 0)) p_ad_1_0 rfl dX1_liveOn_4 ?_
  refine cVi (As := []) (rest := []) S Y (x_X4_draw (l := l) (j := 0) I hW hT hQ (by decide)) cw_X4_draw km1_144 (I.opo (k := 10) (j := 0) (by decide) rfl).choose_spec.1 ok_X4.1 rfl rfl ⟨Nat.le_of_ble_eq_true rfl, Nat.le_of_ble_eq_true rfl⟩ hl.1 rfl (Nat.le_of_ble_eq_true rfl) ⟨Nat.le_of_ble_eq_true rfl, Nat.le_of_ble_eq_true rfl⟩ dX1_liveOn_7 (fun r_19858 L_19856 f_19857 H locs I Y => ?_)
  refine lv_istore_n (lv' := [(1, .int r_19858), (0, .ref (ad 5 0))]) hx hb dX1_liveOn_10 rfl hl (by decide) rfl (fun ls hl => ?_)
  refine lv_aload_n hx hb dX1_liveOn_11 rfl (lv_at hl 1 rfl) ?_
  obtain ⟨v_19859, p_ad_5_0, b_19860⟩ := opnC_5 (j := 0) I (by decide)
  have p_ad_5_0 : pt L_19856 f_19857 (ad 5 0) (.inr (1, [.ref (ad 1 0), .ref (ad 3 0), .ref (ad 4 0), .ref (ad 55 0), .int v_19859])) := p_ad_5_0
  refine pg_get S Y ok_X1 0 (by decide) kf1_15 (v := .ref (ad 1 0)) p_ad_5_0 rfl dX1_liveOn_12 ?_
  obtain ⟨v_19861, v_19863, v_19865, v_19867, v_19869, p_ad_1_0, b_19862, b_19864, b_19866, b_19868, b_19870⟩ := opnC_1 (j := 0) I (by decide)
  have p_ad_1_0 : pt L_19856 f_19857 (ad 1 0) (.inr (10, [.ref (ad 40 0), .ref (ad 41 0), .ref (ad 42 0), .ref (ad 10 0), .ref (ad 43 0), .ref (ad 20 0), .ref (ad 20 1), .ref (ad 20 2), .ref (ad 20 3), .ref (ad 20 4), .int v_19861, .int v_19863, .int v_19865, .int v_19867, .int v_19869])) := p_ad_1_0
  refine pg_getN S Y ok_X10 10 (by decide) kf1_101 (v := .int v_19861) p_ad_1_0 rfl dX1_liveOn_15 ?_
  refine lv_istore_n (lv' := [(2, .int v_19861), (1, .int r_19858), (0, .ref (ad 5 0))]) hx hb dX1_liveOn_18 rfl hl (by decide) rfl (fun ls hl => ?_)
  refine lv_aload_n hx hb dX1_liveOn_19 rfl (lv_at hl 2 rfl) ?_
  refine pg_get S Y ok_X1 0 (by decide) kf1_15 (v := .ref (ad 1 0)) p_ad_5_0 rfl dX1_liveOn_20 ?_
  refine pg_getN S Y ok_X10 3 (by decide) kf1_40 (v := .ref (ad 10 0)) p_ad_1_0 rfl dX1_liveOn_23 ?_
  obtain ⟨v_19871, v_19873, v_19875, v_19877, v_19879, p_ad_10_0, b_19872, b_19874, b_19876, b_19878, b_19880⟩ := opnC_10 (j := 0) I (by decide)
  have p_ad_10_0 : pt L_19856 f_19857 (ad 10 0) (.inr (4, [.ref (ad 11 0), .ref (ad 12 0), .int v_19871, .int v_19873, .int v_19875, .int v_19877, .int v_19879])) := p_ad_10_0
  refine pg_getN S Y ok_X4 2 (by decide) kf1_44 (v := .int v_19871) p_ad_10_0 rfl dX1_liveOn_26 ?_
  refine lv_istore_n (lv' := [(3, .int v_19871), (2, .int v_19861), (1, .int r_19858), (0, .ref (ad 5 0))]) hx hb dX1_liveOn_29 rfl hl (by decide) rfl (fun ls hl => ?_)
  refine lv_iload_n hx hb dX1_liveOn_30 rfl (lv_at hl 1 rfl) ?_
  refine lv_if_le (tgt := 40) hx hb dX1_liveOn_31 (by decide) (fun c_19881 => ?_) (fun c_19881 => ?_)
  · have B_19882 : bn 0 0 v_19861 := bn_w (bn_lel c_19881 b_19862 (show bn 0 0 (0 : Int32) from bn_k (by decide))) (by decide)
    refine lv_iconst (v := (-1)) hx hb dX1_liveOn_40 (by decide) ?_
    exact J_41 r_19858 v_19861 v_19871 (-1) _ _  _ _ _ I (bn_w B_19882 (by decide)) (bn_w b_19872 (by decide)) (bn_w (show bn (-1) (-1) ((-1) : Int32) from bn_k (by decide)) (by decide)) Y (lv_sub hl [3, 2, 1, 0] rfl)
  · have B_19883 : bn 1 6 v_19861 := bn_w (bn_gtl c_19881 b_19862 (show bn 0 0 (0 : Int32) from bn_k (by decide))) (by decide)
    refine lv_iload_n hx hb dX1_liveOn_34 rfl (lv_at hl 2 rfl) ?_
    refine lv_iload_n hx hb dX1_liveOn_35 rfl (lv_at hl 1 rfl) ?_
    refine lv_irem hx hb dX1_liveOn_36 (nz_bn B_19883 (by decide)) ?_
    refine lv_topi (fun x_19884 ex_19884 => ?_)
    refine lv_goto (tgt := 41) hx hb dX1_liveOn_37 (by decide) ?_
    exact J_41 r_19858 v_19861 v_19871 x_19884 _ _  _ _ _ I (bn_w B_19883 (by decide)) (bn_w b_19872 (by decide)) (bn_w (bn_eq ex_19884 (bn_rems B_19883 (by decide))) (by decide)) Y (lv_sub hl [3, 2, 1, 0] rfl)
