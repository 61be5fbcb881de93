theorem dX10_has_0 : decode cX10_has 0 = .ok (.iload_n 1, 1) := by decide +kernel
theorem dX10_has_1 : decode cX10_has 1 = .ok (.ifCond .lt 15, 3) := by decide +kernel
theorem dX10_has_16 : decode cX10_has 16 = .ok (.iconst 0, 1) := by decide +kernel
theorem dX10_has_17 : decode cX10_has 17 = .ok (.ireturn, 1) := by decide +kernel
theorem dX10_has_4 : decode cX10_has 4 = .ok (.iload_n 1, 1) := by decide +kernel
theorem dX10_has_5 : decode cX10_has 5 = .ok (.aload_n 0, 1) := by decide +kernel
theorem dX10_has_6 : decode cX10_has 6 = .ok (.getfield 80, 3) := by decide +kernel
theorem ok_X10 : clOK 10 RX10 TX10 15 tyX10 := ⟨rfl, fun w h => ⟨(show ∀ w ∈ u_ws RX10 TX10 15, w ∈ lw_tbl by decide +kernel) w h, (show ∀ w ∈ u_ws RX10 TX10 15, gw w = true by decide +kernel) w h⟩, tyX10_ok, nmX10⟩
theorem kf10_80 : inW (Cond.fieldLink RX10 80 "KneeOaths$World" "people" "I") := ⟨List.mem_of_getElem? (i := 288) (by decide +kernel), by decide +kernel⟩
theorem dX10_has_9 : decode cX10_has 9 = .ok (.if_icmp .ge 7, 3) := by decide +kernel
theorem dX10_has_12 : decode cX10_has 12 = .ok (.iconst 1, 1) := by decide +kernel
theorem dX10_has_13 : decode cX10_has 13 = .ok (.goto 4, 3) := by decide +kernel
theorem dX10_toughOf_0 : decode cX10_toughOf 0 = .ok (.iload_n 1, 1) := by decide +kernel
theorem dX10_toughOf_1 : decode cX10_toughOf 1 = .ok (.ifCond .lt 20, 3) := by decide +kernel
theorem dX10_toughOf_21 : decode cX10_toughOf 21 = .ok (.iconst 0, 1) := by decide +kernel
theorem dX10_toughOf_22 : decode cX10_toughOf 22 = .ok (.ireturn, 1) := by decide +kernel
theorem dX10_toughOf_4 : decode cX10_toughOf 4 = .ok (.iload_n 1, 1) := by decide +kernel
theorem dX10_toughOf_5 : decode cX10_toughOf 5 = .ok (.aload_n 0, 1) := by decide +kernel
theorem dX10_toughOf_6 : decode cX10_toughOf 6 = .ok (.getfield 80, 3) := by decide +kernel
theorem dX10_toughOf_9 : decode cX10_toughOf 9 = .ok (.if_icmp .ge 12, 3) := by decide +kernel
theorem dX10_toughOf_12 : decode cX10_toughOf 12 = .ok (.aload_n 0, 1) := by decide +kernel
theorem dX10_toughOf_13 : decode cX10_toughOf 13 = .ok (.getfield 9, 3) := by decide +kernel
theorem kf10_9 : inW (Cond.fieldLink RX10 9 "KneeOaths$World" "toughs" "[I") := ⟨List.mem_of_getElem? (i := 261) (by decide +kernel), by decide +kernel⟩
theorem dX10_toughOf_16 : decode cX10_toughOf 16 = .ok (.iload_n 1, 1) := by decide +kernel
theorem dX10_toughOf_17 : decode cX10_toughOf 17 = .ok (.iaload, 1) := by decide +kernel
theorem dX10_toughOf_18 : decode cX10_toughOf 18 = .ok (.goto 4, 3) := by decide +kernel
theorem dX10_ageOf_0 : decode cX10_ageOf 0 = .ok (.iload_n 1, 1) := by decide +kernel
theorem dX10_ageOf_1 : decode cX10_ageOf 1 = .ok (.ifCond .lt 20, 3) := by decide +kernel
theorem dX10_ageOf_21 : decode cX10_ageOf 21 = .ok (.iconst 0, 1) := by decide +kernel
theorem dX10_ageOf_22 : decode cX10_ageOf 22 = .ok (.ireturn, 1) := by decide +kernel
theorem dX10_ageOf_4 : decode cX10_ageOf 4 = .ok (.iload_n 1, 1) := by decide +kernel
theorem dX10_ageOf_5 : decode cX10_ageOf 5 = .ok (.aload_n 0, 1) := by decide +kernel
theorem dX10_ageOf_6 : decode cX10_ageOf 6 = .ok (.getfield 80, 3) := by decide +kernel
theorem dX10_ageOf_9 : decode cX10_ageOf 9 = .ok (.if_icmp .ge 12, 3) := by decide +kernel
theorem dX10_ageOf_12 : decode cX10_ageOf 12 = .ok (.aload_n 0, 1) := by decide +kernel
theorem dX10_ageOf_13 : decode cX10_ageOf 13 = .ok (.getfield 15, 3) := by decide +kernel
theorem kf10_15 : inW (Cond.fieldLink RX10 15 "KneeOaths$World" "ages" "[I") := ⟨List.mem_of_getElem? (i := 262) (by decide +kernel), by decide +kernel⟩
theorem dX10_ageOf_16 : decode cX10_ageOf 16 = .ok (.iload_n 1, 1) := by decide +kernel
theorem dX10_ageOf_17 : decode cX10_ageOf 17 = .ok (.iaload, 1) := by decide +kernel
theorem dX10_ageOf_18 : decode cX10_ageOf 18 = .ok (.goto 4, 3) := by decide +kernel
theorem dX10_welcome_0 : decode cX10_welcome 0 = .ok (.aload_n 0, 1) := by decide +kernel
theorem dX10_welcome_1 : decode cX10_welcome 1 = .ok (.getfield 80, 3) := by decide +kernel
theorem dX10_welcome_4 : decode cX10_welcome 4 = .ok (.bipush 6, 2) := by decide +kernel
theorem dX10_welcome_6 : decode cX10_welcome 6 = .ok (.if_icmp .ge 23, 3) := by decide +kernel
theorem dX10_welcome_29 : decode cX10_welcome 29 = .ok (.iconst (-1), 1) := by decide +kernel
theorem dX10_welcome_30 : decode cX10_welcome 30 = .ok (.ireturn, 1) := by decide +kernel
theorem dX10_welcome_9 : decode cX10_welcome 9 = .ok (.iload_n 1, 1) := by decide +kernel
theorem dX10_welcome_10 : decode cX10_welcome 10 = .ok (.iconst 0, 1) := by decide +kernel
theorem dX10_welcome_11 : decode cX10_welcome 11 = .ok (.bipush 9, 2) := by decide +kernel
theorem dX10_welcome_13 : decode cX10_welcome 13 = .ok (.invokestatic 89, 3) := by decide +kernel
theorem cw_X11_within : CWs yX11_within cX11_within 3 (some .boolean) 3 := ⟨⟨⟨List.mem_of_getElem? (i := 124) (by decide +kernel), by decide +kernel⟩, ⟨List.mem_of_getElem? (i := 543) (by decide +kernel), by decide +kernel⟩, by decide +kernel⟩, ⟨List.mem_of_getElem? (i := 542) (by decide +kernel), by decide +kernel⟩⟩
theorem km10_89 : inW (Cond.methodLinkNest RX10 89 yX11_within "KneeOaths") := ⟨List.mem_of_getElem? (i := 541) (by decide +kernel), by decide +kernel⟩
theorem dX10_welcome_16 : decode cX10_welcome 16 = .ok (.ifCond .eq 13, 3) := by decide +kernel
theorem dX10_welcome_19 : decode cX10_welcome 19 = .ok (.iload_n 2, 1) := by decide +kernel
theorem dX10_welcome_20 : decode cX10_welcome 20 = .ok (.iconst 0, 1) := by decide +kernel
theorem dX10_welcome_21 : decode cX10_welcome 21 = .ok (.bipush 99, 2) := by decide +kernel
theorem dX10_welcome_23 : decode cX10_welcome 23 = .ok (.invokestatic 89, 3) := by decide +kernel
theorem dX10_welcome_26 : decode cX10_welcome 26 = .ok (.ifCond .ne 5, 3) := by decide +kernel
theorem dX10_welcome_31 : decode cX10_welcome 31 = .ok (.aload_n 0, 1) := by decide +kernel
theorem dX10_welcome_32 : decode cX10_welcome 32 = .ok (.getfield 9, 3) := by decide +kernel
theorem dX10_welcome_35 : decode cX10_welcome 35 = .ok (.aload_n 0, 1) := by decide +kernel
theorem dX10_welcome_36 : decode cX10_welcome 36 = .ok (.getfield 80, 3) := by decide +kernel
theorem dX10_welcome_39 : decode cX10_welcome 39 = .ok (.iload_n 1, 1) := by decide +kernel
theorem dX10_welcome_40 : decode cX10_welcome 40 = .ok (.iastore, 1) := by decide +kernel
theorem dX10_welcome_41 : decode cX10_welcome 41 = .ok (.aload_n 0, 1) := by decide +kernel
theorem dX10_welcome_42 : decode cX10_welcome 42 = .ok (.getfield 15, 3) := by decide +kernel
theorem dX10_welcome_45 : decode cX10_welcome 45 = .ok (.aload_n 0, 1) := by decide +kernel
theorem dX10_welcome_46 : decode cX10_welcome 46 = .ok (.getfield 80, 3) := by decide +kernel
theorem dX10_welcome_49 : decode cX10_welcome 49 = .ok (.iload_n 2, 1) := by decide +kernel
theorem dX10_welcome_50 : decode cX10_welcome 50 = .ok (.iastore, 1) := by decide +kernel
theorem dX10_welcome_51 : decode cX10_welcome 51 = .ok (.aload_n 0, 1) := by decide +kernel
theorem dX10_welcome_52 : decode cX10_welcome 52 = .ok (.dup, 1) := by decide +kernel
theorem dX10_welcome_53 : decode cX10_welcome 53 = .ok (.getfield 80, 3) := by decide +kernel
theorem dX10_welcome_56 : decode cX10_welcome 56 = .ok (.iconst 1, 1) := by decide +kernel
theorem dX10_welcome_57 : decode cX10_welcome 57 = .ok (.iadd, 1) := by decide +kernel
theorem dX10_welcome_58 : decode cX10_welcome 58 = .ok (.putfield 80, 3) := by decide +kernel
theorem dX10_welcome_61 : decode cX10_welcome 61 = .ok (.aload_n 0, 1) := by decide +kernel
theorem dX10_welcome_62 : decode cX10_welcome 62 = .ok (.getfield 80, 3) := by decide +kernel
theorem dX10_welcome_65 : decode cX10_welcome 65 = .ok (.iconst 1, 1) := by decide +kernel
theorem dX10_welcome_66 : decode cX10_welcome 66 = .ok (.isub, 1) := by decide +kernel
theorem dX10_welcome_67 : decode cX10_welcome 67 = .ok (.ireturn, 1) := by decide +kernel
theorem dX10_script_0 : decode cX10_script 0 = .ok (.iload_n 1, 1) := by decide +kernel
theorem dX10_script_1 : decode cX10_script 1 = .ok (.ifCond .lt 20, 3) := by decide +kernel
theorem dX10_script_21 : decode cX10_script 21 = .ok (.aconst_null, 1) := by decide +kernel
theorem dX10_script_22 : decode cX10_script 22 = .ok (.areturn, 1) := by decide +kernel
theorem dX10_script_4 : decode cX10_script 4 = .ok (.iload_n 1, 1) := by decide +kernel
theorem dX10_script_5 : decode cX10_script 5 = .ok (.aload_n 0, 1) := by decide +kernel
theorem dX10_script_6 : decode cX10_script 6 = .ok (.getfield 67, 3) := by decide +kernel
theorem kf10_67 : inW (Cond.fieldLink RX10 67 "KneeOaths$World" "textCount" "I") := ⟨List.mem_of_getElem? (i := 293) (by decide +kernel), by decide +kernel⟩
theorem dX10_script_9 : decode cX10_script 9 = .ok (.if_icmp .ge 12, 3) := by decide +kernel
theorem dX10_script_12 : decode cX10_script 12 = .ok (.aload_n 0, 1) := by decide +kernel
theorem dX10_script_13 : decode cX10_script 13 = .ok (.getfield 20, 3) := by decide +kernel
theorem kf10_20 : inW (Cond.fieldLink RX10 20 "KneeOaths$World" "scripts" "[LKneeOaths$Script;") := ⟨List.mem_of_getElem? (i := 263) (by decide +kernel), by decide +kernel⟩
theorem dX10_script_16 : decode cX10_script 16 = .ok (.iload_n 1, 1) := by decide +kernel
theorem dX10_script_17 : decode cX10_script 17 = .ok (.aaload, 1) := by decide +kernel
theorem dX10_script_18 : decode cX10_script 18 = .ok (.goto 4, 3) := by decide +kernel
theorem dX10_freeScript_0 : decode cX10_freeScript 0 = .ok (.aload_n 0, 1) := by decide +kernel
theorem dX10_freeScript_1 : decode cX10_freeScript 1 = .ok (.getfield 67, 3) := by decide +kernel
theorem dX10_freeScript_4 : decode cX10_freeScript 4 = .ok (.iconst 4, 1) := by decide +kernel
theorem dX10_freeScript_5 : decode cX10_freeScript 5 = .ok (.if_icmp .ge 15, 3) := by decide +kernel
theorem dX10_freeScript_20 : decode cX10_freeScript 20 = .ok (.aconst_null, 1) := by decide +kernel
theorem dX10_freeScript_21 : decode cX10_freeScript 21 = .ok (.areturn, 1) := by decide +kernel
theorem dX10_freeScript_8 : decode cX10_freeScript 8 = .ok (.aload_n 0, 1) := by decide +kernel
theorem dX10_freeScript_9 : decode cX10_freeScript 9 = .ok (.getfield 20, 3) := by decide +kernel
theorem dX10_freeScript_12 : decode cX10_freeScript 12 = .ok (.aload_n 0, 1) := by decide +kernel
theorem dX10_freeScript_13 : decode cX10_freeScript 13 = .ok (.getfield 67, 3) := by decide +kernel
theorem dX10_freeScript_16 : decode cX10_freeScript 16 = .ok (.aaload, 1) := by decide +kernel
theorem dX10_freeScript_17 : decode cX10_freeScript 17 = .ok (.goto 4, 3) := by decide +kernel
theorem dX10_keepScript_0 : decode cX10_keepScript 0 = .ok (.aload_n 0, 1) := by decide +kernel
theorem dX10_keepScript_1 : decode cX10_keepScript 1 = .ok (.dup, 1) := by decide +kernel
theorem dX10_keepScript_2 : decode cX10_keepScript 2 = .ok (.getfield 67, 3) := by decide +kernel
theorem dX10_keepScript_5 : decode cX10_keepScript 5 = .ok (.iconst 1, 1) := by decide +kernel
theorem dX10_keepScript_6 : decode cX10_keepScript 6 = .ok (.iadd, 1) := by decide +kernel
theorem dX10_keepScript_7 : decode cX10_keepScript 7 = .ok (.putfield 67, 3) := by decide +kernel
theorem dX10_keepScript_10 : decode cX10_keepScript 10 = .ok (.aload_n 0, 1) := by decide +kernel
theorem dX10_keepScript_11 : decode cX10_keepScript 11 = .ok (.getfield 67, 3) := by decide +kernel
theorem dX10_keepScript_14 : decode cX10_keepScript 14 = .ok (.iconst 1, 1) := by decide +kernel
theorem dX10_keepScript_15 : decode cX10_keepScript 15 = .ok (.isub, 1) := by decide +kernel
theorem dX10_keepScript_16 : decode cX10_keepScript 16 = .ok (.ireturn, 1) := by decide +kernel
theorem dX10_putUnder_0 : decode cX10_putUnder 0 = .ok (.iload_n 1, 1) := by decide +kernel
theorem dX10_putUnder_1 : decode cX10_putUnder 1 = .ok (.iconst (-1), 1) := by decide +kernel
theorem dX10_putUnder_2 : decode cX10_putUnder 2 = .ok (.if_icmp .eq 13, 3) := by decide +kernel
theorem dX10_putUnder_15 : decode cX10_putUnder 15 = .ok (.aload_n 0, 1) := by decide +kernel
theorem dX10_putUnder_16 : decode cX10_putUnder 16 = .ok (.iload_n 1, 1) := by decide +kernel
theorem dX10_putUnder_17 : decode cX10_putUnder 17 = .ok (.putfield 56, 3) := by decide +kernel
theorem kf10_56 : inW (Cond.fieldLink RX10 56 "KneeOaths$World" "ruling" "I") := ⟨List.mem_of_getElem? (i := 295) (by decide +kernel), by decide +kernel⟩
theorem dX10_putUnder_20 : decode cX10_putUnder 20 = .ok (.iconst 1, 1) := by decide +kernel
theorem dX10_putUnder_21 : decode cX10_putUnder 21 = .ok (.ireturn, 1) := by decide +kernel
theorem dX10_putUnder_5 : decode cX10_putUnder 5 = .ok (.aload_n 0, 1) := by decide +kernel
theorem dX10_putUnder_6 : decode cX10_putUnder 6 = .ok (.iload_n 1, 1) := by decide +kernel
theorem dX10_putUnder_7 : decode cX10_putUnder 7 = .ok (.invokevirtual 93, 3) := by decide +kernel
theorem cw_X10_script : CWv yX10_script cX10_script 2 (some (.object "KneeOaths$Script")) 1 := ⟨⟨⟨List.mem_of_getElem? (i := 126) (by decide +kernel), by decide +kernel⟩, ⟨List.mem_of_getElem? (i := 867) (by decide +kernel), by decide +kernel⟩, by decide +kernel⟩, ⟨List.mem_of_getElem? (i := 865) (by decide +kernel), by decide +kernel⟩, ⟨List.mem_of_getElem? (i := 866) (by decide +kernel), by decide +kernel⟩⟩
theorem km10_93 : inW (Cond.methodLink RX10 93 yX10_script) := ⟨List.mem_of_getElem? (i := 864) (by decide +kernel), by decide +kernel⟩
theorem dX10_putUnder_10 : decode cX10_putUnder 10 = .ok (.ifnonnull 5, 3) := by decide +kernel
theorem dX10_putUnder_13 : decode cX10_putUnder 13 = .ok (.iconst 0, 1) := by decide +kernel
theorem dX10_putUnder_14 : decode cX10_putUnder 14 = .ok (.ireturn, 1) := by decide +kernel
theorem dX10_remember_0 : decode cX10_remember 0 = .ok (.aload_n 0, 1) := by decide +kernel
theorem dX10_remember_1 : decode cX10_remember 1 = .ok (.getfield 31, 3) := by decide +kernel
theorem kf10_31 : inW (Cond.fieldLink RX10 31 "KneeOaths$World" "past" "[LKneeOaths$Ledger;") := ⟨List.mem_of_getElem? (i := 272) (by decide +kernel), by decide +kernel⟩
theorem dX10_remember_4 : decode cX10_remember 4 = .ok (.aload_n 0, 1) := by decide +kernel
theorem dX10_remember_5 : decode cX10_remember 5 = .ok (.getfield 83, 3) := by decide +kernel
theorem kf10_83 : inW (Cond.fieldLink RX10 83 "KneeOaths$World" "eldest" "I") := ⟨List.mem_of_getElem? (i := 299) (by decide +kernel), by decide +kernel⟩
theorem dX10_remember_8 : decode cX10_remember 8 = .ok (.aload_n 0, 1) := by decide +kernel
theorem dX10_remember_9 : decode cX10_remember 9 = .ok (.getfield 86, 3) := by decide +kernel
theorem kf10_86 : inW (Cond.fieldLink RX10 86 "KneeOaths$World" "steps" "I") := ⟨List.mem_of_getElem? (i := 300) (by decide +kernel), by decide +kernel⟩
theorem dX10_remember_12 : decode cX10_remember 12 = .ok (.iadd, 1) := by decide +kernel
theorem dX10_remember_13 : decode cX10_remember 13 = .ok (.bipush 30, 2) := by decide +kernel
theorem dX10_remember_15 : decode cX10_remember 15 = .ok (.irem, 1) := by decide +kernel
theorem dX10_remember_16 : decode cX10_remember 16 = .ok (.aaload, 1) := by decide +kernel
theorem dX10_remember_17 : decode cX10_remember 17 = .ok (.aload_n 0, 1) := by decide +kernel
theorem dX10_remember_18 : decode cX10_remember 18 = .ok (.getfield 27, 3) := by decide +kernel
theorem kf10_27 : inW (Cond.fieldLink RX10 27 "KneeOaths$World" "now" "LKneeOaths$Ledger;") := ⟨List.mem_of_getElem? (i := 264) (by decide +kernel), by decide +kernel⟩
theorem dX10_remember_21 : decode cX10_remember 21 = .ok (.invokevirtual 74, 3) := by decide +kernel
theorem cw_X4_takeOver : CWv yX4_takeOver cX4_takeOver 2 none 1 := ⟨⟨⟨List.mem_of_getElem? (i := 125) (by decide +kernel), by decide +kernel⟩, ⟨List.mem_of_getElem? (i := 892) (by decide +kernel), by decide +kernel⟩, by decide +kernel⟩, ⟨List.mem_of_getElem? (i := 890) (by decide +kernel), by decide +kernel⟩, ⟨List.mem_of_getElem? (i := 891) (by decide +kernel), by decide +kernel⟩⟩
theorem km10_74 : inW (Cond.methodLink RX10 74 yX4_takeOver) := ⟨List.mem_of_getElem? (i := 889) (by decide +kernel), by decide +kernel⟩
theorem dX10_remember_24 : decode cX10_remember 24 = .ok (.aload_n 0, 1) := by decide +kernel
theorem dX10_remember_25 : decode cX10_remember 25 = .ok (.getfield 86, 3) := by decide +kernel
theorem dX10_remember_28 : decode cX10_remember 28 = .ok (.bipush 30, 2) := by decide +kernel
theorem dX10_remember_30 : decode cX10_remember 30 = .ok (.if_icmp .ge 16, 3) := by decide +kernel
theorem dX10_remember_46 : decode cX10_remember 46 = .ok (.aload_n 0, 1) := by decide +kernel
theorem dX10_remember_47 : decode cX10_remember 47 = .ok (.aload_n 0, 1) := by decide +kernel
theorem dX10_remember_48 : decode cX10_remember 48 = .ok (.getfield 83, 3) := by decide +kernel
theorem dX10_remember_51 : decode cX10_remember 51 = .ok (.iconst 1, 1) := by decide +kernel
theorem dX10_remember_52 : decode cX10_remember 52 = .ok (.iadd, 1) := by decide +kernel
theorem dX10_remember_53 : decode cX10_remember 53 = .ok (.bipush 30, 2) := by decide +kernel
theorem dX10_remember_55 : decode cX10_remember 55 = .ok (.irem, 1) := by decide +kernel
theorem dX10_remember_56 : decode cX10_remember 56 = .ok (.putfield 83, 3) := by decide +kernel
theorem dX10_remember_59 : decode cX10_remember 59 = .ok (.return_, 1) := by decide +kernel
theorem dX10_remember_33 : decode cX10_remember 33 = .ok (.aload_n 0, 1) := by decide +kernel
theorem dX10_remember_34 : decode cX10_remember 34 = .ok (.dup, 1) := by decide +kernel
theorem dX10_remember_35 : decode cX10_remember 35 = .ok (.getfield 86, 3) := by decide +kernel
theorem dX10_remember_38 : decode cX10_remember 38 = .ok (.iconst 1, 1) := by decide +kernel
theorem dX10_remember_39 : decode cX10_remember 39 = .ok (.iadd, 1) := by decide +kernel
theorem dX10_remember_40 : decode cX10_remember 40 = .ok (.putfield 86, 3) := by decide +kernel
theorem dX10_remember_43 : decode cX10_remember 43 = .ok (.goto 16, 3) := by decide +kernel
theorem dX10_takeBack_0 : decode cX10_takeBack 0 = .ok (.aload_n 0, 1) := by decide +kernel
theorem dX10_takeBack_1 : decode cX10_takeBack 1 = .ok (.getfield 86, 3) := by decide +kernel
theorem dX10_takeBack_4 : decode cX10_takeBack 4 = .ok (.ifCond .ne 5, 3) := by decide +kernel
theorem dX10_takeBack_9 : decode cX10_takeBack 9 = .ok (.aload_n 0, 1) := by decide +kernel
theorem dX10_takeBack_10 : decode cX10_takeBack 10 = .ok (.dup, 1) := by decide +kernel
theorem dX10_takeBack_11 : decode cX10_takeBack 11 = .ok (.getfield 86, 3) := by decide +kernel
theorem dX10_takeBack_14 : decode cX10_takeBack 14 = .ok (.iconst 1, 1) := by decide +kernel
theorem dX10_takeBack_15 : decode cX10_takeBack 15 = .ok (.isub, 1) := by decide +kernel
theorem dX10_takeBack_16 : decode cX10_takeBack 16 = .ok (.putfield 86, 3) := by decide +kernel
theorem dX10_takeBack_19 : decode cX10_takeBack 19 = .ok (.aload_n 0, 1) := by decide +kernel
theorem dX10_takeBack_20 : decode cX10_takeBack 20 = .ok (.getfield 27, 3) := by decide +kernel
theorem dX10_takeBack_23 : decode cX10_takeBack 23 = .ok (.aload_n 0, 1) := by decide +kernel
theorem dX10_takeBack_24 : decode cX10_takeBack 24 = .ok (.getfield 31, 3) := by decide +kernel
theorem dX10_takeBack_27 : decode cX10_takeBack 27 = .ok (.aload_n 0, 1) := by decide +kernel
theorem dX10_takeBack_28 : decode cX10_takeBack 28 = .ok (.getfield 83, 3) := by decide +kernel
theorem dX10_takeBack_31 : decode cX10_takeBack 31 = .ok (.aload_n 0, 1) := by decide +kernel
theorem dX10_takeBack_32 : decode cX10_takeBack 32 = .ok (.getfield 86, 3) := by decide +kernel
theorem dX10_takeBack_35 : decode cX10_takeBack 35 = .ok (.iadd, 1) := by decide +kernel
theorem dX10_takeBack_36 : decode cX10_takeBack 36 = .ok (.bipush 30, 2) := by decide +kernel
theorem dX10_takeBack_38 : decode cX10_takeBack 38 = .ok (.irem, 1) := by decide +kernel
theorem dX10_takeBack_39 : decode cX10_takeBack 39 = .ok (.aaload, 1) := by decide +kernel
theorem dX10_takeBack_40 : decode cX10_takeBack 40 = .ok (.invokevirtual 74, 3) := by decide +kernel
theorem dX10_takeBack_43 : decode cX10_takeBack 43 = .ok (.iconst 1, 1) := by decide +kernel
theorem dX10_takeBack_44 : decode cX10_takeBack 44 = .ok (.ireturn, 1) := by decide +kernel
theorem dX10_takeBack_7 : decode cX10_takeBack 7 = .ok (.iconst 0, 1) := by decide +kernel
theorem dX10_takeBack_8 : decode cX10_takeBack 8 = .ok (.ireturn, 1) := by decide +kernel
theorem dX10_takeOver_0 : decode cX10_takeOver 0 = .ok (.aload_n 1, 1) := by decide +kernel
theorem dX10_takeOver_1 : decode cX10_takeOver 1 = .ok (.getfield 9, 3) := by decide +kernel
theorem dX10_takeOver_4 : decode cX10_takeOver 4 = .ok (.iconst 0, 1) := by decide +kernel
theorem dX10_takeOver_5 : decode cX10_takeOver 5 = .ok (.aload_n 0, 1) := by decide +kernel
theorem dX10_takeOver_6 : decode cX10_takeOver 6 = .ok (.getfield 9, 3) := by decide +kernel
theorem dX10_takeOver_9 : decode cX10_takeOver 9 = .ok (.iconst 0, 1) := by decide +kernel
theorem dX10_takeOver_10 : decode cX10_takeOver 10 = .ok (.aload_n 0, 1) := by decide +kernel
theorem dX10_takeOver_11 : decode cX10_takeOver 11 = .ok (.getfield 9, 3) := by decide +kernel
theorem dX10_takeOver_14 : decode cX10_takeOver 14 = .ok (.arraylength, 1) := by decide +kernel
theorem dX10_takeOver_15 : decode cX10_takeOver 15 = .ok (.invokestatic 61, 3) := by decide +kernel
theorem km10_61 : inW (Cond.methodLink RX10 61 arraycopyName) := ⟨List.mem_of_getElem? (i := 1470) (by decide +kernel), by decide +kernel⟩
theorem dX10_takeOver_18 : decode cX10_takeOver 18 = .ok (.aload_n 1, 1) := by decide +kernel
theorem dX10_takeOver_19 : decode cX10_takeOver 19 = .ok (.getfield 15, 3) := by decide +kernel
theorem dX10_takeOver_22 : decode cX10_takeOver 22 = .ok (.iconst 0, 1) := by decide +kernel
theorem dX10_takeOver_23 : decode cX10_takeOver 23 = .ok (.aload_n 0, 1) := by decide +kernel
theorem dX10_takeOver_24 : decode cX10_takeOver 24 = .ok (.getfield 15, 3) := by decide +kernel
theorem dX10_takeOver_27 : decode cX10_takeOver 27 = .ok (.iconst 0, 1) := by decide +kernel
theorem dX10_takeOver_28 : decode cX10_takeOver 28 = .ok (.aload_n 0, 1) := by decide +kernel
theorem dX10_takeOver_29 : decode cX10_takeOver 29 = .ok (.getfield 15, 3) := by decide +kernel
theorem dX10_takeOver_32 : decode cX10_takeOver 32 = .ok (.arraylength, 1) := by decide +kernel
theorem dX10_takeOver_33 : decode cX10_takeOver 33 = .ok (.invokestatic 61, 3) := by decide +kernel
theorem dX10_takeOver_36 : decode cX10_takeOver 36 = .ok (.iconst 0, 1) := by decide +kernel
theorem dX10_takeOver_37 : decode cX10_takeOver 37 = .ok (.istore_n 2, 1) := by decide +kernel
theorem dX10_takeOver_38 : decode cX10_takeOver 38 = .ok (.iload_n 2, 1) := by decide +kernel
theorem dX10_takeOver_39 : decode cX10_takeOver 39 = .ok (.aload_n 1, 1) := by decide +kernel
theorem dX10_takeOver_40 : decode cX10_takeOver 40 = .ok (.getfield 67, 3) := by decide +kernel
theorem dX10_takeOver_43 : decode cX10_takeOver 43 = .ok (.if_icmp .ge 24, 3) := by decide +kernel
theorem dX10_takeOver_67 : decode cX10_takeOver 67 = .ok (.iconst 0, 1) := by decide +kernel
theorem dX10_takeOver_68 : decode cX10_takeOver 68 = .ok (.istore_n 2, 1) := by decide +kernel
theorem dX10_takeOver_46 : decode cX10_takeOver 46 = .ok (.aload_n 0, 1) := by decide +kernel
theorem dX10_takeOver_47 : decode cX10_takeOver 47 = .ok (.getfield 20, 3) := by decide +kernel
theorem dX10_takeOver_50 : decode cX10_takeOver 50 = .ok (.iload_n 2, 1) := by decide +kernel
theorem dX10_takeOver_51 : decode cX10_takeOver 51 = .ok (.aaload, 1) := by decide +kernel
theorem dX10_takeOver_52 : decode cX10_takeOver 52 = .ok (.aload_n 1, 1) := by decide +kernel
theorem dX10_takeOver_53 : decode cX10_takeOver 53 = .ok (.getfield 20, 3) := by decide +kernel
theorem dX10_takeOver_56 : decode cX10_takeOver 56 = .ok (.iload_n 2, 1) := by decide +kernel
theorem dX10_takeOver_57 : decode cX10_takeOver 57 = .ok (.aaload, 1) := by decide +kernel
theorem dX10_takeOver_58 : decode cX10_takeOver 58 = .ok (.invokevirtual 70, 3) := by decide +kernel
theorem cw_X7_takeOver : CWv yX7_takeOver cX7_takeOver 2 none 1 := ⟨⟨⟨List.mem_of_getElem? (i := 129) (by decide +kernel), by decide +kernel⟩, ⟨List.mem_of_getElem? (i := 1474) (by decide +kernel), by decide +kernel⟩, by decide +kernel⟩, ⟨List.mem_of_getElem? (i := 1472) (by decide +kernel), by decide +kernel⟩, ⟨List.mem_of_getElem? (i := 1473) (by decide +kernel), by decide +kernel⟩⟩
theorem km10_70 : inW (Cond.methodLink RX10 70 yX7_takeOver) := ⟨List.mem_of_getElem? (i := 1471) (by decide +kernel), by decide +kernel⟩
theorem dX10_takeOver_61 : decode cX10_takeOver 61 = .ok (.iinc 2 1, 3) := by decide +kernel
theorem dX10_takeOver_64 : decode cX10_takeOver 64 = .ok (.goto (-26), 3) := by decide +kernel
theorem dX10_takeOver_69 : decode cX10_takeOver 69 = .ok (.iload_n 2, 1) := by decide +kernel
theorem dX10_takeOver_70 : decode cX10_takeOver 70 = .ok (.bipush 30, 2) := by decide +kernel
theorem dX10_takeOver_72 : decode cX10_takeOver 72 = .ok (.if_icmp .ge 24, 3) := by decide +kernel
theorem dX10_takeOver_75 : decode cX10_takeOver 75 = .ok (.aload_n 0, 1) := by decide +kernel
theorem dX10_takeOver_76 : decode cX10_takeOver 76 = .ok (.getfield 31, 3) := by decide +kernel
theorem dX10_takeOver_79 : decode cX10_takeOver 79 = .ok (.iload_n 2, 1) := by decide +kernel
theorem dX10_takeOver_80 : decode cX10_takeOver 80 = .ok (.aaload, 1) := by decide +kernel
theorem dX10_takeOver_81 : decode cX10_takeOver 81 = .ok (.aload_n 1, 1) := by decide +kernel
theorem dX10_takeOver_82 : decode cX10_takeOver 82 = .ok (.getfield 31, 3) := by decide +kernel
theorem dX10_takeOver_85 : decode cX10_takeOver 85 = .ok (.iload_n 2, 1) := by decide +kernel
theorem dX10_takeOver_86 : decode cX10_takeOver 86 = .ok (.aaload, 1) := by decide +kernel
theorem dX10_takeOver_87 : decode cX10_takeOver 87 = .ok (.invokevirtual 74, 3) := by decide +kernel
theorem dX10_takeOver_90 : decode cX10_takeOver 90 = .ok (.iinc 2 1, 3) := by decide +kernel
theorem dX10_takeOver_93 : decode cX10_takeOver 93 = .ok (.goto (-24), 3) := by decide +kernel
theorem dX10_takeOver_96 : decode cX10_takeOver 96 = .ok (.aload_n 0, 1) := by decide +kernel
theorem dX10_takeOver_97 : decode cX10_takeOver 97 = .ok (.getfield 27, 3) := by decide +kernel
theorem dX10_takeOver_100 : decode cX10_takeOver 100 = .ok (.aload_n 1, 1) := by decide +kernel
theorem dX10_takeOver_101 : decode cX10_takeOver 101 = .ok (.getfield 27, 3) := by decide +kernel
theorem dX10_takeOver_104 : decode cX10_takeOver 104 = .ok (.invokevirtual 74, 3) := by decide +kernel
theorem dX10_takeOver_107 : decode cX10_takeOver 107 = .ok (.aload_n 0, 1) := by decide +kernel
theorem dX10_takeOver_108 : decode cX10_takeOver 108 = .ok (.getfield 40, 3) := by decide +kernel
theorem kf10_40 : inW (Cond.fieldLink RX10 40 "KneeOaths$World" "feelings" "LKneeOaths$Told;") := ⟨List.mem_of_getElem? (i := 273) (by decide +kernel), by decide +kernel⟩
theorem dX10_takeOver_111 : decode cX10_takeOver 111 = .ok (.aload_n 1, 1) := by decide +kernel
theorem dX10_takeOver_112 : decode cX10_takeOver 112 = .ok (.getfield 40, 3) := by decide +kernel
theorem dX10_takeOver_115 : decode cX10_takeOver 115 = .ok (.invokevirtual 77, 3) := by decide +kernel
theorem cw_X9_takeOver : CWv yX9_takeOver cX9_takeOver 2 none 1 := ⟨⟨⟨List.mem_of_getElem? (i := 127) (by decide +kernel), by decide +kernel⟩, ⟨List.mem_of_getElem? (i := 1479) (by decide +kernel), by decide +kernel⟩, by decide +kernel⟩, ⟨List.mem_of_getElem? (i := 1477) (by decide +kernel), by decide +kernel⟩, ⟨List.mem_of_getElem? (i := 1478) (by decide +kernel), by decide +kernel⟩⟩
theorem km10_77 : inW (Cond.methodLink RX10 77 yX9_takeOver) := ⟨List.mem_of_getElem? (i := 1476) (by decide +kernel), by decide +kernel⟩
theorem dX10_takeOver_118 : decode cX10_takeOver 118 = .ok (.aload_n 0, 1) := by decide +kernel
theorem dX10_takeOver_119 : decode cX10_takeOver 119 = .ok (.getfield 44, 3) := by decide +kernel
theorem kf10_44 : inW (Cond.fieldLink RX10 44 "KneeOaths$World" "clashes" "LKneeOaths$Told;") := ⟨List.mem_of_getElem? (i := 276) (by decide +kernel), by decide +kernel⟩
theorem dX10_takeOver_122 : decode cX10_takeOver 122 = .ok (.aload_n 1, 1) := by decide +kernel
theorem dX10_takeOver_123 : decode cX10_takeOver 123 = .ok (.getfield 44, 3) := by decide +kernel
theorem dX10_takeOver_126 : decode cX10_takeOver 126 = .ok (.invokevirtual 77, 3) := by decide +kernel
theorem dX10_takeOver_129 : decode cX10_takeOver 129 = .ok (.aload_n 0, 1) := by decide +kernel
theorem dX10_takeOver_130 : decode cX10_takeOver 130 = .ok (.getfield 47, 3) := by decide +kernel
theorem kf10_47 : inW (Cond.fieldLink RX10 47 "KneeOaths$World" "words" "LKneeOaths$Told;") := ⟨List.mem_of_getElem? (i := 279) (by decide +kernel), by decide +kernel⟩
theorem dX10_takeOver_133 : decode cX10_takeOver 133 = .ok (.aload_n 1, 1) := by decide +kernel
theorem dX10_takeOver_134 : decode cX10_takeOver 134 = .ok (.getfield 47, 3) := by decide +kernel
theorem dX10_takeOver_137 : decode cX10_takeOver 137 = .ok (.invokevirtual 77, 3) := by decide +kernel
theorem dX10_takeOver_140 : decode cX10_takeOver 140 = .ok (.aload_n 0, 1) := by decide +kernel
theorem dX10_takeOver_141 : decode cX10_takeOver 141 = .ok (.getfield 50, 3) := by decide +kernel
theorem kf10_50 : inW (Cond.fieldLink RX10 50 "KneeOaths$World" "sights" "LKneeOaths$Told;") := ⟨List.mem_of_getElem? (i := 282) (by decide +kernel), by decide +kernel⟩
theorem dX10_takeOver_144 : decode cX10_takeOver 144 = .ok (.aload_n 1, 1) := by decide +kernel
theorem dX10_takeOver_145 : decode cX10_takeOver 145 = .ok (.getfield 50, 3) := by decide +kernel
theorem dX10_takeOver_148 : decode cX10_takeOver 148 = .ok (.invokevirtual 77, 3) := by decide +kernel
theorem dX10_takeOver_151 : decode cX10_takeOver 151 = .ok (.aload_n 0, 1) := by decide +kernel
theorem dX10_takeOver_152 : decode cX10_takeOver 152 = .ok (.getfield 53, 3) := by decide +kernel
theorem kf10_53 : inW (Cond.fieldLink RX10 53 "KneeOaths$World" "wearings" "LKneeOaths$Told;") := ⟨List.mem_of_getElem? (i := 285) (by decide +kernel), by decide +kernel⟩
theorem dX10_takeOver_155 : decode cX10_takeOver 155 = .ok (.aload_n 1, 1) := by decide +kernel
theorem dX10_takeOver_156 : decode cX10_takeOver 156 = .ok (.getfield 53, 3) := by decide +kernel
theorem dX10_takeOver_159 : decode cX10_takeOver 159 = .ok (.invokevirtual 77, 3) := by decide +kernel
theorem dX10_takeOver_162 : decode cX10_takeOver 162 = .ok (.aload_n 0, 1) := by decide +kernel
theorem dX10_takeOver_163 : decode cX10_takeOver 163 = .ok (.aload_n 1, 1) := by decide +kernel
theorem dX10_takeOver_164 : decode cX10_takeOver 164 = .ok (.getfield 80, 3) := by decide +kernel
theorem dX10_takeOver_167 : decode cX10_takeOver 167 = .ok (.putfield 80, 3) := by decide +kernel
theorem dX10_takeOver_170 : decode cX10_takeOver 170 = .ok (.aload_n 0, 1) := by decide +kernel
theorem dX10_takeOver_171 : decode cX10_takeOver 171 = .ok (.aload_n 1, 1) := by decide +kernel
theorem dX10_takeOver_172 : decode cX10_takeOver 172 = .ok (.getfield 67, 3) := by decide +kernel
theorem dX10_takeOver_175 : decode cX10_takeOver 175 = .ok (.putfield 67, 3) := by decide +kernel
theorem dX10_takeOver_178 : decode cX10_takeOver 178 = .ok (.aload_n 0, 1) := by decide +kernel
theorem dX10_takeOver_179 : decode cX10_takeOver 179 = .ok (.aload_n 1, 1) := by decide +kernel
theorem dX10_takeOver_180 : decode cX10_takeOver 180 = .ok (.getfield 56, 3) := by decide +kernel
theorem dX10_takeOver_183 : decode cX10_takeOver 183 = .ok (.putfield 56, 3) := by decide +kernel
theorem dX10_takeOver_186 : decode cX10_takeOver 186 = .ok (.aload_n 0, 1) := by decide +kernel
theorem dX10_takeOver_187 : decode cX10_takeOver 187 = .ok (.aload_n 1, 1) := by decide +kernel
theorem dX10_takeOver_188 : decode cX10_takeOver 188 = .ok (.getfield 83, 3) := by decide +kernel
theorem dX10_takeOver_191 : decode cX10_takeOver 191 = .ok (.putfield 83, 3) := by decide +kernel
theorem dX10_takeOver_194 : decode cX10_takeOver 194 = .ok (.aload_n 0, 1) := by decide +kernel
theorem dX10_takeOver_195 : decode cX10_takeOver 195 = .ok (.aload_n 1, 1) := by decide +kernel
theorem dX10_takeOver_196 : decode cX10_takeOver 196 = .ok (.getfield 86, 3) := by decide +kernel
theorem dX10_takeOver_199 : decode cX10_takeOver 199 = .ok (.putfield 86, 3) := by decide +kernel
theorem dX10_takeOver_202 : decode cX10_takeOver 202 = .ok (.return_, 1) := by decide +kernel
set_option maxHeartbeats 4000000 in
set_option maxRecDepth 100000 in
theorem x_X10_has {l : Launch} {G : GG}  {L : List Nat} {f : HF} {ad : Nat → Nat → Nat} {rs : FS} {fc : Int × Int} {tc w : Nat → Int × Int} {q : Nat → (Nat → Int32) → Prop} {i1 : Int32} (I : SH (spC rs fc tc w q) nnC G ad L f) (hW : WBp w 8) (hT : WBp tc 4) (hQ : QIp q) : PMp l yX10_has cX10_has 2 .boolean 0 0 0 G [.ref (ad 1 0), .int i1] L f (fun r => bn 0 1 r) := by
  refine PMi.of (post := fun r L1 f1 => (bn 0 1 r) ∧ L1 = L ∧ f1 = f) (own := RX10) (by decide) rfl (Nat.le_of_ble_eq_true rfl) (fun sz p e s m args below meth c A ls hA1 hname S Y hl => ?_)
  have hx := S.hx
  have hb := S.hb
  have hl : lv_has ls 2 [(0, .ref (ad 1 0)), (1, .int i1)] := hl
  refine lv_iload_n hx hb dX10_has_0 rfl (lv_at hl 1 rfl) ?_
  refine lv_if_lt (tgt := 16) hx hb dX10_has_1 (by decide) (fun c_5177 => ?_) (fun c_5177 => ?_)
  · have B_5178 : bn (-2147483648) (-1) i1 := bn_w (bn_ltl c_5177 (bn_any i1) (show bn 0 0 (0 : Int32) from bn_k (by decide))) (by decide)
    refine lv_iconst (v := 0) hx hb dX10_has_16 (by decide) ?_
    exact prI (post := fun r L1 f1 => (bn 0 1 r) ∧ L1 = L ∧ f1 = f) S Y rfl (by decide) (by decide) hA1 ⟨bn_w (show bn 0 0 (0 : Int32) from bn_k (by decide)) (by decide), rfl, rfl⟩ dX10_has_17
  · have B_5179 : bn 0 2147483647 i1 := bn_w (bn_gel c_5177 (bn_any i1) (show bn 0 0 (0 : Int32) from bn_k (by decide))) (by decide)
    refine lv_iload_n hx hb dX10_has_4 rfl (lv_at hl 1 rfl) ?_
    refine lv_aload_n hx hb dX10_has_5 rfl (lv_at hl 0 rfl) ?_
    obtain ⟨v_5180, v_5182, v_5184, v_5186, v_5188, p_ad_1_0, b_5181, b_5183, b_5185, b_5187, b_5189⟩ := opnC_1 (j := 0) I (by decide)
    have p_ad_1_0 : pt L f (ad 1 0) (.inr (10, [.ref (ad 40 0), .ref (ad 41 0), .ref (ad 42 0), .ref (ad 10 0), .ref (ad 43 0), .ref (ad 20 0), .ref (ad 20 1), .ref (ad 20 2), .ref (ad 20 3), .ref (ad 20 4), .int v_5180, .int v_5182, .int v_5184, .int v_5186, .int v_5188])) := p_ad_1_0
    refine pg_get S Y ok_X10 10 (by decide) kf10_80 (v := .int v_5180) p_ad_1_0 rfl dX10_has_6 ?_
    refine lv_icmp_ge (tgt := 16) hx hb dX10_has_9 (by decide) (fun c_5190 => ?_) (fun c_5190 => ?_)
    · refine lv_iconst (v := 0) hx hb dX10_has_16 (by decide) ?_
      exact prI (post := fun r L1 f1 => (bn 0 1 r) ∧ L1 = L ∧ f1 = f) S Y rfl (by decide) (by decide) hA1 ⟨bn_w (show bn 0 0 (0 : Int32) from bn_k (by decide)) (by decide), rfl, rfl⟩ dX10_has_17
    · have B_5191 : bn 1 6 v_5180 := bn_w (bn_gtl c_5190 b_5181 B_5179) (by decide)
      have B_5192 : bn 0 5 i1 := bn_w (bn_gtr c_5190 b_5181 B_5179) (by decide)
      refine lv_iconst (v := 1) hx hb dX10_has_12 (by decide) ?_
      refine lv_goto (tgt := 17) hx hb dX10_has_13 (by decide) ?_
      exact prI (post := fun r L1 f1 => (bn 0 1 r) ∧ L1 = L ∧ f1 = f) S Y rfl (by decide) (by decide) hA1 ⟨bn_w (show bn 1 1 (1 : Int32) from bn_k (by decide)) (by decide), rfl, rfl⟩ dX10_has_17
set_option maxHeartbeats 4000000 in
set_option maxRecDepth 100000 in
theorem x_X10_toughOf {l : Launch} {G : GG}  {L : List Nat} {f : HF} {ad : Nat → Nat → Nat} {rs : FS} {fc : Int × Int} {tc w : Nat → Int × Int} {q : Nat → (Nat → Int32) → Prop} {i1 : Int32} (I : SH (spC rs fc tc w q) nnC G ad L f) (hW : WBp w 8) (hT : WBp tc 4) (hQ : QIp q) : PMp l yX10_toughOf cX10_toughOf 2 .int 0 0 0 G [.ref (ad 1 0), .int i1] L f (fun r => True) := by
  refine PMi.of (post := fun r L1 f1 => (True) ∧ L1 = L ∧ f1 = f) (own := RX10) (by decide) rfl (Nat.le_of_ble_eq_true rfl) (fun sz p e s m args below meth c A ls hA1 hname S Y hl => ?_)
  have hx := S.hx
  have hb := S.hb
  have hl : lv_has ls 2 [(0, .ref (ad 1 0)), (1, .int i1)] := hl
  refine lv_iload_n hx hb dX10_toughOf_0 rfl (lv_at hl 1 rfl) ?_
  refine lv_if_lt (tgt := 21) hx hb dX10_toughOf_1 (by decide) (fun c_5231 => ?_) (fun c_5231 => ?_)
  · have B_5232 : bn (-2147483648) (-1) i1 := bn_w (bn_ltl c_5231 (bn_any i1) (show bn 0 0 (0 : Int32) from bn_k (by decide))) (by decide)
    refine lv_iconst (v := 0) hx hb dX10_toughOf_21 (by decide) ?_
    exact prI (post := fun r L1 f1 => (True) ∧ L1 = L ∧ f1 = f) S Y rfl (by decide) (by decide) hA1 ⟨trivial, rfl, rfl⟩ dX10_toughOf_22
  · have B_5233 : bn 0 2147483647 i1 := bn_w (bn_gel c_5231 (bn_any i1) (show bn 0 0 (0 : Int32) from bn_k (by decide))) (by decide)
    refine lv_iload_n hx hb dX10_toughOf_4 rfl (lv_at hl 1 rfl) ?_
    refine lv_aload_n hx hb dX10_toughOf_5 rfl (lv_at hl 0 rfl) ?_
    obtain ⟨v_5234, v_5236, v_5238, v_5240, v_5242, p_ad_1_0, b_5235, b_5237, b_5239, b_5241, b_5243⟩ := opnC_1 (j := 0) I (by decide)
    have p_ad_1_0 : pt L f (ad 1 0) (.inr (10, [.ref (ad 40 0), .ref (ad 41 0), .ref (ad 42 0), .ref (ad 10 0), .ref (ad 43 0), .ref (ad 20 0), .ref (ad 20 1), .ref (ad 20 2), .ref (ad 20 3), .ref (ad 20 4), .int v_5234, .int v_5236, .int v_5238, .int v_5240, .int v_5242])) := p_ad_1_0
    refine pg_get S Y ok_X10 10 (by decide) kf10_80 (v := .int v_5234) p_ad_1_0 rfl dX10_toughOf_6 ?_
    refine lv_icmp_ge (tgt := 21) hx hb dX10_toughOf_9 (by decide) (fun c_5244 => ?_) (fun c_5244 => ?_)
    · refine lv_iconst (v := 0) hx hb dX10_toughOf_21 (by decide) ?_
      exact prI (post := fun r L1 f1 => (True) ∧ L1 = L ∧ f1 = f) S Y rfl (by decide) (by decide) hA1 ⟨trivial, rfl, rfl⟩ dX10_toughOf_22
    · have B_5245 : bn 1 6 v_5234 := bn_w (bn_gtl c_5244 b_5235 B_5233) (by decide)
      have B_5246 : bn 0 5 i1 := bn_w (bn_gtr c_5244 b_5235 B_5233) (by decide)
      refine lv_aload_n hx hb dX10_toughOf_12 rfl (lv_at hl 0 rfl) ?_
      refine pg_get S Y ok_X10 0 (by decide) kf10_9 (v := .ref (ad 40 0)) p_ad_1_0 rfl dX10_toughOf_13 ?_
      refine lv_iload_n hx hb dX10_toughOf_16 rfl (lv_at hl 1 rfl) ?_
      obtain ⟨g_5247, p_ad_40_0, o_5248⟩ := I.opi (k := 40) (j := 0) (by decide) rfl
      have p_ad_40_0 : pt L f (ad 40 0) (.inl (G.2 0, 6, .inl g_5247)) := p_ad_40_0
      obtain ⟨v_5249, ev_5249⟩ : ∃ z, z = g_5247 (i1 : Int32).toNatClampNeg := ⟨_, rfl⟩
      refine pg_iald S Y (v := v_5249) p_ad_40_0 (vp_bn B_5246 (by decide)) ev_5249.symm dX10_toughOf_17 ?_
      refine lv_goto (tgt := 22) hx hb dX10_toughOf_18 (by decide) ?_
      exact prI (post := fun r L1 f1 => (True) ∧ L1 = L ∧ f1 = f) S Y rfl (by decide) (by decide) hA1 ⟨trivial, rfl, rfl⟩ dX10_toughOf_22
set_option maxHeartbeats 4000000 in
set_option maxRecDepth 100000 in
theorem x_X10_ageOf {l : Launch} {G : GG}  {L : List Nat} {f : HF} {ad : Nat → Nat → Nat} {rs : FS} {fc : Int × Int} {tc w : Nat → Int × Int} {q : Nat → (Nat → Int32) → Prop} {i1 : Int32} (I : SH (spC rs fc tc w q) nnC G ad L f) (hW : WBp w 8) (hT : WBp tc 4) (hQ : QIp q) : PMp l yX10_ageOf cX10_ageOf 2 .int 0 0 0 G [.ref (ad 1 0), .int i1] L f (fun r => True) := by
  refine PMi.of (post := fun r L1 f1 => (True) ∧ L1 = L ∧ f1 = f) (own := RX10) (by decide) rfl (Nat.le_of_ble_eq_true rfl) (fun sz p e s m args below meth c A ls hA1 hname S Y hl => ?_)
  have hx := S.hx
  have hb := S.hb
  have hl : lv_has ls 2 [(0, .ref (ad 1 0)), (1, .int i1)] := hl
  refine lv_iload_n hx hb dX10_ageOf_0 rfl (lv_at hl 1 rfl) ?_
  refine lv_if_lt (tgt := 21) hx hb dX10_ageOf_1 (by decide) (fun c_5288 => ?_) (fun c_5288 => ?_)
  · have B_5289 : bn (-2147483648) (-1) i1 := bn_w (bn_ltl c_5288 (bn_any i1) (show bn 0 0 (0 : Int32) from bn_k (by decide))) (by decide)
    refine lv_iconst (v := 0) hx hb dX10_ageOf_21 (by decide) ?_
    exact prI (post := fun r L1 f1 => (True) ∧ L1 = L ∧ f1 = f) S Y rfl (by decide) (by decide) hA1 ⟨trivial, rfl, rfl⟩ dX10_ageOf_22
  · have B_5290 : bn 0 2147483647 i1 := bn_w (bn_gel c_5288 (bn_any i1) (show bn 0 0 (0 : Int32) from bn_k (by decide))) (by decide)
    refine lv_iload_n hx hb dX10_ageOf_4 rfl (lv_at hl 1 rfl) ?_
    refine lv_aload_n hx hb dX10_ageOf_5 rfl (lv_at hl 0 rfl) ?_
    obtain ⟨v_5291, v_5293, v_5295, v_5297, v_5299, p_ad_1_0, b_5292, b_5294, b_5296, b_5298, b_5300⟩ := opnC_1 (j := 0) I (by decide)
    have p_ad_1_0 : pt L f (ad 1 0) (.inr (10, [.ref (ad 40 0), .ref (ad 41 0), .ref (ad 42 0), .ref (ad 10 0), .ref (ad 43 0), .ref (ad 20 0), .ref (ad 20 1), .ref (ad 20 2), .ref (ad 20 3), .ref (ad 20 4), .int v_5291, .int v_5293, .int v_5295, .int v_5297, .int v_5299])) := p_ad_1_0
    refine pg_get S Y ok_X10 10 (by decide) kf10_80 (v := .int v_5291) p_ad_1_0 rfl dX10_ageOf_6 ?_
    refine lv_icmp_ge (tgt := 21) hx hb dX10_ageOf_9 (by decide) (fun c_5301 => ?_) (fun c_5301 => ?_)
    · refine lv_iconst (v := 0) hx hb dX10_ageOf_21 (by decide) ?_
      exact prI (post := fun r L1 f1 => (True) ∧ L1 = L ∧ f1 = f) S Y rfl (by decide) (by decide) hA1 ⟨trivial, rfl, rfl⟩ dX10_ageOf_22
    · have B_5302 : bn 1 6 v_5291 := bn_w (bn_gtl c_5301 b_5292 B_5290) (by decide)
      have B_5303 : bn 0 5 i1 := bn_w (bn_gtr c_5301 b_5292 B_5290) (by decide)
      refine lv_aload_n hx hb dX10_ageOf_12 rfl (lv_at hl 0 rfl) ?_
      refine pg_get S Y ok_X10 1 (by decide) kf10_15 (v := .ref (ad 41 0)) p_ad_1_0 rfl dX10_ageOf_13 ?_
      refine lv_iload_n hx hb dX10_ageOf_16 rfl (lv_at hl 1 rfl) ?_
      obtain ⟨g_5304, p_ad_41_0, o_5305⟩ := I.opi (k := 41) (j := 0) (by decide) rfl
      have p_ad_41_0 : pt L f (ad 41 0) (.inl (G.2 0, 6, .inl g_5304)) := p_ad_41_0
      obtain ⟨v_5306, ev_5306⟩ : ∃ z, z = g_5304 (i1 : Int32).toNatClampNeg := ⟨_, rfl⟩
      refine pg_iald S Y (v := v_5306) p_ad_41_0 (vp_bn B_5303 (by decide)) ev_5306.symm dX10_ageOf_17 ?_
      refine lv_goto (tgt := 22) hx hb dX10_ageOf_18 (by decide) ?_
      exact prI (post := fun r L1 f1 => (True) ∧ L1 = L ∧ f1 = f) S Y rfl (by decide) (by decide) hA1 ⟨trivial, rfl, rfl⟩ dX10_ageOf_22
set_option maxHeartbeats 4000000 in
set_option maxRecDepth 100000 in
theorem x_X10_welcome {l : Launch} {G : GG}  {L : List Nat} {f : HF} {ad : Nat → Nat → Nat} {rs : FS} {fc : Int × Int} {tc w : Nat → Int × Int} {q : Nat → (Nat → Int32) → Prop} {i1 i2 : Int32} (I : SH (spC rs fc tc w q) nnC G ad L f) (hW : WBp w 8) (hT : WBp tc 4) (hQ : QIp q) : PMi l yX10_welcome cX10_welcome 3 .int 1 0 0 G [.ref (ad 1 0), .int i1, .int i2] L f (fun r L1 f1 => SH (spC rs fc tc w q) nnC G ad L1 f1) := by
  refine PMi.of (post := fun r L1 f1 => SH (spC rs fc tc w q) nnC G ad L1 f1) (own := RX10) (by decide) rfl (Nat.le_of_ble_eq_true rfl) (fun sz p e s m args below meth c A ls hA1 hname S Y hl => ?_)
  have hx := S.hx
  have hb := S.hb
  have hl : lv_has ls 3 [(0, .ref (ad 1 0)), (1, .int i1), (2, .int i2)] := hl
  refine lv_aload_n hx hb dX10_welcome_0 rfl (lv_at hl 0 rfl) ?_
  obtain ⟨v_5371, v_5373, v_5375, v_5377, v_5379, p_ad_1_0, b_5372, b_5374, b_5376, b_5378, b_5380⟩ := opnC_1 (j := 0) I (by decide)
  have p_ad_1_0 : pt L f (ad 1 0) (.inr (10, [.ref (ad 40 0), .ref (ad 41 0), .ref (ad 42 0), .ref (ad 10 0), .ref (ad 43 0), .ref (ad 20 0), .ref (ad 20 1), .ref (ad 20 2), .ref (ad 20 3), .ref (ad 20 4), .int v_5371, .int v_5373, .int v_5375, .int v_5377, .int v_5379])) := p_ad_1_0
  refine pg_get S Y ok_X10 10 (by decide) kf10_80 (v := .int v_5371) p_ad_1_0 rfl dX10_welcome_1 ?_
  refine lv_bipush (v := 6) hx hb dX10_welcome_4 (by decide) ?_
  refine lv_icmp_ge (tgt := 29) hx hb dX10_welcome_6 (by decide) (fun c_5381 => ?_) (fun c_5381 => ?_)
  · have B_5382 : bn 6 6 v_5371 := bn_w (bn_ler c_5381 (show bn 6 6 (6 : Int32) from bn_k (by decide)) b_5372) (by decide)
    refine lv_iconst (v := (-1)) hx hb dX10_welcome_29 (by decide) ?_
    exact prI (post := fun r L1 f1 => SH (spC rs fc tc w q) nnC G ad L1 f1) S Y rfl (by decide) (by decide) hA1 I dX10_welcome_30
  · have B_5383 : bn 0 5 v_5371 := bn_w (bn_gtr c_5381 (show bn 6 6 (6 : Int32) from bn_k (by decide)) b_5372) (by decide)
    refine lv_iload_n hx hb dX10_welcome_9 rfl (lv_at hl 1 rfl) ?_
    refine lv_iconst (v := 0) hx hb dX10_welcome_10 (by decide) ?_
    refine lv_bipush (v := 9) hx hb dX10_welcome_11 (by decide) ?_
    refine cNp (As := [.int i1, .int 0, .int 9]) (rest := []) S Y (x_X11_within (l := l) ) cw_X11_within km10_89 rfl ⟨Nat.le_of_ble_eq_true rfl, Nat.le_of_ble_eq_true rfl⟩ hl.1 rfl (Nat.le_of_ble_eq_true rfl) ⟨Nat.le_of_ble_eq_true rfl, Nat.le_of_ble_eq_true rfl⟩ dX10_welcome_13 (fun r_5384 H locs er_5384 Y => ?_)
    refine lv_if_eq (tgt := 29) hx hb dX10_welcome_16 (by decide) (fun c_5385 => ?_) (fun c_5385 => ?_)
    · have B_5386 : bn 0 0 r_5384 := bn_w (bn_eq c_5385 (show bn 0 0 (0 : Int32) from bn_k (by decide))) (by decide)
      refine lv_iconst (v := (-1)) hx hb dX10_welcome_29 (by decide) ?_
      exact prI (post := fun r L1 f1 => SH (spC rs fc tc w q) nnC G ad L1 f1) S Y rfl (by decide) (by decide) hA1 I dX10_welcome_30
    · have B_5387 : bn 1 1 r_5384 := bn_w (bn_nel c_5385 er_5384 (show bn 0 0 (0 : Int32) from bn_k (by decide))) (by decide)
      refine lv_iload_n hx hb dX10_welcome_19 rfl (lv_at hl 2 rfl) ?_
      refine lv_iconst (v := 0) hx hb dX10_welcome_20 (by decide) ?_
      refine lv_bipush (v := 99) hx hb dX10_welcome_21 (by decide) ?_
      refine cNp (As := [.int i2, .int 0, .int 99]) (rest := []) S Y (x_X11_within (l := l) ) cw_X11_within km10_89 rfl ⟨Nat.le_of_ble_eq_true rfl, Nat.le_of_ble_eq_true rfl⟩ hl.1 rfl (Nat.le_of_ble_eq_true rfl) ⟨Nat.le_of_ble_eq_true rfl, Nat.le_of_ble_eq_true rfl⟩ dX10_welcome_23 (fun r_5388 H locs er_5388 Y => ?_)
      refine lv_if_ne (tgt := 31) hx hb dX10_welcome_26 (by decide) (fun c_5389 => ?_) (fun c_5389 => ?_)
      · have B_5390 : bn 1 1 r_5388 := bn_w (bn_nel c_5389 er_5388 (show bn 0 0 (0 : Int32) from bn_k (by decide))) (by decide)
        refine lv_aload_n hx hb dX10_welcome_31 rfl (lv_at hl 0 rfl) ?_
        refine pg_get S Y ok_X10 0 (by decide) kf10_9 (v := .ref (ad 40 0)) p_ad_1_0 rfl dX10_welcome_32 ?_
        refine lv_aload_n hx hb dX10_welcome_35 rfl (lv_at hl 0 rfl) ?_
        refine pg_get S Y ok_X10 10 (by decide) kf10_80 (v := .int v_5371) p_ad_1_0 rfl dX10_welcome_36 ?_
        refine lv_iload_n hx hb dX10_welcome_39 rfl (lv_at hl 1 rfl) ?_
        obtain ⟨g_5392, p_ad_40_0, o_5393⟩ := I.opi (k := 40) (j := 0) (by decide) rfl
        have p_ad_40_0 : pt L f (ad 40 0) (.inl (G.2 0, 6, .inl g_5392)) := p_ad_40_0
        refine pg_iast S Y p_ad_40_0 (vp_bn B_5383 (by decide)) dX10_welcome_40 (fun f_5395 H locs ef_5395 Y => ?_)
        obtain ⟨g_5394, eg_5394⟩ : ∃ z, z = upd (g_5392) (v_5371 : Int32).toNatClampNeg i1 := ⟨_, rfl⟩
        rw [← eg_5394] at ef_5395
        have p_ad_1_0 := p_ad_1_0.up ef_5395 (I.ne (k := 1) (j := 0) (k' := 40) (j' := 0) (by decide) (by decide) (Or.inl (by decide)))
        have p_ad_40_0 := p_ad_40_0.me ef_5395
        have I := I.up (k := 40) (j := 0) (by decide) ef_5395 (okE_a (g := g_5394) trivial)
        refine lv_aload_n hx hb dX10_welcome_41 rfl (lv_at hl 0 rfl) ?_
        refine pg_get S Y ok_X10 1 (by decide) kf10_15 (v := .ref (ad 41 0)) p_ad_1_0 rfl dX10_welcome_42 ?_
        refine lv_aload_n hx hb dX10_welcome_45 rfl (lv_at hl 0 rfl) ?_
        refine pg_get S Y ok_X10 10 (by decide) kf10_80 (v := .int v_5371) p_ad_1_0 rfl dX10_welcome_46 ?_
        refine lv_iload_n hx hb dX10_welcome_49 rfl (lv_at hl 2 rfl) ?_
        obtain ⟨g_5396, p_ad_41_0, o_5397⟩ := I.opi (k := 41) (j := 0) (by decide) rfl
        have p_ad_41_0 : pt L f_5395 (ad 41 0) (.inl (G.2 0, 6, .inl g_5396)) := p_ad_41_0
        refine pg_iast S Y p_ad_41_0 (vp_bn B_5383 (by decide)) dX10_welcome_50 (fun f_5399 H locs ef_5399 Y => ?_)
        obtain ⟨g_5398, eg_5398⟩ : ∃ z, z = upd (g_5396) (v_5371 : Int32).toNatClampNeg i2 := ⟨_, rfl⟩
        rw [← eg_5398] at ef_5399
        have p_ad_1_0 := p_ad_1_0.up ef_5399 (I.ne (k := 1) (j := 0) (k' := 41) (j' := 0) (by decide) (by decide) (Or.inl (by decide)))
        have p_ad_40_0 := p_ad_40_0.up ef_5399 (I.ne (k := 40) (j := 0) (k' := 41) (j' := 0) (by decide) (by decide) (Or.inl (by decide)))
        have p_ad_41_0 := p_ad_41_0.me ef_5399
        have I := I.up (k := 41) (j := 0) (by decide) ef_5399 (okE_a (g := g_5398) trivial)
        refine lv_aload_n hx hb dX10_welcome_51 rfl (lv_at hl 0 rfl) ?_
        refine lv_dup hx hb dX10_welcome_52 rfl ?_
        refine pg_get S Y ok_X10 10 (by decide) kf10_80 (v := .int v_5371) p_ad_1_0 rfl dX10_welcome_53 ?_
        refine lv_iconst (v := 1) hx hb dX10_welcome_56 (by decide) ?_
        refine lv_iadd hx hb dX10_welcome_57 ?_
        refine lv_topi (fun x_5400 ex_5400 => ?_)
        refine pg_put S Y ok_X10 10 (by decide) kf10_80 rfl (fs' := [.ref (ad 40 0), .ref (ad 41 0), .ref (ad 42 0), .ref (ad 10 0), .ref (ad 43 0), .ref (ad 20 0), .ref (ad 20 1), .ref (ad 20 2), .ref (ad 20 3), .ref (ad 20 4), .int x_5400, .int v_5373, .int v_5375, .int v_5377, .int v_5379]) (v := .int x_5400) p_ad_1_0 rfl rfl rfl (Nat.le_of_ble_eq_true rfl) dX10_welcome_58 (fun f_5401 H locs ef_5401 Y => ?_)
        have p_ad_40_0 := p_ad_40_0.up ef_5401 (I.ne (k := 40) (j := 0) (k' := 1) (j' := 0) (by decide) (by decide) (Or.inl (by decide)))
        have p_ad_41_0 := p_ad_41_0.up ef_5401 (I.ne (k := 41) (j := 0) (k' := 1) (j' := 0) (by decide) (by decide) (Or.inl (by decide)))
        have p_ad_1_0 := p_ad_1_0.me ef_5401
        have I := I.up (k := 1) (j := 0) (by decide) ef_5401 (okE_o (okFs_c okV_r (okFs_c okV_r (okFs_c okV_r (okFs_c okV_r (okFs_c okV_r (okFs_c okV_r (okFs_c okV_r (okFs_c okV_r (okFs_c okV_r (okFs_c okV_r (okFs_c (okV_i (bn_w (bn_eq ex_5400 (bn_add B_5383 (show bn 1 1 (1 : Int32) from bn_k (by decide)) (by decide))) (by decide))) (okFs_c (okV_p b_5374) (okFs_c (okV_i b_5376) (okFs_c (okV_i b_5378) (okFs_c (okV_i b_5380) okFs_n))))))))))))))))
        refine lv_aload_n hx hb dX10_welcome_61 rfl (lv_at hl 0 rfl) ?_
        refine pg_get S Y ok_X10 10 (by decide) kf10_80 (v := .int x_5400) p_ad_1_0 rfl dX10_welcome_62 ?_
        refine lv_iconst (v := 1) hx hb dX10_welcome_65 (by decide) ?_
        refine lv_isub hx hb dX10_welcome_66 ?_
        refine lv_topi (fun x_5402 ex_5402 => ?_)
        exact prI (post := fun r L1 f1 => SH (spC rs fc tc w q) nnC G ad L1 f1) S Y rfl (by decide) (by decide) hA1 I dX10_welcome_67
      · have B_5391 : bn 0 0 r_5388 := bn_w (bn_eq c_5389 (show bn 0 0 (0 : Int32) from bn_k (by decide))) (by decide)
        refine lv_iconst (v := (-1)) hx hb dX10_welcome_29 (by decide) ?_
        exact prI (post := fun r L1 f1 => SH (spC rs fc tc w q) nnC G ad L1 f1) S Y rfl (by decide) (by decide) hA1 I dX10_welcome_30
set_option maxHeartbeats 4000000 in
set_option maxRecDepth 100000 in
theorem x_X10_script {l : Launch} {G : GG}  {L : List Nat} {f : HF} {ad : Nat → Nat → Nat} {rs : FS} {fc : Int × Int} {tc w : Nat → Int × Int} {q : Nat → (Nat → Int32) → Prop} {i1 : Int32} (I : SH (spC rs fc tc w q) nnC G ad L f) (hW : WBp w 8) (hT : WBp tc 4) (hQ : QIp q) : PMw l yX10_script cX10_script 2 (.object "KneeOaths$Script") 0 0 0 G [.ref (ad 1 0), .int i1] L f (fun r => (r = none ∨ ∃ t, t < 4 ∧ r = some (ad 30 (0 + t)))) := by
  refine PMq.of (post := fun r L1 f1 => ((r = none ∨ ∃ t, t < 4 ∧ r = some (ad 30 (0 + t)))) ∧ L1 = L ∧ f1 = f) (own := RX10) (by decide) rfl (Nat.le_of_ble_eq_true rfl) (fun sz p e s m args below meth c A ls hA1 hname S Y hl => ?_)
  have hx := S.hx
  have hb := S.hb
  have hl : lv_has ls 2 [(0, .ref (ad 1 0)), (1, .int i1)] := hl
  refine lv_iload_n hx hb dX10_script_0 rfl (lv_at hl 1 rfl) ?_
  refine lv_if_lt (tgt := 21) hx hb dX10_script_1 (by decide) (fun c_5439 => ?_) (fun c_5439 => ?_)
  · have B_5440 : bn (-2147483648) (-1) i1 := bn_w (bn_ltl c_5439 (bn_any i1) (show bn 0 0 (0 : Int32) from bn_k (by decide))) (by decide)
    refine lv_null hx hb dX10_script_21 ?_
    exact prQ (post := fun r L1 f1 => ((r = none ∨ ∃ t, t < 4 ∧ r = some (ad 30 (0 + t)))) ∧ L1 = L ∧ f1 = f) (r := none) S Y rfl (by decide) (by decide) hA1 ⟨Or.inl rfl, rfl, rfl⟩ dX10_script_22
  · have B_5441 : bn 0 2147483647 i1 := bn_w (bn_gel c_5439 (bn_any i1) (show bn 0 0 (0 : Int32) from bn_k (by decide))) (by decide)
    refine lv_iload_n hx hb dX10_script_4 rfl (lv_at hl 1 rfl) ?_
    refine lv_aload_n hx hb dX10_script_5 rfl (lv_at hl 0 rfl) ?_
    obtain ⟨v_5442, v_5444, v_5446, v_5448, v_5450, p_ad_1_0, b_5443, b_5445, b_5447, b_5449, b_5451⟩ := opnC_1 (j := 0) I (by decide)
    have p_ad_1_0 : pt L f (ad 1 0) (.inr (10, [.ref (ad 40 0), .ref (ad 41 0), .ref (ad 42 0), .ref (ad 10 0), .ref (ad 43 0), .ref (ad 20 0), .ref (ad 20 1), .ref (ad 20 2), .ref (ad 20 3), .ref (ad 20 4), .int v_5442, .int v_5444, .int v_5446, .int v_5448, .int v_5450])) := p_ad_1_0
    refine pg_get S Y ok_X10 11 (by decide) kf10_67 (v := .int v_5444) p_ad_1_0 rfl dX10_script_6 ?_
    refine lv_icmp_ge (tgt := 21) hx hb dX10_script_9 (by decide) (fun c_5452 => ?_) (fun c_5452 => ?_)
    · refine lv_null hx hb dX10_script_21 ?_
      exact prQ (post := fun r L1 f1 => ((r = none ∨ ∃ t, t < 4 ∧ r = some (ad 30 (0 + t)))) ∧ L1 = L ∧ f1 = f) (r := none) S Y rfl (by decide) (by decide) hA1 ⟨Or.inl rfl, rfl, rfl⟩ dX10_script_22
    · have B_5453 : bn 1 4 v_5444 := bn_w (bn_gtl c_5452 (bn_w (a' := 0) (b' := 4) b_5445 (hT 0)) B_5441) (by decide)
      have B_5454 : bn 0 3 i1 := bn_w (bn_gtr c_5452 (bn_w (a' := 0) (b' := 4) b_5445 (hT 0)) B_5441) (by decide)
      refine lv_aload_n hx hb dX10_script_12 rfl (lv_at hl 0 rfl) ?_
      refine pg_get S Y ok_X10 2 (by decide) kf10_20 (v := .ref (ad 42 0)) p_ad_1_0 rfl dX10_script_13 ?_
      refine lv_iload_n hx hb dX10_script_16 rfl (lv_at hl 1 rfl) ?_
      obtain ⟨g_5455, p_ad_42_0, o_5456⟩ := I.opr (k := 42) (j := 0) (by decide) rfl
      have p_ad_42_0 : pt L f (ad 42 0) (.inl (G.2 4, 4, .inr (.inr (.inr (.inr g_5455))))) := p_ad_42_0
      refine pg_aald S Y (k := 4) (o := (ad 30 i1.toNatClampNeg)) p_ad_42_0 rfl (vp_bn B_5454 (by decide)) (aal0 (o_5456 _ (tn_bn B_5454 (by decide)))) dX10_script_17 ?_
      refine lv_goto (tgt := 22) hx hb dX10_script_18 (by decide) ?_
      exact prQ (post := fun r L1 f1 => ((r = none ∨ ∃ t, t < 4 ∧ r = some (ad 30 (0 + t)))) ∧ L1 = L ∧ f1 = f) (r := some (ad 30 i1.toNatClampNeg)) S Y rfl (by decide) (by decide) hA1 ⟨Or.inr ⟨i1.toNatClampNeg, (show i1.toNatClampNeg < 4 from by have h9 := tn_bn (n := 4) B_5454 (by decide); omega), by rw [Nat.zero_add]⟩, rfl, rfl⟩ dX10_script_22
theorem le3 {a b : Int} {x : Int32} (h : bn a b x) (g : bn 0 3 x) (e : a = b) : b ≤ 3 := by
  obtain ⟨h1, h2⟩ := h; obtain ⟨g1, g2⟩ := g; omega
theorem bn_pl {a b : Int} {x z : Int32} (e : z = x + 1) (h : bn a b x) (ha : 0 ≤ a) (hb : b ≤ 3) : bn (a + 1) (b + 1) z := by
  rw [e]; exact bn_add h (show bn 1 1 (1 : Int32) from bn_k (by decide)) ⟨by omega, by omega⟩
theorem WB_pl {tc : Nat → Int × Int} (hT : WBp tc 4) (h3 : (tc 0).2 ≤ 3) : WBp (stf tc 0 ((tc 0).1 + 1, (tc 0).2 + 1)) 4 := by
  intro k
  by_cases z : k = 0
  · subst z; rw [stf_s]; have := hT 0; exact ⟨by dsimp only; omega, by dsimp only; omega⟩
  · rw [stf_n z]; exact hT k
set_option maxHeartbeats 4000000 in
set_option maxRecDepth 100000 in
theorem x_X10_freeScript {l : Launch} {G : GG}  {L : List Nat} {f : HF} {ad : Nat → Nat → Nat} {rs : FS} {fc : Int × Int} {tc w : Nat → Int × Int} {q : Nat → (Nat → Int32) → Prop} (I : SH (spC rs fc tc w q) nnC G ad L f) (hW : WBp w 8) (hT : WBp tc 4) (hQ : QIp q) (hE : ∀ j, (tc j).1 = (tc j).2) : PMw l yX10_freeScript cX10_freeScript 1 (.object "KneeOaths$Script") 0 0 0 G [.ref (ad 1 0)] L f (fun r => ((r = none ∨ ∃ t, t < 4 ∧ r = some (ad 30 (0 + t))) ∧ (r ≠ none → (tc 0).2 ≤ 3))) := by
  refine PMq.of (post := fun r L1 f1 => (((r = none ∨ ∃ t, t < 4 ∧ r = some (ad 30 (0 + t))) ∧ (r ≠ none → (tc 0).2 ≤ 3))) ∧ L1 = L ∧ f1 = f) (own := RX10) (by decide) rfl (Nat.le_of_ble_eq_true rfl) (fun sz p e s m args below meth c A ls hA1 hname S Y hl => ?_)
  have hx := S.hx
  have hb := S.hb
  have hl : lv_has ls 1 [(0, .ref (ad 1 0))] := hl
  refine lv_aload_n hx hb dX10_freeScript_0 rfl (lv_at hl 0 rfl) ?_
  obtain ⟨v_5487, v_5489, v_5491, v_5493, v_5495, p_ad_1_0, b_5488, b_5490, b_5492, b_5494, b_5496⟩ := opnC_1 (j := 0) I (by decide)
  have p_ad_1_0 : pt L f (ad 1 0) (.inr (10, [.ref (ad 40 0), .ref (ad 41 0), .ref (ad 42 0), .ref (ad 10 0), .ref (ad 43 0), .ref (ad 20 0), .ref (ad 20 1), .ref (ad 20 2), .ref (ad 20 3), .ref (ad 20 4), .int v_5487, .int v_5489, .int v_5491, .int v_5493, .int v_5495])) := p_ad_1_0
  refine pg_get S Y ok_X10 11 (by decide) kf10_67 (v := .int v_5489) p_ad_1_0 rfl dX10_freeScript_1 ?_
  refine lv_iconst (v := 4) hx hb dX10_freeScript_4 (by decide) ?_
  refine lv_icmp_ge (tgt := 20) hx hb dX10_freeScript_5 (by decide) (fun c_5497 => ?_) (fun c_5497 => ?_)
  · have B_5498 : bn 4 4 v_5489 := bn_w (bn_ler c_5497 (show bn 4 4 (4 : Int32) from bn_k (by decide)) (bn_w (a' := 0) (b' := 4) b_5490 (hT 0))) (by decide)
    refine lv_null hx hb dX10_freeScript_20 ?_
    exact prQ (post := fun r L1 f1 => (((r = none ∨ ∃ t, t < 4 ∧ r = some (ad 30 (0 + t))) ∧ (r ≠ none → (tc 0).2 ≤ 3))) ∧ L1 = L ∧ f1 = f) (r := none) S Y rfl (by decide) (by decide) hA1 ⟨⟨Or.inl rfl, fun h => absurd rfl h⟩, rfl, rfl⟩ dX10_freeScript_21
  · have B_5499 : bn 0 3 v_5489 := bn_w (bn_gtr c_5497 (show bn 4 4 (4 : Int32) from bn_k (by decide)) (bn_w (a' := 0) (b' := 4) b_5490 (hT 0))) (by decide)
    refine lv_aload_n hx hb dX10_freeScript_8 rfl (lv_at hl 0 rfl) ?_
    refine pg_get S Y ok_X10 2 (by decide) kf10_20 (v := .ref (ad 42 0)) p_ad_1_0 rfl dX10_freeScript_9 ?_
    refine lv_aload_n hx hb dX10_freeScript_12 rfl (lv_at hl 0 rfl) ?_
    refine pg_get S Y ok_X10 11 (by decide) kf10_67 (v := .int v_5489) p_ad_1_0 rfl dX10_freeScript_13 ?_
    obtain ⟨g_5500, p_ad_42_0, o_5501⟩ := I.opr (k := 42) (j := 0) (by decide) rfl
    have p_ad_42_0 : pt L f (ad 42 0) (.inl (G.2 4, 4, .inr (.inr (.inr (.inr g_5500))))) := p_ad_42_0
    refine pg_aald S Y (k := 4) (o := (ad 30 v_5489.toNatClampNeg)) p_ad_42_0 rfl (vp_bn B_5499 (by decide)) (aal0 (o_5501 _ (tn_bn B_5499 (by decide)))) dX10_freeScript_16 ?_
    refine lv_goto (tgt := 21) hx hb dX10_freeScript_17 (by decide) ?_
    exact prQ (post := fun r L1 f1 => (((r = none ∨ ∃ t, t < 4 ∧ r = some (ad 30 (0 + t))) ∧ (r ≠ none → (tc 0).2 ≤ 3))) ∧ L1 = L ∧ f1 = f) (r := some (ad 30 v_5489.toNatClampNeg)) S Y rfl (by decide) (by decide) hA1 ⟨⟨Or.inr ⟨v_5489.toNatClampNeg, tn_bn B_5499 (by decide), by rw [Nat.zero_add]⟩, fun _ => by have h7 := b_5490; have h8 : bn 0 3 v_5489 := bn_w B_5499 (by decide); have h9 := hE 0; exact le3 h7 h8 h9⟩, rfl, rfl⟩ dX10_freeScript_21
set_option maxHeartbeats 4000000 in
set_option maxRecDepth 100000 in
theorem x_X10_keepScript {l : Launch} {G : GG}  {L : List Nat} {f : HF} {ad : Nat → Nat → Nat} {rs : FS} {fc : Int × Int} {tc w : Nat → Int × Int} {q : Nat → (Nat → Int32) → Prop} (I : SH (spC rs fc tc w q) nnC G ad L f) (hW : WBp w 8) (hT : WBp tc 4) (hQ : QIp q) (h3 : (tc 0).2 ≤ 3) : PMi l yX10_keepScript cX10_keepScript 1 .int 0 0 0 G [.ref (ad 1 0)] L f (fun r L1 f1 => ∃ tc2 : Nat → Int × Int, SH (spC rs fc tc2 w q) nnC G ad L1 f1 ∧ tc2 0 = ((tc 0).1 + 1, (tc 0).2 + 1) ∧ (∀ k, k ≠ 0 → tc2 k = tc k) ∧ WBp tc2 4) := by
  refine PMi.of (post := fun r L1 f1 => ∃ tc2 : Nat → Int × Int, SH (spC rs fc tc2 w q) nnC G ad L1 f1 ∧ tc2 0 = ((tc 0).1 + 1, (tc 0).2 + 1) ∧ (∀ k, k ≠ 0 → tc2 k = tc k) ∧ WBp tc2 4) (own := RX10) (by decide) rfl (Nat.le_of_ble_eq_true rfl) (fun sz p e s m args below meth c A ls hA1 hname S Y hl => ?_)
  have hx := S.hx
  have hb := S.hb
  have hl : lv_has ls 1 [(0, .ref (ad 1 0))] := hl
  refine lv_aload_n hx hb dX10_keepScript_0 rfl (lv_at hl 0 rfl) ?_
  refine lv_dup hx hb dX10_keepScript_1 rfl ?_
  obtain ⟨v_5528, v_5530, v_5532, v_5534, v_5536, p_ad_1_0, b_5529, b_5531, b_5533, b_5535, b_5537⟩ := opnC_1 (j := 0) I (by decide)
  have p_ad_1_0 : pt L f (ad 1 0) (.inr (10, [.ref (ad 40 0), .ref (ad 41 0), .ref (ad 42 0), .ref (ad 10 0), .ref (ad 43 0), .ref (ad 20 0), .ref (ad 20 1), .ref (ad 20 2), .ref (ad 20 3), .ref (ad 20 4), .int v_5528, .int v_5530, .int v_5532, .int v_5534, .int v_5536])) := p_ad_1_0
  refine pg_get S Y ok_X10 11 (by decide) kf10_67 (v := .int v_5530) p_ad_1_0 rfl dX10_keepScript_2 ?_
  refine lv_iconst (v := 1) hx hb dX10_keepScript_5 (by decide) ?_
  refine lv_iadd hx hb dX10_keepScript_6 ?_
  refine lv_topi (fun x_5538 ex_5538 => ?_)
  refine pg_put S Y ok_X10 11 (by decide) kf10_67 rfl (fs' := [.ref (ad 40 0), .ref (ad 41 0), .ref (ad 42 0), .ref (ad 10 0), .ref (ad 43 0), .ref (ad 20 0), .ref (ad 20 1), .ref (ad 20 2), .ref (ad 20 3), .ref (ad 20 4), .int v_5528, .int x_5538, .int v_5532, .int v_5534, .int v_5536]) (v := .int x_5538) p_ad_1_0 rfl rfl rfl (Nat.le_of_ble_eq_true rfl) dX10_keepScript_7 (fun f_5539 H locs ef_5539 Y => ?_)
  have p_ad_1_0 := p_ad_1_0.me ef_5539
  have I := I.upS (sp' := spC rs fc (stf tc 0 ((tc 0).1 + 1, (tc 0).2 + 1)) w q) (k := 1) (j := 0) (by decide) ef_5539 (okE_o (okFs_c okV_r (okFs_c okV_r (okFs_c okV_r (okFs_c okV_r (okFs_c okV_r (okFs_c okV_r (okFs_c okV_r (okFs_c okV_r (okFs_c okV_r (okFs_c okV_r (okFs_c (okV_i b_5529) (okFs_c (okV_p (q := stf tc 0 ((tc 0).1 + 1, (tc 0).2 + 1) 0) (by rw [stf_s]; exact bn_pl ex_5538 b_5531 (hT 0).1 h3)) (okFs_c (okV_i b_5533) (okFs_c (okV_i b_5535) (okFs_c (okV_i b_5537) okFs_n)))))))))))))))) tcC
  refine lv_aload_n hx hb dX10_keepScript_10 rfl (lv_at hl 0 rfl) ?_
  refine pg_get S Y ok_X10 11 (by decide) kf10_67 (v := .int x_5538) p_ad_1_0 rfl dX10_keepScript_11 ?_
  refine lv_iconst (v := 1) hx hb dX10_keepScript_14 (by decide) ?_
  refine lv_isub hx hb dX10_keepScript_15 ?_
  refine lv_topi (fun x_5540 ex_5540 => ?_)
  exact prI (post := fun r L1 f1 => ∃ tc2 : Nat → Int × Int, SH (spC rs fc tc2 w q) nnC G ad L1 f1 ∧ tc2 0 = ((tc 0).1 + 1, (tc 0).2 + 1) ∧ (∀ k, k ≠ 0 → tc2 k = tc k) ∧ WBp tc2 4) S Y rfl (by decide) (by decide) hA1 ⟨stf tc 0 ((tc 0).1 + 1, (tc 0).2 + 1), I, stf_s, fun k h => stf_n h, WB_pl hT h3⟩ dX10_keepScript_16
set_option maxHeartbeats 4000000 in
set_option maxRecDepth 100000 in
theorem x_X10_putUnder {l : Launch} {G : GG}  {L : List Nat} {f : HF} {ad : Nat → Nat → Nat} {rs : FS} {fc : Int × Int} {tc w : Nat → Int × Int} {q : Nat → (Nat → Int32) → Prop} {i1 : Int32} (I : SH (spC rs fc tc w q) nnC G ad L f) (hW : WBp w 8) (hT : WBp tc 4) (hQ : QIp q) : PMi l yX10_putUnder cX10_putUnder 2 .boolean 1 0 0 G [.ref (ad 1 0), .int i1] L f (fun r L1 f1 => bn 0 1 r ∧ SH (spC rs fc tc w q) nnC G ad L1 f1) := by
  refine PMi.of (post := fun r L1 f1 => bn 0 1 r ∧ SH (spC rs fc tc w q) nnC G ad L1 f1) (own := RX10) (by decide) rfl (Nat.le_of_ble_eq_true rfl) (fun sz p e s m args below meth c A ls hA1 hname S Y hl => ?_)
  have hx := S.hx
  have hb := S.hb
  have hl : lv_has ls 2 [(0, .ref (ad 1 0)), (1, .int i1)] := hl
  refine lv_iload_n hx hb dX10_putUnder_0 rfl (lv_at hl 1 rfl) ?_
  refine lv_iconst (v := (-1)) hx hb dX10_putUnder_1 (by decide) ?_
  refine lv_icmp_eq (tgt := 15) hx hb dX10_putUnder_2 (by decide) (fun c_5593 => ?_) (fun c_5593 => ?_)
  · have B_5594 : bn (-1) (-1) i1 := bn_w (bn_eq c_5593 (show bn (-1) (-1) ((-1) : Int32) from bn_k (by decide))) (by decide)
    refine lv_aload_n hx hb dX10_putUnder_15 rfl (lv_at hl 0 rfl) ?_
    refine lv_iload_n hx hb dX10_putUnder_16 rfl (lv_at hl 1 rfl) ?_
    obtain ⟨v_5595, v_5597, v_5599, v_5601, v_5603, p_ad_1_0, b_5596, b_5598, b_5600, b_5602, b_5604⟩ := opnC_1 (j := 0) I (by decide)
    have p_ad_1_0 : pt L f (ad 1 0) (.inr (10, [.ref (ad 40 0), .ref (ad 41 0), .ref (ad 42 0), .ref (ad 10 0), .ref (ad 43 0), .ref (ad 20 0), .ref (ad 20 1), .ref (ad 20 2), .ref (ad 20 3), .ref (ad 20 4), .int v_5595, .int v_5597, .int v_5599, .int v_5601, .int v_5603])) := p_ad_1_0
    refine pg_put S Y ok_X10 12 (by decide) kf10_56 rfl (fs' := [.ref (ad 40 0), .ref (ad 41 0), .ref (ad 42 0), .ref (ad 10 0), .ref (ad 43 0), .ref (ad 20 0), .ref (ad 20 1), .ref (ad 20 2), .ref (ad 20 3), .ref (ad 20 4), .int v_5595, .int v_5597, .int i1, .int v_5601, .int v_5603]) (v := .int i1) p_ad_1_0 rfl rfl rfl (Nat.le_of_ble_eq_true rfl) dX10_putUnder_17 (fun f_5605 H locs ef_5605 Y => ?_)
    have p_ad_1_0 := p_ad_1_0.me ef_5605
    have I := I.up (k := 1) (j := 0) (by decide) ef_5605 (okE_o (okFs_c okV_r (okFs_c okV_r (okFs_c okV_r (okFs_c okV_r (okFs_c okV_r (okFs_c okV_r (okFs_c okV_r (okFs_c okV_r (okFs_c okV_r (okFs_c okV_r (okFs_c (okV_i b_5596) (okFs_c (okV_p b_5598) (okFs_c (okV_i (bn_w B_5594 (by decide))) (okFs_c (okV_i b_5602) (okFs_c (okV_i b_5604) okFs_n))))))))))))))))
    refine lv_iconst (v := 1) hx hb dX10_putUnder_20 (by decide) ?_
    exact prI (post := fun r L1 f1 => bn 0 1 r ∧ SH (spC rs fc tc w q) nnC G ad L1 f1) S Y rfl (by decide) (by decide) hA1 ⟨bn_w (show bn 1 1 (1 : Int32) from bn_k (by decide)) (by decide), I⟩ dX10_putUnder_21
  · refine lv_aload_n hx hb dX10_putUnder_5 rfl (lv_at hl 0 rfl) ?_
    refine lv_iload_n hx hb dX10_putUnder_6 rfl (lv_at hl 1 rfl) ?_
    refine cVw (As := [.int i1]) (rest := []) S Y (x_X10_script (l := l) I hW hT hQ) cw_X10_script km10_93 (I.opo (k := 1) (j := 0) (by decide) rfl).choose_spec.1 ok_X10.1 rfl rfl ⟨Nat.le_of_ble_eq_true rfl, Nat.le_of_ble_eq_true rfl⟩ hl.1 rfl (Nat.le_of_ble_eq_true rfl) ⟨Nat.le_of_ble_eq_true rfl, Nat.le_of_ble_eq_true rfl⟩ dX10_putUnder_7 (fun r_5606 H locs er_5606 Y => ?_)
    rcases er_5606 with er_5606 | ⟨t_5607, ht_5607, er_5606⟩
    · rw [er_5606]
      show W _ _ _ _ _ _ _ _ _ _ _ _ _ _ _ (F0 _ _ _ (.null :: _))
      refine lv_ifnonnullN hx hb dX10_putUnder_10 ?_
      refine lv_iconst (v := 0) hx hb dX10_putUnder_13 (by decide) ?_
      exact prI (post := fun r L1 f1 => bn 0 1 r ∧ SH (spC rs fc tc w q) nnC G ad L1 f1) S Y rfl (by decide) (by decide) hA1 ⟨bn_w (show bn 0 0 (0 : Int32) from bn_k (by decide)) (by decide), I⟩ dX10_putUnder_14
    · rw [er_5606]
      have e9 : 0 + t_5607 = t_5607 := Nat.zero_add _
      rw [e9]
      show W _ _ _ _ _ _ _ _ _ _ _ _ _ _ _ (F0 _ _ _ (.ref (ad 30 t_5607) :: _))
      refine lv_ifnonnull (tgt := 15) hx hb dX10_putUnder_10 (by decide) ?_
      refine lv_aload_n hx hb dX10_putUnder_15 rfl (lv_at hl 0 rfl) ?_
      refine lv_iload_n hx hb dX10_putUnder_16 rfl (lv_at hl 1 rfl) ?_
      obtain ⟨v_5608, v_5610, v_5612, v_5614, v_5616, p_ad_1_0, b_5609, b_5611, b_5613, b_5615, b_5617⟩ := opnC_1 (j := 0) I (by decide)
      have p_ad_1_0 : pt L f (ad 1 0) (.inr (10, [.ref (ad 40 0), .ref (ad 41 0), .ref (ad 42 0), .ref (ad 10 0), .ref (ad 43 0), .ref (ad 20 0), .ref (ad 20 1), .ref (ad 20 2), .ref (ad 20 3), .ref (ad 20 4), .int v_5608, .int v_5610, .int v_5612, .int v_5614, .int v_5616])) := p_ad_1_0
      refine pg_put S Y ok_X10 12 (by decide) kf10_56 rfl (fs' := [.ref (ad 40 0), .ref (ad 41 0), .ref (ad 42 0), .ref (ad 10 0), .ref (ad 43 0), .ref (ad 20 0), .ref (ad 20 1), .ref (ad 20 2), .ref (ad 20 3), .ref (ad 20 4), .int v_5608, .int v_5610, .int i1, .int v_5614, .int v_5616]) (v := .int i1) p_ad_1_0 rfl rfl rfl (Nat.le_of_ble_eq_true rfl) dX10_putUnder_17 (fun f_5618 H locs ef_5618 Y => ?_)
      have p_ad_1_0 := p_ad_1_0.me ef_5618
      have I := I.up (k := 1) (j := 0) (by decide) ef_5618 (okE_o (okFs_c okV_r (okFs_c okV_r (okFs_c okV_r (okFs_c okV_r (okFs_c okV_r (okFs_c okV_r (okFs_c okV_r (okFs_c okV_r (okFs_c okV_r (okFs_c okV_r (okFs_c (okV_i b_5609) (okFs_c (okV_p b_5611) (okFs_c (okV_i (bn_w (bn_any i1) (by decide))) (okFs_c (okV_i b_5615) (okFs_c (okV_i b_5617) okFs_n))))))))))))))))
      refine lv_iconst (v := 1) hx hb dX10_putUnder_20 (by decide) ?_
      exact prI (post := fun r L1 f1 => bn 0 1 r ∧ SH (spC rs fc tc w q) nnC G ad L1 f1) S Y rfl (by decide) (by decide) hA1 ⟨bn_w (show bn 1 1 (1 : Int32) from bn_k (by decide)) (by decide), I⟩ dX10_putUnder_21
set_option maxHeartbeats 4000000 in
set_option maxRecDepth 100000 in
theorem x_X10_remember {l : Launch} {G : GG}  {L : List Nat} {f : HF} {ad : Nat → Nat → Nat} {rs : FS} {fc : Int × Int} {tc w : Nat → Int × Int} {q : Nat → (Nat → Int32) → Prop} (I : SH (spC rs fc tc w q) nnC G ad L f) (hW : WBp w 8) (hT : WBp tc 4) (hQ : QIp q) : PMv l yX10_remember cX10_remember 1 2 0 0 G [.ref (ad 1 0)] L f (fun L1 f1 => SH (spC rs fc tc w q) nnC G ad L1 f1) := by
  refine PMv.of (post := fun L1 f1 => SH (spC rs fc tc w q) nnC G ad L1 f1) (own := RX10) (by decide) rfl (Nat.le_of_ble_eq_true rfl) (fun sz p e s m args below meth c A ls hA1 hname S Y hl => ?_)
  have hx := S.hx
  have hb := S.hb
  have hl : lv_has ls 1 [(0, .ref (ad 1 0))] := hl
  refine lv_aload_n hx hb dX10_remember_0 rfl (lv_at hl 0 rfl) ?_
  obtain ⟨v_5687, v_5689, v_5691, v_5693, v_5695, p_ad_1_0, b_5688, b_5690, b_5692, b_5694, b_5696⟩ := opnC_1 (j := 0) I (by decide)
  have p_ad_1_0 : pt L f (ad 1 0) (.inr (10, [.ref (ad 40 0), .ref (ad 41 0), .ref (ad 42 0), .ref (ad 10 0), .ref (ad 43 0), .ref (ad 20 0), .ref (ad 20 1), .ref (ad 20 2), .ref (ad 20 3), .ref (ad 20 4), .int v_5687, .int v_5689, .int v_5691, .int v_5693, .int v_5695])) := p_ad_1_0
  refine pg_get S Y ok_X10 4 (by decide) kf10_31 (v := .ref (ad 43 0)) p_ad_1_0 rfl dX10_remember_1 ?_
  refine lv_aload_n hx hb dX10_remember_4 rfl (lv_at hl 0 rfl) ?_
  refine pg_get S Y ok_X10 13 (by decide) kf10_83 (v := .int v_5693) p_ad_1_0 rfl dX10_remember_5 ?_
  refine lv_aload_n hx hb dX10_remember_8 rfl (lv_at hl 0 rfl) ?_
  refine pg_get S Y ok_X10 14 (by decide) kf10_86 (v := .int v_5695) p_ad_1_0 rfl dX10_remember_9 ?_
  refine lv_iadd hx hb dX10_remember_12 ?_
  refine lv_topi (fun x_5697 ex_5697 => ?_)
  refine lv_bipush (v := 30) hx hb dX10_remember_13 (by decide) ?_
  refine lv_irem hx hb dX10_remember_15 (by decide) ?_
  refine lv_topi (fun x_5698 ex_5698 => ?_)
  obtain ⟨g_5699, p_ad_43_0, o_5700⟩ := I.opr (k := 43) (j := 0) (by decide) rfl
  have p_ad_43_0 : pt L f (ad 43 0) (.inl (G.2 3, 30, .inr (.inr (.inr (.inr g_5699))))) := p_ad_43_0
  refine pg_aald S Y (k := 3) (o := (ad 10 (1 + x_5698.toNatClampNeg))) p_ad_43_0 rfl (vp_bn (bn_eq ex_5698 (bn_rem (bn_eq ex_5697 (bn_add b_5694 b_5696 (by decide))) (show bn 30 30 (30 : Int32) from bn_k (by decide)) (by decide))) (by decide)) (o_5700 _ (tn_bn (bn_eq ex_5698 (bn_rem (bn_eq ex_5697 (bn_add b_5694 b_5696 (by decide))) (show bn 30 30 (30 : Int32) from bn_k (by decide)) (by decide))) (by decide))) dX10_remember_16 ?_
  refine lv_aload_n hx hb dX10_remember_17 rfl (lv_at hl 0 rfl) ?_
  refine pg_get S Y ok_X10 3 (by decide) kf10_27 (v := .ref (ad 10 0)) p_ad_1_0 rfl dX10_remember_18 ?_
  refine cVv (As := [.ref (ad 10 0)]) (rest := []) S Y (x_X4_takeOver (l := l) (j := (1 + x_5698.toNatClampNeg)) (i := 0) I hW hT hQ (show (1 + x_5698.toNatClampNeg) < 63 from by have h9 := tn_bn (n := 30) (bn_eq ex_5698 (bn_rem (bn_eq ex_5697 (bn_add b_5694 b_5696 (by decide))) (show bn 30 30 (30 : Int32) from bn_k (by decide)) (by decide))) (by decide); omega) (by decide) (by omega)) cw_X4_takeOver km10_74 (I.opo (k := 10) (j := (1 + x_5698.toNatClampNeg)) (show (1 + x_5698.toNatClampNeg) < 63 from by have h9 := tn_bn (n := 30) (bn_eq ex_5698 (bn_rem (bn_eq ex_5697 (bn_add b_5694 b_5696 (by decide))) (show bn 30 30 (30 : Int32) from bn_k (by decide)) (by decide))) (by decide); omega) rfl).choose_spec.1 ok_X4.1 rfl rfl ⟨Nat.le_of_ble_eq_true rfl, Nat.le_of_ble_eq_true rfl⟩ hl.1 rfl (Nat.le_of_ble_eq_true rfl) ⟨Nat.le_of_ble_eq_true rfl, Nat.le_of_ble_eq_true rfl⟩ dX10_remember_21 (fun L_5701 f_5702 H locs I Y => ?_)
  refine lv_aload_n hx hb dX10_remember_24 rfl (lv_at hl 0 rfl) ?_
  obtain ⟨v_5703, v_5705, v_5707, v_5709, v_5711, p_ad_1_0, b_5704, b_5706, b_5708, b_5710, b_5712⟩ := opnC_1 (j := 0) I (by decide)
  have p_ad_1_0 : pt L_5701 f_5702 (ad 1 0) (.inr (10, [.ref (ad 40 0), .ref (ad 41 0), .ref (ad 42 0), .ref (ad 10 0), .ref (ad 43 0), .ref (ad 20 0), .ref (ad 20 1), .ref (ad 20 2), .ref (ad 20 3), .ref (ad 20 4), .int v_5703, .int v_5705, .int v_5707, .int v_5709, .int v_5711])) := p_ad_1_0
  refine pg_get S Y ok_X10 14 (by decide) kf10_86 (v := .int v_5711) p_ad_1_0 rfl dX10_remember_25 ?_
  refine lv_bipush (v := 30) hx hb dX10_remember_28 (by decide) ?_
  refine lv_icmp_ge (tgt := 46) hx hb dX10_remember_30 (by decide) (fun c_5713 => ?_) (fun c_5713 => ?_)
  · have B_5714 : bn 30 30 v_5711 := bn_w (bn_ler c_5713 (show bn 30 30 (30 : Int32) from bn_k (by decide)) b_5712) (by decide)
    refine lv_aload_n hx hb dX10_remember_46 rfl (lv_at hl 0 rfl) ?_
    refine lv_aload_n hx hb dX10_remember_47 rfl (lv_at hl 0 rfl) ?_
    refine pg_get S Y ok_X10 13 (by decide) kf10_83 (v := .int v_5709) p_ad_1_0 rfl dX10_remember_48 ?_
    refine lv_iconst (v := 1) hx hb dX10_remember_51 (by decide) ?_
    refine lv_iadd hx hb dX10_remember_52 ?_
    refine lv_topi (fun x_5716 ex_5716 => ?_)
    refine lv_bipush (v := 30) hx hb dX10_remember_53 (by decide) ?_
    refine lv_irem hx hb dX10_remember_55 (by decide) ?_
    refine lv_topi (fun x_5717 ex_5717 => ?_)
    refine pg_put S Y ok_X10 13 (by decide) kf10_83 rfl (fs' := [.ref (ad 40 0), .ref (ad 41 0), .ref (ad 42 0), .ref (ad 10 0), .ref (ad 43 0), .ref (ad 20 0), .ref (ad 20 1), .ref (ad 20 2), .ref (ad 20 3), .ref (ad 20 4), .int v_5703, .int v_5705, .int v_5707, .int x_5717, .int v_5711]) (v := .int x_5717) p_ad_1_0 rfl rfl rfl (Nat.le_of_ble_eq_true rfl) dX10_remember_56 (fun f_5718 H locs ef_5718 Y => ?_)
    have p_ad_1_0 := p_ad_1_0.me ef_5718
    have I := I.up (k := 1) (j := 0) (by decide) ef_5718 (okE_o (okFs_c okV_r (okFs_c okV_r (okFs_c okV_r (okFs_c okV_r (okFs_c okV_r (okFs_c okV_r (okFs_c okV_r (okFs_c okV_r (okFs_c okV_r (okFs_c okV_r (okFs_c (okV_i b_5704) (okFs_c (okV_p b_5706) (okFs_c (okV_i b_5708) (okFs_c (okV_i (bn_w (bn_eq ex_5717 (bn_rem (bn_eq ex_5716 (bn_add b_5710 (show bn 1 1 (1 : Int32) from bn_k (by decide)) (by decide))) (show bn 30 30 (30 : Int32) from bn_k (by decide)) (by decide))) (by decide))) (okFs_c (okV_i b_5712) okFs_n))))))))))))))))
    exact prV (post := fun L1 f1 => SH (spC rs fc tc w q) nnC G ad L1 f1) S Y (by decide) (by decide) hA1 I dX10_remember_59
  · have B_5715 : bn 0 29 v_5711 := bn_w (bn_gtr c_5713 (show bn 30 30 (30 : Int32) from bn_k (by decide)) b_5712) (by decide)
    refine lv_aload_n hx hb dX10_remember_33 rfl (lv_at hl 0 rfl) ?_
    refine lv_dup hx hb dX10_remember_34 rfl ?_
    refine pg_get S Y ok_X10 14 (by decide) kf10_86 (v := .int v_5711) p_ad_1_0 rfl dX10_remember_35 ?_
    refine lv_iconst (v := 1) hx hb dX10_remember_38 (by decide) ?_
    refine lv_iadd hx hb dX10_remember_39 ?_
    refine lv_topi (fun x_5719 ex_5719 => ?_)
    refine pg_put S Y ok_X10 14 (by decide) kf10_86 rfl (fs' := [.ref (ad 40 0), .ref (ad 41 0), .ref (ad 42 0), .ref (ad 10 0), .ref (ad 43 0), .ref (ad 20 0), .ref (ad 20 1), .ref (ad 20 2), .ref (ad 20 3), .ref (ad 20 4), .int v_5703, .int v_5705, .int v_5707, .int v_5709, .int x_5719]) (v := .int x_5719) p_ad_1_0 rfl rfl rfl (Nat.le_of_ble_eq_true rfl) dX10_remember_40 (fun f_5720 H locs ef_5720 Y => ?_)
    have p_ad_1_0 := p_ad_1_0.me ef_5720
    have I := I.up (k := 1) (j := 0) (by decide) ef_5720 (okE_o (okFs_c okV_r (okFs_c okV_r (okFs_c okV_r (okFs_c okV_r (okFs_c okV_r (okFs_c okV_r (okFs_c okV_r (okFs_c okV_r (okFs_c okV_r (okFs_c okV_r (okFs_c (okV_i b_5704) (okFs_c (okV_p b_5706) (okFs_c (okV_i b_5708) (okFs_c (okV_i b_5710) (okFs_c (okV_i (bn_w (bn_eq ex_5719 (bn_add B_5715 (show bn 1 1 (1 : Int32) from bn_k (by decide)) (by decide))) (by decide))) okFs_n))))))))))))))))
    refine lv_goto (tgt := 59) hx hb dX10_remember_43 (by decide) ?_
    exact prV (post := fun L1 f1 => SH (spC rs fc tc w q) nnC G ad L1 f1) S Y (by decide) (by decide) hA1 I dX10_remember_59
set_option maxHeartbeats 4000000 in
set_option maxRecDepth 100000 in
theorem x_X10_takeBack {l : Launch} {G : GG}  {L : List Nat} {f : HF} {ad : Nat → Nat → Nat} {rs : FS} {fc : Int × Int} {tc w : Nat → Int × Int} {q : Nat → (Nat → Int32) → Prop} (I : SH (spC rs fc tc w q) nnC G ad L f) (hW : WBp w 8) (hT : WBp tc 4) (hQ : QIp q) : PMi l yX10_takeBack cX10_takeBack 1 .boolean 2 0 0 G [.ref (ad 1 0)] L f (fun r L1 f1 => bn 0 1 r ∧ SH (spC rs fc tc w q) nnC G ad L1 f1) := by
  refine PMi.of (post := fun r L1 f1 => bn 0 1 r ∧ SH (spC rs fc tc w q) nnC G ad L1 f1) (own := RX10) (by decide) rfl (Nat.le_of_ble_eq_true rfl) (fun sz p e s m args below meth c A ls hA1 hname S Y hl => ?_)
  have hx := S.hx
  have hb := S.hb
  have hl : lv_has ls 1 [(0, .ref (ad 1 0))] := hl
  refine lv_aload_n hx hb dX10_takeBack_0 rfl (lv_at hl 0 rfl) ?_
  obtain ⟨v_5763, v_5765, v_5767, v_5769, v_5771, p_ad_1_0, b_5764, b_5766, b_5768, b_5770, b_5772⟩ := opnC_1 (j := 0) I (by decide)
  have p_ad_1_0 : pt L f (ad 1 0) (.inr (10, [.ref (ad 40 0), .ref (ad 41 0), .ref (ad 42 0), .ref (ad 10 0), .ref (ad 43 0), .ref (ad 20 0), .ref (ad 20 1), .ref (ad 20 2), .ref (ad 20 3), .ref (ad 20 4), .int v_5763, .int v_5765, .int v_5767, .int v_5769, .int v_5771])) := p_ad_1_0
  refine pg_get S Y ok_X10 14 (by decide) kf10_86 (v := .int v_5771) p_ad_1_0 rfl dX10_takeBack_1 ?_
  refine lv_if_ne (tgt := 9) hx hb dX10_takeBack_4 (by decide) (fun c_5773 => ?_) (fun c_5773 => ?_)
  · have B_5774 : bn 1 30 v_5771 := bn_w (bn_nel c_5773 b_5772 (show bn 0 0 (0 : Int32) from bn_k (by decide))) (by decide)
    refine lv_aload_n hx hb dX10_takeBack_9 rfl (lv_at hl 0 rfl) ?_
    refine lv_dup hx hb dX10_takeBack_10 rfl ?_
    refine pg_get S Y ok_X10 14 (by decide) kf10_86 (v := .int v_5771) p_ad_1_0 rfl dX10_takeBack_11 ?_
    refine lv_iconst (v := 1) hx hb dX10_takeBack_14 (by decide) ?_
    refine lv_isub hx hb dX10_takeBack_15 ?_
    refine lv_topi (fun x_5776 ex_5776 => ?_)
    refine pg_put S Y ok_X10 14 (by decide) kf10_86 rfl (fs' := [.ref (ad 40 0), .ref (ad 41 0), .ref (ad 42 0), .ref (ad 10 0), .ref (ad 43 0), .ref (ad 20 0), .ref (ad 20 1), .ref (ad 20 2), .ref (ad 20 3), .ref (ad 20 4), .int v_5763, .int v_5765, .int v_5767, .int v_5769, .int x_5776]) (v := .int x_5776) p_ad_1_0 rfl rfl rfl (Nat.le_of_ble_eq_true rfl) dX10_takeBack_16 (fun f_5777 H locs ef_5777 Y => ?_)
    have p_ad_1_0 := p_ad_1_0.me ef_5777
    have I := I.up (k := 1) (j := 0) (by decide) ef_5777 (okE_o (okFs_c okV_r (okFs_c okV_r (okFs_c okV_r (okFs_c okV_r (okFs_c okV_r (okFs_c okV_r (okFs_c okV_r (okFs_c okV_r (okFs_c okV_r (okFs_c okV_r (okFs_c (okV_i b_5764) (okFs_c (okV_p b_5766) (okFs_c (okV_i b_5768) (okFs_c (okV_i b_5770) (okFs_c (okV_i (bn_w (bn_eq ex_5776 (bn_sub B_5774 (show bn 1 1 (1 : Int32) from bn_k (by decide)) (by decide))) (by decide))) okFs_n))))))))))))))))
    refine lv_aload_n hx hb dX10_takeBack_19 rfl (lv_at hl 0 rfl) ?_
    refine pg_get S Y ok_X10 3 (by decide) kf10_27 (v := .ref (ad 10 0)) p_ad_1_0 rfl dX10_takeBack_20 ?_
    refine lv_aload_n hx hb dX10_takeBack_23 rfl (lv_at hl 0 rfl) ?_
    refine pg_get S Y ok_X10 4 (by decide) kf10_31 (v := .ref (ad 43 0)) p_ad_1_0 rfl dX10_takeBack_24 ?_
    refine lv_aload_n hx hb dX10_takeBack_27 rfl (lv_at hl 0 rfl) ?_
    refine pg_get S Y ok_X10 13 (by decide) kf10_83 (v := .int v_5769) p_ad_1_0 rfl dX10_takeBack_28 ?_
    refine lv_aload_n hx hb dX10_takeBack_31 rfl (lv_at hl 0 rfl) ?_
    refine pg_get S Y ok_X10 14 (by decide) kf10_86 (v := .int x_5776) p_ad_1_0 rfl dX10_takeBack_32 ?_
    refine lv_iadd hx hb dX10_takeBack_35 ?_
    refine lv_topi (fun x_5778 ex_5778 => ?_)
    refine lv_bipush (v := 30) hx hb dX10_takeBack_36 (by decide) ?_
    refine lv_irem hx hb dX10_takeBack_38 (by decide) ?_
    refine lv_topi (fun x_5779 ex_5779 => ?_)
    obtain ⟨g_5780, p_ad_43_0, o_5781⟩ := I.opr (k := 43) (j := 0) (by decide) rfl
    have p_ad_43_0 : pt L f_5777 (ad 43 0) (.inl (G.2 3, 30, .inr (.inr (.inr (.inr g_5780))))) := p_ad_43_0
    refine pg_aald S Y (k := 3) (o := (ad 10 (1 + x_5779.toNatClampNeg))) p_ad_43_0 rfl (vp_bn (bn_eq ex_5779 (bn_rem (bn_eq ex_5778 (bn_add b_5770 (bn_eq ex_5776 (bn_sub B_5774 (show bn 1 1 (1 : Int32) from bn_k (by decide)) (by decide))) (by decide))) (show bn 30 30 (30 : Int32) from bn_k (by decide)) (by decide))) (by decide)) (o_5781 _ (tn_bn (bn_eq ex_5779 (bn_rem (bn_eq ex_5778 (bn_add b_5770 (bn_eq ex_5776 (bn_sub B_5774 (show bn 1 1 (1 : Int32) from bn_k (by decide)) (by decide))) (by decide))) (show bn 30 30 (30 : Int32) from bn_k (by decide)) (by decide))) (by decide))) dX10_takeBack_39 ?_
    refine cVv (As := [.ref (ad 10 (1 + x_5779.toNatClampNeg))]) (rest := []) S Y (x_X4_takeOver (l := l) (j := 0) (i := (1 + x_5779.toNatClampNeg)) I hW hT hQ (by decide) (show (1 + x_5779.toNatClampNeg) < 63 from by have h9 := tn_bn (n := 30) (bn_eq ex_5779 (bn_rem (bn_eq ex_5778 (bn_add b_5770 (bn_eq ex_5776 (bn_sub B_5774 (show bn 1 1 (1 : Int32) from bn_k (by decide)) (by decide))) (by decide))) (show bn 30 30 (30 : Int32) from bn_k (by decide)) (by decide))) (by decide); omega) (by omega)) cw_X4_takeOver km10_74 (I.opo (k := 10) (j := 0) (by decide) rfl).choose_spec.1 ok_X4.1 rfl rfl ⟨Nat.le_of_ble_eq_true rfl, Nat.le_of_ble_eq_true rfl⟩ hl.1 rfl (Nat.le_of_ble_eq_true rfl) ⟨Nat.le_of_ble_eq_true rfl, Nat.le_of_ble_eq_true rfl⟩ dX10_takeBack_40 (fun L_5782 f_5783 H locs I Y => ?_)
    refine lv_iconst (v := 1) hx hb dX10_takeBack_43 (by decide) ?_
    exact prI (post := fun r L1 f1 => bn 0 1 r ∧ SH (spC rs fc tc w q) nnC G ad L1 f1) S Y rfl (by decide) (by decide) hA1 ⟨bn_w (show bn 1 1 (1 : Int32) from bn_k (by decide)) (by decide), I⟩ dX10_takeBack_44
  · have B_5775 : bn 0 0 v_5771 := bn_w (bn_eq c_5773 (show bn 0 0 (0 : Int32) from bn_k (by decide))) (by decide)
    refine lv_iconst (v := 0) hx hb dX10_takeBack_7 (by decide) ?_
    exact prI (post := fun r L1 f1 => bn 0 1 r ∧ SH (spC rs fc tc w q) nnC G ad L1 f1) S Y rfl (by decide) (by decide) hA1 ⟨bn_w (show bn 0 0 (0 : Int32) from bn_k (by decide)) (by decide), I⟩ dX10_takeBack_8
set_option maxHeartbeats 4000000 in
set_option maxRecDepth 100000 in
theorem x_X10_takeOver0 {l : Launch} {G : GG}  {L : List Nat} {f : HF} {ad : Nat → Nat → Nat} {rs : FS} {fc : Int × Int} {tc w : Nat → Int × Int} {q : Nat → (Nat → Int32) → Prop} (I : SH (spC rs fc tc w q) nnC G ad L f) (hW : WBp w 8) (hT : WBp tc 4) (hQ : QIp q) : PMv l yX10_takeOver cX10_takeOver 3 2 0 0 G [.ref (ad 1 0), .ref (ad 1 1)] L f (fun L1 f1 => ∃ tc2 : Nat → Int × Int, ∃ w2 : Nat → Int × Int, ∃ q2 : Nat → (Nat → Int32) → Prop, SH (spC rs fc tc2 w2 q2) nnC G ad L1 f1 ∧ tc2 0 = tc 1 ∧ (∀ k, k ≠ 0 → tc2 k = tc k) ∧ w2 0 = w 5 ∧ w2 1 = w 6 ∧ w2 2 = w 7 ∧ w2 3 = w 8 ∧ w2 4 = w 9 ∧ (∀ k, (k < 0 ∨ 5 ≤ k) → w2 k = w k) ∧ q2 0 = q 5 ∧ q2 1 = q 6 ∧ q2 2 = q 7 ∧ q2 3 = q 8 ∧ q2 4 = q 9 ∧ (∀ k, (k < 0 ∨ 5 ≤ k) → q2 k = q k) ∧ WBp tc2 4 ∧ WBp w2 8 ∧ QIp q2) := by
  refine PMv.of (post := fun L1 f1 => ∃ tc2 : Nat → Int × Int, ∃ w2 : Nat → Int × Int, ∃ q2 : Nat → (Nat → Int32) → Prop, SH (spC rs fc tc2 w2 q2) nnC G ad L1 f1 ∧ tc2 0 = tc 1 ∧ (∀ k, k ≠ 0 → tc2 k = tc k) ∧ w2 0 = w 5 ∧ w2 1 = w 6 ∧ w2 2 = w 7 ∧ w2 3 = w 8 ∧ w2 4 = w 9 ∧ (∀ k, (k < 0 ∨ 5 ≤ k) → w2 k = w k) ∧ q2 0 = q 5 ∧ q2 1 = q 6 ∧ q2 2 = q 7 ∧ q2 3 = q 8 ∧ q2 4 = q 9 ∧ (∀ k, (k < 0 ∨ 5 ≤ k) → q2 k = q k) ∧ WBp tc2 4 ∧ WBp w2 8 ∧ QIp q2) (own := RX10) (by decide) rfl (Nat.le_of_ble_eq_true rfl) (fun sz p e s m args below meth c A ls hA1 hname S Y hl => ?_)
  have hx := S.hx
  have hb := S.hb
  have hl : lv_has ls 3 [(0, .ref (ad 1 0)), (1, .ref (ad 1 1))] := hl
  have J_69 : ∀ (n69 : Nat) (y69_2 : Int32) (L_69 : List Nat) (f_69 : HF) (H : Heap) (locs : List Loc) (ls : Array Slot), (SH (spC rs fc tc w q) nnC G ad L_69 f_69) → (bn 0 30 y69_2) → (((30 : Int) - y69_2.toInt).toNat = n69) → (DY G A s [] L_69 f_69 H locs) → (lv_has ls 3 [(0, .ref (ad 1 0)), (1, .ref (ad 1 1)), (2, .int y69_2)]) → W p l e (rmD 2 0 0) s m args below meth c H locs (0) (0) (MQ below (va_Qv (fun (u : List Nat × HF) => (fun L1 f1 => ∃ tc2 : Nat → Int × Int, ∃ w2 : Nat → Int × Int, ∃ q2 : Nat → (Nat → Int32) → Prop, SH (spC rs fc tc2 w2 q2) nnC G ad L1 f1 ∧ tc2 0 = tc 1 ∧ (∀ k, k ≠ 0 → tc2 k = tc k) ∧ w2 0 = w 5 ∧ w2 1 = w 6 ∧ w2 2 = w 7 ∧ w2 3 = w 8 ∧ w2 4 = w 9 ∧ (∀ k, (k < 0 ∨ 5 ≤ k) → w2 k = w k) ∧ q2 0 = q 5 ∧ q2 1 = q 6 ∧ q2 2 = q 7 ∧ q2 3 = q 8 ∧ q2 4 = q 9 ∧ (∀ k, (k < 0 ∨ 5 ≤ k) → q2 k = q k) ∧ WBp tc2 4 ∧ WBp w2 8 ∧ QIp q2) u.1 u.2) (fun u t => pOut G (va_A (va_pl L f) sz) u.1 u.2 t) (va_A (va_pl L f) sz)) args s 0 0 A) (F0 m 69 ls []) := by
    intro n69
    induction n69 using Nat.strongRecOn with
    | _ n69 ih69 =>
      intro y69_2 L_69 f_69 H locs ls I b_y69_2 hm69 Y hl
      refine lv_iload_n hx hb dX10_takeOver_69 rfl (lv_at hl 2 rfl) ?_
      refine lv_bipush (v := 30) hx hb dX10_takeOver_70 (by decide) ?_
      refine lv_icmp_ge (tgt := 96) hx hb dX10_takeOver_72 (by decide) (fun c_6978 => ?_) (fun c_6978 => ?_)
      · have B_6979 : bn 30 30 y69_2 := bn_w (bn_ler c_6978 (show bn 30 30 (30 : Int32) from bn_k (by decide)) b_y69_2) (by decide)
        refine lv_aload_n hx hb dX10_takeOver_96 rfl (lv_at hl 0 rfl) ?_
        obtain ⟨v_6981, v_6983, v_6985, v_6987, v_6989, p_ad_1_0, b_6982, b_6984, b_6986, b_6988, b_6990⟩ := opnC_1 (j := 0) I (by decide)
        have p_ad_1_0 : pt L_69 f_69 (ad 1 0) (.inr (10, [.ref (ad 40 0), .ref (ad 41 0), .ref (ad 42 0), .ref (ad 10 0), .ref (ad 43 0), .ref (ad 20 0), .ref (ad 20 1), .ref (ad 20 2), .ref (ad 20 3), .ref (ad 20 4), .int v_6981, .int v_6983, .int v_6985, .int v_6987, .int v_6989])) := p_ad_1_0
        refine pg_get S Y ok_X10 3 (by decide) kf10_27 (v := .ref (ad 10 0)) p_ad_1_0 rfl dX10_takeOver_97 ?_
        refine lv_aload_n hx hb dX10_takeOver_100 rfl (lv_at hl 1 rfl) ?_
        obtain ⟨v_6991, v_6993, v_6995, v_6997, v_6999, p_ad_1_1, b_6992, b_6994, b_6996, b_6998, b_7000⟩ := opnC_1 (j := 1) I (by decide)
        have p_ad_1_1 : pt L_69 f_69 (ad 1 1) (.inr (10, [.ref (ad 40 1), .ref (ad 41 1), .ref (ad 42 1), .ref (ad 10 31), .ref (ad 43 1), .ref (ad 20 5), .ref (ad 20 6), .ref (ad 20 7), .ref (ad 20 8), .ref (ad 20 9), .int v_6991, .int v_6993, .int v_6995, .int v_6997, .int v_6999])) := p_ad_1_1
        refine pg_get S Y ok_X10 3 (by decide) kf10_27 (v := .ref (ad 10 31)) p_ad_1_1 rfl dX10_takeOver_101 ?_
        refine cVv (As := [.ref (ad 10 31)]) (rest := []) S Y (x_X4_takeOver (l := l) (j := 0) (i := 31) I hW hT hQ (by decide) (by decide) (by omega)) cw_X4_takeOver km10_74 (I.opo (k := 10) (j := 0) (by decide) rfl).choose_spec.1 ok_X4.1 rfl rfl ⟨Nat.le_of_ble_eq_true rfl, Nat.le_of_ble_eq_true rfl⟩ hl.1 rfl (Nat.le_of_ble_eq_true rfl) ⟨Nat.le_of_ble_eq_true rfl, Nat.le_of_ble_eq_true rfl⟩ dX10_takeOver_104 (fun L_7001 f_7002 H locs I Y => ?_)
        refine lv_aload_n hx hb dX10_takeOver_107 rfl (lv_at hl 0 rfl) ?_
        obtain ⟨v_7003, v_7005, v_7007, v_7009, v_7011, p_ad_1_0, b_7004, b_7006, b_7008, b_7010, b_7012⟩ := opnC_1 (j := 0) I (by decide)
        have p_ad_1_0 : pt L_7001 f_7002 (ad 1 0) (.inr (10, [.ref (ad 40 0), .ref (ad 41 0), .ref (ad 42 0), .ref (ad 10 0), .ref (ad 43 0), .ref (ad 20 0), .ref (ad 20 1), .ref (ad 20 2), .ref (ad 20 3), .ref (ad 20 4), .int v_7003, .int v_7005, .int v_7007, .int v_7009, .int v_7011])) := p_ad_1_0
        refine pg_get S Y ok_X10 5 (by decide) kf10_40 (v := .ref (ad 20 0)) p_ad_1_0 rfl dX10_takeOver_108 ?_
        refine lv_aload_n hx hb dX10_takeOver_111 rfl (lv_at hl 1 rfl) ?_
        obtain ⟨v_7013, v_7015, v_7017, v_7019, v_7021, p_ad_1_1, b_7014, b_7016, b_7018, b_7020, b_7022⟩ := opnC_1 (j := 1) I (by decide)
        have p_ad_1_1 : pt L_7001 f_7002 (ad 1 1) (.inr (10, [.ref (ad 40 1), .ref (ad 41 1), .ref (ad 42 1), .ref (ad 10 31), .ref (ad 43 1), .ref (ad 20 5), .ref (ad 20 6), .ref (ad 20 7), .ref (ad 20 8), .ref (ad 20 9), .int v_7013, .int v_7015, .int v_7017, .int v_7019, .int v_7021])) := p_ad_1_1
        refine pg_get S Y ok_X10 5 (by decide) kf10_40 (v := .ref (ad 20 5)) p_ad_1_1 rfl dX10_takeOver_112 ?_
        refine cVv (As := [.ref (ad 20 5)]) (rest := []) S Y (x_X9_takeOver (l := l) (j := 0) (i := 5) I hW hT hQ (by decide) (by decide) (by omega)) cw_X9_takeOver km10_77 (I.opo (k := 20) (j := 0) (by decide) rfl).choose_spec.1 ok_X9.1 rfl rfl ⟨Nat.le_of_ble_eq_true rfl, Nat.le_of_ble_eq_true rfl⟩ hl.1 rfl (Nat.le_of_ble_eq_true rfl) ⟨Nat.le_of_ble_eq_true rfl, Nat.le_of_ble_eq_true rfl⟩ dX10_takeOver_115 (fun L_7023 f_7024 H locs hr_7025 Y => ?_)
        obtain ⟨w2_7026, q2_7027, I, e1_7028, e2_7029, e3_7030, e4_7031, eW_7032, eQ_7033⟩ := hr_7025
        refine lv_aload_n hx hb dX10_takeOver_118 rfl (lv_at hl 0 rfl) ?_
        obtain ⟨v_7034, v_7036, v_7038, v_7040, v_7042, p_ad_1_0, b_7035, b_7037, b_7039, b_7041, b_7043⟩ := opnC_1 (j := 0) I (by decide)
        have p_ad_1_0 : pt L_7023 f_7024 (ad 1 0) (.inr (10, [.ref (ad 40 0), .ref (ad 41 0), .ref (ad 42 0), .ref (ad 10 0), .ref (ad 43 0), .ref (ad 20 0), .ref (ad 20 1), .ref (ad 20 2), .ref (ad 20 3), .ref (ad 20 4), .int v_7034, .int v_7036, .int v_7038, .int v_7040, .int v_7042])) := p_ad_1_0
        refine pg_get S Y ok_X10 6 (by decide) kf10_44 (v := .ref (ad 20 1)) p_ad_1_0 rfl dX10_takeOver_119 ?_
        refine lv_aload_n hx hb dX10_takeOver_122 rfl (lv_at hl 1 rfl) ?_
        obtain ⟨v_7044, v_7046, v_7048, v_7050, v_7052, p_ad_1_1, b_7045, b_7047, b_7049, b_7051, b_7053⟩ := opnC_1 (j := 1) I (by decide)
        have p_ad_1_1 : pt L_7023 f_7024 (ad 1 1) (.inr (10, [.ref (ad 40 1), .ref (ad 41 1), .ref (ad 42 1), .ref (ad 10 31), .ref (ad 43 1), .ref (ad 20 5), .ref (ad 20 6), .ref (ad 20 7), .ref (ad 20 8), .ref (ad 20 9), .int v_7044, .int v_7046, .int v_7048, .int v_7050, .int v_7052])) := p_ad_1_1
        refine pg_get S Y ok_X10 6 (by decide) kf10_44 (v := .ref (ad 20 6)) p_ad_1_1 rfl dX10_takeOver_123 ?_
        refine cVv (As := [.ref (ad 20 6)]) (rest := []) S Y (x_X9_takeOver (l := l) (j := 1) (i := 6) I eW_7032 hT eQ_7033 (by decide) (by decide) (by omega)) cw_X9_takeOver km10_77 (I.opo (k := 20) (j := 1) (by decide) rfl).choose_spec.1 ok_X9.1 rfl rfl ⟨Nat.le_of_ble_eq_true rfl, Nat.le_of_ble_eq_true rfl⟩ hl.1 rfl (Nat.le_of_ble_eq_true rfl) ⟨Nat.le_of_ble_eq_true rfl, Nat.le_of_ble_eq_true rfl⟩ dX10_takeOver_126 (fun L_7054 f_7055 H locs hr_7056 Y => ?_)
        obtain ⟨w2_7057, q2_7058, I, e1_7059, e2_7060, e3_7061, e4_7062, eW_7063, eQ_7064⟩ := hr_7056
        refine lv_aload_n hx hb dX10_takeOver_129 rfl (lv_at hl 0 rfl) ?_
        obtain ⟨v_7065, v_7067, v_7069, v_7071, v_7073, p_ad_1_0, b_7066, b_7068, b_7070, b_7072, b_7074⟩ := opnC_1 (j := 0) I (by decide)
        have p_ad_1_0 : pt L_7054 f_7055 (ad 1 0) (.inr (10, [.ref (ad 40 0), .ref (ad 41 0), .ref (ad 42 0), .ref (ad 10 0), .ref (ad 43 0), .ref (ad 20 0), .ref (ad 20 1), .ref (ad 20 2), .ref (ad 20 3), .ref (ad 20 4), .int v_7065, .int v_7067, .int v_7069, .int v_7071, .int v_7073])) := p_ad_1_0
        refine pg_get S Y ok_X10 7 (by decide) kf10_47 (v := .ref (ad 20 2)) p_ad_1_0 rfl dX10_takeOver_130 ?_
        refine lv_aload_n hx hb dX10_takeOver_133 rfl (lv_at hl 1 rfl) ?_
        obtain ⟨v_7075, v_7077, v_7079, v_7081, v_7083, p_ad_1_1, b_7076, b_7078, b_7080, b_7082, b_7084⟩ := opnC_1 (j := 1) I (by decide)
        have p_ad_1_1 : pt L_7054 f_7055 (ad 1 1) (.inr (10, [.ref (ad 40 1), .ref (ad 41 1), .ref (ad 42 1), .ref (ad 10 31), .ref (ad 43 1), .ref (ad 20 5), .ref (ad 20 6), .ref (ad 20 7), .ref (ad 20 8), .ref (ad 20 9), .int v_7075, .int v_7077, .int v_7079, .int v_7081, .int v_7083])) := p_ad_1_1
        refine pg_get S Y ok_X10 7 (by decide) kf10_47 (v := .ref (ad 20 7)) p_ad_1_1 rfl dX10_takeOver_134 ?_
        refine cVv (As := [.ref (ad 20 7)]) (rest := []) S Y (x_X9_takeOver (l := l) (j := 2) (i := 7) I eW_7063 hT eQ_7064 (by decide) (by decide) (by omega)) cw_X9_takeOver km10_77 (I.opo (k := 20) (j := 2) (by decide) rfl).choose_spec.1 ok_X9.1 rfl rfl ⟨Nat.le_of_ble_eq_true rfl, Nat.le_of_ble_eq_true rfl⟩ hl.1 rfl (Nat.le_of_ble_eq_true rfl) ⟨Nat.le_of_ble_eq_true rfl, Nat.le_of_ble_eq_true rfl⟩ dX10_takeOver_137 (fun L_7085 f_7086 H locs hr_7087 Y => ?_)
        obtain ⟨w2_7088, q2_7089, I, e1_7090, e2_7091, e3_7092, e4_7093, eW_7094, eQ_7095⟩ := hr_7087
        refine lv_aload_n hx hb dX10_takeOver_140 rfl (lv_at hl 0 rfl) ?_
        obtain ⟨v_7096, v_7098, v_7100, v_7102, v_7104, p_ad_1_0, b_7097, b_7099, b_7101, b_7103, b_7105⟩ := opnC_1 (j := 0) I (by decide)
        have p_ad_1_0 : pt L_7085 f_7086 (ad 1 0) (.inr (10, [.ref (ad 40 0), .ref (ad 41 0), .ref (ad 42 0), .ref (ad 10 0), .ref (ad 43 0), .ref (ad 20 0), .ref (ad 20 1), .ref (ad 20 2), .ref (ad 20 3), .ref (ad 20 4), .int v_7096, .int v_7098, .int v_7100, .int v_7102, .int v_7104])) := p_ad_1_0
        refine pg_get S Y ok_X10 8 (by decide) kf10_50 (v := .ref (ad 20 3)) p_ad_1_0 rfl dX10_takeOver_141 ?_
        refine lv_aload_n hx hb dX10_takeOver_144 rfl (lv_at hl 1 rfl) ?_
        obtain ⟨v_7106, v_7108, v_7110, v_7112, v_7114, p_ad_1_1, b_7107, b_7109, b_7111, b_7113, b_7115⟩ := opnC_1 (j := 1) I (by decide)
        have p_ad_1_1 : pt L_7085 f_7086 (ad 1 1) (.inr (10, [.ref (ad 40 1), .ref (ad 41 1), .ref (ad 42 1), .ref (ad 10 31), .ref (ad 43 1), .ref (ad 20 5), .ref (ad 20 6), .ref (ad 20 7), .ref (ad 20 8), .ref (ad 20 9), .int v_7106, .int v_7108, .int v_7110, .int v_7112, .int v_7114])) := p_ad_1_1
        refine pg_get S Y ok_X10 8 (by decide) kf10_50 (v := .ref (ad 20 8)) p_ad_1_1 rfl dX10_takeOver_145 ?_
        refine cVv (As := [.ref (ad 20 8)]) (rest := []) S Y (x_X9_takeOver (l := l) (j := 3) (i := 8) I eW_7094 hT eQ_7095 (by decide) (by decide) (by omega)) cw_X9_takeOver km10_77 (I.opo (k := 20) (j := 3) (by decide) rfl).choose_spec.1 ok_X9.1 rfl rfl ⟨Nat.le_of_ble_eq_true rfl, Nat.le_of_ble_eq_true rfl⟩ hl.1 rfl (Nat.le_of_ble_eq_true rfl) ⟨Nat.le_of_ble_eq_true rfl, Nat.le_of_ble_eq_true rfl⟩ dX10_takeOver_148 (fun L_7116 f_7117 H locs hr_7118 Y => ?_)
        obtain ⟨w2_7119, q2_7120, I, e1_7121, e2_7122, e3_7123, e4_7124, eW_7125, eQ_7126⟩ := hr_7118
        refine lv_aload_n hx hb dX10_takeOver_151 rfl (lv_at hl 0 rfl) ?_
        obtain ⟨v_7127, v_7129, v_7131, v_7133, v_7135, p_ad_1_0, b_7128, b_7130, b_7132, b_7134, b_7136⟩ := opnC_1 (j := 0) I (by decide)
        have p_ad_1_0 : pt L_7116 f_7117 (ad 1 0) (.inr (10, [.ref (ad 40 0), .ref (ad 41 0), .ref (ad 42 0), .ref (ad 10 0), .ref (ad 43 0), .ref (ad 20 0), .ref (ad 20 1), .ref (ad 20 2), .ref (ad 20 3), .ref (ad 20 4), .int v_7127, .int v_7129, .int v_7131, .int v_7133, .int v_7135])) := p_ad_1_0
        refine pg_get S Y ok_X10 9 (by decide) kf10_53 (v := .ref (ad 20 4)) p_ad_1_0 rfl dX10_takeOver_152 ?_
        refine lv_aload_n hx hb dX10_takeOver_155 rfl (lv_at hl 1 rfl) ?_
        obtain ⟨v_7137, v_7139, v_7141, v_7143, v_7145, p_ad_1_1, b_7138, b_7140, b_7142, b_7144, b_7146⟩ := opnC_1 (j := 1) I (by decide)
        have p_ad_1_1 : pt L_7116 f_7117 (ad 1 1) (.inr (10, [.ref (ad 40 1), .ref (ad 41 1), .ref (ad 42 1), .ref (ad 10 31), .ref (ad 43 1), .ref (ad 20 5), .ref (ad 20 6), .ref (ad 20 7), .ref (ad 20 8), .ref (ad 20 9), .int v_7137, .int v_7139, .int v_7141, .int v_7143, .int v_7145])) := p_ad_1_1
        refine pg_get S Y ok_X10 9 (by decide) kf10_53 (v := .ref (ad 20 9)) p_ad_1_1 rfl dX10_takeOver_156 ?_
        refine cVv (As := [.ref (ad 20 9)]) (rest := []) S Y (x_X9_takeOver (l := l) (j := 4) (i := 9) I eW_7125 hT eQ_7126 (by decide) (by decide) (by omega)) cw_X9_takeOver km10_77 (I.opo (k := 20) (j := 4) (by decide) rfl).choose_spec.1 ok_X9.1 rfl rfl ⟨Nat.le_of_ble_eq_true rfl, Nat.le_of_ble_eq_true rfl⟩ hl.1 rfl (Nat.le_of_ble_eq_true rfl) ⟨Nat.le_of_ble_eq_true rfl, Nat.le_of_ble_eq_true rfl⟩ dX10_takeOver_159 (fun L_7147 f_7148 H locs hr_7149 Y => ?_)
        obtain ⟨w2_7150, q2_7151, I, e1_7152, e2_7153, e3_7154, e4_7155, eW_7156, eQ_7157⟩ := hr_7149
        refine lv_aload_n hx hb dX10_takeOver_162 rfl (lv_at hl 0 rfl) ?_
        refine lv_aload_n hx hb dX10_takeOver_163 rfl (lv_at hl 1 rfl) ?_
        obtain ⟨v_7158, v_7160, v_7162, v_7164, v_7166, p_ad_1_1, b_7159, b_7161, b_7163, b_7165, b_7167⟩ := opnC_1 (j := 1) I (by decide)
        have p_ad_1_1 : pt L_7147 f_7148 (ad 1 1) (.inr (10, [.ref (ad 40 1), .ref (ad 41 1), .ref (ad 42 1), .ref (ad 10 31), .ref (ad 43 1), .ref (ad 20 5), .ref (ad 20 6), .ref (ad 20 7), .ref (ad 20 8), .ref (ad 20 9), .int v_7158, .int v_7160, .int v_7162, .int v_7164, .int v_7166])) := p_ad_1_1
        refine pg_get S Y ok_X10 10 (by decide) kf10_80 (v := .int v_7158) p_ad_1_1 rfl dX10_takeOver_164 ?_
        obtain ⟨v_7168, v_7170, v_7172, v_7174, v_7176, p_ad_1_0, b_7169, b_7171, b_7173, b_7175, b_7177⟩ := opnC_1 (j := 0) I (by decide)
        have p_ad_1_0 : pt L_7147 f_7148 (ad 1 0) (.inr (10, [.ref (ad 40 0), .ref (ad 41 0), .ref (ad 42 0), .ref (ad 10 0), .ref (ad 43 0), .ref (ad 20 0), .ref (ad 20 1), .ref (ad 20 2), .ref (ad 20 3), .ref (ad 20 4), .int v_7168, .int v_7170, .int v_7172, .int v_7174, .int v_7176])) := p_ad_1_0
        refine pg_put S Y ok_X10 10 (by decide) kf10_80 rfl (fs' := [.ref (ad 40 0), .ref (ad 41 0), .ref (ad 42 0), .ref (ad 10 0), .ref (ad 43 0), .ref (ad 20 0), .ref (ad 20 1), .ref (ad 20 2), .ref (ad 20 3), .ref (ad 20 4), .int v_7158, .int v_7170, .int v_7172, .int v_7174, .int v_7176]) (v := .int v_7158) p_ad_1_0 rfl rfl rfl (Nat.le_of_ble_eq_true rfl) dX10_takeOver_167 (fun f_7178 H locs ef_7178 Y => ?_)
        have p_ad_1_1 := p_ad_1_1.up ef_7178 (I.ne (k := 1) (j := 1) (k' := 1) (j' := 0) (by decide) (by decide) (Or.inr (by decide)))
        have p_ad_1_0 := p_ad_1_0.me ef_7178
        have I := I.up (k := 1) (j := 0) (by decide) ef_7178 (okE_o (okFs_c okV_r (okFs_c okV_r (okFs_c okV_r (okFs_c okV_r (okFs_c okV_r (okFs_c okV_r (okFs_c okV_r (okFs_c okV_r (okFs_c okV_r (okFs_c okV_r (okFs_c (okV_i (bn_w b_7159 (by decide))) (okFs_c (okV_p b_7171) (okFs_c (okV_i b_7173) (okFs_c (okV_i b_7175) (okFs_c (okV_i b_7177) okFs_n))))))))))))))))
        refine lv_aload_n hx hb dX10_takeOver_170 rfl (lv_at hl 0 rfl) ?_
        refine lv_aload_n hx hb dX10_takeOver_171 rfl (lv_at hl 1 rfl) ?_
        refine pg_get S Y ok_X10 11 (by decide) kf10_67 (v := .int v_7160) p_ad_1_1 rfl dX10_takeOver_172 ?_
        refine pg_put S Y ok_X10 11 (by decide) kf10_67 rfl (fs' := [.ref (ad 40 0), .ref (ad 41 0), .ref (ad 42 0), .ref (ad 10 0), .ref (ad 43 0), .ref (ad 20 0), .ref (ad 20 1), .ref (ad 20 2), .ref (ad 20 3), .ref (ad 20 4), .int v_7158, .int v_7160, .int v_7172, .int v_7174, .int v_7176]) (v := .int v_7160) p_ad_1_0 rfl rfl rfl (Nat.le_of_ble_eq_true rfl) dX10_takeOver_175 (fun f_7179 H locs ef_7179 Y => ?_)
        have p_ad_1_1 := p_ad_1_1.up ef_7179 (I.ne (k := 1) (j := 1) (k' := 1) (j' := 0) (by decide) (by decide) (Or.inr (by decide)))
        have p_ad_1_0 := p_ad_1_0.me ef_7179
        have I := I.upS (sp' := spC rs fc (stf tc 0 (tc 1)) w2_7150 q2_7151) (k := 1) (j := 0) (by decide) ef_7179 (okE_o (okFs_c okV_r (okFs_c okV_r (okFs_c okV_r (okFs_c okV_r (okFs_c okV_r (okFs_c okV_r (okFs_c okV_r (okFs_c okV_r (okFs_c okV_r (okFs_c okV_r (okFs_c (okV_i (bn_w b_7159 (by decide))) (okFs_c (okV_p (q := stf tc 0 (tc 1) 0) (by rw [stf_s]; exact b_7161)) (okFs_c (okV_i b_7173) (okFs_c (okV_i b_7175) (okFs_c (okV_i b_7177) okFs_n)))))))))))))))) tcC
        refine lv_aload_n hx hb dX10_takeOver_178 rfl (lv_at hl 0 rfl) ?_
        refine lv_aload_n hx hb dX10_takeOver_179 rfl (lv_at hl 1 rfl) ?_
        refine pg_get S Y ok_X10 12 (by decide) kf10_56 (v := .int v_7162) p_ad_1_1 rfl dX10_takeOver_180 ?_
        refine pg_put S Y ok_X10 12 (by decide) kf10_56 rfl (fs' := [.ref (ad 40 0), .ref (ad 41 0), .ref (ad 42 0), .ref (ad 10 0), .ref (ad 43 0), .ref (ad 20 0), .ref (ad 20 1), .ref (ad 20 2), .ref (ad 20 3), .ref (ad 20 4), .int v_7158, .int v_7160, .int v_7162, .int v_7174, .int v_7176]) (v := .int v_7162) p_ad_1_0 rfl rfl rfl (Nat.le_of_ble_eq_true rfl) dX10_takeOver_183 (fun f_7180 H locs ef_7180 Y => ?_)
        have p_ad_1_1 := p_ad_1_1.up ef_7180 (I.ne (k := 1) (j := 1) (k' := 1) (j' := 0) (by decide) (by decide) (Or.inr (by decide)))
        have p_ad_1_0 := p_ad_1_0.me ef_7180
        have I := I.up (k := 1) (j := 0) (by decide) ef_7180 (okE_o (okFs_c okV_r (okFs_c okV_r (okFs_c okV_r (okFs_c okV_r (okFs_c okV_r (okFs_c okV_r (okFs_c okV_r (okFs_c okV_r (okFs_c okV_r (okFs_c okV_r (okFs_c (okV_i (bn_w b_7159 (by decide))) (okFs_c (okV_p (q := stf tc 0 (tc 1) 0) (by rw [stf_s]; exact b_7161)) (okFs_c (okV_i (bn_w (bn_any v_7162) (by decide))) (okFs_c (okV_i b_7175) (okFs_c (okV_i b_7177) okFs_n))))))))))))))))
        refine lv_aload_n hx hb dX10_takeOver_186 rfl (lv_at hl 0 rfl) ?_
        refine lv_aload_n hx hb dX10_takeOver_187 rfl (lv_at hl 1 rfl) ?_
        refine pg_get S Y ok_X10 13 (by decide) kf10_83 (v := .int v_7164) p_ad_1_1 rfl dX10_takeOver_188 ?_
        refine pg_put S Y ok_X10 13 (by decide) kf10_83 rfl (fs' := [.ref (ad 40 0), .ref (ad 41 0), .ref (ad 42 0), .ref (ad 10 0), .ref (ad 43 0), .ref (ad 20 0), .ref (ad 20 1), .ref (ad 20 2), .ref (ad 20 3), .ref (ad 20 4), .int v_7158, .int v_7160, .int v_7162, .int v_7164, .int v_7176]) (v := .int v_7164) p_ad_1_0 rfl rfl rfl (Nat.le_of_ble_eq_true rfl) dX10_takeOver_191 (fun f_7181 H locs ef_7181 Y => ?_)
        have p_ad_1_1 := p_ad_1_1.up ef_7181 (I.ne (k := 1) (j := 1) (k' := 1) (j' := 0) (by decide) (by decide) (Or.inr (by decide)))
        have p_ad_1_0 := p_ad_1_0.me ef_7181
        have I := I.up (k := 1) (j := 0) (by decide) ef_7181 (okE_o (okFs_c okV_r (okFs_c okV_r (okFs_c okV_r (okFs_c okV_r (okFs_c okV_r (okFs_c okV_r (okFs_c okV_r (okFs_c okV_r (okFs_c okV_r (okFs_c okV_r (okFs_c (okV_i (bn_w b_7159 (by decide))) (okFs_c (okV_p (q := stf tc 0 (tc 1) 0) (by rw [stf_s]; exact b_7161)) (okFs_c (okV_i (bn_w (bn_any v_7162) (by decide))) (okFs_c (okV_i (bn_w b_7165 (by decide))) (okFs_c (okV_i b_7177) okFs_n))))))))))))))))
        refine lv_aload_n hx hb dX10_takeOver_194 rfl (lv_at hl 0 rfl) ?_
        refine lv_aload_n hx hb dX10_takeOver_195 rfl (lv_at hl 1 rfl) ?_
        refine pg_get S Y ok_X10 14 (by decide) kf10_86 (v := .int v_7166) p_ad_1_1 rfl dX10_takeOver_196 ?_
        refine pg_put S Y ok_X10 14 (by decide) kf10_86 rfl (fs' := [.ref (ad 40 0), .ref (ad 41 0), .ref (ad 42 0), .ref (ad 10 0), .ref (ad 43 0), .ref (ad 20 0), .ref (ad 20 1), .ref (ad 20 2), .ref (ad 20 3), .ref (ad 20 4), .int v_7158, .int v_7160, .int v_7162, .int v_7164, .int v_7166]) (v := .int v_7166) p_ad_1_0 rfl rfl rfl (Nat.le_of_ble_eq_true rfl) dX10_takeOver_199 (fun f_7182 H locs ef_7182 Y => ?_)
        have p_ad_1_1 := p_ad_1_1.up ef_7182 (I.ne (k := 1) (j := 1) (k' := 1) (j' := 0) (by decide) (by decide) (Or.inr (by decide)))
        have p_ad_1_0 := p_ad_1_0.me ef_7182
        have I := I.up (k := 1) (j := 0) (by decide) ef_7182 (okE_o (okFs_c okV_r (okFs_c okV_r (okFs_c okV_r (okFs_c okV_r (okFs_c okV_r (okFs_c okV_r (okFs_c okV_r (okFs_c okV_r (okFs_c okV_r (okFs_c okV_r (okFs_c (okV_i (bn_w b_7159 (by decide))) (okFs_c (okV_p (q := stf tc 0 (tc 1) 0) (by rw [stf_s]; exact b_7161)) (okFs_c (okV_i (bn_w (bn_any v_7162) (by decide))) (okFs_c (okV_i (bn_w b_7165 (by decide))) (okFs_c (okV_i (bn_w b_7167 (by decide))) okFs_n))))))))))))))))
        exact prV (post := fun L1 f1 => ∃ tc2 : Nat → Int × Int, ∃ w2 : Nat → Int × Int, ∃ q2 : Nat → (Nat → Int32) → Prop, SH (spC rs fc tc2 w2 q2) nnC G ad L1 f1 ∧ tc2 0 = tc 1 ∧ (∀ k, k ≠ 0 → tc2 k = tc k) ∧ w2 0 = w 5 ∧ w2 1 = w 6 ∧ w2 2 = w 7 ∧ w2 3 = w 8 ∧ w2 4 = w 9 ∧ (∀ k, (k < 0 ∨ 5 ≤ k) → w2 k = w k) ∧ q2 0 = q 5 ∧ q2 1 = q 6 ∧ q2 2 = q 7 ∧ q2 3 = q 8 ∧ q2 4 = q 9 ∧ (∀ k, (k < 0 ∨ 5 ≤ k) → q2 k = q k) ∧ WBp tc2 4 ∧ WBp w2 8 ∧ QIp q2) S Y (by decide) (by decide) hA1 ⟨stf tc 0 (tc 1), w2_7150, q2_7151, I, stf_s, fun k h => stf_n h, by rw [e2_7153 _ (by decide), e2_7122 _ (by decide), e2_7091 _ (by decide), e2_7060 _ (by decide), e1_7028], by rw [e2_7153 _ (by decide), e2_7122 _ (by decide), e2_7091 _ (by decide), e1_7059, e2_7029 _ (by decide)], by rw [e2_7153 _ (by decide), e2_7122 _ (by decide), e1_7090, e2_7060 _ (by decide), e2_7029 _ (by decide)], by rw [e2_7153 _ (by decide), e1_7121, e2_7091 _ (by decide), e2_7060 _ (by decide), e2_7029 _ (by decide)], by rw [e1_7152, e2_7122 _ (by decide), e2_7091 _ (by decide), e2_7060 _ (by decide), e2_7029 _ (by decide)], fun k h => by rw [e2_7153 _ (by omega), e2_7122 _ (by omega), e2_7091 _ (by omega), e2_7060 _ (by omega), e2_7029 _ (by omega)], by rw [e4_7155 _ (by decide), e4_7124 _ (by decide), e4_7093 _ (by decide), e4_7062 _ (by decide), e3_7030], by rw [e4_7155 _ (by decide), e4_7124 _ (by decide), e4_7093 _ (by decide), e3_7061, e4_7031 _ (by decide)], by rw [e4_7155 _ (by decide), e4_7124 _ (by decide), e3_7092, e4_7062 _ (by decide), e4_7031 _ (by decide)], by rw [e4_7155 _ (by decide), e3_7123, e4_7093 _ (by decide), e4_7062 _ (by decide), e4_7031 _ (by decide)], by rw [e3_7154, e4_7124 _ (by decide), e4_7093 _ (by decide), e4_7062 _ (by decide), e4_7031 _ (by decide)], fun k h => by rw [e4_7155 _ (by omega), e4_7124 _ (by omega), e4_7093 _ (by omega), e4_7062 _ (by omega), e4_7031 _ (by omega)], WI_stf hT, eW_7156, eQ_7157⟩ dX10_takeOver_202
      · have B_6980 : bn 0 29 y69_2 := bn_w (bn_gtr c_6978 (show bn 30 30 (30 : Int32) from bn_k (by decide)) b_y69_2) (by decide)
        refine lv_aload_n hx hb dX10_takeOver_75 rfl (lv_at hl 0 rfl) ?_
        obtain ⟨v_7183, v_7185, v_7187, v_7189, v_7191, p_ad_1_0, b_7184, b_7186, b_7188, b_7190, b_7192⟩ := opnC_1 (j := 0) I (by decide)
        have p_ad_1_0 : pt L_69 f_69 (ad 1 0) (.inr (10, [.ref (ad 40 0), .ref (ad 41 0), .ref (ad 42 0), .ref (ad 10 0), .ref (ad 43 0), .ref (ad 20 0), .ref (ad 20 1), .ref (ad 20 2), .ref (ad 20 3), .ref (ad 20 4), .int v_7183, .int v_7185, .int v_7187, .int v_7189, .int v_7191])) := p_ad_1_0
        refine pg_get S Y ok_X10 4 (by decide) kf10_31 (v := .ref (ad 43 0)) p_ad_1_0 rfl dX10_takeOver_76 ?_
        refine lv_iload_n hx hb dX10_takeOver_79 rfl (lv_at hl 2 rfl) ?_
        obtain ⟨g_7193, p_ad_43_0, o_7194⟩ := I.opr (k := 43) (j := 0) (by decide) rfl
        have p_ad_43_0 : pt L_69 f_69 (ad 43 0) (.inl (G.2 3, 30, .inr (.inr (.inr (.inr g_7193))))) := p_ad_43_0
        refine pg_aald S Y (k := 3) (o := (ad 10 (1 + y69_2.toNatClampNeg))) p_ad_43_0 rfl (vp_bn B_6980 (by decide)) (o_7194 _ (tn_bn B_6980 (by decide))) dX10_takeOver_80 ?_
        refine lv_aload_n hx hb dX10_takeOver_81 rfl (lv_at hl 1 rfl) ?_
        obtain ⟨v_7195, v_7197, v_7199, v_7201, v_7203, p_ad_1_1, b_7196, b_7198, b_7200, b_7202, b_7204⟩ := opnC_1 (j := 1) I (by decide)
        have p_ad_1_1 : pt L_69 f_69 (ad 1 1) (.inr (10, [.ref (ad 40 1), .ref (ad 41 1), .ref (ad 42 1), .ref (ad 10 31), .ref (ad 43 1), .ref (ad 20 5), .ref (ad 20 6), .ref (ad 20 7), .ref (ad 20 8), .ref (ad 20 9), .int v_7195, .int v_7197, .int v_7199, .int v_7201, .int v_7203])) := p_ad_1_1
        refine pg_get S Y ok_X10 4 (by decide) kf10_31 (v := .ref (ad 43 1)) p_ad_1_1 rfl dX10_takeOver_82 ?_
        refine lv_iload_n hx hb dX10_takeOver_85 rfl (lv_at hl 2 rfl) ?_
        obtain ⟨g_7205, p_ad_43_1, o_7206⟩ := I.opr (k := 43) (j := 1) (by decide) rfl
        have p_ad_43_1 : pt L_69 f_69 (ad 43 1) (.inl (G.2 3, 30, .inr (.inr (.inr (.inr g_7205))))) := p_ad_43_1
        refine pg_aald S Y (k := 3) (o := (ad 10 (32 + y69_2.toNatClampNeg))) p_ad_43_1 rfl (vp_bn B_6980 (by decide)) (o_7206 _ (tn_bn B_6980 (by decide))) dX10_takeOver_86 ?_
        refine cVv (As := [.ref (ad 10 (32 + y69_2.toNatClampNeg))]) (rest := []) S Y (x_X4_takeOver (l := l) (j := (1 + y69_2.toNatClampNeg)) (i := (32 + y69_2.toNatClampNeg)) I hW hT hQ (show (1 + y69_2.toNatClampNeg) < 63 from by have h9 := tn_bn (n := 30) B_6980 (by decide); omega) (show (32 + y69_2.toNatClampNeg) < 63 from by have h9 := tn_bn (n := 30) B_6980 (by decide); omega) (by omega)) cw_X4_takeOver km10_74 (I.opo (k := 10) (j := (1 + y69_2.toNatClampNeg)) (show (1 + y69_2.toNatClampNeg) < 63 from by have h9 := tn_bn (n := 30) B_6980 (by decide); omega) rfl).choose_spec.1 ok_X4.1 rfl rfl ⟨Nat.le_of_ble_eq_true rfl, Nat.le_of_ble_eq_true rfl⟩ hl.1 rfl (Nat.le_of_ble_eq_true rfl) ⟨Nat.le_of_ble_eq_true rfl, Nat.le_of_ble_eq_true rfl⟩ dX10_takeOver_87 (fun L_7207 f_7208 H locs I Y => ?_)
        obtain ⟨x_7209, ex_7209⟩ : ∃ z : Int32, z = y69_2 + 1 := ⟨_, rfl⟩
        refine lv_iinc (v := x_7209) (lv' := [(2, .int x_7209), (0, .ref (ad 1 0)), (1, .ref (ad 1 1))]) hx hb dX10_takeOver_90 hl (k := 2) rfl (by rw [ex_7209]; rfl) (by decide) rfl (fun ls hl => ?_)
        refine lv_goto (tgt := 69) hx hb dX10_takeOver_93 (by decide) ?_
        exact ih69 _ (by rw [← hm69]; exact ms_up (m := 1) ex_7209 (show bn 1 1 (1 : Int32) from bn_k (by decide)) B_6980 (bn_w (bn_eq ex_7209 (bn_add B_6980 (show bn 1 1 (1 : Int32) from bn_k (by decide)) (by decide))) (by decide) : bn 0 30 x_7209) (by decide)) x_7209 _ _  _ _ _ I (bn_w (bn_eq ex_7209 (bn_add B_6980 (show bn 1 1 (1 : Int32) from bn_k (by decide)) (by decide))) (by decide)) rfl Y (lv_sub hl [1, 2, 0] rfl)
  have J_38 : ∀ (n38 : Nat) (y38_2 : Int32) (L_38 : List Nat) (f_38 : HF) (H : Heap) (locs : List Loc) (ls : Array Slot), (SH (spC rs fc tc w q) nnC G ad L_38 f_38) → (bn 0 4 y38_2) → (((4 : Int) - y38_2.toInt).toNat = n38) → (DY G A s [] L_38 f_38 H locs) → (lv_has ls 3 [(0, .ref (ad 1 0)), (1, .ref (ad 1 1)), (2, .int y38_2)]) → W p l e (rmD 2 0 0) s m args below meth c H locs (0) (0) (MQ below (va_Qv (fun (u : List Nat × HF) => (fun L1 f1 => ∃ tc2 : Nat → Int × Int, ∃ w2 : Nat → Int × Int, ∃ q2 : Nat → (Nat → Int32) → Prop, SH (spC rs fc tc2 w2 q2) nnC G ad L1 f1 ∧ tc2 0 = tc 1 ∧ (∀ k, k ≠ 0 → tc2 k = tc k) ∧ w2 0 = w 5 ∧ w2 1 = w 6 ∧ w2 2 = w 7 ∧ w2 3 = w 8 ∧ w2 4 = w 9 ∧ (∀ k, (k < 0 ∨ 5 ≤ k) → w2 k = w k) ∧ q2 0 = q 5 ∧ q2 1 = q 6 ∧ q2 2 = q 7 ∧ q2 3 = q 8 ∧ q2 4 = q 9 ∧ (∀ k, (k < 0 ∨ 5 ≤ k) → q2 k = q k) ∧ WBp tc2 4 ∧ WBp w2 8 ∧ QIp q2) u.1 u.2) (fun u t => pOut G (va_A (va_pl L f) sz) u.1 u.2 t) (va_A (va_pl L f) sz)) args s 0 0 A) (F0 m 38 ls []) := by
    intro n38
    induction n38 using Nat.strongRecOn with
    | _ n38 ih38 =>
      intro y38_2 L_38 f_38 H locs ls I b_y38_2 hm38 Y hl
      refine lv_iload_n hx hb dX10_takeOver_38 rfl (lv_at hl 2 rfl) ?_
      refine lv_aload_n hx hb dX10_takeOver_39 rfl (lv_at hl 1 rfl) ?_
      obtain ⟨v_7210, v_7212, v_7214, v_7216, v_7218, p_ad_1_1, b_7211, b_7213, b_7215, b_7217, b_7219⟩ := opnC_1 (j := 1) I (by decide)
      have p_ad_1_1 : pt L_38 f_38 (ad 1 1) (.inr (10, [.ref (ad 40 1), .ref (ad 41 1), .ref (ad 42 1), .ref (ad 10 31), .ref (ad 43 1), .ref (ad 20 5), .ref (ad 20 6), .ref (ad 20 7), .ref (ad 20 8), .ref (ad 20 9), .int v_7210, .int v_7212, .int v_7214, .int v_7216, .int v_7218])) := p_ad_1_1
      refine pg_get S Y ok_X10 11 (by decide) kf10_67 (v := .int v_7212) p_ad_1_1 rfl dX10_takeOver_40 ?_
      refine lv_icmp_ge (tgt := 67) hx hb dX10_takeOver_43 (by decide) (fun c_7220 => ?_) (fun c_7220 => ?_)
      · refine lv_iconst (v := 0) hx hb dX10_takeOver_67 (by decide) ?_
        refine lv_istore_n (lv' := [(2, .int 0), (0, .ref (ad 1 0)), (1, .ref (ad 1 1))]) hx hb dX10_takeOver_68 rfl hl (by decide) rfl (fun ls hl => ?_)
        exact J_69 _ 0 _ _  _ _ _ I (bn_w (show bn 0 0 (0 : Int32) from bn_k (by decide)) (by decide)) rfl Y (lv_sub hl [1, 2, 0] rfl)
      · have B_7221 : bn 1 4 v_7212 := bn_w (bn_gtl c_7220 (bn_w (a' := 0) (b' := 4) b_7213 (hT 1)) b_y38_2) (by decide)
        have B_7222 : bn 0 3 y38_2 := bn_w (bn_gtr c_7220 (bn_w (a' := 0) (b' := 4) b_7213 (hT 1)) b_y38_2) (by decide)
        refine lv_aload_n hx hb dX10_takeOver_46 rfl (lv_at hl 0 rfl) ?_
        obtain ⟨v_7223, v_7225, v_7227, v_7229, v_7231, p_ad_1_0, b_7224, b_7226, b_7228, b_7230, b_7232⟩ := opnC_1 (j := 0) I (by decide)
        have p_ad_1_0 : pt L_38 f_38 (ad 1 0) (.inr (10, [.ref (ad 40 0), .ref (ad 41 0), .ref (ad 42 0), .ref (ad 10 0), .ref (ad 43 0), .ref (ad 20 0), .ref (ad 20 1), .ref (ad 20 2), .ref (ad 20 3), .ref (ad 20 4), .int v_7223, .int v_7225, .int v_7227, .int v_7229, .int v_7231])) := p_ad_1_0
        refine pg_get S Y ok_X10 2 (by decide) kf10_20 (v := .ref (ad 42 0)) p_ad_1_0 rfl dX10_takeOver_47 ?_
        refine lv_iload_n hx hb dX10_takeOver_50 rfl (lv_at hl 2 rfl) ?_
        obtain ⟨g_7233, p_ad_42_0, o_7234⟩ := I.opr (k := 42) (j := 0) (by decide) rfl
        have p_ad_42_0 : pt L_38 f_38 (ad 42 0) (.inl (G.2 4, 4, .inr (.inr (.inr (.inr g_7233))))) := p_ad_42_0
        refine pg_aald S Y (k := 4) (o := (ad 30 y38_2.toNatClampNeg)) p_ad_42_0 rfl (vp_bn B_7222 (by decide)) (aal0 (o_7234 _ (tn_bn B_7222 (by decide)))) dX10_takeOver_51 ?_
        refine lv_aload_n hx hb dX10_takeOver_52 rfl (lv_at hl 1 rfl) ?_
        refine pg_get S Y ok_X10 2 (by decide) kf10_20 (v := .ref (ad 42 1)) p_ad_1_1 rfl dX10_takeOver_53 ?_
        refine lv_iload_n hx hb dX10_takeOver_56 rfl (lv_at hl 2 rfl) ?_
        obtain ⟨g_7235, p_ad_42_1, o_7236⟩ := I.opr (k := 42) (j := 1) (by decide) rfl
        have p_ad_42_1 : pt L_38 f_38 (ad 42 1) (.inl (G.2 4, 4, .inr (.inr (.inr (.inr g_7235))))) := p_ad_42_1
        refine pg_aald S Y (k := 4) (o := (ad 30 (4 + y38_2.toNatClampNeg))) p_ad_42_1 rfl (vp_bn B_7222 (by decide)) (o_7236 _ (tn_bn B_7222 (by decide))) dX10_takeOver_57 ?_
        refine cVv (As := [.ref (ad 30 (4 + y38_2.toNatClampNeg))]) (rest := []) S Y (x_X7_takeOver (l := l) (j := y38_2.toNatClampNeg) (i := (4 + y38_2.toNatClampNeg)) I hW hT hQ (show y38_2.toNatClampNeg < 8 from by have h9 := tn_bn (n := 4) B_7222 (by decide); omega) (show (4 + y38_2.toNatClampNeg) < 8 from by have h9 := tn_bn (n := 4) B_7222 (by decide); omega) (by omega)) cw_X7_takeOver km10_70 (I.opo (k := 30) (j := y38_2.toNatClampNeg) (show y38_2.toNatClampNeg < 8 from by have h9 := tn_bn (n := 4) B_7222 (by decide); omega) rfl).choose_spec.1 ok_X7.1 rfl rfl ⟨Nat.le_of_ble_eq_true rfl, Nat.le_of_ble_eq_true rfl⟩ hl.1 rfl (Nat.le_of_ble_eq_true rfl) ⟨Nat.le_of_ble_eq_true rfl, Nat.le_of_ble_eq_true rfl⟩ dX10_takeOver_58 (fun L_7237 f_7238 H locs I Y => ?_)
        obtain ⟨x_7239, ex_7239⟩ : ∃ z : Int32, z = y38_2 + 1 := ⟨_, rfl⟩
        refine lv_iinc (v := x_7239) (lv' := [(2, .int x_7239), (0, .ref (ad 1 0)), (1, .ref (ad 1 1))]) hx hb dX10_takeOver_61 hl (k := 2) rfl (by rw [ex_7239]; rfl) (by decide) rfl (fun ls hl => ?_)
        refine lv_goto (tgt := 38) hx hb dX10_takeOver_64 (by decide) ?_
        exact ih38 _ (by rw [← hm38]; exact ms_up (m := 1) ex_7239 (show bn 1 1 (1 : Int32) from bn_k (by decide)) B_7222 (bn_w (bn_eq ex_7239 (bn_add B_7222 (show bn 1 1 (1 : Int32) from bn_k (by decide)) (by decide))) (by decide) : bn 0 4 x_7239) (by decide)) x_7239 _ _  _ _ _ I (bn_w (bn_eq ex_7239 (bn_add B_7222 (show bn 1 1 (1 : Int32) from bn_k (by decide)) (by decide))) (by decide)) rfl Y (lv_sub hl [1, 2, 0] rfl)
  refine lv_aload_n hx hb dX10_takeOver_0 rfl (lv_at hl 1 rfl) ?_
  obtain ⟨v_7240, v_7242, v_7244, v_7246, v_7248, p_ad_1_1, b_7241, b_7243, b_7245, b_7247, b_7249⟩ := opnC_1 (j := 1) I (by decide)
  have p_ad_1_1 : pt L f (ad 1 1) (.inr (10, [.ref (ad 40 1), .ref (ad 41 1), .ref (ad 42 1), .ref (ad 10 31), .ref (ad 43 1), .ref (ad 20 5), .ref (ad 20 6), .ref (ad 20 7), .ref (ad 20 8), .ref (ad 20 9), .int v_7240, .int v_7242, .int v_7244, .int v_7246, .int v_7248])) := p_ad_1_1
  refine pg_get S Y ok_X10 0 (by decide) kf10_9 (v := .ref (ad 40 1)) p_ad_1_1 rfl dX10_takeOver_1 ?_
  refine lv_iconst (v := 0) hx hb dX10_takeOver_4 (by decide) ?_
  refine lv_aload_n hx hb dX10_takeOver_5 rfl (lv_at hl 0 rfl) ?_
  obtain ⟨v_7250, v_7252, v_7254, v_7256, v_7258, p_ad_1_0, b_7251, b_7253, b_7255, b_7257, b_7259⟩ := opnC_1 (j := 0) I (by decide)
  have p_ad_1_0 : pt L f (ad 1 0) (.inr (10, [.ref (ad 40 0), .ref (ad 41 0), .ref (ad 42 0), .ref (ad 10 0), .ref (ad 43 0), .ref (ad 20 0), .ref (ad 20 1), .ref (ad 20 2), .ref (ad 20 3), .ref (ad 20 4), .int v_7250, .int v_7252, .int v_7254, .int v_7256, .int v_7258])) := p_ad_1_0
  refine pg_get S Y ok_X10 0 (by decide) kf10_9 (v := .ref (ad 40 0)) p_ad_1_0 rfl dX10_takeOver_6 ?_
  refine lv_iconst (v := 0) hx hb dX10_takeOver_9 (by decide) ?_
  refine lv_aload_n hx hb dX10_takeOver_10 rfl (lv_at hl 0 rfl) ?_
  refine pg_get S Y ok_X10 0 (by decide) kf10_9 (v := .ref (ad 40 0)) p_ad_1_0 rfl dX10_takeOver_11 ?_
  obtain ⟨g_7260, p_ad_40_0, o_7261⟩ := I.opi (k := 40) (j := 0) (by decide) rfl
  have p_ad_40_0 : pt L f (ad 40 0) (.inl (G.2 0, 6, .inl g_7260)) := p_ad_40_0
  refine pg_alen S Y (k := 0) (v := 6) p_ad_40_0 rfl rfl dX10_takeOver_14 ?_
  obtain ⟨g_7262, p_ad_40_1, o_7263⟩ := I.opi (k := 40) (j := 1) (by decide) rfl
  have p_ad_40_1 : pt L f (ad 40 1) (.inl (G.2 0, 6, .inl g_7262)) := p_ad_40_1
  refine pg_copyi S Y hl.1 km10_61 kAn kAs kAi p_ad_40_1 p_ad_40_0 (by decide) (by decide) (by decide) (by decide) (by decide) (Nat.le_of_ble_eq_true rfl) (Nat.le_of_ble_eq_true rfl) dX10_takeOver_15 (fun f_7265 H locs ef_7265 Y => ?_)
  obtain ⟨g_7264, eg_7264⟩ : ∃ z, z = va_cpy (g_7262) (g_7260) (0 : Int32).toNatClampNeg (0 : Int32).toNatClampNeg (6 : Int32).toNatClampNeg := ⟨_, rfl⟩
  rw [← eg_7264] at ef_7265
  have p_ad_1_1 := p_ad_1_1.up ef_7265 (I.ne (k := 1) (j := 1) (k' := 40) (j' := 0) (by decide) (by decide) (Or.inl (by decide)))
  have p_ad_1_0 := p_ad_1_0.up ef_7265 (I.ne (k := 1) (j := 0) (k' := 40) (j' := 0) (by decide) (by decide) (Or.inl (by decide)))
  have p_ad_40_1 := p_ad_40_1.up ef_7265 (I.ne (k := 40) (j := 1) (k' := 40) (j' := 0) (by decide) (by decide) (Or.inr (by decide)))
  have p_ad_40_0 := p_ad_40_0.me ef_7265
  have I := I.up (k := 40) (j := 0) (by decide) ef_7265 (okE_a (g := g_7264) trivial)
  refine lv_aload_n hx hb dX10_takeOver_18 rfl (lv_at hl 1 rfl) ?_
  refine pg_get S Y ok_X10 1 (by decide) kf10_15 (v := .ref (ad 41 1)) p_ad_1_1 rfl dX10_takeOver_19 ?_
  refine lv_iconst (v := 0) hx hb dX10_takeOver_22 (by decide) ?_
  refine lv_aload_n hx hb dX10_takeOver_23 rfl (lv_at hl 0 rfl) ?_
  refine pg_get S Y ok_X10 1 (by decide) kf10_15 (v := .ref (ad 41 0)) p_ad_1_0 rfl dX10_takeOver_24 ?_
  refine lv_iconst (v := 0) hx hb dX10_takeOver_27 (by decide) ?_
  refine lv_aload_n hx hb dX10_takeOver_28 rfl (lv_at hl 0 rfl) ?_
  refine pg_get S Y ok_X10 1 (by decide) kf10_15 (v := .ref (ad 41 0)) p_ad_1_0 rfl dX10_takeOver_29 ?_
  obtain ⟨g_7266, p_ad_41_0, o_7267⟩ := I.opi (k := 41) (j := 0) (by decide) rfl
  have p_ad_41_0 : pt L f_7265 (ad 41 0) (.inl (G.2 0, 6, .inl g_7266)) := p_ad_41_0
  refine pg_alen S Y (k := 0) (v := 6) p_ad_41_0 rfl rfl dX10_takeOver_32 ?_
  obtain ⟨g_7268, p_ad_41_1, o_7269⟩ := I.opi (k := 41) (j := 1) (by decide) rfl
  have p_ad_41_1 : pt L f_7265 (ad 41 1) (.inl (G.2 0, 6, .inl g_7268)) := p_ad_41_1
  refine pg_copyi S Y hl.1 km10_61 kAn kAs kAi p_ad_41_1 p_ad_41_0 (by decide) (by decide) (by decide) (by decide) (by decide) (Nat.le_of_ble_eq_true rfl) (Nat.le_of_ble_eq_true rfl) dX10_takeOver_33 (fun f_7271 H locs ef_7271 Y => ?_)
  obtain ⟨g_7270, eg_7270⟩ : ∃ z, z = va_cpy (g_7268) (g_7266) (0 : Int32).toNatClampNeg (0 : Int32).toNatClampNeg (6 : Int32).toNatClampNeg := ⟨_, rfl⟩
  rw [← eg_7270] at ef_7271
  have p_ad_1_1 := p_ad_1_1.up ef_7271 (I.ne (k := 1) (j := 1) (k' := 41) (j' := 0) (by decide) (by decide) (Or.inl (by decide)))
  have p_ad_1_0 := p_ad_1_0.up ef_7271 (I.ne (k := 1) (j := 0) (k' := 41) (j' := 0) (by decide) (by decide) (Or.inl (by decide)))
  have p_ad_40_0 := p_ad_40_0.up ef_7271 (I.ne (k := 40) (j := 0) (k' := 41) (j' := 0) (by decide) (by decide) (Or.inl (by decide)))
  have p_ad_40_1 := p_ad_40_1.up ef_7271 (I.ne (k := 40) (j := 1) (k' := 41) (j' := 0) (by decide) (by decide) (Or.inl (by decide)))
  have p_ad_41_1 := p_ad_41_1.up ef_7271 (I.ne (k := 41) (j := 1) (k' := 41) (j' := 0) (by decide) (by decide) (Or.inr (by decide)))
  have p_ad_41_0 := p_ad_41_0.me ef_7271
  have I := I.up (k := 41) (j := 0) (by decide) ef_7271 (okE_a (g := g_7270) trivial)
  refine lv_iconst (v := 0) hx hb dX10_takeOver_36 (by decide) ?_
  refine lv_istore_n (lv' := [(2, .int 0), (0, .ref (ad 1 0)), (1, .ref (ad 1 1))]) hx hb dX10_takeOver_37 rfl hl (by decide) rfl (fun ls hl => ?_)
  exact J_38 _ 0 _ _  _ _ _ I (bn_w (show bn 0 0 (0 : Int32) from bn_k (by decide)) (by decide)) rfl Y (lv_sub hl [1, 2, 0] rfl)
set_option maxHeartbeats 4000000 in
set_option maxRecDepth 100000 in
theorem x_X10_takeOver1 {l : Launch} {G : GG}  {L : List Nat} {f : HF} {ad : Nat → Nat → Nat} {rs : FS} {fc : Int × Int} {tc w : Nat → Int × Int} {q : Nat → (Nat → Int32) → Prop} (I : SH (spC rs fc tc w q) nnC G ad L f) (hW : WBp w 8) (hT : WBp tc 4) (hQ : QIp q) : PMv l yX10_takeOver cX10_takeOver 3 2 0 0 G [.ref (ad 1 1), .ref (ad 1 0)] L f (fun L1 f1 => ∃ tc2 : Nat → Int × Int, ∃ w2 : Nat → Int × Int, ∃ q2 : Nat → (Nat → Int32) → Prop, SH (spC rs fc tc2 w2 q2) nnC G ad L1 f1 ∧ tc2 1 = tc 0 ∧ (∀ k, k ≠ 1 → tc2 k = tc k) ∧ w2 5 = w 0 ∧ w2 6 = w 1 ∧ w2 7 = w 2 ∧ w2 8 = w 3 ∧ w2 9 = w 4 ∧ (∀ k, (k < 5 ∨ 10 ≤ k) → w2 k = w k) ∧ q2 5 = q 0 ∧ q2 6 = q 1 ∧ q2 7 = q 2 ∧ q2 8 = q 3 ∧ q2 9 = q 4 ∧ (∀ k, (k < 5 ∨ 10 ≤ k) → q2 k = q k) ∧ WBp tc2 4 ∧ WBp w2 8 ∧ QIp q2) := by
  refine PMv.of (post := fun L1 f1 => ∃ tc2 : Nat → Int × Int, ∃ w2 : Nat → Int × Int, ∃ q2 : Nat → (Nat → Int32) → Prop, SH (spC rs fc tc2 w2 q2) nnC G ad L1 f1 ∧ tc2 1 = tc 0 ∧ (∀ k, k ≠ 1 → tc2 k = tc k) ∧ w2 5 = w 0 ∧ w2 6 = w 1 ∧ w2 7 = w 2 ∧ w2 8 = w 3 ∧ w2 9 = w 4 ∧ (∀ k, (k < 5 ∨ 10 ≤ k) → w2 k = w k) ∧ q2 5 = q 0 ∧ q2 6 = q 1 ∧ q2 7 = q 2 ∧ q2 8 = q 3 ∧ q2 9 = q 4 ∧ (∀ k, (k < 5 ∨ 10 ≤ k) → q2 k = q k) ∧ WBp tc2 4 ∧ WBp w2 8 ∧ QIp q2) (own := RX10) (by decide) rfl (Nat.le_of_ble_eq_true rfl) (fun sz p e s m args below meth c A ls hA1 hname S Y hl => ?_)
  have hx := S.hx
  have hb := S.hb
  have hl : lv_has ls 3 [(0, .ref (ad 1 1)), (1, .ref (ad 1 0))] := hl
  have J_69 : ∀ (n69 : Nat) (y69_2 : Int32) (L_69 : List Nat) (f_69 : HF) (H : Heap) (locs : List Loc) (ls : Array Slot), (SH (spC rs fc tc w q) nnC G ad L_69 f_69) → (bn 0 30 y69_2) → (((30 : Int) - y69_2.toInt).toNat = n69) → (DY G A s [] L_69 f_69 H locs) → (lv_has ls 3 [(0, .ref (ad 1 1)), (1, .ref (ad 1 0)), (2, .int y69_2)]) → W p l e (rmD 2 0 0) s m args below meth c H locs (0) (0) (MQ below (va_Qv (fun (u : List Nat × HF) => (fun L1 f1 => ∃ tc2 : Nat → Int × Int, ∃ w2 : Nat → Int × Int, ∃ q2 : Nat → (Nat → Int32) → Prop, SH (spC rs fc tc2 w2 q2) nnC G ad L1 f1 ∧ tc2 1 = tc 0 ∧ (∀ k, k ≠ 1 → tc2 k = tc k) ∧ w2 5 = w 0 ∧ w2 6 = w 1 ∧ w2 7 = w 2 ∧ w2 8 = w 3 ∧ w2 9 = w 4 ∧ (∀ k, (k < 5 ∨ 10 ≤ k) → w2 k = w k) ∧ q2 5 = q 0 ∧ q2 6 = q 1 ∧ q2 7 = q 2 ∧ q2 8 = q 3 ∧ q2 9 = q 4 ∧ (∀ k, (k < 5 ∨ 10 ≤ k) → q2 k = q k) ∧ WBp tc2 4 ∧ WBp w2 8 ∧ QIp q2) u.1 u.2) (fun u t => pOut G (va_A (va_pl L f) sz) u.1 u.2 t) (va_A (va_pl L f) sz)) args s 0 0 A) (F0 m 69 ls []) := by
    intro n69
    induction n69 using Nat.strongRecOn with
    | _ n69 ih69 =>
      intro y69_2 L_69 f_69 H locs ls I b_y69_2 hm69 Y hl
      refine lv_iload_n hx hb dX10_takeOver_69 rfl (lv_at hl 2 rfl) ?_
      refine lv_bipush (v := 30) hx hb dX10_takeOver_70 (by decide) ?_
      refine lv_icmp_ge (tgt := 96) hx hb dX10_takeOver_72 (by decide) (fun c_8466 => ?_) (fun c_8466 => ?_)
      · have B_8467 : bn 30 30 y69_2 := bn_w (bn_ler c_8466 (show bn 30 30 (30 : Int32) from bn_k (by decide)) b_y69_2) (by decide)
        refine lv_aload_n hx hb dX10_takeOver_96 rfl (lv_at hl 0 rfl) ?_
        obtain ⟨v_8469, v_8471, v_8473, v_8475, v_8477, p_ad_1_1, b_8470, b_8472, b_8474, b_8476, b_8478⟩ := opnC_1 (j := 1) I (by decide)
        have p_ad_1_1 : pt L_69 f_69 (ad 1 1) (.inr (10, [.ref (ad 40 1), .ref (ad 41 1), .ref (ad 42 1), .ref (ad 10 31), .ref (ad 43 1), .ref (ad 20 5), .ref (ad 20 6), .ref (ad 20 7), .ref (ad 20 8), .ref (ad 20 9), .int v_8469, .int v_8471, .int v_8473, .int v_8475, .int v_8477])) := p_ad_1_1
        refine pg_get S Y ok_X10 3 (by decide) kf10_27 (v := .ref (ad 10 31)) p_ad_1_1 rfl dX10_takeOver_97 ?_
        refine lv_aload_n hx hb dX10_takeOver_100 rfl (lv_at hl 1 rfl) ?_
        obtain ⟨v_8479, v_8481, v_8483, v_8485, v_8487, p_ad_1_0, b_8480, b_8482, b_8484, b_8486, b_8488⟩ := opnC_1 (j := 0) I (by decide)
        have p_ad_1_0 : pt L_69 f_69 (ad 1 0) (.inr (10, [.ref (ad 40 0), .ref (ad 41 0), .ref (ad 42 0), .ref (ad 10 0), .ref (ad 43 0), .ref (ad 20 0), .ref (ad 20 1), .ref (ad 20 2), .ref (ad 20 3), .ref (ad 20 4), .int v_8479, .int v_8481, .int v_8483, .int v_8485, .int v_8487])) := p_ad_1_0
        refine pg_get S Y ok_X10 3 (by decide) kf10_27 (v := .ref (ad 10 0)) p_ad_1_0 rfl dX10_takeOver_101 ?_
        refine cVv (As := [.ref (ad 10 0)]) (rest := []) S Y (x_X4_takeOver (l := l) (j := 31) (i := 0) I hW hT hQ (by decide) (by decide) (by omega)) cw_X4_takeOver km10_74 (I.opo (k := 10) (j := 31) (by decide) rfl).choose_spec.1 ok_X4.1 rfl rfl ⟨Nat.le_of_ble_eq_true rfl, Nat.le_of_ble_eq_true rfl⟩ hl.1 rfl (Nat.le_of_ble_eq_true rfl) ⟨Nat.le_of_ble_eq_true rfl, Nat.le_of_ble_eq_true rfl⟩ dX10_takeOver_104 (fun L_8489 f_8490 H locs I Y => ?_)
        refine lv_aload_n hx hb dX10_takeOver_107 rfl (lv_at hl 0 rfl) ?_
        obtain ⟨v_8491, v_8493, v_8495, v_8497, v_8499, p_ad_1_1, b_8492, b_8494, b_8496, b_8498, b_8500⟩ := opnC_1 (j := 1) I (by decide)
        have p_ad_1_1 : pt L_8489 f_8490 (ad 1 1) (.inr (10, [.ref (ad 40 1), .ref (ad 41 1), .ref (ad 42 1), .ref (ad 10 31), .ref (ad 43 1), .ref (ad 20 5), .ref (ad 20 6), .ref (ad 20 7), .ref (ad 20 8), .ref (ad 20 9), .int v_8491, .int v_8493, .int v_8495, .int v_8497, .int v_8499])) := p_ad_1_1
        refine pg_get S Y ok_X10 5 (by decide) kf10_40 (v := .ref (ad 20 5)) p_ad_1_1 rfl dX10_takeOver_108 ?_
        refine lv_aload_n hx hb dX10_takeOver_111 rfl (lv_at hl 1 rfl) ?_
        obtain ⟨v_8501, v_8503, v_8505, v_8507, v_8509, p_ad_1_0, b_8502, b_8504, b_8506, b_8508, b_8510⟩ := opnC_1 (j := 0) I (by decide)
        have p_ad_1_0 : pt L_8489 f_8490 (ad 1 0) (.inr (10, [.ref (ad 40 0), .ref (ad 41 0), .ref (ad 42 0), .ref (ad 10 0), .ref (ad 43 0), .ref (ad 20 0), .ref (ad 20 1), .ref (ad 20 2), .ref (ad 20 3), .ref (ad 20 4), .int v_8501, .int v_8503, .int v_8505, .int v_8507, .int v_8509])) := p_ad_1_0
        refine pg_get S Y ok_X10 5 (by decide) kf10_40 (v := .ref (ad 20 0)) p_ad_1_0 rfl dX10_takeOver_112 ?_
        refine cVv (As := [.ref (ad 20 0)]) (rest := []) S Y (x_X9_takeOver (l := l) (j := 5) (i := 0) I hW hT hQ (by decide) (by decide) (by omega)) cw_X9_takeOver km10_77 (I.opo (k := 20) (j := 5) (by decide) rfl).choose_spec.1 ok_X9.1 rfl rfl ⟨Nat.le_of_ble_eq_true rfl, Nat.le_of_ble_eq_true rfl⟩ hl.1 rfl (Nat.le_of_ble_eq_true rfl) ⟨Nat.le_of_ble_eq_true rfl, Nat.le_of_ble_eq_true rfl⟩ dX10_takeOver_115 (fun L_8511 f_8512 H locs hr_8513 Y => ?_)
        obtain ⟨w2_8514, q2_8515, I, e1_8516, e2_8517, e3_8518, e4_8519, eW_8520, eQ_8521⟩ := hr_8513
        refine lv_aload_n hx hb dX10_takeOver_118 rfl (lv_at hl 0 rfl) ?_
        obtain ⟨v_8522, v_8524, v_8526, v_8528, v_8530, p_ad_1_1, b_8523, b_8525, b_8527, b_8529, b_8531⟩ := opnC_1 (j := 1) I (by decide)
        have p_ad_1_1 : pt L_8511 f_8512 (ad 1 1) (.inr (10, [.ref (ad 40 1), .ref (ad 41 1), .ref (ad 42 1), .ref (ad 10 31), .ref (ad 43 1), .ref (ad 20 5), .ref (ad 20 6), .ref (ad 20 7), .ref (ad 20 8), .ref (ad 20 9), .int v_8522, .int v_8524, .int v_8526, .int v_8528, .int v_8530])) := p_ad_1_1
        refine pg_get S Y ok_X10 6 (by decide) kf10_44 (v := .ref (ad 20 6)) p_ad_1_1 rfl dX10_takeOver_119 ?_
        refine lv_aload_n hx hb dX10_takeOver_122 rfl (lv_at hl 1 rfl) ?_
        obtain ⟨v_8532, v_8534, v_8536, v_8538, v_8540, p_ad_1_0, b_8533, b_8535, b_8537, b_8539, b_8541⟩ := opnC_1 (j := 0) I (by decide)
        have p_ad_1_0 : pt L_8511 f_8512 (ad 1 0) (.inr (10, [.ref (ad 40 0), .ref (ad 41 0), .ref (ad 42 0), .ref (ad 10 0), .ref (ad 43 0), .ref (ad 20 0), .ref (ad 20 1), .ref (ad 20 2), .ref (ad 20 3), .ref (ad 20 4), .int v_8532, .int v_8534, .int v_8536, .int v_8538, .int v_8540])) := p_ad_1_0
        refine pg_get S Y ok_X10 6 (by decide) kf10_44 (v := .ref (ad 20 1)) p_ad_1_0 rfl dX10_takeOver_123 ?_
        refine cVv (As := [.ref (ad 20 1)]) (rest := []) S Y (x_X9_takeOver (l := l) (j := 6) (i := 1) I eW_8520 hT eQ_8521 (by decide) (by decide) (by omega)) cw_X9_takeOver km10_77 (I.opo (k := 20) (j := 6) (by decide) rfl).choose_spec.1 ok_X9.1 rfl rfl ⟨Nat.le_of_ble_eq_true rfl, Nat.le_of_ble_eq_true rfl⟩ hl.1 rfl (Nat.le_of_ble_eq_true rfl) ⟨Nat.le_of_ble_eq_true rfl, Nat.le_of_ble_eq_true rfl⟩ dX10_takeOver_126 (fun L_8542 f_8543 H locs hr_8544 Y => ?_)
        obtain ⟨w2_8545, q2_8546, I, e1_8547, e2_8548, e3_8549, e4_8550, eW_8551, eQ_8552⟩ := hr_8544
        refine lv_aload_n hx hb dX10_takeOver_129 rfl (lv_at hl 0 rfl) ?_
        obtain ⟨v_8553, v_8555, v_8557, v_8559, v_8561, p_ad_1_1, b_8554, b_8556, b_8558, b_8560, b_8562⟩ := opnC_1 (j := 1) I (by decide)
        have p_ad_1_1 : pt L_8542 f_8543 (ad 1 1) (.inr (10, [.ref (ad 40 1), .ref (ad 41 1), .ref (ad 42 1), .ref (ad 10 31), .ref (ad 43 1), .ref (ad 20 5), .ref (ad 20 6), .ref (ad 20 7), .ref (ad 20 8), .ref (ad 20 9), .int v_8553, .int v_8555, .int v_8557, .int v_8559, .int v_8561])) := p_ad_1_1
        refine pg_get S Y ok_X10 7 (by decide) kf10_47 (v := .ref (ad 20 7)) p_ad_1_1 rfl dX10_takeOver_130 ?_
        refine lv_aload_n hx hb dX10_takeOver_133 rfl (lv_at hl 1 rfl) ?_
        obtain ⟨v_8563, v_8565, v_8567, v_8569, v_8571, p_ad_1_0, b_8564, b_8566, b_8568, b_8570, b_8572⟩ := opnC_1 (j := 0) I (by decide)
        have p_ad_1_0 : pt L_8542 f_8543 (ad 1 0) (.inr (10, [.ref (ad 40 0), .ref (ad 41 0), .ref (ad 42 0), .ref (ad 10 0), .ref (ad 43 0), .ref (ad 20 0), .ref (ad 20 1), .ref (ad 20 2), .ref (ad 20 3), .ref (ad 20 4), .int v_8563, .int v_8565, .int v_8567, .int v_8569, .int v_8571])) := p_ad_1_0
        refine pg_get S Y ok_X10 7 (by decide) kf10_47 (v := .ref (ad 20 2)) p_ad_1_0 rfl dX10_takeOver_134 ?_
        refine cVv (As := [.ref (ad 20 2)]) (rest := []) S Y (x_X9_takeOver (l := l) (j := 7) (i := 2) I eW_8551 hT eQ_8552 (by decide) (by decide) (by omega)) cw_X9_takeOver km10_77 (I.opo (k := 20) (j := 7) (by decide) rfl).choose_spec.1 ok_X9.1 rfl rfl ⟨Nat.le_of_ble_eq_true rfl, Nat.le_of_ble_eq_true rfl⟩ hl.1 rfl (Nat.le_of_ble_eq_true rfl) ⟨Nat.le_of_ble_eq_true rfl, Nat.le_of_ble_eq_true rfl⟩ dX10_takeOver_137 (fun L_8573 f_8574 H locs hr_8575 Y => ?_)
        obtain ⟨w2_8576, q2_8577, I, e1_8578, e2_8579, e3_8580, e4_8581, eW_8582, eQ_8583⟩ := hr_8575
        refine lv_aload_n hx hb dX10_takeOver_140 rfl (lv_at hl 0 rfl) ?_
        obtain ⟨v_8584, v_8586, v_8588, v_8590, v_8592, p_ad_1_1, b_8585, b_8587, b_8589, b_8591, b_8593⟩ := opnC_1 (j := 1) I (by decide)
        have p_ad_1_1 : pt L_8573 f_8574 (ad 1 1) (.inr (10, [.ref (ad 40 1), .ref (ad 41 1), .ref (ad 42 1), .ref (ad 10 31), .ref (ad 43 1), .ref (ad 20 5), .ref (ad 20 6), .ref (ad 20 7), .ref (ad 20 8), .ref (ad 20 9), .int v_8584, .int v_8586, .int v_8588, .int v_8590, .int v_8592])) := p_ad_1_1
        refine pg_get S Y ok_X10 8 (by decide) kf10_50 (v := .ref (ad 20 8)) p_ad_1_1 rfl dX10_takeOver_141 ?_
        refine lv_aload_n hx hb dX10_takeOver_144 rfl (lv_at hl 1 rfl) ?_
        obtain ⟨v_8594, v_8596, v_8598, v_8600, v_8602, p_ad_1_0, b_8595, b_8597, b_8599, b_8601, b_8603⟩ := opnC_1 (j := 0) I (by decide)
        have p_ad_1_0 : pt L_8573 f_8574 (ad 1 0) (.inr (10, [.ref (ad 40 0), .ref (ad 41 0), .ref (ad 42 0), .ref (ad 10 0), .ref (ad 43 0), .ref (ad 20 0), .ref (ad 20 1), .ref (ad 20 2), .ref (ad 20 3), .ref (ad 20 4), .int v_8594, .int v_8596, .int v_8598, .int v_8600, .int v_8602])) := p_ad_1_0
        refine pg_get S Y ok_X10 8 (by decide) kf10_50 (v := .ref (ad 20 3)) p_ad_1_0 rfl dX10_takeOver_145 ?_
        refine cVv (As := [.ref (ad 20 3)]) (rest := []) S Y (x_X9_takeOver (l := l) (j := 8) (i := 3) I eW_8582 hT eQ_8583 (by decide) (by decide) (by omega)) cw_X9_takeOver km10_77 (I.opo (k := 20) (j := 8) (by decide) rfl).choose_spec.1 ok_X9.1 rfl rfl ⟨Nat.le_of_ble_eq_true rfl, Nat.le_of_ble_eq_true rfl⟩ hl.1 rfl (Nat.le_of_ble_eq_true rfl) ⟨Nat.le_of_ble_eq_true rfl, Nat.le_of_ble_eq_true rfl⟩ dX10_takeOver_148 (fun L_8604 f_8605 H locs hr_8606 Y => ?_)
        obtain ⟨w2_8607, q2_8608, I, e1_8609, e2_8610, e3_8611, e4_8612, eW_8613, eQ_8614⟩ := hr_8606
        refine lv_aload_n hx hb dX10_takeOver_151 rfl (lv_at hl 0 rfl) ?_
        obtain ⟨v_8615, v_8617, v_8619, v_8621, v_8623, p_ad_1_1, b_8616, b_8618, b_8620, b_8622, b_8624⟩ := opnC_1 (j := 1) I (by decide)
        have p_ad_1_1 : pt L_8604 f_8605 (ad 1 1) (.inr (10, [.ref (ad 40 1), .ref (ad 41 1), .ref (ad 42 1), .ref (ad 10 31), .ref (ad 43 1), .ref (ad 20 5), .ref (ad 20 6), .ref (ad 20 7), .ref (ad 20 8), .ref (ad 20 9), .int v_8615, .int v_8617, .int v_8619, .int v_8621, .int v_8623])) := p_ad_1_1
        refine pg_get S Y ok_X10 9 (by decide) kf10_53 (v := .ref (ad 20 9)) p_ad_1_1 rfl dX10_takeOver_152 ?_
        refine lv_aload_n hx hb dX10_takeOver_155 rfl (lv_at hl 1 rfl) ?_
        obtain ⟨v_8625, v_8627, v_8629, v_8631, v_8633, p_ad_1_0, b_8626, b_8628, b_8630, b_8632, b_8634⟩ := opnC_1 (j := 0) I (by decide)
        have p_ad_1_0 : pt L_8604 f_8605 (ad 1 0) (.inr (10, [.ref (ad 40 0), .ref (ad 41 0), .ref (ad 42 0), .ref (ad 10 0), .ref (ad 43 0), .ref (ad 20 0), .ref (ad 20 1), .ref (ad 20 2), .ref (ad 20 3), .ref (ad 20 4), .int v_8625, .int v_8627, .int v_8629, .int v_8631, .int v_8633])) := p_ad_1_0
        refine pg_get S Y ok_X10 9 (by decide) kf10_53 (v := .ref (ad 20 4)) p_ad_1_0 rfl dX10_takeOver_156 ?_
        refine cVv (As := [.ref (ad 20 4)]) (rest := []) S Y (x_X9_takeOver (l := l) (j := 9) (i := 4) I eW_8613 hT eQ_8614 (by decide) (by decide) (by omega)) cw_X9_takeOver km10_77 (I.opo (k := 20) (j := 9) (by decide) rfl).choose_spec.1 ok_X9.1 rfl rfl ⟨Nat.le_of_ble_eq_true rfl, Nat.le_of_ble_eq_true rfl⟩ hl.1 rfl (Nat.le_of_ble_eq_true rfl) ⟨Nat.le_of_ble_eq_true rfl, Nat.le_of_ble_eq_true rfl⟩ dX10_takeOver_159 (fun L_8635 f_8636 H locs hr_8637 Y => ?_)
        obtain ⟨w2_8638, q2_8639, I, e1_8640, e2_8641, e3_8642, e4_8643, eW_8644, eQ_8645⟩ := hr_8637
        refine lv_aload_n hx hb dX10_takeOver_162 rfl (lv_at hl 0 rfl) ?_
        refine lv_aload_n hx hb dX10_takeOver_163 rfl (lv_at hl 1 rfl) ?_
        obtain ⟨v_8646, v_8648, v_8650, v_8652, v_8654, p_ad_1_0, b_8647, b_8649, b_8651, b_8653, b_8655⟩ := opnC_1 (j := 0) I (by decide)
        have p_ad_1_0 : pt L_8635 f_8636 (ad 1 0) (.inr (10, [.ref (ad 40 0), .ref (ad 41 0), .ref (ad 42 0), .ref (ad 10 0), .ref (ad 43 0), .ref (ad 20 0), .ref (ad 20 1), .ref (ad 20 2), .ref (ad 20 3), .ref (ad 20 4), .int v_8646, .int v_8648, .int v_8650, .int v_8652, .int v_8654])) := p_ad_1_0
        refine pg_get S Y ok_X10 10 (by decide) kf10_80 (v := .int v_8646) p_ad_1_0 rfl dX10_takeOver_164 ?_
        obtain ⟨v_8656, v_8658, v_8660, v_8662, v_8664, p_ad_1_1, b_8657, b_8659, b_8661, b_8663, b_8665⟩ := opnC_1 (j := 1) I (by decide)
        have p_ad_1_1 : pt L_8635 f_8636 (ad 1 1) (.inr (10, [.ref (ad 40 1), .ref (ad 41 1), .ref (ad 42 1), .ref (ad 10 31), .ref (ad 43 1), .ref (ad 20 5), .ref (ad 20 6), .ref (ad 20 7), .ref (ad 20 8), .ref (ad 20 9), .int v_8656, .int v_8658, .int v_8660, .int v_8662, .int v_8664])) := p_ad_1_1
        refine pg_put S Y ok_X10 10 (by decide) kf10_80 rfl (fs' := [.ref (ad 40 1), .ref (ad 41 1), .ref (ad 42 1), .ref (ad 10 31), .ref (ad 43 1), .ref (ad 20 5), .ref (ad 20 6), .ref (ad 20 7), .ref (ad 20 8), .ref (ad 20 9), .int v_8646, .int v_8658, .int v_8660, .int v_8662, .int v_8664]) (v := .int v_8646) p_ad_1_1 rfl rfl rfl (Nat.le_of_ble_eq_true rfl) dX10_takeOver_167 (fun f_8666 H locs ef_8666 Y => ?_)
        have p_ad_1_0 := p_ad_1_0.up ef_8666 (I.ne (k := 1) (j := 0) (k' := 1) (j' := 1) (by decide) (by decide) (Or.inr (by decide)))
        have p_ad_1_1 := p_ad_1_1.me ef_8666
        have I := I.up (k := 1) (j := 1) (by decide) ef_8666 (okE_o (okFs_c okV_r (okFs_c okV_r (okFs_c okV_r (okFs_c okV_r (okFs_c okV_r (okFs_c okV_r (okFs_c okV_r (okFs_c okV_r (okFs_c okV_r (okFs_c okV_r (okFs_c (okV_i (bn_w b_8647 (by decide))) (okFs_c (okV_p b_8659) (okFs_c (okV_i b_8661) (okFs_c (okV_i b_8663) (okFs_c (okV_i b_8665) okFs_n))))))))))))))))
        refine lv_aload_n hx hb dX10_takeOver_170 rfl (lv_at hl 0 rfl) ?_
        refine lv_aload_n hx hb dX10_takeOver_171 rfl (lv_at hl 1 rfl) ?_
        refine pg_get S Y ok_X10 11 (by decide) kf10_67 (v := .int v_8648) p_ad_1_0 rfl dX10_takeOver_172 ?_
        refine pg_put S Y ok_X10 11 (by decide) kf10_67 rfl (fs' := [.ref (ad 40 1), .ref (ad 41 1), .ref (ad 42 1), .ref (ad 10 31), .ref (ad 43 1), .ref (ad 20 5), .ref (ad 20 6), .ref (ad 20 7), .ref (ad 20 8), .ref (ad 20 9), .int v_8646, .int v_8648, .int v_8660, .int v_8662, .int v_8664]) (v := .int v_8648) p_ad_1_1 rfl rfl rfl (Nat.le_of_ble_eq_true rfl) dX10_takeOver_175 (fun f_8667 H locs ef_8667 Y => ?_)
        have p_ad_1_0 := p_ad_1_0.up ef_8667 (I.ne (k := 1) (j := 0) (k' := 1) (j' := 1) (by decide) (by decide) (Or.inr (by decide)))
        have p_ad_1_1 := p_ad_1_1.me ef_8667
        have I := I.upS (sp' := spC rs fc (stf tc 1 (tc 0)) w2_8638 q2_8639) (k := 1) (j := 1) (by decide) ef_8667 (okE_o (okFs_c okV_r (okFs_c okV_r (okFs_c okV_r (okFs_c okV_r (okFs_c okV_r (okFs_c okV_r (okFs_c okV_r (okFs_c okV_r (okFs_c okV_r (okFs_c okV_r (okFs_c (okV_i (bn_w b_8647 (by decide))) (okFs_c (okV_p (q := stf tc 1 (tc 0) 1) (by rw [stf_s]; exact b_8649)) (okFs_c (okV_i b_8661) (okFs_c (okV_i b_8663) (okFs_c (okV_i b_8665) okFs_n)))))))))))))))) tcC
        refine lv_aload_n hx hb dX10_takeOver_178 rfl (lv_at hl 0 rfl) ?_
        refine lv_aload_n hx hb dX10_takeOver_179 rfl (lv_at hl 1 rfl) ?_
        refine pg_get S Y ok_X10 12 (by decide) kf10_56 (v := .int v_8650) p_ad_1_0 rfl dX10_takeOver_180 ?_
        refine pg_put S Y ok_X10 12 (by decide) kf10_56 rfl (fs' := [.ref (ad 40 1), .ref (ad 41 1), .ref (ad 42 1), .ref (ad 10 31), .ref (ad 43 1), .ref (ad 20 5), .ref (ad 20 6), .ref (ad 20 7), .ref (ad 20 8), .ref (ad 20 9), .int v_8646, .int v_8648, .int v_8650, .int v_8662, .int v_8664]) (v := .int v_8650) p_ad_1_1 rfl rfl rfl (Nat.le_of_ble_eq_true rfl) dX10_takeOver_183 (fun f_8668 H locs ef_8668 Y => ?_)
        have p_ad_1_0 := p_ad_1_0.up ef_8668 (I.ne (k := 1) (j := 0) (k' := 1) (j' := 1) (by decide) (by decide) (Or.inr (by decide)))
        have p_ad_1_1 := p_ad_1_1.me ef_8668
        have I := I.up (k := 1) (j := 1) (by decide) ef_8668 (okE_o (okFs_c okV_r (okFs_c okV_r (okFs_c okV_r (okFs_c okV_r (okFs_c okV_r (okFs_c okV_r (okFs_c okV_r (okFs_c okV_r (okFs_c okV_r (okFs_c okV_r (okFs_c (okV_i (bn_w b_8647 (by decide))) (okFs_c (okV_p (q := stf tc 1 (tc 0) 1) (by rw [stf_s]; exact b_8649)) (okFs_c (okV_i (bn_w (bn_any v_8650) (by decide))) (okFs_c (okV_i b_8663) (okFs_c (okV_i b_8665) okFs_n))))))))))))))))
        refine lv_aload_n hx hb dX10_takeOver_186 rfl (lv_at hl 0 rfl) ?_
        refine lv_aload_n hx hb dX10_takeOver_187 rfl (lv_at hl 1 rfl) ?_
        refine pg_get S Y ok_X10 13 (by decide) kf10_83 (v := .int v_8652) p_ad_1_0 rfl dX10_takeOver_188 ?_
        refine pg_put S Y ok_X10 13 (by decide) kf10_83 rfl (fs' := [.ref (ad 40 1), .ref (ad 41 1), .ref (ad 42 1), .ref (ad 10 31), .ref (ad 43 1), .ref (ad 20 5), .ref (ad 20 6), .ref (ad 20 7), .ref (ad 20 8), .ref (ad 20 9), .int v_8646, .int v_8648, .int v_8650, .int v_8652, .int v_8664]) (v := .int v_8652) p_ad_1_1 rfl rfl rfl (Nat.le_of_ble_eq_true rfl) dX10_takeOver_191 (fun f_8669 H locs ef_8669 Y => ?_)
        have p_ad_1_0 := p_ad_1_0.up ef_8669 (I.ne (k := 1) (j := 0) (k' := 1) (j' := 1) (by decide) (by decide) (Or.inr (by decide)))
        have p_ad_1_1 := p_ad_1_1.me ef_8669
        have I := I.up (k := 1) (j := 1) (by decide) ef_8669 (okE_o (okFs_c okV_r (okFs_c okV_r (okFs_c okV_r (okFs_c okV_r (okFs_c okV_r (okFs_c okV_r (okFs_c okV_r (okFs_c okV_r (okFs_c okV_r (okFs_c okV_r (okFs_c (okV_i (bn_w b_8647 (by decide))) (okFs_c (okV_p (q := stf tc 1 (tc 0) 1) (by rw [stf_s]; exact b_8649)) (okFs_c (okV_i (bn_w (bn_any v_8650) (by decide))) (okFs_c (okV_i (bn_w b_8653 (by decide))) (okFs_c (okV_i b_8665) okFs_n))))))))))))))))
        refine lv_aload_n hx hb dX10_takeOver_194 rfl (lv_at hl 0 rfl) ?_
        refine lv_aload_n hx hb dX10_takeOver_195 rfl (lv_at hl 1 rfl) ?_
        refine pg_get S Y ok_X10 14 (by decide) kf10_86 (v := .int v_8654) p_ad_1_0 rfl dX10_takeOver_196 ?_
        refine pg_put S Y ok_X10 14 (by decide) kf10_86 rfl (fs' := [.ref (ad 40 1), .ref (ad 41 1), .ref (ad 42 1), .ref (ad 10 31), .ref (ad 43 1), .ref (ad 20 5), .ref (ad 20 6), .ref (ad 20 7), .ref (ad 20 8), .ref (ad 20 9), .int v_8646, .int v_8648, .int v_8650, .int v_8652, .int v_8654]) (v := .int v_8654) p_ad_1_1 rfl rfl rfl (Nat.le_of_ble_eq_true rfl) dX10_takeOver_199 (fun f_8670 H locs ef_8670 Y => ?_)
        have p_ad_1_0 := p_ad_1_0.up ef_8670 (I.ne (k := 1) (j := 0) (k' := 1) (j' := 1) (by decide) (by decide) (Or.inr (by decide)))
        have p_ad_1_1 := p_ad_1_1.me ef_8670
        have I := I.up (k := 1) (j := 1) (by decide) ef_8670 (okE_o (okFs_c okV_r (okFs_c okV_r (okFs_c okV_r (okFs_c okV_r (okFs_c okV_r (okFs_c okV_r (okFs_c okV_r (okFs_c okV_r (okFs_c okV_r (okFs_c okV_r (okFs_c (okV_i (bn_w b_8647 (by decide))) (okFs_c (okV_p (q := stf tc 1 (tc 0) 1) (by rw [stf_s]; exact b_8649)) (okFs_c (okV_i (bn_w (bn_any v_8650) (by decide))) (okFs_c (okV_i (bn_w b_8653 (by decide))) (okFs_c (okV_i (bn_w b_8655 (by decide))) okFs_n))))))))))))))))
        exact prV (post := fun L1 f1 => ∃ tc2 : Nat → Int × Int, ∃ w2 : Nat → Int × Int, ∃ q2 : Nat → (Nat → Int32) → Prop, SH (spC rs fc tc2 w2 q2) nnC G ad L1 f1 ∧ tc2 1 = tc 0 ∧ (∀ k, k ≠ 1 → tc2 k = tc k) ∧ w2 5 = w 0 ∧ w2 6 = w 1 ∧ w2 7 = w 2 ∧ w2 8 = w 3 ∧ w2 9 = w 4 ∧ (∀ k, (k < 5 ∨ 10 ≤ k) → w2 k = w k) ∧ q2 5 = q 0 ∧ q2 6 = q 1 ∧ q2 7 = q 2 ∧ q2 8 = q 3 ∧ q2 9 = q 4 ∧ (∀ k, (k < 5 ∨ 10 ≤ k) → q2 k = q k) ∧ WBp tc2 4 ∧ WBp w2 8 ∧ QIp q2) S Y (by decide) (by decide) hA1 ⟨stf tc 1 (tc 0), w2_8638, q2_8639, I, stf_s, fun k h => stf_n h, by rw [e2_8641 _ (by decide), e2_8610 _ (by decide), e2_8579 _ (by decide), e2_8548 _ (by decide), e1_8516], by rw [e2_8641 _ (by decide), e2_8610 _ (by decide), e2_8579 _ (by decide), e1_8547, e2_8517 _ (by decide)], by rw [e2_8641 _ (by decide), e2_8610 _ (by decide), e1_8578, e2_8548 _ (by decide), e2_8517 _ (by decide)], by rw [e2_8641 _ (by decide), e1_8609, e2_8579 _ (by decide), e2_8548 _ (by decide), e2_8517 _ (by decide)], by rw [e1_8640, e2_8610 _ (by decide), e2_8579 _ (by decide), e2_8548 _ (by decide), e2_8517 _ (by decide)], fun k h => by rw [e2_8641 _ (by omega), e2_8610 _ (by omega), e2_8579 _ (by omega), e2_8548 _ (by omega), e2_8517 _ (by omega)], by rw [e4_8643 _ (by decide), e4_8612 _ (by decide), e4_8581 _ (by decide), e4_8550 _ (by decide), e3_8518], by rw [e4_8643 _ (by decide), e4_8612 _ (by decide), e4_8581 _ (by decide), e3_8549, e4_8519 _ (by decide)], by rw [e4_8643 _ (by decide), e4_8612 _ (by decide), e3_8580, e4_8550 _ (by decide), e4_8519 _ (by decide)], by rw [e4_8643 _ (by decide), e3_8611, e4_8581 _ (by decide), e4_8550 _ (by decide), e4_8519 _ (by decide)], by rw [e3_8642, e4_8612 _ (by decide), e4_8581 _ (by decide), e4_8550 _ (by decide), e4_8519 _ (by decide)], fun k h => by rw [e4_8643 _ (by omega), e4_8612 _ (by omega), e4_8581 _ (by omega), e4_8550 _ (by omega), e4_8519 _ (by omega)], WI_stf hT, eW_8644, eQ_8645⟩ dX10_takeOver_202
      · have B_8468 : bn 0 29 y69_2 := bn_w (bn_gtr c_8466 (show bn 30 30 (30 : Int32) from bn_k (by decide)) b_y69_2) (by decide)
        refine lv_aload_n hx hb dX10_takeOver_75 rfl (lv_at hl 0 rfl) ?_
        obtain ⟨v_8671, v_8673, v_8675, v_8677, v_8679, p_ad_1_1, b_8672, b_8674, b_8676, b_8678, b_8680⟩ := opnC_1 (j := 1) I (by decide)
        have p_ad_1_1 : pt L_69 f_69 (ad 1 1) (.inr (10, [.ref (ad 40 1), .ref (ad 41 1), .ref (ad 42 1), .ref (ad 10 31), .ref (ad 43 1), .ref (ad 20 5), .ref (ad 20 6), .ref (ad 20 7), .ref (ad 20 8), .ref (ad 20 9), .int v_8671, .int v_8673, .int v_8675, .int v_8677, .int v_8679])) := p_ad_1_1
        refine pg_get S Y ok_X10 4 (by decide) kf10_31 (v := .ref (ad 43 1)) p_ad_1_1 rfl dX10_takeOver_76 ?_
        refine lv_iload_n hx hb dX10_takeOver_79 rfl (lv_at hl 2 rfl) ?_
        obtain ⟨g_8681, p_ad_43_1, o_8682⟩ := I.opr (k := 43) (j := 1) (by decide) rfl
        have p_ad_43_1 : pt L_69 f_69 (ad 43 1) (.inl (G.2 3, 30, .inr (.inr (.inr (.inr g_8681))))) := p_ad_43_1
        refine pg_aald S Y (k := 3) (o := (ad 10 (32 + y69_2.toNatClampNeg))) p_ad_43_1 rfl (vp_bn B_8468 (by decide)) (o_8682 _ (tn_bn B_8468 (by decide))) dX10_takeOver_80 ?_
        refine lv_aload_n hx hb dX10_takeOver_81 rfl (lv_at hl 1 rfl) ?_
        obtain ⟨v_8683, v_8685, v_8687, v_8689, v_8691, p_ad_1_0, b_8684, b_8686, b_8688, b_8690, b_8692⟩ := opnC_1 (j := 0) I (by decide)
        have p_ad_1_0 : pt L_69 f_69 (ad 1 0) (.inr (10, [.ref (ad 40 0), .ref (ad 41 0), .ref (ad 42 0), .ref (ad 10 0), .ref (ad 43 0), .ref (ad 20 0), .ref (ad 20 1), .ref (ad 20 2), .ref (ad 20 3), .ref (ad 20 4), .int v_8683, .int v_8685, .int v_8687, .int v_8689, .int v_8691])) := p_ad_1_0
        refine pg_get S Y ok_X10 4 (by decide) kf10_31 (v := .ref (ad 43 0)) p_ad_1_0 rfl dX10_takeOver_82 ?_
        refine lv_iload_n hx hb dX10_takeOver_85 rfl (lv_at hl 2 rfl) ?_
        obtain ⟨g_8693, p_ad_43_0, o_8694⟩ := I.opr (k := 43) (j := 0) (by decide) rfl
        have p_ad_43_0 : pt L_69 f_69 (ad 43 0) (.inl (G.2 3, 30, .inr (.inr (.inr (.inr g_8693))))) := p_ad_43_0
        refine pg_aald S Y (k := 3) (o := (ad 10 (1 + y69_2.toNatClampNeg))) p_ad_43_0 rfl (vp_bn B_8468 (by decide)) (o_8694 _ (tn_bn B_8468 (by decide))) dX10_takeOver_86 ?_
        refine cVv (As := [.ref (ad 10 (1 + y69_2.toNatClampNeg))]) (rest := []) S Y (x_X4_takeOver (l := l) (j := (32 + y69_2.toNatClampNeg)) (i := (1 + y69_2.toNatClampNeg)) I hW hT hQ (show (32 + y69_2.toNatClampNeg) < 63 from by have h9 := tn_bn (n := 30) B_8468 (by decide); omega) (show (1 + y69_2.toNatClampNeg) < 63 from by have h9 := tn_bn (n := 30) B_8468 (by decide); omega) (by omega)) cw_X4_takeOver km10_74 (I.opo (k := 10) (j := (32 + y69_2.toNatClampNeg)) (show (32 + y69_2.toNatClampNeg) < 63 from by have h9 := tn_bn (n := 30) B_8468 (by decide); omega) rfl).choose_spec.1 ok_X4.1 rfl rfl ⟨Nat.le_of_ble_eq_true rfl, Nat.le_of_ble_eq_true rfl⟩ hl.1 rfl (Nat.le_of_ble_eq_true rfl) ⟨Nat.le_of_ble_eq_true rfl, Nat.le_of_ble_eq_true rfl⟩ dX10_takeOver_87 (fun L_8695 f_8696 H locs I Y => ?_)
        obtain ⟨x_8697, ex_8697⟩ : ∃ z : Int32, z = y69_2 + 1 := ⟨_, rfl⟩
        refine lv_iinc (v := x_8697) (lv' := [(2, .int x_8697), (0, .ref (ad 1 1)), (1, .ref (ad 1 0))]) hx hb dX10_takeOver_90 hl (k := 2) rfl (by rw [ex_8697]; rfl) (by decide) rfl (fun ls hl => ?_)
        refine lv_goto (tgt := 69) hx hb dX10_takeOver_93 (by decide) ?_
        exact ih69 _ (by rw [← hm69]; exact ms_up (m := 1) ex_8697 (show bn 1 1 (1 : Int32) from bn_k (by decide)) B_8468 (bn_w (bn_eq ex_8697 (bn_add B_8468 (show bn 1 1 (1 : Int32) from bn_k (by decide)) (by decide))) (by decide) : bn 0 30 x_8697) (by decide)) x_8697 _ _  _ _ _ I (bn_w (bn_eq ex_8697 (bn_add B_8468 (show bn 1 1 (1 : Int32) from bn_k (by decide)) (by decide))) (by decide)) rfl Y (lv_sub hl [1, 2, 0] rfl)
  have J_38 : ∀ (n38 : Nat) (y38_2 : Int32) (L_38 : List Nat) (f_38 : HF) (H : Heap) (locs : List Loc) (ls : Array Slot), (SH (spC rs fc tc w q) nnC G ad L_38 f_38) → (bn 0 4 y38_2) → (((4 : Int) - y38_2.toInt).toNat = n38) → (DY G A s [] L_38 f_38 H locs) → (lv_has ls 3 [(0, .ref (ad 1 1)), (1, .ref (ad 1 0)), (2, .int y38_2)]) → W p l e (rmD 2 0 0) s m args below meth c H locs (0) (0) (MQ below (va_Qv (fun (u : List Nat × HF) => (fun L1 f1 => ∃ tc2 : Nat → Int × Int, ∃ w2 : Nat → Int × Int, ∃ q2 : Nat → (Nat → Int32) → Prop, SH (spC rs fc tc2 w2 q2) nnC G ad L1 f1 ∧ tc2 1 = tc 0 ∧ (∀ k, k ≠ 1 → tc2 k = tc k) ∧ w2 5 = w 0 ∧ w2 6 = w 1 ∧ w2 7 = w 2 ∧ w2 8 = w 3 ∧ w2 9 = w 4 ∧ (∀ k, (k < 5 ∨ 10 ≤ k) → w2 k = w k) ∧ q2 5 = q 0 ∧ q2 6 = q 1 ∧ q2 7 = q 2 ∧ q2 8 = q 3 ∧ q2 9 = q 4 ∧ (∀ k, (k < 5 ∨ 10 ≤ k) → q2 k = q k) ∧ WBp tc2 4 ∧ WBp w2 8 ∧ QIp q2) u.1 u.2) (fun u t => pOut G (va_A (va_pl L f) sz) u.1 u.2 t) (va_A (va_pl L f) sz)) args s 0 0 A) (F0 m 38 ls []) := by
    intro n38
    induction n38 using Nat.strongRecOn with
    | _ n38 ih38 =>
      intro y38_2 L_38 f_38 H locs ls I b_y38_2 hm38 Y hl
      refine lv_iload_n hx hb dX10_takeOver_38 rfl (lv_at hl 2 rfl) ?_
      refine lv_aload_n hx hb dX10_takeOver_39 rfl (lv_at hl 1 rfl) ?_
      obtain ⟨v_8698, v_8700, v_8702, v_8704, v_8706, p_ad_1_0, b_8699, b_8701, b_8703, b_8705, b_8707⟩ := opnC_1 (j := 0) I (by decide)
      have p_ad_1_0 : pt L_38 f_38 (ad 1 0) (.inr (10, [.ref (ad 40 0), .ref (ad 41 0), .ref (ad 42 0), .ref (ad 10 0), .ref (ad 43 0), .ref (ad 20 0), .ref (ad 20 1), .ref (ad 20 2), .ref (ad 20 3), .ref (ad 20 4), .int v_8698, .int v_8700, .int v_8702, .int v_8704, .int v_8706])) := p_ad_1_0
      refine pg_get S Y ok_X10 11 (by decide) kf10_67 (v := .int v_8700) p_ad_1_0 rfl dX10_takeOver_40 ?_
      refine lv_icmp_ge (tgt := 67) hx hb dX10_takeOver_43 (by decide) (fun c_8708 => ?_) (fun c_8708 => ?_)
      · refine lv_iconst (v := 0) hx hb dX10_takeOver_67 (by decide) ?_
        refine lv_istore_n (lv' := [(2, .int 0), (0, .ref (ad 1 1)), (1, .ref (ad 1 0))]) hx hb dX10_takeOver_68 rfl hl (by decide) rfl (fun ls hl => ?_)
        exact J_69 _ 0 _ _  _ _ _ I (bn_w (show bn 0 0 (0 : Int32) from bn_k (by decide)) (by decide)) rfl Y (lv_sub hl [1, 2, 0] rfl)
      · have B_8709 : bn 1 4 v_8700 := bn_w (bn_gtl c_8708 (bn_w (a' := 0) (b' := 4) b_8701 (hT 0)) b_y38_2) (by decide)
        have B_8710 : bn 0 3 y38_2 := bn_w (bn_gtr c_8708 (bn_w (a' := 0) (b' := 4) b_8701 (hT 0)) b_y38_2) (by decide)
        refine lv_aload_n hx hb dX10_takeOver_46 rfl (lv_at hl 0 rfl) ?_
        obtain ⟨v_8711, v_8713, v_8715, v_8717, v_8719, p_ad_1_1, b_8712, b_8714, b_8716, b_8718, b_8720⟩ := opnC_1 (j := 1) I (by decide)
        have p_ad_1_1 : pt L_38 f_38 (ad 1 1) (.inr (10, [.ref (ad 40 1), .ref (ad 41 1), .ref (ad 42 1), .ref (ad 10 31), .ref (ad 43 1), .ref (ad 20 5), .ref (ad 20 6), .ref (ad 20 7), .ref (ad 20 8), .ref (ad 20 9), .int v_8711, .int v_8713, .int v_8715, .int v_8717, .int v_8719])) := p_ad_1_1
        refine pg_get S Y ok_X10 2 (by decide) kf10_20 (v := .ref (ad 42 1)) p_ad_1_1 rfl dX10_takeOver_47 ?_
        refine lv_iload_n hx hb dX10_takeOver_50 rfl (lv_at hl 2 rfl) ?_
        obtain ⟨g_8721, p_ad_42_1, o_8722⟩ := I.opr (k := 42) (j := 1) (by decide) rfl
        have p_ad_42_1 : pt L_38 f_38 (ad 42 1) (.inl (G.2 4, 4, .inr (.inr (.inr (.inr g_8721))))) := p_ad_42_1
        refine pg_aald S Y (k := 4) (o := (ad 30 (4 + y38_2.toNatClampNeg))) p_ad_42_1 rfl (vp_bn B_8710 (by decide)) (o_8722 _ (tn_bn B_8710 (by decide))) dX10_takeOver_51 ?_
        refine lv_aload_n hx hb dX10_takeOver_52 rfl (lv_at hl 1 rfl) ?_
        refine pg_get S Y ok_X10 2 (by decide) kf10_20 (v := .ref (ad 42 0)) p_ad_1_0 rfl dX10_takeOver_53 ?_
        refine lv_iload_n hx hb dX10_takeOver_56 rfl (lv_at hl 2 rfl) ?_
        obtain ⟨g_8723, p_ad_42_0, o_8724⟩ := I.opr (k := 42) (j := 0) (by decide) rfl
        have p_ad_42_0 : pt L_38 f_38 (ad 42 0) (.inl (G.2 4, 4, .inr (.inr (.inr (.inr g_8723))))) := p_ad_42_0
        refine pg_aald S Y (k := 4) (o := (ad 30 y38_2.toNatClampNeg)) p_ad_42_0 rfl (vp_bn B_8710 (by decide)) (aal0 (o_8724 _ (tn_bn B_8710 (by decide)))) dX10_takeOver_57 ?_
        refine cVv (As := [.ref (ad 30 y38_2.toNatClampNeg)]) (rest := []) S Y (x_X7_takeOver (l := l) (j := (4 + y38_2.toNatClampNeg)) (i := y38_2.toNatClampNeg) I hW hT hQ (show (4 + y38_2.toNatClampNeg) < 8 from by have h9 := tn_bn (n := 4) B_8710 (by decide); omega) (show y38_2.toNatClampNeg < 8 from by have h9 := tn_bn (n := 4) B_8710 (by decide); omega) (by omega)) cw_X7_takeOver km10_70 (I.opo (k := 30) (j := (4 + y38_2.toNatClampNeg)) (show (4 + y38_2.toNatClampNeg) < 8 from by have h9 := tn_bn (n := 4) B_8710 (by decide); omega) rfl).choose_spec.1 ok_X7.1 rfl rfl ⟨Nat.le_of_ble_eq_true rfl, Nat.le_of_ble_eq_true rfl⟩ hl.1 rfl (Nat.le_of_ble_eq_true rfl) ⟨Nat.le_of_ble_eq_true rfl, Nat.le_of_ble_eq_true rfl⟩ dX10_takeOver_58 (fun L_8725 f_8726 H locs I Y => ?_)
        obtain ⟨x_8727, ex_8727⟩ : ∃ z : Int32, z = y38_2 + 1 := ⟨_, rfl⟩
        refine lv_iinc (v := x_8727) (lv' := [(2, .int x_8727), (0, .ref (ad 1 1)), (1, .ref (ad 1 0))]) hx hb dX10_takeOver_61 hl (k := 2) rfl (by rw [ex_8727]; rfl) (by decide) rfl (fun ls hl => ?_)
        refine lv_goto (tgt := 38) hx hb dX10_takeOver_64 (by decide) ?_
        exact ih38 _ (by rw [← hm38]; exact ms_up (m := 1) ex_8727 (show bn 1 1 (1 : Int32) from bn_k (by decide)) B_8710 (bn_w (bn_eq ex_8727 (bn_add B_8710 (show bn 1 1 (1 : Int32) from bn_k (by decide)) (by decide))) (by decide) : bn 0 4 x_8727) (by decide)) x_8727 _ _  _ _ _ I (bn_w (bn_eq ex_8727 (bn_add B_8710 (show bn 1 1 (1 : Int32) from bn_k (by decide)) (by decide))) (by decide)) rfl Y (lv_sub hl [1, 2, 0] rfl)
  refine lv_aload_n hx hb dX10_takeOver_0 rfl (lv_at hl 1 rfl) ?_
  obtain ⟨v_8728, v_8730, v_8732, v_8734, v_8736, p_ad_1_0, b_8729, b_8731, b_8733, b_8735, b_8737⟩ := opnC_1 (j := 0) I (by decide)
  have p_ad_1_0 : pt L f (ad 1 0) (.inr (10, [.ref (ad 40 0), .ref (ad 41 0), .ref (ad 42 0), .ref (ad 10 0), .ref (ad 43 0), .ref (ad 20 0), .ref (ad 20 1), .ref (ad 20 2), .ref (ad 20 3), .ref (ad 20 4), .int v_8728, .int v_8730, .int v_8732, .int v_8734, .int v_8736])) := p_ad_1_0
  refine pg_get S Y ok_X10 0 (by decide) kf10_9 (v := .ref (ad 40 0)) p_ad_1_0 rfl dX10_takeOver_1 ?_
  refine lv_iconst (v := 0) hx hb dX10_takeOver_4 (by decide) ?_
  refine lv_aload_n hx hb dX10_takeOver_5 rfl (lv_at hl 0 rfl) ?_
  obtain ⟨v_8738, v_8740, v_8742, v_8744, v_8746, p_ad_1_1, b_8739, b_8741, b_8743, b_8745, b_8747⟩ := opnC_1 (j := 1) I (by decide)
  have p_ad_1_1 : pt L f (ad 1 1) (.inr (10, [.ref (ad 40 1), .ref (ad 41 1), .ref (ad 42 1), .ref (ad 10 31), .ref (ad 43 1), .ref (ad 20 5), .ref (ad 20 6), .ref (ad 20 7), .ref (ad 20 8), .ref (ad 20 9), .int v_8738, .int v_8740, .int v_8742, .int v_8744, .int v_8746])) := p_ad_1_1
  refine pg_get S Y ok_X10 0 (by decide) kf10_9 (v := .ref (ad 40 1)) p_ad_1_1 rfl dX10_takeOver_6 ?_
  refine lv_iconst (v := 0) hx hb dX10_takeOver_9 (by decide) ?_
  refine lv_aload_n hx hb dX10_takeOver_10 rfl (lv_at hl 0 rfl) ?_
  refine pg_get S Y ok_X10 0 (by decide) kf10_9 (v := .ref (ad 40 1)) p_ad_1_1 rfl dX10_takeOver_11 ?_
  obtain ⟨g_8748, p_ad_40_1, o_8749⟩ := I.opi (k := 40) (j := 1) (by decide) rfl
  have p_ad_40_1 : pt L f (ad 40 1) (.inl (G.2 0, 6, .inl g_8748)) := p_ad_40_1
  refine pg_alen S Y (k := 0) (v := 6) p_ad_40_1 rfl rfl dX10_takeOver_14 ?_
  obtain ⟨g_8750, p_ad_40_0, o_8751⟩ := I.opi (k := 40) (j := 0) (by decide) rfl
  have p_ad_40_0 : pt L f (ad 40 0) (.inl (G.2 0, 6, .inl g_8750)) := p_ad_40_0
  refine pg_copyi S Y hl.1 km10_61 kAn kAs kAi p_ad_40_0 p_ad_40_1 (by decide) (by decide) (by decide) (by decide) (by decide) (Nat.le_of_ble_eq_true rfl) (Nat.le_of_ble_eq_true rfl) dX10_takeOver_15 (fun f_8753 H locs ef_8753 Y => ?_)
  obtain ⟨g_8752, eg_8752⟩ : ∃ z, z = va_cpy (g_8750) (g_8748) (0 : Int32).toNatClampNeg (0 : Int32).toNatClampNeg (6 : Int32).toNatClampNeg := ⟨_, rfl⟩
  rw [← eg_8752] at ef_8753
  have p_ad_1_0 := p_ad_1_0.up ef_8753 (I.ne (k := 1) (j := 0) (k' := 40) (j' := 1) (by decide) (by decide) (Or.inl (by decide)))
  have p_ad_1_1 := p_ad_1_1.up ef_8753 (I.ne (k := 1) (j := 1) (k' := 40) (j' := 1) (by decide) (by decide) (Or.inl (by decide)))
  have p_ad_40_0 := p_ad_40_0.up ef_8753 (I.ne (k := 40) (j := 0) (k' := 40) (j' := 1) (by decide) (by decide) (Or.inr (by decide)))
  have p_ad_40_1 := p_ad_40_1.me ef_8753
  have I := I.up (k := 40) (j := 1) (by decide) ef_8753 (okE_a (g := g_8752) trivial)
  refine lv_aload_n hx hb dX10_takeOver_18 rfl (lv_at hl 1 rfl) ?_
  refine pg_get S Y ok_X10 1 (by decide) kf10_15 (v := .ref (ad 41 0)) p_ad_1_0 rfl dX10_takeOver_19 ?_
  refine lv_iconst (v := 0) hx hb dX10_takeOver_22 (by decide) ?_
  refine lv_aload_n hx hb dX10_takeOver_23 rfl (lv_at hl 0 rfl) ?_
  refine pg_get S Y ok_X10 1 (by decide) kf10_15 (v := .ref (ad 41 1)) p_ad_1_1 rfl dX10_takeOver_24 ?_
  refine lv_iconst (v := 0) hx hb dX10_takeOver_27 (by decide) ?_
  refine lv_aload_n hx hb dX10_takeOver_28 rfl (lv_at hl 0 rfl) ?_
  refine pg_get S Y ok_X10 1 (by decide) kf10_15 (v := .ref (ad 41 1)) p_ad_1_1 rfl dX10_takeOver_29 ?_
  obtain ⟨g_8754, p_ad_41_1, o_8755⟩ := I.opi (k := 41) (j := 1) (by decide) rfl
  have p_ad_41_1 : pt L f_8753 (ad 41 1) (.inl (G.2 0, 6, .inl g_8754)) := p_ad_41_1
  refine pg_alen S Y (k := 0) (v := 6) p_ad_41_1 rfl rfl dX10_takeOver_32 ?_
  obtain ⟨g_8756, p_ad_41_0, o_8757⟩ := I.opi (k := 41) (j := 0) (by decide) rfl
  have p_ad_41_0 : pt L f_8753 (ad 41 0) (.inl (G.2 0, 6, .inl g_8756)) := p_ad_41_0
  refine pg_copyi S Y hl.1 km10_61 kAn kAs kAi p_ad_41_0 p_ad_41_1 (by decide) (by decide) (by decide) (by decide) (by decide) (Nat.le_of_ble_eq_true rfl) (Nat.le_of_ble_eq_true rfl) dX10_takeOver_33 (fun f_8759 H locs ef_8759 Y => ?_)
  obtain ⟨g_8758, eg_8758⟩ : ∃ z, z = va_cpy (g_8756) (g_8754) (0 : Int32).toNatClampNeg (0 : Int32).toNatClampNeg (6 : Int32).toNatClampNeg := ⟨_, rfl⟩
  rw [← eg_8758] at ef_8759
  have p_ad_1_0 := p_ad_1_0.up ef_8759 (I.ne (k := 1) (j := 0) (k' := 41) (j' := 1) (by decide) (by decide) (Or.inl (by decide)))
  have p_ad_1_1 := p_ad_1_1.up ef_8759 (I.ne (k := 1) (j := 1) (k' := 41) (j' := 1) (by decide) (by decide) (Or.inl (by decide)))
  have p_ad_40_1 := p_ad_40_1.up ef_8759 (I.ne (k := 40) (j := 1) (k' := 41) (j' := 1) (by decide) (by decide) (Or.inl (by decide)))
  have p_ad_40_0 := p_ad_40_0.up ef_8759 (I.ne (k := 40) (j := 0) (k' := 41) (j' := 1) (by decide) (by decide) (Or.inl (by decide)))
  have p_ad_41_0 := p_ad_41_0.up ef_8759 (I.ne (k := 41) (j := 0) (k' := 41) (j' := 1) (by decide) (by decide) (Or.inr (by decide)))
  have p_ad_41_1 := p_ad_41_1.me ef_8759
  have I := I.up (k := 41) (j := 1) (by decide) ef_8759 (okE_a (g := g_8758) trivial)
  refine lv_iconst (v := 0) hx hb dX10_takeOver_36 (by decide) ?_
  refine lv_istore_n (lv' := [(2, .int 0), (0, .ref (ad 1 1)), (1, .ref (ad 1 0))]) hx hb dX10_takeOver_37 rfl hl (by decide) rfl (fun ls hl => ?_)
  exact J_38 _ 0 _ _  _ _ _ I (bn_w (show bn 0 0 (0 : Int32) from bn_k (by decide)) (by decide)) rfl Y (lv_sub hl [1, 2, 0] rfl)
