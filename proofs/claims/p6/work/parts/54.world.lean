theorem dX10_has_0 : decode cX10_has 0 = .ok (.iload_n 1, 1) := by decide +kernel
theorem dX10_has_1 : decode cX10_has 1 = .ok (.ifCond .lt 15, 3) := by decide +kernel
theorem dX10_has_16 : decode cX10_has 16 = .ok (.iconst 0, 1) := by decide +kernel
theorem dX10_has_17 : decode cX10_has 17 = .ok (.ireturn, 1) := by decide +kernel
theorem dX10_has_4 : decode cX10_has 4 = .ok (.iload_n 1, 1) := by decide +kernel
theorem dX10_has_5 : decode cX10_has 5 = .ok (.aload_n 0, 1) := by decide +kernel
theorem dX10_has_6 : decode cX10_has 6 = .ok (.getfield 80, 3) := by decide +kernel
theorem ok_X10 : clOK 10 RX10 TX10 15 tyX10 := ⟨rfl, fun w h => ⟨(show ∀ w ∈ u_ws RX10 TX10 15, w ∈ lw_tbl by decide +kernel) w h, (show ∀ w ∈ u_ws RX10 TX10 15, gw w = true by decide +kernel) w h⟩, tyX10_ok, nmX10⟩
theorem kf10_80 : inW (Cond.fieldLink RX10 80 "KneeOaths$World" "people" "I") := ⟨List.mem_of_getElem? (i := 288) (by decide +kernel), by decide +kernel⟩
theorem dX10_has_9 : decode cX10_has 9 = .ok (.if_icmp .ge 7, 3) := by decide +kernel
theorem dX10_has_12 : decode cX10_has 12 = .ok (.iconst 1, 1) := by decide +kernel
theorem dX10_has_13 : decode cX10_has 13 = .ok (.goto 4, 3) := by decide +kernel
theorem dX10_toughOf_0 : decode cX10_toughOf 0 = .ok (.iload_n 1, 1) := by decide +kernel
theorem dX10_toughOf_1 : decode cX10_toughOf 1 = .ok (.ifCond .lt 20, 3) := by decide +kernel
theorem dX10_toughOf_21 : decode cX10_toughOf 21 = .ok (.iconst 0, 1) := by decide +kernel
theorem dX10_toughOf_22 : decode cX10_toughOf 22 = .ok (.ireturn, 1) := by decide +kernel
theorem dX10_toughOf_4 : decode cX10_toughOf 4 = .ok (.iload_n 1, 1) := by decide +kernel
theorem dX10_toughOf_5 : decode cX10_toughOf 5 = .ok (.aload_n 0, 1) := by decide +kernel
theorem dX10_toughOf_6 : decode cX10_toughOf 6 = .ok (.getfield 80, 3) := by decide +kernel
theorem dX10_toughOf_9 : decode cX10_toughOf 9 = .ok (.if_icmp .ge 12, 3) := by decide +kernel
theorem dX10_toughOf_12 : decode cX10_toughOf 12 = .ok (.aload_n 0, 1) := by decide +kernel
theorem dX10_toughOf_13 : decode cX10_toughOf 13 = .ok (.getfield 9, 3) := by decide +kernel
theorem kf10_9 : inW (Cond.fieldLink RX10 9 "KneeOaths$World" "toughs" "[I") := ⟨List.mem_of_getElem? (i := 261) (by decide +kernel), by decide +kernel⟩
theorem dX10_toughOf_16 : decode cX10_toughOf 16 = .ok (.iload_n 1, 1) := by decide +kernel
theorem dX10_toughOf_17 : decode cX10_toughOf 17 = .ok (.iaload, 1) := by decide +kernel
theorem dX10_toughOf_18 : decode cX10_toughOf 18 = .ok (.goto 4, 3) := by decide +kernel
theorem dX10_ageOf_0 : decode cX10_ageOf 0 = .ok (.iload_n 1, 1) := by decide +kernel
theorem dX10_ageOf_1 : decode cX10_ageOf 1 = .ok (.ifCond .lt 20, 3) := by decide +kernel
theorem dX10_ageOf_21 : decode cX10_ageOf 21 = .ok (.iconst 0, 1) := by decide +kernel
theorem dX10_ageOf_22 : decode cX10_ageOf 22 = .ok (.ireturn, 1) := by decide +kernel
theorem dX10_ageOf_4 : decode cX10_ageOf 4 = .ok (.iload_n 1, 1) := by decide +kernel
theorem dX10_ageOf_5 : decode cX10_ageOf 5 = .ok (.aload_n 0, 1) := by decide +kernel
theorem dX10_ageOf_6 : decode cX10_ageOf 6 = .ok (.getfield 80, 3) := by decide +kernel
theorem dX10_ageOf_9 : decode cX10_ageOf 9 = .ok (.if_icmp .ge 12, 3) := by decide +kernel
theorem dX10_ageOf_12 : decode cX10_ageOf 12 = .ok (.aload_n 0, 1) := by decide +kernel
theorem dX10_ageOf_13 : decode cX10_ageOf 13 = .ok (.getfield 15, 3) := by decide +kernel
theorem kf10_15 : inW (Cond.fieldLink RX10 15 "KneeOaths$World" "ages" "[I") := ⟨List.mem_of_getElem? (i := 262) (by decide +kernel), by decide +kernel⟩
theorem dX10_ageOf_16 : decode cX10_ageOf 16 = .ok (.iload_n 1, 1) := by decide +kernel
theorem dX10_ageOf_17 : decode cX10_ageOf 17 = .ok (.iaload, 1) := by decide +kernel
theorem dX10_ageOf_18 : decode cX10_ageOf 18 = .ok (.goto 4, 3) := by decide +kernel
theorem dX10_welcome_0 : decode cX10_welcome 0 = .ok (.aload_n 0, 1) := by decide +kernel
theorem dX10_welcome_1 : decode cX10_welcome 1 = .ok (.getfield 80, 3) := by decide +kernel
theorem dX10_welcome_4 : decode cX10_welcome 4 = .ok (.bipush 6, 2) := by decide +kernel
theorem dX10_welcome_6 : decode cX10_welcome 6 = .ok (.if_icmp .ge 23, 3) := by decide +kernel
theorem dX10_welcome_29 : decode cX10_welcome 29 = .ok (.iconst (-1), 1) := by decide +kernel
theorem dX10_welcome_30 : decode cX10_welcome 30 = .ok (.ireturn, 1) := by decide +kernel
theorem dX10_welcome_9 : decode cX10_welcome 9 = .ok (.iload_n 1, 1) := by decide +kernel
theorem dX10_welcome_10 : decode cX10_welcome 10 = .ok (.iconst 0, 1) := by decide +kernel
theorem dX10_welcome_11 : decode cX10_welcome 11 = .ok (.bipush 9, 2) := by decide +kernel
theorem dX10_welcome_13 : decode cX10_welcome 13 = .ok (.invokestatic 89, 3) := by decide +kernel
theorem cw_X11_within : CWs yX11_within cX11_within 3 (some .boolean) 3 := ⟨⟨⟨List.mem_of_getElem? (i := 124) (by decide +kernel), by decide +kernel⟩, ⟨List.mem_of_getElem? (i := 543) (by decide +kernel), by decide +kernel⟩, by decide +kernel⟩, ⟨List.mem_of_getElem? (i := 542) (by decide +kernel), by decide +kernel⟩⟩
theorem km10_89 : inW (Cond.methodLinkNest RX10 89 yX11_within "KneeOaths") := ⟨List.mem_of_getElem? (i := 541) (by decide +kernel), by decide +kernel⟩
theorem dX10_welcome_16 : decode cX10_welcome 16 = .ok (.ifCond .eq 13, 3) := by decide +kernel
theorem dX10_welcome_19 : decode cX10_welcome 19 = .ok (.iload_n 2, 1) := by decide +kernel
theorem dX10_welcome_20 : decode cX10_welcome 20 = .ok (.iconst 0, 1) := by decide +kernel
theorem dX10_welcome_21 : decode cX10_welcome 21 = .ok (.bipush 99, 2) := by decide +kernel
theorem dX10_welcome_23 : decode cX10_welcome 23 = .ok (.invokestatic 89, 3) := by decide +kernel
theorem dX10_welcome_26 : decode cX10_welcome 26 = .ok (.ifCond .ne 5, 3) := by decide +kernel
theorem dX10_welcome_31 : decode cX10_welcome 31 = .ok (.aload_n 0, 1) := by decide +kernel
theorem dX10_welcome_32 : decode cX10_welcome 32 = .ok (.getfield 9, 3) := by decide +kernel
theorem dX10_welcome_35 : decode cX10_welcome 35 = .ok (.aload_n 0, 1) := by decide +kernel
theorem dX10_welcome_36 : decode cX10_welcome 36 = .ok (.getfield 80, 3) := by decide +kernel
theorem dX10_welcome_39 : decode cX10_welcome 39 = .ok (.iload_n 1, 1) := by decide +kernel
theorem dX10_welcome_40 : decode cX10_welcome 40 = .ok (.iastore, 1) := by decide +kernel
theorem dX10_welcome_41 : decode cX10_welcome 41 = .ok (.aload_n 0, 1) := by decide +kernel
theorem dX10_welcome_42 : decode cX10_welcome 42 = .ok (.getfield 15, 3) := by decide +kernel
theorem dX10_welcome_45 : decode cX10_welcome 45 = .ok (.aload_n 0, 1) := by decide +kernel
theorem dX10_welcome_46 : decode cX10_welcome 46 = .ok (.getfield 80, 3) := by decide +kernel
theorem dX10_welcome_49 : decode cX10_welcome 49 = .ok (.iload_n 2, 1) := by decide +kernel
theorem dX10_welcome_50 : decode cX10_welcome 50 = .ok (.iastore, 1) := by decide +kernel
theorem dX10_welcome_51 : decode cX10_welcome 51 = .ok (.aload_n 0, 1) := by decide +kernel
theorem dX10_welcome_52 : decode cX10_welcome 52 = .ok (.dup, 1) := by decide +kernel
theorem dX10_welcome_53 : decode cX10_welcome 53 = .ok (.getfield 80, 3) := by decide +kernel
theorem dX10_welcome_56 : decode cX10_welcome 56 = .ok (.iconst 1, 1) := by decide +kernel
theorem dX10_welcome_57 : decode cX10_welcome 57 = .ok (.iadd, 1) := by decide +kernel
theorem dX10_welcome_58 : decode cX10_welcome 58 = .ok (.putfield 80, 3) := by decide +kernel
theorem dX10_welcome_61 : decode cX10_welcome 61 = .ok (.aload_n 0, 1) := by decide +kernel
theorem dX10_welcome_62 : decode cX10_welcome 62 = .ok (.getfield 80, 3) := by decide +kernel
theorem dX10_welcome_65 : decode cX10_welcome 65 = .ok (.iconst 1, 1) := by decide +kernel
theorem dX10_welcome_66 : decode cX10_welcome 66 = .ok (.isub, 1) := by decide +kernel
theorem dX10_welcome_67 : decode cX10_welcome 67 = .ok (.ireturn, 1) := by decide +kernel
theorem dX10_script_0 : decode cX10_script 0 = .ok (.iload_n 1, 1) := by decide +kernel
theorem dX10_script_1 : decode cX10_script 1 = .ok (.ifCond .lt 20, 3) := by decide +kernel
theorem dX10_script_21 : decode cX10_script 21 = .ok (.aconst_null, 1) := by decide +kernel
theorem dX10_script_22 : decode cX10_script 22 = .ok (.areturn, 1) := by decide +kernel
theorem dX10_script_4 : decode cX10_script 4 = .ok (.iload_n 1, 1) := by decide +kernel
theorem dX10_script_5 : decode cX10_script 5 = .ok (.aload_n 0, 1) := by decide +kernel
theorem dX10_script_6 : decode cX10_script 6 = .ok (.getfield 67, 3) := by decide +kernel
theorem kf10_67 : inW (Cond.fieldLink RX10 67 "KneeOaths$World" "textCount" "I") := ⟨List.mem_of_getElem? (i := 293) (by decide +kernel), by decide +kernel⟩
theorem dX10_script_9 : decode cX10_script 9 = .ok (.if_icmp .ge 12, 3) := by decide +kernel
theorem dX10_script_12 : decode cX10_script 12 = .ok (.aload_n 0, 1) := by decide +kernel
theorem dX10_script_13 : decode cX10_script 13 = .ok (.getfield 20, 3) := by decide +kernel
theorem kf10_20 : inW (Cond.fieldLink RX10 20 "KneeOaths$World" "scripts" "[LKneeOaths$Script;") := ⟨List.mem_of_getElem? (i := 263) (by decide +kernel), by decide +kernel⟩
theorem dX10_script_16 : decode cX10_script 16 = .ok (.iload_n 1, 1) := by decide +kernel
theorem dX10_script_17 : decode cX10_script 17 = .ok (.aaload, 1) := by decide +kernel
theorem dX10_script_18 : decode cX10_script 18 = .ok (.goto 4, 3) := by decide +kernel
theorem dX10_freeScript_0 : decode cX10_freeScript 0 = .ok (.aload_n 0, 1) := by decide +kernel
theorem dX10_freeScript_1 : decode cX10_freeScript 1 = .ok (.getfield 67, 3) := by decide +kernel
theorem dX10_freeScript_4 : decode cX10_freeScript 4 = .ok (.iconst 4, 1) := by decide +kernel
theorem dX10_freeScript_5 : decode cX10_freeScript 5 = .ok (.if_icmp .ge 15, 3) := by decide +kernel
theorem dX10_freeScript_20 : decode cX10_freeScript 20 = .ok (.aconst_null, 1) := by decide +kernel
theorem dX10_freeScript_21 : decode cX10_freeScript 21 = .ok (.areturn, 1) := by decide +kernel
theorem dX10_freeScript_8 : decode cX10_freeScript 8 = .ok (.aload_n 0, 1) := by decide +kernel
theorem dX10_freeScript_9 : decode cX10_freeScript 9 = .ok (.getfield 20, 3) := by decide +kernel
theorem dX10_freeScript_12 : decode cX10_freeScript 12 = .ok (.aload_n 0, 1) := by decide +kernel
theorem dX10_freeScript_13 : decode cX10_freeScript 13 = .ok (.getfield 67, 3) := by decide +kernel
theorem dX10_freeScript_16 : decode cX10_freeScript 16 = .ok (.aaload, 1) := by decide +kernel
theorem dX10_freeScript_17 : decode cX10_freeScript 17 = .ok (.goto 4, 3) := by decide +kernel
theorem dX10_keepScript_0 : decode cX10_keepScript 0 = .ok (.aload_n 0, 1) := by decide +kernel
theorem dX10_keepScript_1 : decode cX10_keepScript 1 = .ok (.dup, 1) := by decide +kernel
theorem dX10_keepScript_2 : decode cX10_keepScript 2 = .ok (.getfield 67, 3) := by decide +kernel
theorem dX10_keepScript_5 : decode cX10_keepScript 5 = .ok (.iconst 1, 1) := by decide +kernel
theorem dX10_keepScript_6 : decode cX10_keepScript 6 = .ok (.iadd, 1) := by decide +kernel
theorem dX10_keepScript_7 : decode cX10_keepScript 7 = .ok (.putfield 67, 3) := by decide +kernel
theorem dX10_keepScript_10 : decode cX10_keepScript 10 = .ok (.aload_n 0, 1) := by decide +kernel
theorem dX10_keepScript_11 : decode cX10_keepScript 11 = .ok (.getfield 67, 3) := by decide +kernel
theorem dX10_keepScript_14 : decode cX10_keepScript 14 = .ok (.iconst 1, 1) := by decide +kernel
theorem dX10_keepScript_15 : decode cX10_keepScript 15 = .ok (.isub, 1) := by decide +kernel
theorem dX10_keepScript_16 : decode cX10_keepScript 16 = .ok (.ireturn, 1) := by decide +kernel
theorem dX10_putUnder_0 : decode cX10_putUnder 0 = .ok (.iload_n 1, 1) := by decide +kernel
theorem dX10_putUnder_1 : decode cX10_putUnder 1 = .ok (.iconst (-1), 1) := by decide +kernel
theorem dX10_putUnder_2 : decode cX10_putUnder 2 = .ok (.if_icmp .eq 13, 3) := by decide +kernel
theorem dX10_putUnder_15 : decode cX10_putUnder 15 = .ok (.aload_n 0, 1) := by decide +kernel
theorem dX10_putUnder_16 : decode cX10_putUnder 16 = .ok (.iload_n 1, 1) := by decide +kernel
theorem dX10_putUnder_17 : decode cX10_putUnder 17 = .ok (.putfield 56, 3) := by decide +kernel
theorem kf10_56 : inW (Cond.fieldLink RX10 56 "KneeOaths$World" "ruling" "I") := ⟨List.mem_of_getElem? (i := 295) (by decide +kernel), by decide +kernel⟩
theorem dX10_putUnder_20 : decode cX10_putUnder 20 = .ok (.iconst 1, 1) := by decide +kernel
theorem dX10_putUnder_21 : decode cX10_putUnder 21 = .ok (.ireturn, 1) := by decide +kernel
theorem dX10_putUnder_5 : decode cX10_putUnder 5 = .ok (.aload_n 0, 1) := by decide +kernel
theorem dX10_putUnder_6 : decode cX10_putUnder 6 = .ok (.iload_n 1, 1) := by decide +kernel
theorem dX10_putUnder_7 : decode cX10_putUnder 7 = .ok (.invokevirtual 93, 3) := by decide +kernel
theorem cw_X10_script : CWv yX10_script cX10_script 2 (some (.object "KneeOaths$Script")) 1 := ⟨⟨⟨List.mem_of_getElem? (i := 126) (by decide +kernel), by decide +kernel⟩, ⟨List.mem_of_getElem? (i := 867) (by decide +kernel), by decide +kernel⟩, by decide +kernel⟩, ⟨List.mem_of_getElem? (i := 865) (by decide +kernel), by decide +kernel⟩, ⟨List.mem_of_getElem? (i := 866) (by decide +kernel), by decide +kernel⟩⟩
theorem km10_93 : inW (Cond.methodLink RX10 93 yX10_script) := ⟨List.mem_of_getElem? (i := 864) (by decide +kernel), by decide +kernel⟩
theorem dX10_putUnder_10 : decode cX10_putUnder 10 = .ok (.ifnonnull 5, 3) := by decide +kernel
theorem dX10_putUnder_13 : decode cX10_putUnder 13 = .ok (.iconst 0, 1) := by decide +kernel
theorem dX10_putUnder_14 : decode cX10_putUnder 14 = .ok (.ireturn, 1) := by decide +kernel
theorem dX10_remember_0 : decode cX10_remember 0 = .ok (.aload_n 0, 1) := by decide +kernel
theorem dX10_remember_1 : decode cX10_remember 1 = .ok (.getfield 31, 3) := by decide +kernel
theorem kf10_31 : inW (Cond.fieldLink RX10 31 "KneeOaths$World" "past" "[LKneeOaths$Ledger;") := ⟨List.mem_of_getElem? (i := 272) (by decide +kernel), by decide +kernel⟩
theorem dX10_remember_4 : decode cX10_remember 4 = .ok (.aload_n 0, 1) := by decide +kernel
theorem dX10_remember_5 : decode cX10_remember 5 = .ok (.getfield 83, 3) := by decide +kernel
theorem kf10_83 : inW (Cond.fieldLink RX10 83 "KneeOaths$World" "eldest" "I") := ⟨List.mem_of_getElem? (i := 299) (by decide +kernel), by decide +kernel⟩
theorem dX10_remember_8 : decode cX10_remember 8 = .ok (.aload_n 0, 1) := by decide +kernel
theorem dX10_remember_9 : decode cX10_remember 9 = .ok (.getfield 86, 3) := by decide +kernel
theorem kf10_86 : inW (Cond.fieldLink RX10 86 "KneeOaths$World" "steps" "I") := ⟨List.mem_of_getElem? (i := 300) (by decide +kernel), by decide +kernel⟩
theorem dX10_remember_12 : decode cX10_remember 12 = .ok (.iadd, 1) := by decide +kernel
theorem dX10_remember_13 : decode cX10_remember 13 = .ok (.bipush 30, 2) := by decide +kernel
theorem dX10_remember_15 : decode cX10_remember 15 = .ok (.irem, 1) := by decide +kernel
theorem dX10_remember_16 : decode cX10_remember 16 = .ok (.aaload, 1) := by decide +kernel
theorem dX10_remember_17 : decode cX10_remember 17 = .ok (.aload_n 0, 1) := by decide +kernel
theorem dX10_remember_18 : decode cX10_remember 18 = .ok (.getfield 27, 3) := by decide +kernel
theorem kf10_27 : inW (Cond.fieldLink RX10 27 "KneeOaths$World" "now" "LKneeOaths$Ledger;") := ⟨List.mem_of_getElem? (i := 264) (by decide +kernel), by decide +kernel⟩
theorem dX10_remember_21 : decode cX10_remember 21 = .ok (.invokevirtual 74, 3) := by decide +kernel
theorem cw_X4_takeOver : CWv yX4_takeOver cX4_takeOver 2 none 1 := ⟨⟨⟨List.mem_of_getElem? (i := 125) (by decide +kernel), by decide +kernel⟩, ⟨List.mem_of_getElem? (i := 892) (by decide +kernel), by decide +kernel⟩, by decide +kernel⟩, ⟨List.mem_of_getElem? (i := 890) (by decide +kernel), by decide +kernel⟩, ⟨List.mem_of_getElem? (i := 891) (by decide +kernel), by decide +kernel⟩⟩
theorem km10_74 : inW (Cond.methodLink RX10 74 yX4_takeOver) := ⟨List.mem_of_getElem? (i := 889) (by decide +kernel), by decide +kernel⟩
theorem dX10_remember_24 : decode cX10_remember 24 = .ok (.aload_n 0, 1) := by decide +kernel
theorem dX10_remember_25 : decode cX10_remember 25 = .ok (.getfield 86, 3) := by decide +kernel
theorem dX10_remember_28 : decode cX10_remember 28 = .ok (.bipush 30, 2) := by decide +kernel
theorem dX10_remember_30 : decode cX10_remember 30 = .ok (.if_icmp .ge 16, 3) := by decide +kernel
theorem dX10_remember_46 : decode cX10_remember 46 = .ok (.aload_n 0, 1) := by decide +kernel
theorem dX10_remember_47 : decode cX10_remember 47 = .ok (.aload_n 0, 1) := by decide +kernel
theorem dX10_remember_48 : decode cX10_remember 48 = .ok (.getfield 83, 3) := by decide +kernel
theorem dX10_remember_51 : decode cX10_remember 51 = .ok (.iconst 1, 1) := by decide +kernel
theorem dX10_remember_52 : decode cX10_remember 52 = .ok (.iadd, 1) := by decide +kernel
theorem dX10_remember_53 : decode cX10_remember 53 = .ok (.bipush 30, 2) := by decide +kernel
theorem dX10_remember_55 : decode cX10_remember 55 = .ok (.irem, 1) := by decide +kernel
theorem dX10_remember_56 : decode cX10_remember 56 = .ok (.putfield 83, 3) := by decide +kernel
theorem dX10_remember_59 : decode cX10_remember 59 = .ok (.return_, 1) := by decide +kernel
theorem dX10_remember_33 : decode cX10_remember 33 = .ok (.aload_n 0, 1) := by decide +kernel
theorem dX10_remember_34 : decode cX10_remember 34 = .ok (.dup, 1) := by decide +kernel
theorem dX10_remember_35 : decode cX10_remember 35 = .ok (.getfield 86, 3) := by decide +kernel
theorem dX10_remember_38 : decode cX10_remember 38 = .ok (.iconst 1, 1) := by decide +kernel
theorem dX10_remember_39 : decode cX10_remember 39 = .ok (.iadd, 1) := by decide +kernel
theorem dX10_remember_40 : decode cX10_remember 40 = .ok (.putfield 86, 3) := by decide +kernel
theorem dX10_remember_43 : decode cX10_remember 43 = .ok (.goto 16, 3) := by decide +kernel
theorem dX10_takeBack_0 : decode cX10_takeBack 0 = .ok (.aload_n 0, 1) := by decide +kernel
theorem dX10_takeBack_1 : decode cX10_takeBack 1 = .ok (.getfield 86, 3) := by decide +kernel
theorem dX10_takeBack_4 : decode cX10_takeBack 4 = .ok (.ifCond .ne 5, 3) := by decide +kernel
theorem dX10_takeBack_9 : decode cX10_takeBack 9 = .ok (.aload_n 0, 1) := by decide +kernel
theorem dX10_takeBack_10 : decode cX10_takeBack 10 = .ok (.dup, 1) := by decide +kernel
theorem dX10_takeBack_11 : decode cX10_takeBack 11 = .ok (.getfield 86, 3) := by decide +kernel
theorem dX10_takeBack_14 : decode cX10_takeBack 14 = .ok (.iconst 1, 1) := by decide +kernel
theorem dX10_takeBack_15 : decode cX10_takeBack 15 = .ok (.isub, 1) := by decide +kernel
theorem dX10_takeBack_16 : decode cX10_takeBack 16 = .ok (.putfield 86, 3) := by decide +kernel
theorem dX10_takeBack_19 : decode cX10_takeBack 19 = .ok (.aload_n 0, 1) := by decide +kernel
theorem dX10_takeBack_20 : decode cX10_takeBack 20 = .ok (.getfield 27, 3) := by decide +kernel
theorem dX10_takeBack_23 : decode cX10_takeBack 23 = .ok (.aload_n 0, 1) := by decide +kernel
theorem dX10_takeBack_24 : decode cX10_takeBack 24 = .ok (.getfield 31, 3) := by decide +kernel
theorem dX10_takeBack_27 : decode cX10_takeBack 27 = .ok (.aload_n 0, 1) := by decide +kernel
theorem dX10_takeBack_28 : decode cX10_takeBack 28 = .ok (.getfield 83, 3) := by decide +kernel
theorem dX10_takeBack_31 : decode cX10_takeBack 31 = .ok (.aload_n 0, 1) := by decide +kernel
theorem dX10_takeBack_32 : decode cX10_takeBack 32 = .ok (.getfield 86, 3) := by decide +kernel
theorem dX10_takeBack_35 : decode cX10_takeBack 35 = .ok (.iadd, 1) := by decide +kernel
theorem dX10_takeBack_36 : decode cX10_takeBack 36 = .ok (.bipush 30, 2) := by decide +kernel
theorem dX10_takeBack_38 : decode cX10_takeBack 38 = .ok (.irem, 1) := by decide +kernel
theorem dX10_takeBack_39 : decode cX10_takeBack 39 = .ok (.aaload, 1) := by decide +kernel
theorem dX10_takeBack_40 : decode cX10_takeBack 40 = .ok (.invokevirtual 74, 3) := by decide +kernel
theorem dX10_takeBack_43 : decode cX10_takeBack 43 = .ok (.iconst 1, 1) := by decide +kernel
theorem dX10_takeBack_44 : decode cX10_takeBack 44 = .ok (.ireturn, 1) := by decide +kernel
theorem dX10_takeBack_7 : decode cX10_takeBack 7 = .ok (.iconst 0, 1) := by decide +kernel
theorem dX10_takeBack_8 : decode cX10_takeBack 8 = .ok (.ireturn, 1) := by decide +kernel
theorem dX10_takeOver_0 : decode cX10_takeOver 0 = .ok (.aload_n 1, 1) := by decide +kernel
theorem dX10_takeOver_1 : decode cX10_takeOver 1 = .ok (.getfield 9, 3) := by decide +kernel
theorem dX10_takeOver_4 : decode cX10_takeOver 4 = .ok (.iconst 0, 1) := by decide +kernel
theorem dX10_takeOver_5 : decode cX10_takeOver 5 = .ok (.aload_n 0, 1) := by decide +kernel
theorem dX10_takeOver_6 : decode cX10_takeOver 6 = .ok (.getfield 9, 3) := by decide +kernel
theorem dX10_takeOver_9 : decode cX10_takeOver 9 = .ok (.iconst 0, 1) := by decide +kernel
theorem dX10_takeOver_10 : decode cX10_takeOver 10 = .ok (.aload_n 0, 1) := by decide +kernel
theorem dX10_takeOver_11 : decode cX10_takeOver 11 = .ok (.getfield 9, 3) := by decide +kernel
theorem dX10_takeOver_14 : decode cX10_takeOver 14 = .ok (.arraylength, 1) := by decide +kernel
theorem dX10_takeOver_15 : decode cX10_takeOver 15 = .ok (.invokestatic 61, 3) := by decide +kernel
theorem km10_61 : inW (Cond.methodLink RX10 61 arraycopyName) := ⟨List.mem_of_getElem? (i := 1470) (by decide +kernel), by decide +kernel⟩
theorem dX10_takeOver_18 : decode cX10_takeOver 18 = .ok (.aload_n 1, 1) := by decide +kernel
theorem dX10_takeOver_19 : decode cX10_takeOver 19 = .ok (.getfield 15, 3) := by decide +kernel
theorem dX10_takeOver_22 : decode cX10_takeOver 22 = .ok (.iconst 0, 1) := by decide +kernel
theorem dX10_takeOver_23 : decode cX10_takeOver 23 = .ok (.aload_n 0, 1) := by decide +kernel
theorem dX10_takeOver_24 : decode cX10_takeOver 24 = .ok (.getfield 15, 3) := by decide +kernel
theorem dX10_takeOver_27 : decode cX10_takeOver 27 = .ok (.iconst 0, 1) := by decide +kernel
theorem dX10_takeOver_28 : decode cX10_takeOver 28 = .ok (.aload_n 0, 1) := by decide +kernel
theorem dX10_takeOver_29 : decode cX10_takeOver 29 = .ok (.getfield 15, 3) := by decide +kernel
theorem dX10_takeOver_32 : decode cX10_takeOver 32 = .ok (.arraylength, 1) := by decide +kernel
theorem dX10_takeOver_33 : decode cX10_takeOver 33 = .ok (.invokestatic 61, 3) := by decide +kernel
theorem dX10_takeOver_36 : decode cX10_takeOver 36 = .ok (.iconst 0, 1) := by decide +kernel
theorem dX10_takeOver_37 : decode cX10_takeOver 37 = .ok (.istore_n 2, 1) := by decide +kernel
theorem dX10_takeOver_38 : decode cX10_takeOver 38 = .ok (.iload_n 2, 1) := by decide +kernel
theorem dX10_takeOver_39 : decode cX10_takeOver 39 = .ok (.aload_n 1, 1) := by decide +kernel
theorem dX10_takeOver_40 : decode cX10_takeOver 40 = .ok (.getfield 67, 3) := by decide +kernel
theorem dX10_takeOver_43 : decode cX10_takeOver 43 = .ok (.if_icmp .ge 24, 3) := by decide +kernel
theorem dX10_takeOver_67 : decode cX10_takeOver 67 = .ok (.iconst 0, 1) := by decide +kernel
theorem dX10_takeOver_68 : decode cX10_takeOver 68 = .ok (.istore_n 2, 1) := by decide +kernel
theorem dX10_takeOver_46 : decode cX10_takeOver 46 = .ok (.aload_n 0, 1) := by decide +kernel
theorem dX10_takeOver_47 : decode cX10_takeOver 47 = .ok (.getfield 20, 3) := by decide +kernel
theorem dX10_takeOver_50 : decode cX10_takeOver 50 = .ok (.iload_n 2, 1) := by decide +kernel
theorem dX10_takeOver_51 : decode cX10_takeOver 51 = .ok (.aaload, 1) := by decide +kernel
theorem dX10_takeOver_52 : decode cX10_takeOver 52 = .ok (.aload_n 1, 1) := by decide +kernel
theorem dX10_takeOver_53 : decode cX10_takeOver 53 = .ok (.getfield 20, 3) := by decide +kernel
theorem dX10_takeOver_56 : decode cX10_takeOver 56 = .ok (.iload_n 2, 1) := by decide +kernel
theorem dX10_takeOver_57 : decode cX10_takeOver 57 = .ok (.aaload, 1) := by decide +kernel
theorem dX10_takeOver_58 : decode cX10_takeOver 58 = .ok (.invokevirtual 70, 3) := by decide +kernel
theorem cw_X7_takeOver : CWv yX7_takeOver cX7_takeOver 2 none 1 := ⟨⟨⟨List.mem_of_getElem? (i := 129) (by decide +kernel), by decide +kernel⟩, ⟨List.mem_of_getElem? (i := 1474) (by decide +kernel), by decide +kernel⟩, by decide +kernel⟩, ⟨List.mem_of_getElem? (i := 1472) (by decide +kernel), by decide +kernel⟩, ⟨List.mem_of_getElem? (i := 1473) (by decide +kernel), by decide +kernel⟩⟩
theorem km10_70 : inW (Cond.methodLink RX10 70 yX7_takeOver) := ⟨List.mem_of_getElem? (i := 1471) (by decide +kernel), by decide +kernel⟩
theorem dX10_takeOver_61 : decode cX10_takeOver 61 = .ok (.iinc 2 1, 3) := by decide +kernel
theorem dX10_takeOver_64 : decode cX10_takeOver 64 = .ok (.goto (-26), 3) := by decide +kernel
theorem dX10_takeOver_69 : decode cX10_takeOver 69 = .ok (.iload_n 2, 1) := by decide +kernel
theorem dX10_takeOver_70 : decode cX10_takeOver 70 = .ok (.bipush 30, 2) := by decide +kernel
theorem dX10_takeOver_72 : decode cX10_takeOver 72 = .ok (.if_icmp .ge 24, 3) := by decide +kernel
theorem dX10_takeOver_75 : decode cX10_takeOver 75 = .ok (.aload_n 0, 1) := by decide +kernel
theorem dX10_takeOver_76 : decode cX10_takeOver 76 = .ok (.getfield 31, 3) := by decide +kernel
theorem dX10_takeOver_79 : decode cX10_takeOver 79 = .ok (.iload_n 2, 1) := by decide +kernel
theorem dX10_takeOver_80 : decode cX10_takeOver 80 = .ok (.aaload, 1) := by decide +kernel
theorem dX10_takeOver_81 : decode cX10_takeOver 81 = .ok (.aload_n 1, 1) := by decide +kernel
theorem dX10_takeOver_82 : decode cX10_takeOver 82 = .ok (.getfield 31, 3) := by decide +kernel
theorem dX10_takeOver_85 : decode cX10_takeOver 85 = .ok (.iload_n 2, 1) := by decide +kernel
theorem dX10_takeOver_86 : decode cX10_takeOver 86 = .ok (.aaload, 1) := by decide +kernel
theorem dX10_takeOver_87 : decode cX10_takeOver 87 = .ok (.invokevirtual 74, 3) := by decide +kernel
theorem dX10_takeOver_90 : decode cX10_takeOver 90 = .ok (.iinc 2 1, 3) := by decide +kernel
theorem dX10_takeOver_93 : decode cX10_takeOver 93 = .ok (.goto (-24), 3) := by decide +kernel
theorem dX10_takeOver_96 : decode cX10_takeOver 96 = .ok (.aload_n 0, 1) := by decide +kernel
theorem dX10_takeOver_97 : decode cX10_takeOver 97 = .ok (.getfield 27, 3) := by decide +kernel
theorem dX10_takeOver_100 : decode cX10_takeOver 100 = .ok (.aload_n 1, 1) := by decide +kernel
theorem dX10_takeOver_101 : decode cX10_takeOver 101 = .ok (.getfield 27, 3) := by decide +kernel
theorem dX10_takeOver_104 : decode cX10_takeOver 104 = .ok (.invokevirtual 74, 3) := by decide +kernel
theorem dX10_takeOver_107 : decode cX10_takeOver 107 = .ok (.aload_n 0, 1) := by decide +kernel
theorem dX10_takeOver_108 : decode cX10_takeOver 108 = .ok (.getfield 40, 3) := by decide +kernel
theorem kf10_40 : inW (Cond.fieldLink RX10 40 "KneeOaths$World" "feelings" "LKneeOaths$Told;") := ⟨List.mem_of_getElem? (i := 273) (by decide +kernel), by decide +kernel⟩
theorem dX10_takeOver_111 : decode cX10_takeOver 111 = .ok (.aload_n 1, 1) := by decide +kernel
theorem dX10_takeOver_112 : decode cX10_takeOver 112 = .ok (.getfield 40, 3) := by decide +kernel
theorem dX10_takeOver_115 : decode cX10_takeOver 115 = .ok (.invokevirtual 77, 3) := by decide +kernel
theorem cw_X9_takeOver : CWv yX9_takeOver cX9_takeOver 2 none 1 := ⟨⟨⟨List.mem_of_getElem? (i := 127) (by decide +kernel), by decide +kernel⟩, ⟨List.mem_of_getElem? (i := 1479) (by decide +kernel), by decide +kernel⟩, by decide +kernel⟩, ⟨List.mem_of_getElem? (i := 1477) (by decide +kernel), by decide +kernel⟩, ⟨List.mem_of_getElem? (i := 1478) (by decide +kernel), by decide +kernel⟩⟩
theorem km10_77 : inW (Cond.methodLink RX10 77 yX9_takeOver) := ⟨List.mem_of_getElem? (i := 1476) (by decide +kernel), by decide +kernel⟩
theorem dX10_takeOver_118 : decode cX10_takeOver 118 = .ok (.aload_n 0, 1) := by decide +kernel
theorem dX10_takeOver_119 : decode cX10_takeOver 119 = .ok (.getfield 44, 3) := by decide +kernel
theorem kf10_44 : inW (Cond.fieldLink RX10 44 "KneeOaths$World" "clashes" "LKneeOaths$Told;") := ⟨List.mem_of_getElem? (i := 276) (by decide +kernel), by decide +kernel⟩
theorem dX10_takeOver_122 : decode cX10_takeOver 122 = .ok (.aload_n 1, 1) := by decide +kernel
theorem dX10_takeOver_123 : decode cX10_takeOver 123 = .ok (.getfield 44, 3) := by decide +kernel
theorem dX10_takeOver_126 : decode cX10_takeOver 126 = .ok (.invokevirtual 77, 3) := by decide +kernel
theorem dX10_takeOver_129 : decode cX10_takeOver 129 = .ok (.aload_n 0, 1) := by decide +kernel
theorem dX10_takeOver_130 : decode cX10_takeOver 130 = .ok (.getfield 47, 3) := by decide +kernel
theorem kf10_47 : inW (Cond.fieldLink RX10 47 "KneeOaths$World" "words" "LKneeOaths$Told;") := ⟨List.mem_of_getElem? (i := 279) (by decide +kernel), by decide +kernel⟩
theorem dX10_takeOver_133 : decode cX10_takeOver 133 = .ok (.aload_n 1, 1) := by decide +kernel
theorem dX10_takeOver_134 : decode cX10_takeOver 134 = .ok (.getfield 47, 3) := by decide +kernel
theorem dX10_takeOver_137 : decode cX10_takeOver 137 = .ok (.invokevirtual 77, 3) := by decide +kernel
theorem dX10_takeOver_140 : decode cX10_takeOver 140 = .ok (.aload_n 0, 1) := by decide +kernel
theorem dX10_takeOver_141 : decode cX10_takeOver 141 = .ok (.getfield 50, 3) := by decide +kernel
theorem kf10_50 : inW (Cond.fieldLink RX10 50 "KneeOaths$World" "sights" "LKneeOaths$Told;") := ⟨List.mem_of_getElem? (i := 282) (by decide +kernel), by decide +kernel⟩
theorem dX10_takeOver_144 : decode cX10_takeOver 144 = .ok (.aload_n 1, 1) := by decide +kernel
theorem dX10_takeOver_145 : decode cX10_takeOver 145 = .ok (.getfield 50, 3) := by decide +kernel
theorem dX10_takeOver_148 : decode cX10_takeOver 148 = .ok (.invokevirtual 77, 3) := by decide +kernel
theorem dX10_takeOver_151 : decode cX10_takeOver 151 = .ok (.aload_n 0, 1) := by decide +kernel
theorem dX10_takeOver_152 : decode cX10_takeOver 152 = .ok (.getfield 53, 3) := by decide +kernel
theorem kf10_53 : inW (Cond.fieldLink RX10 53 "KneeOaths$World" "wearings" "LKneeOaths$Told;") := ⟨List.mem_of_getElem? (i := 285) (by decide +kernel), by decide +kernel⟩
theorem dX10_takeOver_155 : decode cX10_takeOver 155 = .ok (.aload_n 1, 1) := by decide +kernel
theorem dX10_takeOver_156 : decode cX10_takeOver 156 = .ok (.getfield 53, 3) := by decide +kernel
theorem dX10_takeOver_159 : decode cX10_takeOver 159 = .ok (.invokevirtual 77, 3) := by decide +kernel
theorem dX10_takeOver_162 : decode cX10_takeOver 162 = .ok (.aload_n 0, 1) := by decide +kernel
theorem dX10_takeOver_163 : decode cX10_takeOver 163 = .ok (.aload_n 1, 1) := by decide +kernel
theorem dX10_takeOver_164 : decode cX10_takeOver 164 = .ok (.getfield 80, 3) := by decide +kernel
theorem dX10_takeOver_167 : decode cX10_takeOver 167 = .ok (.putfield 80, 3) := by decide +kernel
theorem dX10_takeOver_170 : decode cX10_takeOver 170 = .ok (.aload_n 0, 1) := by decide +kernel
theorem dX10_takeOver_171 : decode cX10_takeOver 171 = .ok (.aload_n 1, 1) := by decide +kernel
theorem dX10_takeOver_172 : decode cX10_takeOver 172 = .ok (.getfield 67, 3) := by decide +kernel
theorem dX10_takeOver_175 : decode cX10_takeOver 175 = .ok (.putfield 67, 3) := by decide +kernel
theorem dX10_takeOver_178 : decode cX10_takeOver 178 = .ok (.aload_n 0, 1) := by decide +kernel
theorem dX10_takeOver_179 : decode cX10_takeOver 179 = .ok (.aload_n 1, 1) := by decide +kernel
theorem dX10_takeOver_180 : decode cX10_takeOver 180 = .ok (.getfield 56, 3) := by decide +kernel
theorem dX10_takeOver_183 : decode cX10_takeOver 183 = .ok (.putfield 56, 3) := by decide +kernel
theorem dX10_takeOver_186 : decode cX10_takeOver 186 = .ok (.aload_n 0, 1) := by decide +kernel
theorem dX10_takeOver_187 : decode cX10_takeOver 187 = .ok (.aload_n 1, 1) := by decide +kernel
theorem dX10_takeOver_188 : decode cX10_takeOver 188 = .ok (.getfield 83, 3) := by decide +kernel
theorem dX10_takeOver_191 : decode cX10_takeOver 191 = .ok (.putfield 83, 3) := by decide +kernel
theorem dX10_takeOver_194 : decode cX10_takeOver 194 = .ok (.aload_n 0, 1) := by decide +kernel
theorem dX10_takeOver_195 : decode cX10_takeOver 195 = .ok (.aload_n 1, 1) := by decide +kernel
theorem dX10_takeOver_196 : decode cX10_takeOver 196 = .ok (.getfield 86, 3) := by decide +kernel
theorem dX10_takeOver_199 : decode cX10_takeOver 199 = .ok (.putfield 86, 3) := by decide +kernel
theorem dX10_takeOver_202 : decode cX10_takeOver 202 = .ok (.return_, 1) := by decide +kernel
set_option maxHeartbeats 4000000 in
set_option maxRecDepth 100000 in
theorem x_X10_has {l : Launch} {G : GG}  {L : List Nat} {f : HF} {ad : Nat → Nat → Nat} {rs : RS} {fc : Int × Int} {tc w : Nat → Int × Int} {q : Nat → (Nat → Int32) → Prop} {i1 : Int32} (I : SH (spC rs fc tc w q) nnC G ad L f) (hW : WBp w 8) (hT : WBp tc 4) (hQ : QIp q) : PMp l yX10_has cX10_has 2 .boolean 0 0 0 G [.ref (ad 1 0), .int i1] L f (fun r => bn 0 1 r) := by
  refine PMi.of (post := fun r L1 f1 => (bn 0 1 r) ∧ L1 = L ∧ f1 = f) (own := RX10) (by decide) rfl (Nat.le_of_ble_eq_true rfl) (fun sz p e s m args below meth c A ls hA1 hname S Y hl => ?_)
  have hx := S.hx
  have hb := S.hb
  have hl : lv_has ls 2 [(0, .ref (ad 1 0)), (1, .int i1)] := hl
  refine lv_iload_n hx hb dX10_has_0 rfl (lv_at hl 1 rfl) ?_
  refine lv_if_lt (tgt := 16) hx hb dX10_has_1 (by decide) (fun c_5336 => ?_) (fun c_5336 => ?_)
  · have B_5337 : bn (-2147483648) (-1) i1 := bn_w (bn_ltl c_5336 (bn_any i1) (show bn 0 0 (0 : Int32) from bn_k (by decide))) (by decide)
    refine lv_iconst (v := 0) hx hb dX10_has_16 (by decide) ?_
    exact prI (post := fun r L1 f1 => (bn 0 1 r) ∧ L1 = L ∧ f1 = f) S Y rfl (by decide) (by decide) hA1 ⟨bn_w (show bn 0 0 (0 : Int32) from bn_k (by decide)) (by decide), rfl, rfl⟩ dX10_has_17
  · have B_5338 : bn 0 2147483647 i1 := bn_w (bn_gel c_5336 (bn_any i1) (show bn 0 0 (0 : Int32) from bn_k (by decide))) (by decide)
    refine lv_iload_n hx hb dX10_has_4 rfl (lv_at hl 1 rfl) ?_
    refine lv_aload_n hx hb dX10_has_5 rfl (lv_at hl 0 rfl) ?_
    obtain ⟨v_5339, v_5341, v_5343, v_5345, v_5347, p_ad_1_0, b_5340, b_5342, b_5344, b_5346, b_5348⟩ := opnC_1 (j := 0) I (by decide)
    have p_ad_1_0 : pt L f (ad 1 0) (.inr (10, [.ref (ad 40 0), .ref (ad 41 0), .ref (ad 42 0), .ref (ad 10 0), .ref (ad 43 0), .ref (ad 20 0), .ref (ad 20 1), .ref (ad 20 2), .ref (ad 20 3), .ref (ad 20 4), .int v_5339, .int v_5341, .int v_5343, .int v_5345, .int v_5347])) := p_ad_1_0
    refine pg_get S Y ok_X10 10 (by decide) kf10_80 (v := .int v_5339) p_ad_1_0 rfl dX10_has_6 ?_
    refine lv_icmp_ge (tgt := 16) hx hb dX10_has_9 (by decide) (fun c_5349 => ?_) (fun c_5349 => ?_)
    · refine lv_iconst (v := 0) hx hb dX10_has_16 (by decide) ?_
      exact prI (post := fun r L1 f1 => (bn 0 1 r) ∧ L1 = L ∧ f1 = f) S Y rfl (by decide) (by decide) hA1 ⟨bn_w (show bn 0 0 (0 : Int32) from bn_k (by decide)) (by decide), rfl, rfl⟩ dX10_has_17
    · have B_5350 : bn 1 6 v_5339 := bn_w (bn_gtl c_5349 b_5340 B_5338) (by decide)
      have B_5351 : bn 0 5 i1 := bn_w (bn_gtr c_5349 b_5340 B_5338) (by decide)
      refine lv_iconst (v := 1) hx hb dX10_has_12 (by decide) ?_
      refine lv_goto (tgt := 17) hx hb dX10_has_13 (by decide) ?_
      exact prI (post := fun r L1 f1 => (bn 0 1 r) ∧ L1 = L ∧ f1 = f) S Y rfl (by decide) (by decide) hA1 ⟨bn_w (show bn 1 1 (1 : Int32) from bn_k (by decide)) (by decide), rfl, rfl⟩ dX10_has_17
set_option maxHeartbeats 4000000 in
set_option maxRecDepth 100000 in
theorem x_X10_toughOf {l : Launch} {G : GG}  {L : List Nat} {f : HF} {ad : Nat → Nat → Nat} {rs : RS} {fc : Int × Int} {tc w : Nat → Int × Int} {q : Nat → (Nat → Int32) → Prop} {i1 : Int32} (I : SH (spC rs fc tc w q) nnC G ad L f) (hW : WBp w 8) (hT : WBp tc 4) (hQ : QIp q) : PMp l yX10_toughOf cX10_toughOf 2 .int 0 0 0 G [.ref (ad 1 0), .int i1] L f (fun r => True) := by
  refine PMi.of (post := fun r L1 f1 => (True) ∧ L1 = L ∧ f1 = f) (own := RX10) (by decide) rfl (Nat.le_of_ble_eq_true rfl) (fun sz p e s m args below meth c A ls hA1 hname S Y hl => ?_)
  have hx := S.hx
  have hb := S.hb
  have hl : lv_has ls 2 [(0, .ref (ad 1 0)), (1, .int i1)] := hl
  refine lv_iload_n hx hb dX10_toughOf_0 rfl (lv_at hl 1 rfl) ?_
  refine lv_if_lt (tgt := 21) hx hb dX10_toughOf_1 (by decide) (fun c_5390 => ?_) (fun c_5390 => ?_)
  · have B_5391 : bn (-2147483648) (-1) i1 := bn_w (bn_ltl c_5390 (bn_any i1) (show bn 0 0 (0 : Int32) from bn_k (by decide))) (by decide)
    refine lv_iconst (v := 0) hx hb dX10_toughOf_21 (by decide) ?_
    exact prI (post := fun r L1 f1 => (True) ∧ L1 = L ∧ f1 = f) S Y rfl (by decide) (by decide) hA1 ⟨trivial, rfl, rfl⟩ dX10_toughOf_22
  · have B_5392 : bn 0 2147483647 i1 := bn_w (bn_gel c_5390 (bn_any i1) (show bn 0 0 (0 : Int32) from bn_k (by decide))) (by decide)
    refine lv_iload_n hx hb dX10_toughOf_4 rfl (lv_at hl 1 rfl) ?_
    refine lv_aload_n hx hb dX10_toughOf_5 rfl (lv_at hl 0 rfl) ?_
    obtain ⟨v_5393, v_5395, v_5397, v_5399, v_5401, p_ad_1_0, b_5394, b_5396, b_5398, b_5400, b_5402⟩ := opnC_1 (j := 0) I (by decide)
    have p_ad_1_0 : pt L f (ad 1 0) (.inr (10, [.ref (ad 40 0), .ref (ad 41 0), .ref (ad 42 0), .ref (ad 10 0), .ref (ad 43 0), .ref (ad 20 0), .ref (ad 20 1), .ref (ad 20 2), .ref (ad 20 3), .ref (ad 20 4), .int v_5393, .int v_5395, .int v_5397, .int v_5399, .int v_5401])) := p_ad_1_0
    refine pg_get S Y ok_X10 10 (by decide) kf10_80 (v := .int v_5393) p_ad_1_0 rfl dX10_toughOf_6 ?_
    refine lv_icmp_ge (tgt := 21) hx hb dX10_toughOf_9 (by decide) (fun c_5403 => ?_) (fun c_5403 => ?_)
    · refine lv_iconst (v := 0) hx hb dX10_toughOf_21 (by decide) ?_
      exact prI (post := fun r L1 f1 => (True) ∧ L1 = L ∧ f1 = f) S Y rfl (by decide) (by decide) hA1 ⟨trivial, rfl, rfl⟩ dX10_toughOf_22
    · have B_5404 : bn 1 6 v_5393 := bn_w (bn_gtl c_5403 b_5394 B_5392) (by decide)
      have B_5405 : bn 0 5 i1 := bn_w (bn_gtr c_5403 b_5394 B_5392) (by decide)
      refine lv_aload_n hx hb dX10_toughOf_12 rfl (lv_at hl 0 rfl) ?_
      refine pg_get S Y ok_X10 0 (by decide) kf10_9 (v := .ref (ad 40 0)) p_ad_1_0 rfl dX10_toughOf_13 ?_
      refine lv_iload_n hx hb dX10_toughOf_16 rfl (lv_at hl 1 rfl) ?_
      obtain ⟨g_5406, p_ad_40_0, o_5407⟩ := I.opi (k := 40) (j := 0) (by decide) rfl
      have p_ad_40_0 : pt L f (ad 40 0) (.inl (G.2 0, 6, .inl g_5406)) := p_ad_40_0
      obtain ⟨v_5408, ev_5408⟩ : ∃ z, z = g_5406 (i1 : Int32).toNatClampNeg := ⟨_, rfl⟩
      refine pg_iald S Y (v := v_5408) p_ad_40_0 (vp_bn B_5405 (by decide)) ev_5408.symm dX10_toughOf_17 ?_
      refine lv_goto (tgt := 22) hx hb dX10_toughOf_18 (by decide) ?_
      exact prI (post := fun r L1 f1 => (True) ∧ L1 = L ∧ f1 = f) S Y rfl (by decide) (by decide) hA1 ⟨trivial, rfl, rfl⟩ dX10_toughOf_22
set_option maxHeartbeats 4000000 in
set_option maxRecDepth 100000 in
theorem x_X10_ageOf {l : Launch} {G : GG}  {L : List Nat} {f : HF} {ad : Nat → Nat → Nat} {rs : RS} {fc : Int × Int} {tc w : Nat → Int × Int} {q : Nat → (Nat → Int32) → Prop} {i1 : Int32} (I : SH (spC rs fc tc w q) nnC G ad L f) (hW : WBp w 8) (hT : WBp tc 4) (hQ : QIp q) : PMp l yX10_ageOf cX10_ageOf 2 .int 0 0 0 G [.ref (ad 1 0), .int i1] L f (fun r => True) := by
  refine PMi.of (post := fun r L1 f1 => (True) ∧ L1 = L ∧ f1 = f) (own := RX10) (by decide) rfl (Nat.le_of_ble_eq_true rfl) (fun sz p e s m args below meth c A ls hA1 hname S Y hl => ?_)
  have hx := S.hx
  have hb := S.hb
  have hl : lv_has ls 2 [(0, .ref (ad 1 0)), (1, .int i1)] := hl
  refine lv_iload_n hx hb dX10_ageOf_0 rfl (lv_at hl 1 rfl) ?_
  refine lv_if_lt (tgt := 21) hx hb dX10_ageOf_1 (by decide) (fun c_5447 => ?_) (fun c_5447 => ?_)
  · have B_5448 : bn (-2147483648) (-1) i1 := bn_w (bn_ltl c_5447 (bn_any i1) (show bn 0 0 (0 : Int32) from bn_k (by decide))) (by decide)
    refine lv_iconst (v := 0) hx hb dX10_ageOf_21 (by decide) ?_
    exact prI (post := fun r L1 f1 => (True) ∧ L1 = L ∧ f1 = f) S Y rfl (by decide) (by decide) hA1 ⟨trivial, rfl, rfl⟩ dX10_ageOf_22
  · have B_5449 : bn 0 2147483647 i1 := bn_w (bn_gel c_5447 (bn_any i1) (show bn 0 0 (0 : Int32) from bn_k (by decide))) (by decide)
    refine lv_iload_n hx hb dX10_ageOf_4 rfl (lv_at hl 1 rfl) ?_
    refine lv_aload_n hx hb dX10_ageOf_5 rfl (lv_at hl 0 rfl) ?_
    obtain ⟨v_5450, v_5452, v_5454, v_5456, v_5458, p_ad_1_0, b_5451, b_5453, b_5455, b_5457, b_5459⟩ := opnC_1 (j := 0) I (by decide)
    have p_ad_1_0 : pt L f (ad 1 0) (.inr (10, [.ref (ad 40 0), .ref (ad 41 0), .ref (ad 42 0), .ref (ad 10 0), .ref (ad 43 0), .ref (ad 20 0), .ref (ad 20 1), .ref (ad 20 2), .ref (ad 20 3), .ref (ad 20 4), .int v_5450, .int v_5452, .int v_5454, .int v_5456, .int v_5458])) := p_ad_1_0
    refine pg_get S Y ok_X10 10 (by decide) kf10_80 (v := .int v_5450) p_ad_1_0 rfl dX10_ageOf_6 ?_
    refine lv_icmp_ge (tgt := 21) hx hb dX10_ageOf_9 (by decide) (fun c_5460 => ?_) (fun c_5460 => ?_)
    · refine lv_iconst (v := 0) hx hb dX10_ageOf_21 (by decide) ?_
      exact prI (post := fun r L1 f1 => (True) ∧ L1 = L ∧ f1 = f) S Y rfl (by decide) (by decide) hA1 ⟨trivial, rfl, rfl⟩ dX10_ageOf_22
    · have B_5461 : bn 1 6 v_5450 := bn_w (bn_gtl c_5460 b_5451 B_5449) (by decide)
      have B_5462 : bn 0 5 i1 := bn_w (bn_gtr c_5460 b_5451 B_5449) (by decide)
      refine lv_aload_n hx hb dX10_ageOf_12 rfl (lv_at hl 0 rfl) ?_
      refine pg_get S Y ok_X10 1 (by decide) kf10_15 (v := .ref (ad 41 0)) p_ad_1_0 rfl dX10_ageOf_13 ?_
      refine lv_iload_n hx hb dX10_ageOf_16 rfl (lv_at hl 1 rfl) ?_
      obtain ⟨g_5463, p_ad_41_0, o_5464⟩ := I.opi (k := 41) (j := 0) (by decide) rfl
      have p_ad_41_0 : pt L f (ad 41 0) (.inl (G.2 0, 6, .inl g_5463)) := p_ad_41_0
      obtain ⟨v_5465, ev_5465⟩ : ∃ z, z = g_5463 (i1 : Int32).toNatClampNeg := ⟨_, rfl⟩
      refine pg_iald S Y (v := v_5465) p_ad_41_0 (vp_bn B_5462 (by decide)) ev_5465.symm dX10_ageOf_17 ?_
      refine lv_goto (tgt := 22) hx hb dX10_ageOf_18 (by decide) ?_
      exact prI (post := fun r L1 f1 => (True) ∧ L1 = L ∧ f1 = f) S Y rfl (by decide) (by decide) hA1 ⟨trivial, rfl, rfl⟩ dX10_ageOf_22
set_option maxHeartbeats 4000000 in
set_option maxRecDepth 100000 in
theorem x_X10_welcome {l : Launch} {G : GG}  {L : List Nat} {f : HF} {ad : Nat → Nat → Nat} {rs : RS} {fc : Int × Int} {tc w : Nat → Int × Int} {q : Nat → (Nat → Int32) → Prop} {i1 i2 : Int32} (I : SH (spC rs fc tc w q) nnC G ad L f) (hW : WBp w 8) (hT : WBp tc 4) (hQ : QIp q) : PMi l yX10_welcome cX10_welcome 3 .int 1 0 0 G [.ref (ad 1 0), .int i1, .int i2] L f (fun r L1 f1 => SH (spC rs fc tc w q) nnC G ad L1 f1) := by
  refine PMi.of (post := fun r L1 f1 => SH (spC rs fc tc w q) nnC G ad L1 f1) (own := RX10) (by decide) rfl (Nat.le_of_ble_eq_true rfl) (fun sz p e s m args below meth c A ls hA1 hname S Y hl => ?_)
  have hx := S.hx
  have hb := S.hb
  have hl : lv_has ls 3 [(0, .ref (ad 1 0)), (1, .int i1), (2, .int i2)] := hl
  refine lv_aload_n hx hb dX10_welcome_0 rfl (lv_at hl 0 rfl) ?_
  obtain ⟨v_5530, v_5532, v_5534, v_5536, v_5538, p_ad_1_0, b_5531, b_5533, b_5535, b_5537, b_5539⟩ := opnC_1 (j := 0) I (by decide)
  have p_ad_1_0 : pt L f (ad 1 0) (.inr (10, [.ref (ad 40 0), .ref (ad 41 0), .ref (ad 42 0), .ref (ad 10 0), .ref (ad 43 0), .ref (ad 20 0), .ref (ad 20 1), .ref (ad 20 2), .ref (ad 20 3), .ref (ad 20 4), .int v_5530, .int v_5532, .int v_5534, .int v_5536, .int v_5538])) := p_ad_1_0
  refine pg_get S Y ok_X10 10 (by decide) kf10_80 (v := .int v_5530) p_ad_1_0 rfl dX10_welcome_1 ?_
  refine lv_bipush (v := 6) hx hb dX10_welcome_4 (by decide) ?_
  refine lv_icmp_ge (tgt := 29) hx hb dX10_welcome_6 (by decide) (fun c_5540 => ?_) (fun c_5540 => ?_)
  · have B_5541 : bn 6 6 v_5530 := bn_w (bn_ler c_5540 (show bn 6 6 (6 : Int32) from bn_k (by decide)) b_5531) (by decide)
    refine lv_iconst (v := (-1)) hx hb dX10_welcome_29 (by decide) ?_
    exact prI (post := fun r L1 f1 => SH (spC rs fc tc w q) nnC G ad L1 f1) S Y rfl (by decide) (by decide) hA1 I dX10_welcome_30
  · have B_5542 : bn 0 5 v_5530 := bn_w (bn_gtr c_5540 (show bn 6 6 (6 : Int32) from bn_k (by decide)) b_5531) (by decide)
    refine lv_iload_n hx hb dX10_welcome_9 rfl (lv_at hl 1 rfl) ?_
    refine lv_iconst (v := 0) hx hb dX10_welcome_10 (by decide) ?_
    refine lv_bipush (v := 9) hx hb dX10_welcome_11 (by decide) ?_
    refine cNp (As := [.int i1, .int 0, .int 9]) (rest := []) S Y (x_X11_within (l := l) ) cw_X11_within km10_89 rfl ⟨Nat.le_of_ble_eq_true rfl, Nat.le_of_ble_eq_true rfl⟩ hl.1 rfl (Nat.le_of_ble_eq_true rfl) ⟨Nat.le_of_ble_eq_true rfl, Nat.le_of_ble_eq_true rfl⟩ dX10_welcome_13 (fun r_5543 H locs er_5543 Y => ?_)
    refine lv_if_eq (tgt := 29) hx hb dX10_welcome_16 (by decide) (fun c_5544 => ?_) (fun c_5544 => ?_)
    · have B_5545 : bn 0 0 r_5543 := bn_w (bn_eq c_5544 (show bn 0 0 (0 : Int32) from bn_k (by decide))) (by decide)
      refine lv_iconst (v := (-1)) hx hb dX10_welcome_29 (by decide) ?_
      exact prI (post := fun r L1 f1 => SH (spC rs fc tc w q) nnC G ad L1 f1) S Y rfl (by decide) (by decide) hA1 I dX10_welcome_30
    · have B_5546 : bn 1 1 r_5543 := bn_w (bn_nel c_5544 er_5543 (show bn 0 0 (0 : Int32) from bn_k (by decide))) (by decide)
      refine lv_iload_n hx hb dX10_welcome_19 rfl (lv_at hl 2 rfl) ?_
      refine lv_iconst (v := 0) hx hb dX10_welcome_20 (by decide) ?_
      refine lv_bipush (v := 99) hx hb dX10_welcome_21 (by decide) ?_
      refine cNp (As := [.int i2, .int 0, .int 99]) (rest := []) S Y (x_X11_within (l := l) ) cw_X11_within km10_89 rfl ⟨Nat.le_of_ble_eq_true rfl, Nat.le_of_ble_eq_true rfl⟩ hl.1 rfl (Nat.le_of_ble_eq_true rfl) ⟨Nat.le_of_ble_eq_true rfl, Nat.le_of_ble_eq_true rfl⟩ dX10_welcome_23 (fun r_5547 H locs er_5547 Y => ?_)
      refine lv_if_ne (tgt := 31) hx hb dX10_welcome_26 (by decide) (fun c_5548 => ?_) (fun c_5548 => ?_)
      · have B_5549 : bn 1 1 r_5547 := bn_w (bn_nel c_5548 er_5547 (show bn 0 0 (0 : Int32) from bn_k (by decide))) (by decide)
        refine lv_aload_n hx hb dX10_welcome_31 rfl (lv_at hl 0 rfl) ?_
        refine pg_get S Y ok_X10 0 (by decide) kf10_9 (v := .ref (ad 40 0)) p_ad_1_0 rfl dX10_welcome_32 ?_
        refine lv_aload_n hx hb dX10_welcome_35 rfl (lv_at hl 0 rfl) ?_
        refine pg_get S Y ok_X10 10 (by decide) kf10_80 (v := .int v_5530) p_ad_1_0 rfl dX10_welcome_36 ?_
        refine lv_iload_n hx hb dX10_welcome_39 rfl (lv_at hl 1 rfl) ?_
        obtain ⟨g_5551, p_ad_40_0, o_5552⟩ := I.opi (k := 40) (j := 0) (by decide) rfl
        have p_ad_40_0 : pt L f (ad 40 0) (.inl (G.2 0, 6, .inl g_5551)) := p_ad_40_0
        refine pg_iast S Y p_ad_40_0 (vp_bn B_5542 (by decide)) dX10_welcome_40 (fun f_5554 H locs ef_5554 Y => ?_)
        obtain ⟨g_5553, eg_5553⟩ : ∃ z, z = upd (g_5551) (v_5530 : Int32).toNatClampNeg i1 := ⟨_, rfl⟩
        rw [← eg_5553] at ef_5554
        have p_ad_1_0 := p_ad_1_0.up ef_5554 (I.ne (k := 1) (j := 0) (k' := 40) (j' := 0) (by decide) (by decide) (Or.inl (by decide)))
        have p_ad_40_0 := p_ad_40_0.me ef_5554
        have I := I.up (k := 40) (j := 0) (by decide) ef_5554 (okE_a (g := g_5553) trivial)
        refine lv_aload_n hx hb dX10_welcome_41 rfl (lv_at hl 0 rfl) ?_
        refine pg_get S Y ok_X10 1 (by decide) kf10_15 (v := .ref (ad 41 0)) p_ad_1_0 rfl dX10_welcome_42 ?_
        refine lv_aload_n hx hb dX10_welcome_45 rfl (lv_at hl 0 rfl) ?_
        refine pg_get S Y ok_X10 10 (by decide) kf10_80 (v := .int v_5530) p_ad_1_0 rfl dX10_welcome_46 ?_
        refine lv_iload_n hx hb dX10_welcome_49 rfl (lv_at hl 2 rfl) ?_
        obtain ⟨g_5555, p_ad_41_0, o_5556⟩ := I.opi (k := 41) (j := 0) (by decide) rfl
        have p_ad_41_0 : pt L f_5554 (ad 41 0) (.inl (G.2 0, 6, .inl g_5555)) := p_ad_41_0
        refine pg_iast S Y p_ad_41_0 (vp_bn B_5542 (by decide)) dX10_welcome_50 (fun f_5558 H locs ef_5558 Y => ?_)
        obtain ⟨g_5557, eg_5557⟩ : ∃ z, z = upd (g_5555) (v_5530 : Int32).toNatClampNeg i2 := ⟨_, rfl⟩
        rw [← eg_5557] at ef_5558
        have p_ad_1_0 := p_ad_1_0.up ef_5558 (I.ne (k := 1) (j := 0) (k' := 41) (j' := 0) (by decide) (by decide) (Or.inl (by decide)))
        have p_ad_40_0 := p_ad_40_0.up ef_5558 (I.ne (k := 40) (j := 0) (k' := 41) (j' := 0) (by decide) (by decide) (Or.inl (by decide)))
        have p_ad_41_0 := p_ad_41_0.me ef_5558
        have I := I.up (k := 41) (j := 0) (by decide) ef_5558 (okE_a (g := g_5557) trivial)
        refine lv_aload_n hx hb dX10_welcome_51 rfl (lv_at hl 0 rfl) ?_
        refine lv_dup hx hb dX10_welcome_52 rfl ?_
        refine pg_get S Y ok_X10 10 (by decide) kf10_80 (v := .int v_5530) p_ad_1_0 rfl dX10_welcome_53 ?_
        refine lv_iconst (v := 1) hx hb dX10_welcome_56 (by decide) ?_
        refine lv_iadd hx hb dX10_welcome_57 ?_
        refine lv_topi (fun x_5559 ex_5559 => ?_)
        refine pg_put S Y ok_X10 10 (by decide) kf10_80 rfl (fs' := [.ref (ad 40 0), .ref (ad 41 0), .ref (ad 42 0), .ref (ad 10 0), .ref (ad 43 0), .ref (ad 20 0), .ref (ad 20 1), .ref (ad 20 2), .ref (ad 20 3), .ref (ad 20 4), .int x_5559, .int v_5532, .int v_5534, .int v_5536, .int v_5538]) (v := .int x_5559) p_ad_1_0 rfl rfl rfl (Nat.le_of_ble_eq_true rfl) dX10_welcome_58 (fun f_5560 H locs ef_5560 Y => ?_)
        have p_ad_40_0 := p_ad_40_0.up ef_5560 (I.ne (k := 40) (j := 0) (k' := 1) (j' := 0) (by decide) (by decide) (Or.inl (by decide)))
        have p_ad_41_0 := p_ad_41_0.up ef_5560 (I.ne (k := 41) (j := 0) (k' := 1) (j' := 0) (by decide) (by decide) (Or.inl (by decide)))
        have p_ad_1_0 := p_ad_1_0.me ef_5560
        have I := I.up (k := 1) (j := 0) (by decide) ef_5560 (okE_o (okFs_c okV_r (okFs_c okV_r (okFs_c okV_r (okFs_c okV_r (okFs_c okV_r (okFs_c okV_r (okFs_c okV_r (okFs_c okV_r (okFs_c okV_r (okFs_c okV_r (okFs_c (okV_i (bn_w (bn_eq ex_5559 (bn_add B_5542 (show bn 1 1 (1 : Int32) from bn_k (by decide)) (by decide))) (by decide))) (okFs_c (okV_p b_5533) (okFs_c (okV_i b_5535) (okFs_c (okV_i b_5537) (okFs_c (okV_i b_5539) okFs_n))))))))))))))))
        refine lv_aload_n hx hb dX10_welcome_61 rfl (lv_at hl 0 rfl) ?_
        refine pg_get S Y ok_X10 10 (by decide) kf10_80 (v := .int x_5559) p_ad_1_0 rfl dX10_welcome_62 ?_
        refine lv_iconst (v := 1) hx hb dX10_welcome_65 (by decide) ?_
        refine lv_isub hx hb dX10_welcome_66 ?_
        refine lv_topi (fun x_5561 ex_5561 => ?_)
        exact prI (post := fun r L1 f1 => SH (spC rs fc tc w q) nnC G ad L1 f1) S Y rfl (by decide) (by decide) hA1 I dX10_welcome_67
      · have B_5550 : bn 0 0 r_5547 := bn_w (bn_eq c_5548 (show bn 0 0 (0 : Int32) from bn_k (by decide))) (by decide)
        refine lv_iconst (v := (-1)) hx hb dX10_welcome_29 (by decide) ?_
        exact prI (post := fun r L1 f1 => SH (spC rs fc tc w q) nnC G ad L1 f1) S Y rfl (by decide) (by decide) hA1 I dX10_welcome_30
set_option maxHeartbeats 4000000 in
set_option maxRecDepth 100000 in
theorem x_X10_script {l : Launch} {G : GG}  {L : List Nat} {f : HF} {ad : Nat → Nat → Nat} {rs : RS} {fc : Int × Int} {tc w : Nat → Int × Int} {q : Nat → (Nat → Int32) → Prop} {i1 : Int32} (I : SH (spC rs fc tc w q) nnC G ad L f) (hW : WBp w 8) (hT : WBp tc 4) (hQ : QIp q) : PMw l yX10_script cX10_script 2 (.object "KneeOaths$Script") 0 0 0 G [.ref (ad 1 0), .int i1] L f (fun r => (r = none ∨ ∃ t, t < 4 ∧ r = some (ad 30 (0 + t)))) := by
  refine PMq.of (post := fun r L1 f1 => ((r = none ∨ ∃ t, t < 4 ∧ r = some (ad 30 (0 + t)))) ∧ L1 = L ∧ f1 = f) (own := RX10) (by decide) rfl (Nat.le_of_ble_eq_true rfl) (fun sz p e s m args below meth c A ls hA1 hname S Y hl => ?_)
  have hx := S.hx
  have hb := S.hb
  have hl : lv_has ls 2 [(0, .ref (ad 1 0)), (1, .int i1)] := hl
  refine lv_iload_n hx hb dX10_script_0 rfl (lv_at hl 1 rfl) ?_
  refine lv_if_lt (tgt := 21) hx hb dX10_script_1 (by decide) (fun c_5598 => ?_) (fun c_5598 => ?_)
  · have B_5599 : bn (-2147483648) (-1) i1 := bn_w (bn_ltl c_5598 (bn_any i1) (show bn 0 0 (0 : Int32) from bn_k (by decide))) (by decide)
    refine lv_null hx hb dX10_script_21 ?_
    exact prQ (post := fun r L1 f1 => ((r = none ∨ ∃ t, t < 4 ∧ r = some (ad 30 (0 + t)))) ∧ L1 = L ∧ f1 = f) (r := none) S Y rfl (by decide) (by decide) hA1 ⟨Or.inl rfl, rfl, rfl⟩ dX10_script_22
  · have B_5600 : bn 0 2147483647 i1 := bn_w (bn_gel c_5598 (bn_any i1) (show bn 0 0 (0 : Int32) from bn_k (by decide))) (by decide)
    refine lv_iload_n hx hb dX10_script_4 rfl (lv_at hl 1 rfl) ?_
    refine lv_aload_n hx hb dX10_script_5 rfl (lv_at hl 0 rfl) ?_
    obtain ⟨v_5601, v_5603, v_5605, v_5607, v_5609, p_ad_1_0, b_5602, b_5604, b_5606, b_5608, b_5610⟩ := opnC_1 (j := 0) I (by decide)
    have p_ad_1_0 : pt L f (ad 1 0) (.inr (10, [.ref (ad 40 0), .ref (ad 41 0), .ref (ad 42 0), .ref (ad 10 0), .ref (ad 43 0), .ref (ad 20 0), .ref (ad 20 1), .ref (ad 20 2), .ref (ad 20 3), .ref (ad 20 4), .int v_5601, .int v_5603, .int v_5605, .int v_5607, .int v_5609])) := p_ad_1_0
    refine pg_get S Y ok_X10 11 (by decide) kf10_67 (v := .int v_5603) p_ad_1_0 rfl dX10_script_6 ?_
    refine lv_icmp_ge (tgt := 21) hx hb dX10_script_9 (by decide) (fun c_5611 => ?_) (fun c_5611 => ?_)
    · refine lv_null hx hb dX10_script_21 ?_
      exact prQ (post := fun r L1 f1 => ((r = none ∨ ∃ t, t < 4 ∧ r = some (ad 30 (0 + t)))) ∧ L1 = L ∧ f1 = f) (r := none) S Y rfl (by decide) (by decide) hA1 ⟨Or.inl rfl, rfl, rfl⟩ dX10_script_22
    · have B_5612 : bn 1 4 v_5603 := bn_w (bn_gtl c_5611 (bn_w (a' := 0) (b' := 4) b_5604 (hT 0)) B_5600) (by decide)
      have B_5613 : bn 0 3 i1 := bn_w (bn_gtr c_5611 (bn_w (a' := 0) (b' := 4) b_5604 (hT 0)) B_5600) (by decide)
      refine lv_aload_n hx hb dX10_script_12 rfl (lv_at hl 0 rfl) ?_
      refine pg_get S Y ok_X10 2 (by decide) kf10_20 (v := .ref (ad 42 0)) p_ad_1_0 rfl dX10_script_13 ?_
      refine lv_iload_n hx hb dX10_script_16 rfl (lv_at hl 1 rfl) ?_
      obtain ⟨g_5614, p_ad_42_0, o_5615⟩ := I.opr (k := 42) (j := 0) (by decide) rfl
      have p_ad_42_0 : pt L f (ad 42 0) (.inl (G.2 4, 4, .inr (.inr (.inr (.inr g_5614))))) := p_ad_42_0
      refine pg_aald S Y (k := 4) (o := (ad 30 i1.toNatClampNeg)) p_ad_42_0 rfl (vp_bn B_5613 (by decide)) (aal0 (o_5615 _ (tn_bn B_5613 (by decide)))) dX10_script_17 ?_
      refine lv_goto (tgt := 22) hx hb dX10_script_18 (by decide) ?_
      exact prQ (post := fun r L1 f1 => ((r = none ∨ ∃ t, t < 4 ∧ r = some (ad 30 (0 + t)))) ∧ L1 = L ∧ f1 = f) (r := some (ad 30 i1.toNatClampNeg)) S Y rfl (by decide) (by decide) hA1 ⟨Or.inr ⟨i1.toNatClampNeg, (show i1.toNatClampNeg < 4 from by have h9 := tn_bn (n := 4) B_5613 (by decide); omega), by rw [Nat.zero_add]⟩, rfl, rfl⟩ dX10_script_22
theorem le3 {a b : Int} {x : Int32} (h : bn a b x) (g : bn 0 3 x) (e : a = b) : b ≤ 3 := by
  obtain ⟨h1, h2⟩ := h; obtain ⟨g1, g2⟩ := g; omega
theorem bn_pl {a b : Int} {x z : Int32} (e : z = x + 1) (h : bn a b x) (ha : 0 ≤ a) (hb : b ≤ 3) : bn (a + 1) (b + 1) z := by
  rw [e]; exact bn_add h (show bn 1 1 (1 : Int32) from bn_k (by decide)) ⟨by omega, by omega⟩
theorem WB_pl {tc : Nat → Int × Int} (hT : WBp tc 4) (h3 : (tc 0).2 ≤ 3) : WBp (stf tc 0 ((tc 0).1 + 1, (tc 0).2 + 1)) 4 := by
  intro k
  by_cases z : k = 0
  · subst z; rw [stf_s]; have := hT 0; exact ⟨by dsimp only; omega, by dsimp only; omega⟩
  · rw [stf_n z]; exact hT k
set_option maxHeartbeats 4000000 in
set_option maxRecDepth 100000 in
theorem x_X10_freeScript {l : Launch} {G : GG}  {L : List Nat} {f : HF} {ad : Nat → Nat → Nat} {rs : RS} {fc : Int × Int} {tc w : Nat → Int × Int} {q : Nat → (Nat → Int32) → Prop} (I : SH (spC rs fc tc w q) nnC G ad L f) (hW : WBp w 8) (hT : WBp tc 4) (hQ : QIp q) (hE : ∀ j, (tc j).1 = (tc j).2) : PMw l yX10_freeScript cX10_freeScript 1 (.object "KneeOaths$Script") 0 0 0 G [.ref (ad 1 0)] L f (fun r => ((r = none ∨ ∃ t, t < 4 ∧ r = some (ad 30 (0 + t))) ∧ (r ≠ none → (tc 0).2 ≤ 3))) := by
  refine PMq.of (post := fun r L1 f1 => (((r = none ∨ ∃ t, t < 4 ∧ r = some (ad 30 (0 + t))) ∧ (r ≠ none → (tc 0).2 ≤ 3))) ∧ L1 = L ∧ f1 = f) (own := RX10) (by decide) rfl (Nat.le_of_ble_eq_true rfl) (fun sz p e s m args below meth c A ls hA1 hname S Y hl => ?_)
  have hx := S.hx
  have hb := S.hb
  have hl : lv_has ls 1 [(0, .ref (ad 1 0))] := hl
  refine lv_aload_n hx hb dX10_freeScript_0 rfl (lv_at hl 0 rfl) ?_
  obtain ⟨v_5646, v_5648, v_5650, v_5652, v_5654, p_ad_1_0, b_5647, b_5649, b_5651, b_5653, b_5655⟩ := opnC_1 (j := 0) I (by decide)
  have p_ad_1_0 : pt L f (ad 1 0) (.inr (10, [.ref (ad 40 0), .ref (ad 41 0), .ref (ad 42 0), .ref (ad 10 0), .ref (ad 43 0), .ref (ad 20 0), .ref (ad 20 1), .ref (ad 20 2), .ref (ad 20 3), .ref (ad 20 4), .int v_5646, .int v_5648, .int v_5650, .int v_5652, .int v_5654])) := p_ad_1_0
  refine pg_get S Y ok_X10 11 (by decide) kf10_67 (v := .int v_5648) p_ad_1_0 rfl dX10_freeScript_1 ?_
  refine lv_iconst (v := 4) hx hb dX10_freeScript_4 (by decide) ?_
  refine lv_icmp_ge (tgt := 20) hx hb dX10_freeScript_5 (by decide) (fun c_5656 => ?_) (fun c_5656 => ?_)
  · have B_5657 : bn 4 4 v_5648 := bn_w (bn_ler c_5656 (show bn 4 4 (4 : Int32) from bn_k (by decide)) (bn_w (a' := 0) (b' := 4) b_5649 (hT 0))) (by decide)
    refine lv_null hx hb dX10_freeScript_20 ?_
    exact prQ (post := fun r L1 f1 => (((r = none ∨ ∃ t, t < 4 ∧ r = some (ad 30 (0 + t))) ∧ (r ≠ none → (tc 0).2 ≤ 3))) ∧ L1 = L ∧ f1 = f) (r := none) S Y rfl (by decide) (by decide) hA1 ⟨⟨Or.inl rfl, fun h => absurd rfl h⟩, rfl, rfl⟩ dX10_freeScript_21
  · have B_5658 : bn 0 3 v_5648 := bn_w (bn_gtr c_5656 (show bn 4 4 (4 : Int32) from bn_k (by decide)) (bn_w (a' := 0) (b' := 4) b_5649 (hT 0))) (by decide)
    refine lv_aload_n hx hb dX10_freeScript_8 rfl (lv_at hl 0 rfl) ?_
    refine pg_get S Y ok_X10 2 (by decide) kf10_20 (v := .ref (ad 42 0)) p_ad_1_0 rfl dX10_freeScript_9 ?_
    refine lv_aload_n hx hb dX10_freeScript_12 rfl (lv_at hl 0 rfl) ?_
    refine pg_get S Y ok_X10 11 (by decide) kf10_67 (v := .int v_5648) p_ad_1_0 rfl dX10_freeScript_13 ?_
    obtain ⟨g_5659, p_ad_42_0, o_5660⟩ := I.opr (k := 42) (j := 0) (by decide) rfl
    have p_ad_42_0 : pt L f (ad 42 0) (.inl (G.2 4, 4, .inr (.inr (.inr (.inr g_5659))))) := p_ad_42_0
    refine pg_aald S Y (k := 4) (o := (ad 30 v_5648.toNatClampNeg)) p_ad_42_0 rfl (vp_bn B_5658 (by decide)) (aal0 (o_5660 _ (tn_bn B_5658 (by decide)))) dX10_freeScript_16 ?_
    refine lv_goto (tgt := 21) hx hb dX10_freeScript_17 (by decide) ?_
    exact prQ (post := fun r L1 f1 => (((r = none ∨ ∃ t, t < 4 ∧ r = some (ad 30 (0 + t))) ∧ (r ≠ none → (tc 0).2 ≤ 3))) ∧ L1 = L ∧ f1 = f) (r := some (ad 30 v_5648.toNatClampNeg)) S Y rfl (by decide) (by decide) hA1 ⟨⟨Or.inr ⟨v_5648.toNatClampNeg, tn_bn B_5658 (by decide), by rw [Nat.zero_add]⟩, fun _ => by have h7 := b_5649; have h8 : bn 0 3 v_5648 := bn_w B_5658 (by decide); have h9 := hE 0; exact le3 h7 h8 h9⟩, rfl, rfl⟩ dX10_freeScript_21
set_option maxHeartbeats 4000000 in
set_option maxRecDepth 100000 in
theorem x_X10_keepScript {l : Launch} {G : GG}  {L : List Nat} {f : HF} {ad : Nat → Nat → Nat} {rs : RS} {fc : Int × Int} {tc w : Nat → Int × Int} {q : Nat → (Nat → Int32) → Prop} (I : SH (spC rs fc tc w q) nnC G ad L f) (hW : WBp w 8) (hT : WBp tc 4) (hQ : QIp q) (h3 : (tc 0).2 ≤ 3) : PMi l yX10_keepScript cX10_keepScript 1 .int 0 0 0 G [.ref (ad 1 0)] L f (fun r L1 f1 => ∃ tc2 : Nat → Int × Int, SH (spC rs fc tc2 w q) nnC G ad L1 f1 ∧ tc2 0 = ((tc 0).1 + 1, (tc 0).2 + 1) ∧ (∀ k, k ≠ 0 → tc2 k = tc k) ∧ WBp tc2 4) := by
  refine PMi.of (post := fun r L1 f1 => ∃ tc2 : Nat → Int × Int, SH (spC rs fc tc2 w q) nnC G ad L1 f1 ∧ tc2 0 = ((tc 0).1 + 1, (tc 0).2 + 1) ∧ (∀ k, k ≠ 0 → tc2 k = tc k) ∧ WBp tc2 4) (own := RX10) (by decide) rfl (Nat.le_of_ble_eq_true rfl) (fun sz p e s m args below meth c A ls hA1 hname S Y hl => ?_)
  have hx := S.hx
  have hb := S.hb
  have hl : lv_has ls 1 [(0, .ref (ad 1 0))] := hl
  refine lv_aload_n hx hb dX10_keepScript_0 rfl (lv_at hl 0 rfl) ?_
  refine lv_dup hx hb dX10_keepScript_1 rfl ?_
  obtain ⟨v_5687, v_5689, v_5691, v_5693, v_5695, p_ad_1_0, b_5688, b_5690, b_5692, b_5694, b_5696⟩ := opnC_1 (j := 0) I (by decide)
  have p_ad_1_0 : pt L f (ad 1 0) (.inr (10, [.ref (ad 40 0), .ref (ad 41 0), .ref (ad 42 0), .ref (ad 10 0), .ref (ad 43 0), .ref (ad 20 0), .ref (ad 20 1), .ref (ad 20 2), .ref (ad 20 3), .ref (ad 20 4), .int v_5687, .int v_5689, .int v_5691, .int v_5693, .int v_5695])) := p_ad_1_0
  refine pg_get S Y ok_X10 11 (by decide) kf10_67 (v := .int v_5689) p_ad_1_0 rfl dX10_keepScript_2 ?_
  refine lv_iconst (v := 1) hx hb dX10_keepScript_5 (by decide) ?_
  refine lv_iadd hx hb dX10_keepScript_6 ?_
  refine lv_topi (fun x_5697 ex_5697 => ?_)
  refine pg_put S Y ok_X10 11 (by decide) kf10_67 rfl (fs' := [.ref (ad 40 0), .ref (ad 41 0), .ref (ad 42 0), .ref (ad 10 0), .ref (ad 43 0), .ref (ad 20 0), .ref (ad 20 1), .ref (ad 20 2), .ref (ad 20 3), .ref (ad 20 4), .int v_5687, .int x_5697, .int v_5691, .int v_5693, .int v_5695]) (v := .int x_5697) p_ad_1_0 rfl rfl rfl (Nat.le_of_ble_eq_true rfl) dX10_keepScript_7 (fun f_5698 H locs ef_5698 Y => ?_)
  have p_ad_1_0 := p_ad_1_0.me ef_5698
  have I := I.upS (sp' := spC rs fc (stf tc 0 ((tc 0).1 + 1, (tc 0).2 + 1)) w q) (k := 1) (j := 0) (by decide) ef_5698 (okE_o (okFs_c okV_r (okFs_c okV_r (okFs_c okV_r (okFs_c okV_r (okFs_c okV_r (okFs_c okV_r (okFs_c okV_r (okFs_c okV_r (okFs_c okV_r (okFs_c okV_r (okFs_c (okV_i b_5688) (okFs_c (okV_p (q := stf tc 0 ((tc 0).1 + 1, (tc 0).2 + 1) 0) (by rw [stf_s]; exact bn_pl ex_5697 b_5690 (hT 0).1 h3)) (okFs_c (okV_i b_5692) (okFs_c (okV_i b_5694) (okFs_c (okV_i b_5696) okFs_n)))))))))))))))) tcC
  refine lv_aload_n hx hb dX10_keepScript_10 rfl (lv_at hl 0 rfl) ?_
  refine pg_get S Y ok_X10 11 (by decide) kf10_67 (v := .int x_5697) p_ad_1_0 rfl dX10_keepScript_11 ?_
  refine lv_iconst (v := 1) hx hb dX10_keepScript_14 (by decide) ?_
  refine lv_isub hx hb dX10_keepScript_15 ?_
  refine lv_topi (fun x_5699 ex_5699 => ?_)
  exact prI (post := fun r L1 f1 => ∃ tc2 : Nat → Int × Int, SH (spC rs fc tc2 w q) nnC G ad L1 f1 ∧ tc2 0 = ((tc 0).1 + 1, (tc 0).2 + 1) ∧ (∀ k, k ≠ 0 → tc2 k = tc k) ∧ WBp tc2 4) S Y rfl (by decide) (by decide) hA1 ⟨stf tc 0 ((tc 0).1 + 1, (tc 0).2 + 1), I, stf_s, fun k h => stf_n h, WB_pl hT h3⟩ dX10_keepScript_16
set_option maxHeartbeats 4000000 in
set_option maxRecDepth 100000 in
theorem x_X10_putUnder {l : Launch} {G : GG}  {L : List Nat} {f : HF} {ad : Nat → Nat → Nat} {rs : RS} {fc : Int × Int} {tc w : Nat → Int × Int} {q : Nat → (Nat → Int32) → Prop} {i1 : Int32} (I : SH (spC rs fc tc w q) nnC G ad L f) (hW : WBp w 8) (hT : WBp tc 4) (hQ : QIp q) : PMi l yX10_putUnder cX10_putUnder 2 .boolean 1 0 0 G [.ref (ad 1 0), .int i1] L f (fun r L1 f1 => bn 0 1 r ∧ SH (spC rs fc tc w q) nnC G ad L1 f1) := by
  refine PMi.of (post := fun r L1 f1 => bn 0 1 r ∧ SH (spC rs fc tc w q) nnC G ad L1 f1) (own := RX10) (by decide) rfl (Nat.le_of_ble_eq_true rfl) (fun sz p e s m args below meth c A ls hA1 hname S Y hl => ?_)
  have hx := S.hx
  have hb := S.hb
  have hl : lv_has ls 2 [(0, .ref (ad 1 0)), (1, .int i1)] := hl
  refine lv_iload_n hx hb dX10_putUnder_0 rfl (lv_at hl 1 rfl) ?_
  refine lv_iconst (v := (-1)) hx hb dX10_putUnder_1 (by decide) ?_
  refine lv_icmp_eq (tgt := 15) hx hb dX10_putUnder_2 (by decide) (fun c_5752 => ?_) (fun c_5752 => ?_)
  · have B_5753 : bn (-1) (-1) i1 := bn_w (bn_eq c_5752 (show bn (-1) (-1) ((-1) : Int32) from bn_k (by decide))) (by decide)
    refine lv_aload_n hx hb dX10_putUnder_15 rfl (lv_at hl 0 rfl) ?_
    refine lv_iload_n hx hb dX10_putUnder_16 rfl (lv_at hl 1 rfl) ?_
    obtain ⟨v_5754, v_5756, v_5758, v_5760, v_5762, p_ad_1_0, b_5755, b_5757, b_5759, b_5761, b_5763⟩ := opnC_1 (j := 0) I (by decide)
    have p_ad_1_0 : pt L f (ad 1 0) (.inr (10, [.ref (ad 40 0), .ref (ad 41 0), .ref (ad 42 0), .ref (ad 10 0), .ref (ad 43 0), .ref (ad 20 0), .ref (ad 20 1), .ref (ad 20 2), .ref (ad 20 3), .ref (ad 20 4), .int v_5754, .int v_5756, .int v_5758, .int v_5760, .int v_5762])) := p_ad_1_0
    refine pg_put S Y ok_X10 12 (by decide) kf10_56 rfl (fs' := [.ref (ad 40 0), .ref (ad 41 0), .ref (ad 42 0), .ref (ad 10 0), .ref (ad 43 0), .ref (ad 20 0), .ref (ad 20 1), .ref (ad 20 2), .ref (ad 20 3), .ref (ad 20 4), .int v_5754, .int v_5756, .int i1, .int v_5760, .int v_5762]) (v := .int i1) p_ad_1_0 rfl rfl rfl (Nat.le_of_ble_eq_true rfl) dX10_putUnder_17 (fun f_5764 H locs ef_5764 Y => ?_)
    have p_ad_1_0 := p_ad_1_0.me ef_5764
    have I := I.up (k := 1) (j := 0) (by decide) ef_5764 (okE_o (okFs_c okV_r (okFs_c okV_r (okFs_c okV_r (okFs_c okV_r (okFs_c okV_r (okFs_c okV_r (okFs_c okV_r (okFs_c okV_r (okFs_c okV_r (okFs_c okV_r (okFs_c (okV_i b_5755) (okFs_c (okV_p b_5757) (okFs_c (okV_i (bn_w B_5753 (by decide))) (okFs_c (okV_i b_5761) (okFs_c (okV_i b_5763) okFs_n))))))))))))))))
    refine lv_iconst (v := 1) hx hb dX10_putUnder_20 (by decide) ?_
    exact prI (post := fun r L1 f1 => bn 0 1 r ∧ SH (spC rs fc tc w q) nnC G ad L1 f1) S Y rfl (by decide) (by decide) hA1 ⟨bn_w (show bn 1 1 (1 : Int32) from bn_k (by decide)) (by decide), I⟩ dX10_putUnder_21
  · refine lv_aload_n hx hb dX10_putUnder_5 rfl (lv_at hl 0 rfl) ?_
    refine lv_iload_n hx hb dX10_putUnder_6 rfl (lv_at hl 1 rfl) ?_
    refine cVw (As := [.int i1]) (rest := []) S Y (x_X10_script (l := l) I hW hT hQ) cw_X10_script km10_93 (I.opo (k := 1) (j := 0) (by decide) rfl).choose_spec.1 ok_X10.1 rfl rfl ⟨Nat.le_of_ble_eq_true rfl, Nat.le_of_ble_eq_true rfl⟩ hl.1 rfl (Nat.le_of_ble_eq_true rfl) ⟨Nat.le_of_ble_eq_true rfl, Nat.le_of_ble_eq_true rfl⟩ dX10_putUnder_7 (fun r_5765 H locs er_5765 Y => ?_)
    rcases er_5765 with er_5765 | ⟨t_5766, ht_5766, er_5765⟩
    · rw [er_5765]
      show W _ _ _ _ _ _ _ _ _ _ _ _ _ _ _ (F0 _ _ _ (.null :: _))
      refine lv_ifnonnullN hx hb dX10_putUnder_10 ?_
      refine lv_iconst (v := 0) hx hb dX10_putUnder_13 (by decide) ?_
      exact prI (post := fun r L1 f1 => bn 0 1 r ∧ SH (spC rs fc tc w q) nnC G ad L1 f1) S Y rfl (by decide) (by decide) hA1 ⟨bn_w (show bn 0 0 (0 : Int32) from bn_k (by decide)) (by decide), I⟩ dX10_putUnder_14
    · rw [er_5765]
      have e9 : 0 + t_5766 = t_5766 := Nat.zero_add _
      rw [e9]
      show W _ _ _ _ _ _ _ _ _ _ _ _ _ _ _ (F0 _ _ _ (.ref (ad 30 t_5766) :: _))
      refine lv_ifnonnull (tgt := 15) hx hb dX10_putUnder_10 (by decide) ?_
      refine lv_aload_n hx hb dX10_putUnder_15 rfl (lv_at hl 0 rfl) ?_
      refine lv_iload_n hx hb dX10_putUnder_16 rfl (lv_at hl 1 rfl) ?_
      obtain ⟨v_5767, v_5769, v_5771, v_5773, v_5775, p_ad_1_0, b_5768, b_5770, b_5772, b_5774, b_5776⟩ := opnC_1 (j := 0) I (by decide)
      have p_ad_1_0 : pt L f (ad 1 0) (.inr (10, [.ref (ad 40 0), .ref (ad 41 0), .ref (ad 42 0), .ref (ad 10 0), .ref (ad 43 0), .ref (ad 20 0), .ref (ad 20 1), .ref (ad 20 2), .ref (ad 20 3), .ref (ad 20 4), .int v_5767, .int v_5769, .int v_5771, .int v_5773, .int v_5775])) := p_ad_1_0
      refine pg_put S Y ok_X10 12 (by decide) kf10_56 rfl (fs' := [.ref (ad 40 0), .ref (ad 41 0), .ref (ad 42 0), .ref (ad 10 0), .ref (ad 43 0), .ref (ad 20 0), .ref (ad 20 1), .ref (ad 20 2), .ref (ad 20 3), .ref (ad 20 4), .int v_5767, .int v_5769, .int i1, .int v_5773, .int v_5775]) (v := .int i1) p_ad_1_0 rfl rfl rfl (Nat.le_of_ble_eq_true rfl) dX10_putUnder_17 (fun f_5777 H locs ef_5777 Y => ?_)
      have p_ad_1_0 := p_ad_1_0.me ef_5777
      have I := I.up (k := 1) (j := 0) (by decide) ef_5777 (okE_o (okFs_c okV_r (okFs_c okV_r (okFs_c okV_r (okFs_c okV_r (okFs_c okV_r (okFs_c okV_r (okFs_c okV_r (okFs_c okV_r (okFs_c okV_r (okFs_c okV_r (okFs_c (okV_i b_5768) (okFs_c (okV_p b_5770) (okFs_c (okV_i (bn_w (bn_any i1) (by decide))) (okFs_c (okV_i b_5774) (okFs_c (okV_i b_5776) okFs_n))))))))))))))))
      refine lv_iconst (v := 1) hx hb dX10_putUnder_20 (by decide) ?_
      exact prI (post := fun r L1 f1 => bn 0 1 r ∧ SH (spC rs fc tc w q) nnC G ad L1 f1) S Y rfl (by decide) (by decide) hA1 ⟨bn_w (show bn 1 1 (1 : Int32) from bn_k (by decide)) (by decide), I⟩ dX10_putUnder_21
set_option maxHeartbeats 4000000 in
set_option maxRecDepth 100000 in
theorem x_X10_remember {l : Launch} {G : GG}  {L : List Nat} {f : HF} {ad : Nat → Nat → Nat} {rs : RS} {fc : Int × Int} {tc w : Nat → Int × Int} {q : Nat → (Nat → Int32) → Prop} (I : SH (spC rs fc tc w q) nnC G ad L f) (hW : WBp w 8) (hT : WBp tc 4) (hQ : QIp q) : PMv l yX10_remember cX10_remember 1 2 0 0 G [.ref (ad 1 0)] L f (fun L1 f1 => SH (spC rs fc tc w q) nnC G ad L1 f1) := by
  refine PMv.of (post := fun L1 f1 => SH (spC rs fc tc w q) nnC G ad L1 f1) (own := RX10) (by decide) rfl (Nat.le_of_ble_eq_true rfl) (fun sz p e s m args below meth c A ls hA1 hname S Y hl => ?_)
  have hx := S.hx
  have hb := S.hb
  have hl : lv_has ls 1 [(0, .ref (ad 1 0))] := hl
  refine lv_aload_n hx hb dX10_remember_0 rfl (lv_at hl 0 rfl) ?_
  obtain ⟨v_5846, v_5848, v_5850, v_5852, v_5854, p_ad_1_0, b_5847, b_5849, b_5851, b_5853, b_5855⟩ := opnC_1 (j := 0) I (by decide)
  have p_ad_1_0 : pt L f (ad 1 0) (.inr (10, [.ref (ad 40 0), .ref (ad 41 0), .ref (ad 42 0), .ref (ad 10 0), .ref (ad 43 0), .ref (ad 20 0), .ref (ad 20 1), .ref (ad 20 2), .ref (ad 20 3), .ref (ad 20 4), .int v_5846, .int v_5848, .int v_5850, .int v_5852, .int v_5854])) := p_ad_1_0
  refine pg_get S Y ok_X10 4 (by decide) kf10_31 (v := .ref (ad 43 0)) p_ad_1_0 rfl dX10_remember_1 ?_
  refine lv_aload_n hx hb dX10_remember_4 rfl (lv_at hl 0 rfl) ?_
  refine pg_get S Y ok_X10 13 (by decide) kf10_83 (v := .int v_5852) p_ad_1_0 rfl dX10_remember_5 ?_
  refine lv_aload_n hx hb dX10_remember_8 rfl (lv_at hl 0 rfl) ?_
  refine pg_get S Y ok_X10 14 (by decide) kf10_86 (v := .int v_5854) p_ad_1_0 rfl dX10_remember_9 ?_
  refine lv_iadd hx hb dX10_remember_12 ?_
  refine lv_topi (fun x_5856 ex_5856 => ?_)
  refine lv_bipush (v := 30) hx hb dX10_remember_13 (by decide) ?_
  refine lv_irem hx hb dX10_remember_15 (by decide) ?_
  refine lv_topi (fun x_5857 ex_5857 => ?_)
  obtain ⟨g_5858, p_ad_43_0, o_5859⟩ := I.opr (k := 43) (j := 0) (by decide) rfl
  have p_ad_43_0 : pt L f (ad 43 0) (.inl (G.2 3, 30, .inr (.inr (.inr (.inr g_5858))))) := p_ad_43_0
  refine pg_aald S Y (k := 3) (o := (ad 10 (1 + x_5857.toNatClampNeg))) p_ad_43_0 rfl (vp_bn (bn_eq ex_5857 (bn_rem (bn_eq ex_5856 (bn_add b_5853 b_5855 (by decide))) (show bn 30 30 (30 : Int32) from bn_k (by decide)) (by decide))) (by decide)) (o_5859 _ (tn_bn (bn_eq ex_5857 (bn_rem (bn_eq ex_5856 (bn_add b_5853 b_5855 (by decide))) (show bn 30 30 (30 : Int32) from bn_k (by decide)) (by decide))) (by decide))) dX10_remember_16 ?_
  refine lv_aload_n hx hb dX10_remember_17 rfl (lv_at hl 0 rfl) ?_
  refine pg_get S Y ok_X10 3 (by decide) kf10_27 (v := .ref (ad 10 0)) p_ad_1_0 rfl dX10_remember_18 ?_
  refine cVv (As := [.ref (ad 10 0)]) (rest := []) S Y (x_X4_takeOver (l := l) (j := (1 + x_5857.toNatClampNeg)) (i := 0) I hW hT hQ (show (1 + x_5857.toNatClampNeg) < 63 from by have h9 := tn_bn (n := 30) (bn_eq ex_5857 (bn_rem (bn_eq ex_5856 (bn_add b_5853 b_5855 (by decide))) (show bn 30 30 (30 : Int32) from bn_k (by decide)) (by decide))) (by decide); omega) (by decide) (by omega)) cw_X4_takeOver km10_74 (I.opo (k := 10) (j := (1 + x_5857.toNatClampNeg)) (show (1 + x_5857.toNatClampNeg) < 63 from by have h9 := tn_bn (n := 30) (bn_eq ex_5857 (bn_rem (bn_eq ex_5856 (bn_add b_5853 b_5855 (by decide))) (show bn 30 30 (30 : Int32) from bn_k (by decide)) (by decide))) (by decide); omega) rfl).choose_spec.1 ok_X4.1 rfl rfl ⟨Nat.le_of_ble_eq_true rfl, Nat.le_of_ble_eq_true rfl⟩ hl.1 rfl (Nat.le_of_ble_eq_true rfl) ⟨Nat.le_of_ble_eq_true rfl, Nat.le_of_ble_eq_true rfl⟩ dX10_remember_21 (fun L_5860 f_5861 H locs I Y => ?_)
  refine lv_aload_n hx hb dX10_remember_24 rfl (lv_at hl 0 rfl) ?_
  obtain ⟨v_5862, v_5864, v_5866, v_5868, v_5870, p_ad_1_0, b_5863, b_5865, b_5867, b_5869, b_5871⟩ := opnC_1 (j := 0) I (by decide)
  have p_ad_1_0 : pt L_5860 f_5861 (ad 1 0) (.inr (10, [.ref (ad 40 0), .ref (ad 41 0), .ref (ad 42 0), .ref (ad 10 0), .ref (ad 43 0), .ref (ad 20 0), .ref (ad 20 1), .ref (ad 20 2), .ref (ad 20 3), .ref (ad 20 4), .int v_5862, .int v_5864, .int v_5866, .int v_5868, .int v_5870])) := p_ad_1_0
  refine pg_get S Y ok_X10 14 (by decide) kf10_86 (v := .int v_5870) p_ad_1_0 rfl dX10_remember_25 ?_
  refine lv_bipush (v := 30) hx hb dX10_remember_28 (by decide) ?_
  refine lv_icmp_ge (tgt := 46) hx hb dX10_remember_30 (by decide) (fun c_5872 => ?_) (fun c_5872 => ?_)
  · have B_5873 : bn 30 30 v_5870 := bn_w (bn_ler c_5872 (show bn 30 30 (30 : Int32) from bn_k (by decide)) b_5871) (by decide)
    refine lv_aload_n hx hb dX10_remember_46 rfl (lv_at hl 0 rfl) ?_
    refine lv_aload_n hx hb dX10_remember_47 rfl (lv_at hl 0 rfl) ?_
    refine pg_get S Y ok_X10 13 (by decide) kf10_83 (v := .int v_5868) p_ad_1_0 rfl dX10_remember_48 ?_
    refine lv_iconst (v := 1) hx hb dX10_remember_51 (by decide) ?_
    refine lv_iadd hx hb dX10_remember_52 ?_
    refine lv_topi (fun x_5875 ex_5875 => ?_)
    refine lv_bipush (v := 30) hx hb dX10_remember_53 (by decide) ?_
    refine lv_irem hx hb dX10_remember_55 (by decide) ?_
    refine lv_topi (fun x_5876 ex_5876 => ?_)
    refine pg_put S Y ok_X10 13 (by decide) kf10_83 rfl (fs' := [.ref (ad 40 0), .ref (ad 41 0), .ref (ad 42 0), .ref (ad 10 0), .ref (ad 43 0), .ref (ad 20 0), .ref (ad 20 1), .ref (ad 20 2), .ref (ad 20 3), .ref (ad 20 4), .int v_5862, .int v_5864, .int v_5866, .int x_5876, .int v_5870]) (v := .int x_5876) p_ad_1_0 rfl rfl rfl (Nat.le_of_ble_eq_true rfl) dX10_remember_56 (fun f_5877 H locs ef_5877 Y => ?_)
    have p_ad_1_0 := p_ad_1_0.me ef_5877
    have I := I.up (k := 1) (j := 0) (by decide) ef_5877 (okE_o (okFs_c okV_r (okFs_c okV_r (okFs_c okV_r (okFs_c okV_r (okFs_c okV_r (okFs_c okV_r (okFs_c okV_r (okFs_c okV_r (okFs_c okV_r (okFs_c okV_r (okFs_c (okV_i b_5863) (okFs_c (okV_p b_5865) (okFs_c (okV_i b_5867) (okFs_c (okV_i (bn_w (bn_eq ex_5876 (bn_rem (bn_eq ex_5875 (bn_add b_5869 (show bn 1 1 (1 : Int32) from bn_k (by decide)) (by decide))) (show bn 30 30 (30 : Int32) from bn_k (by decide)) (by decide))) (by decide))) (okFs_c (okV_i b_5871) okFs_n))))))))))))))))
    exact prV (post := fun L1 f1 => SH (spC rs fc tc w q) nnC G ad L1 f1) S Y (by decide) (by decide) hA1 I dX10_remember_59
  · have B_5874 : bn 0 29 v_5870 := bn_w (bn_gtr c_5872 (show bn 30 30 (30 : Int32) from bn_k (by decide)) b_5871) (by decide)
    refine lv_aload_n hx hb dX10_remember_33 rfl (lv_at hl 0 rfl) ?_
    refine lv_dup hx hb dX10_remember_34 rfl ?_
    refine pg_get S Y ok_X10 14 (by decide) kf10_86 (v := .int v_5870) p_ad_1_0 rfl dX10_remember_35 ?_
    refine lv_iconst (v := 1) hx hb dX10_remember_38 (by decide) ?_
    refine lv_iadd hx hb dX10_remember_39 ?_
    refine lv_topi (fun x_5878 ex_5878 => ?_)
    refine pg_put S Y ok_X10 14 (by decide) kf10_86 rfl (fs' := [.ref (ad 40 0), .ref (ad 41 0), .ref (ad 42 0), .ref (ad 10 0), .ref (ad 43 0), .ref (ad 20 0), .ref (ad 20 1), .ref (ad 20 2), .ref (ad 20 3), .ref (ad 20 4), .int v_5862, .int v_5864, .int v_5866, .int v_5868, .int x_5878]) (v := .int x_5878) p_ad_1_0 rfl rfl rfl (Nat.le_of_ble_eq_true rfl) dX10_remember_40 (fun f_5879 H locs ef_5879 Y => ?_)
    have p_ad_1_0 := p_ad_1_0.me ef_5879
    have I := I.up (k := 1) (j := 0) (by decide) ef_5879 (okE_o (okFs_c okV_r (okFs_c okV_r (okFs_c okV_r (okFs_c okV_r (okFs_c okV_r (okFs_c okV_r (okFs_c okV_r (okFs_c okV_r (okFs_c okV_r (okFs_c okV_r (okFs_c (okV_i b_5863) (okFs_c (okV_p b_5865) (okFs_c (okV_i b_5867) (okFs_c (okV_i b_5869) (okFs_c (okV_i (bn_w (bn_eq ex_5878 (bn_add B_5874 (show bn 1 1 (1 : Int32) from bn_k (by decide)) (by decide))) (by decide))) okFs_n))))))))))))))))
    refine lv_goto (tgt := 59) hx hb dX10_remember_43 (by decide) ?_
    exact prV (post := fun L1 f1 => SH (spC rs fc tc w q) nnC G ad L1 f1) S Y (by decide) (by decide) hA1 I dX10_remember_59
set_option maxHeartbeats 4000000 in
set_option maxRecDepth 100000 in
theorem x_X10_takeBack {l : Launch} {G : GG}  {L : List Nat} {f : HF} {ad : Nat → Nat → Nat} {rs : RS} {fc : Int × Int} {tc w : Nat → Int × Int} {q : Nat → (Nat → Int32) → Prop} (I : SH (spC rs fc tc w q) nnC G ad L f) (hW : WBp w 8) (hT : WBp tc 4) (hQ : QIp q) : PMi l yX10_takeBack cX10_takeBack 1 .boolean 2 0 0 G [.ref (ad 1 0)] L f (fun r L1 f1 => bn 0 1 r ∧ SH (spC rs fc tc w q) nnC G ad L1 f1) := by
  refine PMi.of (post := fun r L1 f1 => bn 0 1 r ∧ SH (spC rs fc tc w q) nnC G ad L1 f1) (own := RX10) (by decide) rfl (Nat.le_of_ble_eq_true rfl) (fun sz p e s m args below meth c A ls hA1 hname S Y hl => ?_)
  have hx := S.hx
  have hb := S.hb
  have hl : lv_has ls 1 [(0, .ref (ad 1 0))] := hl
  refine lv_aload_n hx hb dX10_takeBack_0 rfl (lv_at hl 0 rfl) ?_
  obtain ⟨v_5922, v_5924, v_5926, v_5928, v_5930, p_ad_1_0, b_5923, b_5925, b_5927, b_5929, b_5931⟩ := opnC_1 (j := 0) I (by decide)
  have p_ad_1_0 : pt L f (ad 1 0) (.inr (10, [.ref (ad 40 0), .ref (ad 41 0), .ref (ad 42 0), .ref (ad 10 0), .ref (ad 43 0), .ref (ad 20 0), .ref (ad 20 1), .ref (ad 20 2), .ref (ad 20 3), .ref (ad 20 4), .int v_5922, .int v_5924, .int v_5926, .int v_5928, .int v_5930])) := p_ad_1_0
  refine pg_get S Y ok_X10 14 (by decide) kf10_86 (v := .int v_5930) p_ad_1_0 rfl dX10_takeBack_1 ?_
  refine lv_if_ne (tgt := 9) hx hb dX10_takeBack_4 (by decide) (fun c_5932 => ?_) (fun c_5932 => ?_)
  · have B_5933 : bn 1 30 v_5930 := bn_w (bn_nel c_5932 b_5931 (show bn 0 0 (0 : Int32) from bn_k (by decide))) (by decide)
    refine lv_aload_n hx hb dX10_takeBack_9 rfl (lv_at hl 0 rfl) ?_
    refine lv_dup hx hb dX10_takeBack_10 rfl ?_
    refine pg_get S Y ok_X10 14 (by decide) kf10_86 (v := .int v_5930) p_ad_1_0 rfl dX10_takeBack_11 ?_
    refine lv_iconst (v := 1) hx hb dX10_takeBack_14 (by decide) ?_
    refine lv_isub hx hb dX10_takeBack_15 ?_
    refine lv_topi (fun x_5935 ex_5935 => ?_)
    refine pg_put S Y ok_X10 14 (by decide) kf10_86 rfl (fs' := [.ref (ad 40 0), .ref (ad 41 0), .ref (ad 42 0), .ref (ad 10 0), .ref (ad 43 0), .ref (ad 20 0), .ref (ad 20 1), .ref (ad 20 2), .ref (ad 20 3), .ref (ad 20 4), .int v_5922, .int v_5924, .int v_5926, .int v_5928, .int x_5935]) (v := .int x_5935) p_ad_1_0 rfl rfl rfl (Nat.le_of_ble_eq_true rfl) dX10_takeBack_16 (fun f_5936 H locs ef_5936 Y => ?_)
    have p_ad_1_0 := p_ad_1_0.me ef_5936
    have I := I.up (k := 1) (j := 0) (by decide) ef_5936 (okE_o (okFs_c okV_r (okFs_c okV_r (okFs_c okV_r (okFs_c okV_r (okFs_c okV_r (okFs_c okV_r (okFs_c okV_r (okFs_c okV_r (okFs_c okV_r (okFs_c okV_r (okFs_c (okV_i b_5923) (okFs_c (okV_p b_5925) (okFs_c (okV_i b_5927) (okFs_c (okV_i b_5929) (okFs_c (okV_i (bn_w (bn_eq ex_5935 (bn_sub B_5933 (show bn 1 1 (1 : Int32) from bn_k (by decide)) (by decide))) (by decide))) okFs_n))))))))))))))))
    refine lv_aload_n hx hb dX10_takeBack_19 rfl (lv_at hl 0 rfl) ?_
    refine pg_get S Y ok_X10 3 (by decide) kf10_27 (v := .ref (ad 10 0)) p_ad_1_0 rfl dX10_takeBack_20 ?_
    refine lv_aload_n hx hb dX10_takeBack_23 rfl (lv_at hl 0 rfl) ?_
    refine pg_get S Y ok_X10 4 (by decide) kf10_31 (v := .ref (ad 43 0)) p_ad_1_0 rfl dX10_takeBack_24 ?_
    refine lv_aload_n hx hb dX10_takeBack_27 rfl (lv_at hl 0 rfl) ?_
    refine pg_get S Y ok_X10 13 (by decide) kf10_83 (v := .int v_5928) p_ad_1_0 rfl dX10_takeBack_28 ?_
    refine lv_aload_n hx hb dX10_takeBack_31 rfl (lv_at hl 0 rfl) ?_
    refine pg_get S Y ok_X10 14 (by decide) kf10_86 (v := .int x_5935) p_ad_1_0 rfl dX10_takeBack_32 ?_
    refine lv_iadd hx hb dX10_takeBack_35 ?_
    refine lv_topi (fun x_5937 ex_5937 => ?_)
    refine lv_bipush (v := 30) hx hb dX10_takeBack_36 (by decide) ?_
    refine lv_irem hx hb dX10_takeBack_38 (by decide) ?_
    refine lv_topi (fun x_5938 ex_5938 => ?_)
    obtain ⟨g_5939, p_ad_43_0, o_5940⟩ := I.opr (k := 43) (j := 0) (by decide) rfl
    have p_ad_43_0 : pt L f_5936 (ad 43 0) (.inl (G.2 3, 30, .inr (.inr (.inr (.inr g_5939))))) := p_ad_43_0
    refine pg_aald S Y (k := 3) (o := (ad 10 (1 + x_5938.toNatClampNeg))) p_ad_43_0 rfl (vp_bn (bn_eq ex_5938 (bn_rem (bn_eq ex_5937 (bn_add b_5929 (bn_eq ex_5935 (bn_sub B_5933 (show bn 1 1 (1 : Int32) from bn_k (by decide)) (by decide))) (by decide))) (show bn 30 30 (30 : Int32) from bn_k (by decide)) (by decide))) (by decide)) (o_5940 _ (tn_bn (bn_eq ex_5938 (bn_rem (bn_eq ex_5937 (bn_add b_5929 (bn_eq ex_5935 (bn_sub B_5933 (show bn 1 1 (1 : Int32) from bn_k (by decide)) (by decide))) (by decide))) (show bn 30 30 (30 : Int32) from bn_k (by decide)) (by decide))) (by decide))) dX10_takeBack_39 ?_
    refine cVv (As := [.ref (ad 10 (1 + x_5938.toNatClampNeg))]) (rest := []) S Y (x_X4_takeOver (l := l) (j := 0) (i := (1 + x_5938.toNatClampNeg)) I hW hT hQ (by decide) (show (1 + x_5938.toNatClampNeg) < 63 from by have h9 := tn_bn (n := 30) (bn_eq ex_5938 (bn_rem (bn_eq ex_5937 (bn_add b_5929 (bn_eq ex_5935 (bn_sub B_5933 (show bn 1 1 (1 : Int32) from bn_k (by decide)) (by decide))) (by decide))) (show bn 30 30 (30 : Int32) from bn_k (by decide)) (by decide))) (by decide); omega) (by omega)) cw_X4_takeOver km10_74 (I.opo (k := 10) (j := 0) (by decide) rfl).choose_spec.1 ok_X4.1 rfl rfl ⟨Nat.le_of_ble_eq_true rfl, Nat.le_of_ble_eq_true rfl⟩ hl.1 rfl (Nat.le_of_ble_eq_true rfl) ⟨Nat.le_of_ble_eq_true rfl, Nat.le_of_ble_eq_true rfl⟩ dX10_takeBack_40 (fun L_5941 f_5942 H locs I Y => ?_)
    refine lv_iconst (v := 1) hx hb dX10_takeBack_43 (by decide) ?_
    exact prI (post := fun r L1 f1 => bn 0 1 r ∧ SH (spC rs fc tc w q) nnC G ad L1 f1) S Y rfl (by decide) (by decide) hA1 ⟨bn_w (show bn 1 1 (1 : Int32) from bn_k (by decide)) (by decide), I⟩ dX10_takeBack_44
  · have B_5934 : bn 0 0 v_5930 := bn_w (bn_eq c_5932 (show bn 0 0 (0 : Int32) from bn_k (by decide))) (by decide)
    refine lv_iconst (v := 0) hx hb dX10_takeBack_7 (by decide) ?_
    exact prI (post := fun r L1 f1 => bn 0 1 r ∧ SH (spC rs fc tc w q) nnC G ad L1 f1) S Y rfl (by decide) (by decide) hA1 ⟨bn_w (show bn 0 0 (0 : Int32) from bn_k (by decide)) (by decide), I⟩ dX10_takeBack_8
set_option maxHeartbeats 4000000 in
set_option maxRecDepth 100000 in
theorem x_X10_takeOver0 {l : Launch} {G : GG}  {L : List Nat} {f : HF} {ad : Nat → Nat → Nat} {rf : FS} {fa : Nat → Int × Int} {ft : Nat → (Nat → Int32) → Prop} {fc : Int × Int} {tc w : Nat → Int × Int} {q : Nat → (Nat → Int32) → Prop} (I : SH (spC ((rf, fa, ft, sc0) : RS) fc tc w q) nnC G ad L f) (hW : WBp w 8) (hT : WBp tc 4) (hQ : QIp q) : PMv l yX10_takeOver cX10_takeOver 3 2 0 0 G [.ref (ad 1 0), .ref (ad 1 1)] L f (fun L1 f1 => ∃ tc2 : Nat → Int × Int, ∃ w2 : Nat → Int × Int, ∃ q2 : Nat → (Nat → Int32) → Prop, SH (spC ((rf, fa, ft, sc0) : RS) fc tc2 w2 q2) nnC G ad L1 f1 ∧ tc2 0 = tc 1 ∧ (∀ k, k ≠ 0 → tc2 k = tc k) ∧ w2 0 = w 5 ∧ w2 1 = w 6 ∧ w2 2 = w 7 ∧ w2 3 = w 8 ∧ w2 4 = w 9 ∧ (∀ k, (k < 0 ∨ 5 ≤ k) → w2 k = w k) ∧ q2 0 = q 5 ∧ q2 1 = q 6 ∧ q2 2 = q 7 ∧ q2 3 = q 8 ∧ q2 4 = q 9 ∧ (∀ k, (k < 0 ∨ 5 ≤ k) → q2 k = q k) ∧ WBp tc2 4 ∧ WBp w2 8 ∧ QIp q2) := by
  refine PMv.of (post := fun L1 f1 => ∃ tc2 : Nat → Int × Int, ∃ w2 : Nat → Int × Int, ∃ q2 : Nat → (Nat → Int32) → Prop, SH (spC ((rf, fa, ft, sc0) : RS) fc tc2 w2 q2) nnC G ad L1 f1 ∧ tc2 0 = tc 1 ∧ (∀ k, k ≠ 0 → tc2 k = tc k) ∧ w2 0 = w 5 ∧ w2 1 = w 6 ∧ w2 2 = w 7 ∧ w2 3 = w 8 ∧ w2 4 = w 9 ∧ (∀ k, (k < 0 ∨ 5 ≤ k) → w2 k = w k) ∧ q2 0 = q 5 ∧ q2 1 = q 6 ∧ q2 2 = q 7 ∧ q2 3 = q 8 ∧ q2 4 = q 9 ∧ (∀ k, (k < 0 ∨ 5 ≤ k) → q2 k = q k) ∧ WBp tc2 4 ∧ WBp w2 8 ∧ QIp q2) (own := RX10) (by decide) rfl (Nat.le_of_ble_eq_true rfl) (fun sz p e s m args below meth c A ls hA1 hname S Y hl => ?_)
  have hx := S.hx
  have hb := S.hb
  have hl : lv_has ls 3 [(0, .ref (ad 1 0)), (1, .ref (ad 1 1))] := hl
  have J_69 : ∀ (n69 : Nat) (y69_2 : Int32) (L_69 : List Nat) (f_69 : HF) (H : Heap) (locs : List Loc) (ls : Array Slot), (SH (spC ((rf, fa, ft, sc0) : RS) fc tc w q) nnC G ad L_69 f_69) → (bn 0 30 y69_2) → (((30 : Int) - y69_2.toInt).toNat = n69) → (DY G A s [] L_69 f_69 H locs) → (lv_has ls 3 [(0, .ref (ad 1 0)), (1, .ref (ad 1 1)), (2, .int y69_2)]) → W p l e (rmD 2 0 0) s m args below meth c H locs (0) (0) (MQ below (va_Qv (fun (u : List Nat × HF) => (fun L1 f1 => ∃ tc2 : Nat → Int × Int, ∃ w2 : Nat → Int × Int, ∃ q2 : Nat → (Nat → Int32) → Prop, SH (spC ((rf, fa, ft, sc0) : RS) fc tc2 w2 q2) nnC G ad L1 f1 ∧ tc2 0 = tc 1 ∧ (∀ k, k ≠ 0 → tc2 k = tc k) ∧ w2 0 = w 5 ∧ w2 1 = w 6 ∧ w2 2 = w 7 ∧ w2 3 = w 8 ∧ w2 4 = w 9 ∧ (∀ k, (k < 0 ∨ 5 ≤ k) → w2 k = w k) ∧ q2 0 = q 5 ∧ q2 1 = q 6 ∧ q2 2 = q 7 ∧ q2 3 = q 8 ∧ q2 4 = q 9 ∧ (∀ k, (k < 0 ∨ 5 ≤ k) → q2 k = q k) ∧ WBp tc2 4 ∧ WBp w2 8 ∧ QIp q2) u.1 u.2) (fun u t => pOut G (va_A (va_pl L f) sz) u.1 u.2 t) (va_A (va_pl L f) sz)) args s 0 0 A) (F0 m 69 ls []) := by
    intro n69
    induction n69 using Nat.strongRecOn with
    | _ n69 ih69 =>
      intro y69_2 L_69 f_69 H locs ls I b_y69_2 hm69 Y hl
      refine lv_iload_n hx hb dX10_takeOver_69 rfl (lv_at hl 2 rfl) ?_
      refine lv_bipush (v := 30) hx hb dX10_takeOver_70 (by decide) ?_
      refine lv_icmp_ge (tgt := 96) hx hb dX10_takeOver_72 (by decide) (fun c_7137 => ?_) (fun c_7137 => ?_)
      · have B_7138 : bn 30 30 y69_2 := bn_w (bn_ler c_7137 (show bn 30 30 (30 : Int32) from bn_k (by decide)) b_y69_2) (by decide)
        refine lv_aload_n hx hb dX10_takeOver_96 rfl (lv_at hl 0 rfl) ?_
        obtain ⟨v_7140, v_7142, v_7144, v_7146, v_7148, p_ad_1_0, b_7141, b_7143, b_7145, b_7147, b_7149⟩ := opnC_1 (j := 0) I (by decide)
        have p_ad_1_0 : pt L_69 f_69 (ad 1 0) (.inr (10, [.ref (ad 40 0), .ref (ad 41 0), .ref (ad 42 0), .ref (ad 10 0), .ref (ad 43 0), .ref (ad 20 0), .ref (ad 20 1), .ref (ad 20 2), .ref (ad 20 3), .ref (ad 20 4), .int v_7140, .int v_7142, .int v_7144, .int v_7146, .int v_7148])) := p_ad_1_0
        refine pg_get S Y ok_X10 3 (by decide) kf10_27 (v := .ref (ad 10 0)) p_ad_1_0 rfl dX10_takeOver_97 ?_
        refine lv_aload_n hx hb dX10_takeOver_100 rfl (lv_at hl 1 rfl) ?_
        obtain ⟨v_7150, v_7152, v_7154, v_7156, v_7158, p_ad_1_1, b_7151, b_7153, b_7155, b_7157, b_7159⟩ := opnC_1 (j := 1) I (by decide)
        have p_ad_1_1 : pt L_69 f_69 (ad 1 1) (.inr (10, [.ref (ad 40 1), .ref (ad 41 1), .ref (ad 42 1), .ref (ad 10 31), .ref (ad 43 1), .ref (ad 20 5), .ref (ad 20 6), .ref (ad 20 7), .ref (ad 20 8), .ref (ad 20 9), .int v_7150, .int v_7152, .int v_7154, .int v_7156, .int v_7158])) := p_ad_1_1
        refine pg_get S Y ok_X10 3 (by decide) kf10_27 (v := .ref (ad 10 31)) p_ad_1_1 rfl dX10_takeOver_101 ?_
        refine cVv (As := [.ref (ad 10 31)]) (rest := []) S Y (x_X4_takeOver (l := l) (j := 0) (i := 31) I hW hT hQ (by decide) (by decide) (by omega)) cw_X4_takeOver km10_74 (I.opo (k := 10) (j := 0) (by decide) rfl).choose_spec.1 ok_X4.1 rfl rfl ⟨Nat.le_of_ble_eq_true rfl, Nat.le_of_ble_eq_true rfl⟩ hl.1 rfl (Nat.le_of_ble_eq_true rfl) ⟨Nat.le_of_ble_eq_true rfl, Nat.le_of_ble_eq_true rfl⟩ dX10_takeOver_104 (fun L_7160 f_7161 H locs I Y => ?_)
        refine lv_aload_n hx hb dX10_takeOver_107 rfl (lv_at hl 0 rfl) ?_
        obtain ⟨v_7162, v_7164, v_7166, v_7168, v_7170, p_ad_1_0, b_7163, b_7165, b_7167, b_7169, b_7171⟩ := opnC_1 (j := 0) I (by decide)
        have p_ad_1_0 : pt L_7160 f_7161 (ad 1 0) (.inr (10, [.ref (ad 40 0), .ref (ad 41 0), .ref (ad 42 0), .ref (ad 10 0), .ref (ad 43 0), .ref (ad 20 0), .ref (ad 20 1), .ref (ad 20 2), .ref (ad 20 3), .ref (ad 20 4), .int v_7162, .int v_7164, .int v_7166, .int v_7168, .int v_7170])) := p_ad_1_0
        refine pg_get S Y ok_X10 5 (by decide) kf10_40 (v := .ref (ad 20 0)) p_ad_1_0 rfl dX10_takeOver_108 ?_
        refine lv_aload_n hx hb dX10_takeOver_111 rfl (lv_at hl 1 rfl) ?_
        obtain ⟨v_7172, v_7174, v_7176, v_7178, v_7180, p_ad_1_1, b_7173, b_7175, b_7177, b_7179, b_7181⟩ := opnC_1 (j := 1) I (by decide)
        have p_ad_1_1 : pt L_7160 f_7161 (ad 1 1) (.inr (10, [.ref (ad 40 1), .ref (ad 41 1), .ref (ad 42 1), .ref (ad 10 31), .ref (ad 43 1), .ref (ad 20 5), .ref (ad 20 6), .ref (ad 20 7), .ref (ad 20 8), .ref (ad 20 9), .int v_7172, .int v_7174, .int v_7176, .int v_7178, .int v_7180])) := p_ad_1_1
        refine pg_get S Y ok_X10 5 (by decide) kf10_40 (v := .ref (ad 20 5)) p_ad_1_1 rfl dX10_takeOver_112 ?_
        refine cVv (As := [.ref (ad 20 5)]) (rest := []) S Y (x_X9_takeOver (l := l) (j := 0) (i := 5) I hW hT hQ (by decide) (by decide) (by omega)) cw_X9_takeOver km10_77 (I.opo (k := 20) (j := 0) (by decide) rfl).choose_spec.1 ok_X9.1 rfl rfl ⟨Nat.le_of_ble_eq_true rfl, Nat.le_of_ble_eq_true rfl⟩ hl.1 rfl (Nat.le_of_ble_eq_true rfl) ⟨Nat.le_of_ble_eq_true rfl, Nat.le_of_ble_eq_true rfl⟩ dX10_takeOver_115 (fun L_7182 f_7183 H locs hr_7184 Y => ?_)
        obtain ⟨w2_7185, q2_7186, I, e1_7187, e2_7188, e3_7189, e4_7190, eW_7191, eQ_7192⟩ := hr_7184
        refine lv_aload_n hx hb dX10_takeOver_118 rfl (lv_at hl 0 rfl) ?_
        obtain ⟨v_7193, v_7195, v_7197, v_7199, v_7201, p_ad_1_0, b_7194, b_7196, b_7198, b_7200, b_7202⟩ := opnC_1 (j := 0) I (by decide)
        have p_ad_1_0 : pt L_7182 f_7183 (ad 1 0) (.inr (10, [.ref (ad 40 0), .ref (ad 41 0), .ref (ad 42 0), .ref (ad 10 0), .ref (ad 43 0), .ref (ad 20 0), .ref (ad 20 1), .ref (ad 20 2), .ref (ad 20 3), .ref (ad 20 4), .int v_7193, .int v_7195, .int v_7197, .int v_7199, .int v_7201])) := p_ad_1_0
        refine pg_get S Y ok_X10 6 (by decide) kf10_44 (v := .ref (ad 20 1)) p_ad_1_0 rfl dX10_takeOver_119 ?_
        refine lv_aload_n hx hb dX10_takeOver_122 rfl (lv_at hl 1 rfl) ?_
        obtain ⟨v_7203, v_7205, v_7207, v_7209, v_7211, p_ad_1_1, b_7204, b_7206, b_7208, b_7210, b_7212⟩ := opnC_1 (j := 1) I (by decide)
        have p_ad_1_1 : pt L_7182 f_7183 (ad 1 1) (.inr (10, [.ref (ad 40 1), .ref (ad 41 1), .ref (ad 42 1), .ref (ad 10 31), .ref (ad 43 1), .ref (ad 20 5), .ref (ad 20 6), .ref (ad 20 7), .ref (ad 20 8), .ref (ad 20 9), .int v_7203, .int v_7205, .int v_7207, .int v_7209, .int v_7211])) := p_ad_1_1
        refine pg_get S Y ok_X10 6 (by decide) kf10_44 (v := .ref (ad 20 6)) p_ad_1_1 rfl dX10_takeOver_123 ?_
        refine cVv (As := [.ref (ad 20 6)]) (rest := []) S Y (x_X9_takeOver (l := l) (j := 1) (i := 6) I eW_7191 hT eQ_7192 (by decide) (by decide) (by omega)) cw_X9_takeOver km10_77 (I.opo (k := 20) (j := 1) (by decide) rfl).choose_spec.1 ok_X9.1 rfl rfl ⟨Nat.le_of_ble_eq_true rfl, Nat.le_of_ble_eq_true rfl⟩ hl.1 rfl (Nat.le_of_ble_eq_true rfl) ⟨Nat.le_of_ble_eq_true rfl, Nat.le_of_ble_eq_true rfl⟩ dX10_takeOver_126 (fun L_7213 f_7214 H locs hr_7215 Y => ?_)
        obtain ⟨w2_7216, q2_7217, I, e1_7218, e2_7219, e3_7220, e4_7221, eW_7222, eQ_7223⟩ := hr_7215
        refine lv_aload_n hx hb dX10_takeOver_129 rfl (lv_at hl 0 rfl) ?_
        obtain ⟨v_7224, v_7226, v_7228, v_7230, v_7232, p_ad_1_0, b_7225, b_7227, b_7229, b_7231, b_7233⟩ := opnC_1 (j := 0) I (by decide)
        have p_ad_1_0 : pt L_7213 f_7214 (ad 1 0) (.inr (10, [.ref (ad 40 0), .ref (ad 41 0), .ref (ad 42 0), .ref (ad 10 0), .ref (ad 43 0), .ref (ad 20 0), .ref (ad 20 1), .ref (ad 20 2), .ref (ad 20 3), .ref (ad 20 4), .int v_7224, .int v_7226, .int v_7228, .int v_7230, .int v_7232])) := p_ad_1_0
        refine pg_get S Y ok_X10 7 (by decide) kf10_47 (v := .ref (ad 20 2)) p_ad_1_0 rfl dX10_takeOver_130 ?_
        refine lv_aload_n hx hb dX10_takeOver_133 rfl (lv_at hl 1 rfl) ?_
        obtain ⟨v_7234, v_7236, v_7238, v_7240, v_7242, p_ad_1_1, b_7235, b_7237, b_7239, b_7241, b_7243⟩ := opnC_1 (j := 1) I (by decide)
        have p_ad_1_1 : pt L_7213 f_7214 (ad 1 1) (.inr (10, [.ref (ad 40 1), .ref (ad 41 1), .ref (ad 42 1), .ref (ad 10 31), .ref (ad 43 1), .ref (ad 20 5), .ref (ad 20 6), .ref (ad 20 7), .ref (ad 20 8), .ref (ad 20 9), .int v_7234, .int v_7236, .int v_7238, .int v_7240, .int v_7242])) := p_ad_1_1
        refine pg_get S Y ok_X10 7 (by decide) kf10_47 (v := .ref (ad 20 7)) p_ad_1_1 rfl dX10_takeOver_134 ?_
        refine cVv (As := [.ref (ad 20 7)]) (rest := []) S Y (x_X9_takeOver (l := l) (j := 2) (i := 7) I eW_7222 hT eQ_7223 (by decide) (by decide) (by omega)) cw_X9_takeOver km10_77 (I.opo (k := 20) (j := 2) (by decide) rfl).choose_spec.1 ok_X9.1 rfl rfl ⟨Nat.le_of_ble_eq_true rfl, Nat.le_of_ble_eq_true rfl⟩ hl.1 rfl (Nat.le_of_ble_eq_true rfl) ⟨Nat.le_of_ble_eq_true rfl, Nat.le_of_ble_eq_true rfl⟩ dX10_takeOver_137 (fun L_7244 f_7245 H locs hr_7246 Y => ?_)
        obtain ⟨w2_7247, q2_7248, I, e1_7249, e2_7250, e3_7251, e4_7252, eW_7253, eQ_7254⟩ := hr_7246
        refine lv_aload_n hx hb dX10_takeOver_140 rfl (lv_at hl 0 rfl) ?_
        obtain ⟨v_7255, v_7257, v_7259, v_7261, v_7263, p_ad_1_0, b_7256, b_7258, b_7260, b_7262, b_7264⟩ := opnC_1 (j := 0) I (by decide)
        have p_ad_1_0 : pt L_7244 f_7245 (ad 1 0) (.inr (10, [.ref (ad 40 0), .ref (ad 41 0), .ref (ad 42 0), .ref (ad 10 0), .ref (ad 43 0), .ref (ad 20 0), .ref (ad 20 1), .ref (ad 20 2), .ref (ad 20 3), .ref (ad 20 4), .int v_7255, .int v_7257, .int v_7259, .int v_7261, .int v_7263])) := p_ad_1_0
        refine pg_get S Y ok_X10 8 (by decide) kf10_50 (v := .ref (ad 20 3)) p_ad_1_0 rfl dX10_takeOver_141 ?_
        refine lv_aload_n hx hb dX10_takeOver_144 rfl (lv_at hl 1 rfl) ?_
        obtain ⟨v_7265, v_7267, v_7269, v_7271, v_7273, p_ad_1_1, b_7266, b_7268, b_7270, b_7272, b_7274⟩ := opnC_1 (j := 1) I (by decide)
        have p_ad_1_1 : pt L_7244 f_7245 (ad 1 1) (.inr (10, [.ref (ad 40 1), .ref (ad 41 1), .ref (ad 42 1), .ref (ad 10 31), .ref (ad 43 1), .ref (ad 20 5), .ref (ad 20 6), .ref (ad 20 7), .ref (ad 20 8), .ref (ad 20 9), .int v_7265, .int v_7267, .int v_7269, .int v_7271, .int v_7273])) := p_ad_1_1
        refine pg_get S Y ok_X10 8 (by decide) kf10_50 (v := .ref (ad 20 8)) p_ad_1_1 rfl dX10_takeOver_145 ?_
        refine cVv (As := [.ref (ad 20 8)]) (rest := []) S Y (x_X9_takeOver (l := l) (j := 3) (i := 8) I eW_7253 hT eQ_7254 (by decide) (by decide) (by omega)) cw_X9_takeOver km10_77 (I.opo (k := 20) (j := 3) (by decide) rfl).choose_spec.1 ok_X9.1 rfl rfl ⟨Nat.le_of_ble_eq_true rfl, Nat.le_of_ble_eq_true rfl⟩ hl.1 rfl (Nat.le_of_ble_eq_true rfl) ⟨Nat.le_of_ble_eq_true rfl, Nat.le_of_ble_eq_true rfl⟩ dX10_takeOver_148 (fun L_7275 f_7276 H locs hr_7277 Y => ?_)
        obtain ⟨w2_7278, q2_7279, I, e1_7280, e2_7281, e3_7282, e4_7283, eW_7284, eQ_7285⟩ := hr_7277
        refine lv_aload_n hx hb dX10_takeOver_151 rfl (lv_at hl 0 rfl) ?_
        obtain ⟨v_7286, v_7288, v_7290, v_7292, v_7294, p_ad_1_0, b_7287, b_7289, b_7291, b_7293, b_7295⟩ := opnC_1 (j := 0) I (by decide)
        have p_ad_1_0 : pt L_7275 f_7276 (ad 1 0) (.inr (10, [.ref (ad 40 0), .ref (ad 41 0), .ref (ad 42 0), .ref (ad 10 0), .ref (ad 43 0), .ref (ad 20 0), .ref (ad 20 1), .ref (ad 20 2), .ref (ad 20 3), .ref (ad 20 4), .int v_7286, .int v_7288, .int v_7290, .int v_7292, .int v_7294])) := p_ad_1_0
        refine pg_get S Y ok_X10 9 (by decide) kf10_53 (v := .ref (ad 20 4)) p_ad_1_0 rfl dX10_takeOver_152 ?_
        refine lv_aload_n hx hb dX10_takeOver_155 rfl (lv_at hl 1 rfl) ?_
        obtain ⟨v_7296, v_7298, v_7300, v_7302, v_7304, p_ad_1_1, b_7297, b_7299, b_7301, b_7303, b_7305⟩ := opnC_1 (j := 1) I (by decide)
        have p_ad_1_1 : pt L_7275 f_7276 (ad 1 1) (.inr (10, [.ref (ad 40 1), .ref (ad 41 1), .ref (ad 42 1), .ref (ad 10 31), .ref (ad 43 1), .ref (ad 20 5), .ref (ad 20 6), .ref (ad 20 7), .ref (ad 20 8), .ref (ad 20 9), .int v_7296, .int v_7298, .int v_7300, .int v_7302, .int v_7304])) := p_ad_1_1
        refine pg_get S Y ok_X10 9 (by decide) kf10_53 (v := .ref (ad 20 9)) p_ad_1_1 rfl dX10_takeOver_156 ?_
        refine cVv (As := [.ref (ad 20 9)]) (rest := []) S Y (x_X9_takeOver (l := l) (j := 4) (i := 9) I eW_7284 hT eQ_7285 (by decide) (by decide) (by omega)) cw_X9_takeOver km10_77 (I.opo (k := 20) (j := 4) (by decide) rfl).choose_spec.1 ok_X9.1 rfl rfl ⟨Nat.le_of_ble_eq_true rfl, Nat.le_of_ble_eq_true rfl⟩ hl.1 rfl (Nat.le_of_ble_eq_true rfl) ⟨Nat.le_of_ble_eq_true rfl, Nat.le_of_ble_eq_true rfl⟩ dX10_takeOver_159 (fun L_7306 f_7307 H locs hr_7308 Y => ?_)
        obtain ⟨w2_7309, q2_7310, I, e1_7311, e2_7312, e3_7313, e4_7314, eW_7315, eQ_7316⟩ := hr_7308
        refine lv_aload_n hx hb dX10_takeOver_162 rfl (lv_at hl 0 rfl) ?_
        refine lv_aload_n hx hb dX10_takeOver_163 rfl (lv_at hl 1 rfl) ?_
        obtain ⟨v_7317, v_7319, v_7321, v_7323, v_7325, p_ad_1_1, b_7318, b_7320, b_7322, b_7324, b_7326⟩ := opnC_1 (j := 1) I (by decide)
        have p_ad_1_1 : pt L_7306 f_7307 (ad 1 1) (.inr (10, [.ref (ad 40 1), .ref (ad 41 1), .ref (ad 42 1), .ref (ad 10 31), .ref (ad 43 1), .ref (ad 20 5), .ref (ad 20 6), .ref (ad 20 7), .ref (ad 20 8), .ref (ad 20 9), .int v_7317, .int v_7319, .int v_7321, .int v_7323, .int v_7325])) := p_ad_1_1
        refine pg_get S Y ok_X10 10 (by decide) kf10_80 (v := .int v_7317) p_ad_1_1 rfl dX10_takeOver_164 ?_
        obtain ⟨v_7327, v_7329, v_7331, v_7333, v_7335, p_ad_1_0, b_7328, b_7330, b_7332, b_7334, b_7336⟩ := opnC_1 (j := 0) I (by decide)
        have p_ad_1_0 : pt L_7306 f_7307 (ad 1 0) (.inr (10, [.ref (ad 40 0), .ref (ad 41 0), .ref (ad 42 0), .ref (ad 10 0), .ref (ad 43 0), .ref (ad 20 0), .ref (ad 20 1), .ref (ad 20 2), .ref (ad 20 3), .ref (ad 20 4), .int v_7327, .int v_7329, .int v_7331, .int v_7333, .int v_7335])) := p_ad_1_0
        refine pg_put S Y ok_X10 10 (by decide) kf10_80 rfl (fs' := [.ref (ad 40 0), .ref (ad 41 0), .ref (ad 42 0), .ref (ad 10 0), .ref (ad 43 0), .ref (ad 20 0), .ref (ad 20 1), .ref (ad 20 2), .ref (ad 20 3), .ref (ad 20 4), .int v_7317, .int v_7329, .int v_7331, .int v_7333, .int v_7335]) (v := .int v_7317) p_ad_1_0 rfl rfl rfl (Nat.le_of_ble_eq_true rfl) dX10_takeOver_167 (fun f_7337 H locs ef_7337 Y => ?_)
        have p_ad_1_1 := p_ad_1_1.up ef_7337 (I.ne (k := 1) (j := 1) (k' := 1) (j' := 0) (by decide) (by decide) (Or.inr (by decide)))
        have p_ad_1_0 := p_ad_1_0.me ef_7337
        have I := I.up (k := 1) (j := 0) (by decide) ef_7337 (okE_o (okFs_c okV_r (okFs_c okV_r (okFs_c okV_r (okFs_c okV_r (okFs_c okV_r (okFs_c okV_r (okFs_c okV_r (okFs_c okV_r (okFs_c okV_r (okFs_c okV_r (okFs_c (okV_i (bn_w b_7318 (by decide))) (okFs_c (okV_p b_7330) (okFs_c (okV_i b_7332) (okFs_c (okV_i b_7334) (okFs_c (okV_i b_7336) okFs_n))))))))))))))))
        refine lv_aload_n hx hb dX10_takeOver_170 rfl (lv_at hl 0 rfl) ?_
        refine lv_aload_n hx hb dX10_takeOver_171 rfl (lv_at hl 1 rfl) ?_
        refine pg_get S Y ok_X10 11 (by decide) kf10_67 (v := .int v_7319) p_ad_1_1 rfl dX10_takeOver_172 ?_
        refine pg_put S Y ok_X10 11 (by decide) kf10_67 rfl (fs' := [.ref (ad 40 0), .ref (ad 41 0), .ref (ad 42 0), .ref (ad 10 0), .ref (ad 43 0), .ref (ad 20 0), .ref (ad 20 1), .ref (ad 20 2), .ref (ad 20 3), .ref (ad 20 4), .int v_7317, .int v_7319, .int v_7331, .int v_7333, .int v_7335]) (v := .int v_7319) p_ad_1_0 rfl rfl rfl (Nat.le_of_ble_eq_true rfl) dX10_takeOver_175 (fun f_7338 H locs ef_7338 Y => ?_)
        have p_ad_1_1 := p_ad_1_1.up ef_7338 (I.ne (k := 1) (j := 1) (k' := 1) (j' := 0) (by decide) (by decide) (Or.inr (by decide)))
        have p_ad_1_0 := p_ad_1_0.me ef_7338
        have I := I.upS (sp' := spC ((rf, fa, ft, sc0) : RS) fc (stf tc 0 (tc 1)) w2_7309 q2_7310) (k := 1) (j := 0) (by decide) ef_7338 (okE_o (okFs_c okV_r (okFs_c okV_r (okFs_c okV_r (okFs_c okV_r (okFs_c okV_r (okFs_c okV_r (okFs_c okV_r (okFs_c okV_r (okFs_c okV_r (okFs_c okV_r (okFs_c (okV_i (bn_w b_7318 (by decide))) (okFs_c (okV_p (q := stf tc 0 (tc 1) 0) (by rw [stf_s]; exact b_7320)) (okFs_c (okV_i b_7332) (okFs_c (okV_i b_7334) (okFs_c (okV_i b_7336) okFs_n)))))))))))))))) tcC
        refine lv_aload_n hx hb dX10_takeOver_178 rfl (lv_at hl 0 rfl) ?_
        refine lv_aload_n hx hb dX10_takeOver_179 rfl (lv_at hl 1 rfl) ?_
        refine pg_get S Y ok_X10 12 (by decide) kf10_56 (v := .int v_7321) p_ad_1_1 rfl dX10_takeOver_180 ?_
        refine pg_put S Y ok_X10 12 (by decide) kf10_56 rfl (fs' := [.ref (ad 40 0), .ref (ad 41 0), .ref (ad 42 0), .ref (ad 10 0), .ref (ad 43 0), .ref (ad 20 0), .ref (ad 20 1), .ref (ad 20 2), .ref (ad 20 3), .ref (ad 20 4), .int v_7317, .int v_7319, .int v_7321, .int v_7333, .int v_7335]) (v := .int v_7321) p_ad_1_0 rfl rfl rfl (Nat.le_of_ble_eq_true rfl) dX10_takeOver_183 (fun f_7339 H locs ef_7339 Y => ?_)
        have p_ad_1_1 := p_ad_1_1.up ef_7339 (I.ne (k := 1) (j := 1) (k' := 1) (j' := 0) (by decide) (by decide) (Or.inr (by decide)))
        have p_ad_1_0 := p_ad_1_0.me ef_7339
        have I := I.up (k := 1) (j := 0) (by decide) ef_7339 (okE_o (okFs_c okV_r (okFs_c okV_r (okFs_c okV_r (okFs_c okV_r (okFs_c okV_r (okFs_c okV_r (okFs_c okV_r (okFs_c okV_r (okFs_c okV_r (okFs_c okV_r (okFs_c (okV_i (bn_w b_7318 (by decide))) (okFs_c (okV_p (q := stf tc 0 (tc 1) 0) (by rw [stf_s]; exact b_7320)) (okFs_c (okV_i (bn_w (bn_any v_7321) (by decide))) (okFs_c (okV_i b_7334) (okFs_c (okV_i b_7336) okFs_n))))))))))))))))
        refine lv_aload_n hx hb dX10_takeOver_186 rfl (lv_at hl 0 rfl) ?_
        refine lv_aload_n hx hb dX10_takeOver_187 rfl (lv_at hl 1 rfl) ?_
        refine pg_get S Y ok_X10 13 (by decide) kf10_83 (v := .int v_7323) p_ad_1_1 rfl dX10_takeOver_188 ?_
        refine pg_put S Y ok_X10 13 (by decide) kf10_83 rfl (fs' := [.ref (ad 40 0), .ref (ad 41 0), .ref (ad 42 0), .ref (ad 10 0), .ref (ad 43 0), .ref (ad 20 0), .ref (ad 20 1), .ref (ad 20 2), .ref (ad 20 3), .ref (ad 20 4), .int v_7317, .int v_7319, .int v_7321, .int v_7323, .int v_7335]) (v := .int v_7323) p_ad_1_0 rfl rfl rfl (Nat.le_of_ble_eq_true rfl) dX10_takeOver_191 (fun f_7340 H locs ef_7340 Y => ?_)
        have p_ad_1_1 := p_ad_1_1.up ef_7340 (I.ne (k := 1) (j := 1) (k' := 1) (j' := 0) (by decide) (by decide) (Or.inr (by decide)))
        have p_ad_1_0 := p_ad_1_0.me ef_7340
        have I := I.up (k := 1) (j := 0) (by decide) ef_7340 (okE_o (okFs_c okV_r (okFs_c okV_r (okFs_c okV_r (okFs_c okV_r (okFs_c okV_r (okFs_c okV_r (okFs_c okV_r (okFs_c okV_r (okFs_c okV_r (okFs_c okV_r (okFs_c (okV_i (bn_w b_7318 (by decide))) (okFs_c (okV_p (q := stf tc 0 (tc 1) 0) (by rw [stf_s]; exact b_7320)) (okFs_c (okV_i (bn_w (bn_any v_7321) (by decide))) (okFs_c (okV_i (bn_w b_7324 (by decide))) (okFs_c (okV_i b_7336) okFs_n))))))))))))))))
        refine lv_aload_n hx hb dX10_takeOver_194 rfl (lv_at hl 0 rfl) ?_
        refine lv_aload_n hx hb dX10_takeOver_195 rfl (lv_at hl 1 rfl) ?_
        refine pg_get S Y ok_X10 14 (by decide) kf10_86 (v := .int v_7325) p_ad_1_1 rfl dX10_takeOver_196 ?_
        refine pg_put S Y ok_X10 14 (by decide) kf10_86 rfl (fs' := [.ref (ad 40 0), .ref (ad 41 0), .ref (ad 42 0), .ref (ad 10 0), .ref (ad 43 0), .ref (ad 20 0), .ref (ad 20 1), .ref (ad 20 2), .ref (ad 20 3), .ref (ad 20 4), .int v_7317, .int v_7319, .int v_7321, .int v_7323, .int v_7325]) (v := .int v_7325) p_ad_1_0 rfl rfl rfl (Nat.le_of_ble_eq_true rfl) dX10_takeOver_199 (fun f_7341 H locs ef_7341 Y => ?_)
        have p_ad_1_1 := p_ad_1_1.up ef_7341 (I.ne (k := 1) (j := 1) (k' := 1) (j' := 0) (by decide) (by decide) (Or.inr (by decide)))
        have p_ad_1_0 := p_ad_1_0.me ef_7341
        have I := I.up (k := 1) (j := 0) (by decide) ef_7341 (okE_o (okFs_c okV_r (okFs_c okV_r (okFs_c okV_r (okFs_c okV_r (okFs_c okV_r (okFs_c okV_r (okFs_c okV_r (okFs_c okV_r (okFs_c okV_r (okFs_c okV_r (okFs_c (okV_i (bn_w b_7318 (by decide))) (okFs_c (okV_p (q := stf tc 0 (tc 1) 0) (by rw [stf_s]; exact b_7320)) (okFs_c (okV_i (bn_w (bn_any v_7321) (by decide))) (okFs_c (okV_i (bn_w b_7324 (by decide))) (okFs_c (okV_i (bn_w b_7326 (by decide))) okFs_n))))))))))))))))
        exact prV (post := fun L1 f1 => ∃ tc2 : Nat → Int × Int, ∃ w2 : Nat → Int × Int, ∃ q2 : Nat → (Nat → Int32) → Prop, SH (spC ((rf, fa, ft, sc0) : RS) fc tc2 w2 q2) nnC G ad L1 f1 ∧ tc2 0 = tc 1 ∧ (∀ k, k ≠ 0 → tc2 k = tc k) ∧ w2 0 = w 5 ∧ w2 1 = w 6 ∧ w2 2 = w 7 ∧ w2 3 = w 8 ∧ w2 4 = w 9 ∧ (∀ k, (k < 0 ∨ 5 ≤ k) → w2 k = w k) ∧ q2 0 = q 5 ∧ q2 1 = q 6 ∧ q2 2 = q 7 ∧ q2 3 = q 8 ∧ q2 4 = q 9 ∧ (∀ k, (k < 0 ∨ 5 ≤ k) → q2 k = q k) ∧ WBp tc2 4 ∧ WBp w2 8 ∧ QIp q2) S Y (by decide) (by decide) hA1 ⟨stf tc 0 (tc 1), w2_7309, q2_7310, I, stf_s, fun k h => stf_n h, by rw [e2_7312 _ (by decide), e2_7281 _ (by decide), e2_7250 _ (by decide), e2_7219 _ (by decide), e1_7187], by rw [e2_7312 _ (by decide), e2_7281 _ (by decide), e2_7250 _ (by decide), e1_7218, e2_7188 _ (by decide)], by rw [e2_7312 _ (by decide), e2_7281 _ (by decide), e1_7249, e2_7219 _ (by decide), e2_7188 _ (by decide)], by rw [e2_7312 _ (by decide), e1_7280, e2_7250 _ (by decide), e2_7219 _ (by decide), e2_7188 _ (by decide)], by rw [e1_7311, e2_7281 _ (by decide), e2_7250 _ (by decide), e2_7219 _ (by decide), e2_7188 _ (by decide)], fun k h => by rw [e2_7312 _ (by omega), e2_7281 _ (by omega), e2_7250 _ (by omega), e2_7219 _ (by omega), e2_7188 _ (by omega)], by rw [e4_7314 _ (by decide), e4_7283 _ (by decide), e4_7252 _ (by decide), e4_7221 _ (by decide), e3_7189], by rw [e4_7314 _ (by decide), e4_7283 _ (by decide), e4_7252 _ (by decide), e3_7220, e4_7190 _ (by decide)], by rw [e4_7314 _ (by decide), e4_7283 _ (by decide), e3_7251, e4_7221 _ (by decide), e4_7190 _ (by decide)], by rw [e4_7314 _ (by decide), e3_7282, e4_7252 _ (by decide), e4_7221 _ (by decide), e4_7190 _ (by decide)], by rw [e3_7313, e4_7283 _ (by decide), e4_7252 _ (by decide), e4_7221 _ (by decide), e4_7190 _ (by decide)], fun k h => by rw [e4_7314 _ (by omega), e4_7283 _ (by omega), e4_7252 _ (by omega), e4_7221 _ (by omega), e4_7190 _ (by omega)], WI_stf hT, eW_7315, eQ_7316⟩ dX10_takeOver_202
      · have B_7139 : bn 0 29 y69_2 := bn_w (bn_gtr c_7137 (show bn 30 30 (30 : Int32) from bn_k (by decide)) b_y69_2) (by decide)
        refine lv_aload_n hx hb dX10_takeOver_75 rfl (lv_at hl 0 rfl) ?_
        obtain ⟨v_7342, v_7344, v_7346, v_7348, v_7350, p_ad_1_0, b_7343, b_7345, b_7347, b_7349, b_7351⟩ := opnC_1 (j := 0) I (by decide)
        have p_ad_1_0 : pt L_69 f_69 (ad 1 0) (.inr (10, [.ref (ad 40 0), .ref (ad 41 0), .ref (ad 42 0), .ref (ad 10 0), .ref (ad 43 0), .ref (ad 20 0), .ref (ad 20 1), .ref (ad 20 2), .ref (ad 20 3), .ref (ad 20 4), .int v_7342, .int v_7344, .int v_7346, .int v_7348, .int v_7350])) := p_ad_1_0
        refine pg_get S Y ok_X10 4 (by decide) kf10_31 (v := .ref (ad 43 0)) p_ad_1_0 rfl dX10_takeOver_76 ?_
        refine lv_iload_n hx hb dX10_takeOver_79 rfl (lv_at hl 2 rfl) ?_
        obtain ⟨g_7352, p_ad_43_0, o_7353⟩ := I.opr (k := 43) (j := 0) (by decide) rfl
        have p_ad_43_0 : pt L_69 f_69 (ad 43 0) (.inl (G.2 3, 30, .inr (.inr (.inr (.inr g_7352))))) := p_ad_43_0
        refine pg_aald S Y (k := 3) (o := (ad 10 (1 + y69_2.toNatClampNeg))) p_ad_43_0 rfl (vp_bn B_7139 (by decide)) (o_7353 _ (tn_bn B_7139 (by decide))) dX10_takeOver_80 ?_
        refine lv_aload_n hx hb dX10_takeOver_81 rfl (lv_at hl 1 rfl) ?_
        obtain ⟨v_7354, v_7356, v_7358, v_7360, v_7362, p_ad_1_1, b_7355, b_7357, b_7359, b_7361, b_7363⟩ := opnC_1 (j := 1) I (by decide)
        have p_ad_1_1 : pt L_69 f_69 (ad 1 1) (.inr (10, [.ref (ad 40 1), .ref (ad 41 1), .ref (ad 42 1), .ref (ad 10 31), .ref (ad 43 1), .ref (ad 20 5), .ref (ad 20 6), .ref (ad 20 7), .ref (ad 20 8), .ref (ad 20 9), .int v_7354, .int v_7356, .int v_7358, .int v_7360, .int v_7362])) := p_ad_1_1
        refine pg_get S Y ok_X10 4 (by decide) kf10_31 (v := .ref (ad 43 1)) p_ad_1_1 rfl dX10_takeOver_82 ?_
        refine lv_iload_n hx hb dX10_takeOver_85 rfl (lv_at hl 2 rfl) ?_
        obtain ⟨g_7364, p_ad_43_1, o_7365⟩ := I.opr (k := 43) (j := 1) (by decide) rfl
        have p_ad_43_1 : pt L_69 f_69 (ad 43 1) (.inl (G.2 3, 30, .inr (.inr (.inr (.inr g_7364))))) := p_ad_43_1
        refine pg_aald S Y (k := 3) (o := (ad 10 (32 + y69_2.toNatClampNeg))) p_ad_43_1 rfl (vp_bn B_7139 (by decide)) (o_7365 _ (tn_bn B_7139 (by decide))) dX10_takeOver_86 ?_
        refine cVv (As := [.ref (ad 10 (32 + y69_2.toNatClampNeg))]) (rest := []) S Y (x_X4_takeOver (l := l) (j := (1 + y69_2.toNatClampNeg)) (i := (32 + y69_2.toNatClampNeg)) I hW hT hQ (show (1 + y69_2.toNatClampNeg) < 63 from by have h9 := tn_bn (n := 30) B_7139 (by decide); omega) (show (32 + y69_2.toNatClampNeg) < 63 from by have h9 := tn_bn (n := 30) B_7139 (by decide); omega) (by omega)) cw_X4_takeOver km10_74 (I.opo (k := 10) (j := (1 + y69_2.toNatClampNeg)) (show (1 + y69_2.toNatClampNeg) < 63 from by have h9 := tn_bn (n := 30) B_7139 (by decide); omega) rfl).choose_spec.1 ok_X4.1 rfl rfl ⟨Nat.le_of_ble_eq_true rfl, Nat.le_of_ble_eq_true rfl⟩ hl.1 rfl (Nat.le_of_ble_eq_true rfl) ⟨Nat.le_of_ble_eq_true rfl, Nat.le_of_ble_eq_true rfl⟩ dX10_takeOver_87 (fun L_7366 f_7367 H locs I Y => ?_)
        obtain ⟨x_7368, ex_7368⟩ : ∃ z : Int32, z = y69_2 + 1 := ⟨_, rfl⟩
        refine lv_iinc (v := x_7368) (lv' := [(2, .int x_7368), (0, .ref (ad 1 0)), (1, .ref (ad 1 1))]) hx hb dX10_takeOver_90 hl (k := 2) rfl (by rw [ex_7368]; rfl) (by decide) rfl (fun ls hl => ?_)
        refine lv_goto (tgt := 69) hx hb dX10_takeOver_93 (by decide) ?_
        exact ih69 _ (by rw [← hm69]; exact ms_up (m := 1) ex_7368 (show bn 1 1 (1 : Int32) from bn_k (by decide)) B_7139 (bn_w (bn_eq ex_7368 (bn_add B_7139 (show bn 1 1 (1 : Int32) from bn_k (by decide)) (by decide))) (by decide) : bn 0 30 x_7368) (by decide)) x_7368 _ _  _ _ _ I (bn_w (bn_eq ex_7368 (bn_add B_7139 (show bn 1 1 (1 : Int32) from bn_k (by decide)) (by decide))) (by decide)) rfl Y (lv_sub hl [1, 2, 0] rfl)
  have J_38 : ∀ (n38 : Nat) (y38_2 : Int32) (L_38 : List Nat) (f_38 : HF) (H : Heap) (locs : List Loc) (ls : Array Slot), (SH (spC ((rf, fa, ft, sc0) : RS) fc tc w q) nnC G ad L_38 f_38) → (bn 0 4 y38_2) → (((4 : Int) - y38_2.toInt).toNat = n38) → (DY G A s [] L_38 f_38 H locs) → (lv_has ls 3 [(0, .ref (ad 1 0)), (1, .ref (ad 1 1)), (2, .int y38_2)]) → W p l e (rmD 2 0 0) s m args below meth c H locs (0) (0) (MQ below (va_Qv (fun (u : List Nat × HF) => (fun L1 f1 => ∃ tc2 : Nat → Int × Int, ∃ w2 : Nat → Int × Int, ∃ q2 : Nat → (Nat → Int32) → Prop, SH (spC ((rf, fa, ft, sc0) : RS) fc tc2 w2 q2) nnC G ad L1 f1 ∧ tc2 0 = tc 1 ∧ (∀ k, k ≠ 0 → tc2 k = tc k) ∧ w2 0 = w 5 ∧ w2 1 = w 6 ∧ w2 2 = w 7 ∧ w2 3 = w 8 ∧ w2 4 = w 9 ∧ (∀ k, (k < 0 ∨ 5 ≤ k) → w2 k = w k) ∧ q2 0 = q 5 ∧ q2 1 = q 6 ∧ q2 2 = q 7 ∧ q2 3 = q 8 ∧ q2 4 = q 9 ∧ (∀ k, (k < 0 ∨ 5 ≤ k) → q2 k = q k) ∧ WBp tc2 4 ∧ WBp w2 8 ∧ QIp q2) u.1 u.2) (fun u t => pOut G (va_A (va_pl L f) sz) u.1 u.2 t) (va_A (va_pl L f) sz)) args s 0 0 A) (F0 m 38 ls []) := by
    intro n38
    induction n38 using Nat.strongRecOn with
    | _ n38 ih38 =>
      intro y38_2 L_38 f_38 H locs ls I b_y38_2 hm38 Y hl
      refine lv_iload_n hx hb dX10_takeOver_38 rfl (lv_at hl 2 rfl) ?_
      refine lv_aload_n hx hb dX10_takeOver_39 rfl (lv_at hl 1 rfl) ?_
      obtain ⟨v_7369, v_7371, v_7373, v_7375, v_7377, p_ad_1_1, b_7370, b_7372, b_7374, b_7376, b_7378⟩ := opnC_1 (j := 1) I (by decide)
      have p_ad_1_1 : pt L_38 f_38 (ad 1 1) (.inr (10, [.ref (ad 40 1), .ref (ad 41 1), .ref (ad 42 1), .ref (ad 10 31), .ref (ad 43 1), .ref (ad 20 5), .ref (ad 20 6), .ref (ad 20 7), .ref (ad 20 8), .ref (ad 20 9), .int v_7369, .int v_7371, .int v_7373, .int v_7375, .int v_7377])) := p_ad_1_1
      refine pg_get S Y ok_X10 11 (by decide) kf10_67 (v := .int v_7371) p_ad_1_1 rfl dX10_takeOver_40 ?_
      refine lv_icmp_ge (tgt := 67) hx hb dX10_takeOver_43 (by decide) (fun c_7379 => ?_) (fun c_7379 => ?_)
      · refine lv_iconst (v := 0) hx hb dX10_takeOver_67 (by decide) ?_
        refine lv_istore_n (lv' := [(2, .int 0), (0, .ref (ad 1 0)), (1, .ref (ad 1 1))]) hx hb dX10_takeOver_68 rfl hl (by decide) rfl (fun ls hl => ?_)
        exact J_69 _ 0 _ _  _ _ _ I (bn_w (show bn 0 0 (0 : Int32) from bn_k (by decide)) (by decide)) rfl Y (lv_sub hl [1, 2, 0] rfl)
      · have B_7380 : bn 1 4 v_7371 := bn_w (bn_gtl c_7379 (bn_w (a' := 0) (b' := 4) b_7372 (hT 1)) b_y38_2) (by decide)
        have B_7381 : bn 0 3 y38_2 := bn_w (bn_gtr c_7379 (bn_w (a' := 0) (b' := 4) b_7372 (hT 1)) b_y38_2) (by decide)
        refine lv_aload_n hx hb dX10_takeOver_46 rfl (lv_at hl 0 rfl) ?_
        obtain ⟨v_7382, v_7384, v_7386, v_7388, v_7390, p_ad_1_0, b_7383, b_7385, b_7387, b_7389, b_7391⟩ := opnC_1 (j := 0) I (by decide)
        have p_ad_1_0 : pt L_38 f_38 (ad 1 0) (.inr (10, [.ref (ad 40 0), .ref (ad 41 0), .ref (ad 42 0), .ref (ad 10 0), .ref (ad 43 0), .ref (ad 20 0), .ref (ad 20 1), .ref (ad 20 2), .ref (ad 20 3), .ref (ad 20 4), .int v_7382, .int v_7384, .int v_7386, .int v_7388, .int v_7390])) := p_ad_1_0
        refine pg_get S Y ok_X10 2 (by decide) kf10_20 (v := .ref (ad 42 0)) p_ad_1_0 rfl dX10_takeOver_47 ?_
        refine lv_iload_n hx hb dX10_takeOver_50 rfl (lv_at hl 2 rfl) ?_
        obtain ⟨g_7392, p_ad_42_0, o_7393⟩ := I.opr (k := 42) (j := 0) (by decide) rfl
        have p_ad_42_0 : pt L_38 f_38 (ad 42 0) (.inl (G.2 4, 4, .inr (.inr (.inr (.inr g_7392))))) := p_ad_42_0
        refine pg_aald S Y (k := 4) (o := (ad 30 y38_2.toNatClampNeg)) p_ad_42_0 rfl (vp_bn B_7381 (by decide)) (aal0 (o_7393 _ (tn_bn B_7381 (by decide)))) dX10_takeOver_51 ?_
        refine lv_aload_n hx hb dX10_takeOver_52 rfl (lv_at hl 1 rfl) ?_
        refine pg_get S Y ok_X10 2 (by decide) kf10_20 (v := .ref (ad 42 1)) p_ad_1_1 rfl dX10_takeOver_53 ?_
        refine lv_iload_n hx hb dX10_takeOver_56 rfl (lv_at hl 2 rfl) ?_
        obtain ⟨g_7394, p_ad_42_1, o_7395⟩ := I.opr (k := 42) (j := 1) (by decide) rfl
        have p_ad_42_1 : pt L_38 f_38 (ad 42 1) (.inl (G.2 4, 4, .inr (.inr (.inr (.inr g_7394))))) := p_ad_42_1
        refine pg_aald S Y (k := 4) (o := (ad 30 (4 + y38_2.toNatClampNeg))) p_ad_42_1 rfl (vp_bn B_7381 (by decide)) (o_7395 _ (tn_bn B_7381 (by decide))) dX10_takeOver_57 ?_
        refine cVv (As := [.ref (ad 30 (4 + y38_2.toNatClampNeg))]) (rest := []) S Y (x_X7_takeOver (l := l) (j := y38_2.toNatClampNeg) (i := (4 + y38_2.toNatClampNeg)) I hW hT hQ (show y38_2.toNatClampNeg < 8 from by have h9 := tn_bn (n := 4) B_7381 (by decide); omega) (show (4 + y38_2.toNatClampNeg) < 8 from by have h9 := tn_bn (n := 4) B_7381 (by decide); omega) (by omega)) cw_X7_takeOver km10_70 (I.opo (k := 30) (j := y38_2.toNatClampNeg) (show y38_2.toNatClampNeg < 8 from by have h9 := tn_bn (n := 4) B_7381 (by decide); omega) rfl).choose_spec.1 ok_X7.1 rfl rfl ⟨Nat.le_of_ble_eq_true rfl, Nat.le_of_ble_eq_true rfl⟩ hl.1 rfl (Nat.le_of_ble_eq_true rfl) ⟨Nat.le_of_ble_eq_true rfl, Nat.le_of_ble_eq_true rfl⟩ dX10_takeOver_58 (fun L_7396 f_7397 H locs I Y => ?_)
        obtain ⟨x_7398, ex_7398⟩ : ∃ z : Int32, z = y38_2 + 1 := ⟨_, rfl⟩
        refine lv_iinc (v := x_7398) (lv' := [(2, .int x_7398), (0, .ref (ad 1 0)), (1, .ref (ad 1 1))]) hx hb dX10_takeOver_61 hl (k := 2) rfl (by rw [ex_7398]; rfl) (by decide) rfl (fun ls hl => ?_)
        refine lv_goto (tgt := 38) hx hb dX10_takeOver_64 (by decide) ?_
        exact ih38 _ (by rw [← hm38]; exact ms_up (m := 1) ex_7398 (show bn 1 1 (1 : Int32) from bn_k (by decide)) B_7381 (bn_w (bn_eq ex_7398 (bn_add B_7381 (show bn 1 1 (1 : Int32) from bn_k (by decide)) (by decide))) (by decide) : bn 0 4 x_7398) (by decide)) x_7398 _ _  _ _ _ I (bn_w (bn_eq ex_7398 (bn_add B_7381 (show bn 1 1 (1 : Int32) from bn_k (by decide)) (by decide))) (by decide)) rfl Y (lv_sub hl [1, 2, 0] rfl)
  refine lv_aload_n hx hb dX10_takeOver_0 rfl (lv_at hl 1 rfl) ?_
  obtain ⟨v_7399, v_7401, v_7403, v_7405, v_7407, p_ad_1_1, b_7400, b_7402, b_7404, b_7406, b_7408⟩ := opnC_1 (j := 1) I (by decide)
  have p_ad_1_1 : pt L f (ad 1 1) (.inr (10, [.ref (ad 40 1), .ref (ad 41 1), .ref (ad 42 1), .ref (ad 10 31), .ref (ad 43 1), .ref (ad 20 5), .ref (ad 20 6), .ref (ad 20 7), .ref (ad 20 8), .ref (ad 20 9), .int v_7399, .int v_7401, .int v_7403, .int v_7405, .int v_7407])) := p_ad_1_1
  refine pg_get S Y ok_X10 0 (by decide) kf10_9 (v := .ref (ad 40 1)) p_ad_1_1 rfl dX10_takeOver_1 ?_
  refine lv_iconst (v := 0) hx hb dX10_takeOver_4 (by decide) ?_
  refine lv_aload_n hx hb dX10_takeOver_5 rfl (lv_at hl 0 rfl) ?_
  obtain ⟨v_7409, v_7411, v_7413, v_7415, v_7417, p_ad_1_0, b_7410, b_7412, b_7414, b_7416, b_7418⟩ := opnC_1 (j := 0) I (by decide)
  have p_ad_1_0 : pt L f (ad 1 0) (.inr (10, [.ref (ad 40 0), .ref (ad 41 0), .ref (ad 42 0), .ref (ad 10 0), .ref (ad 43 0), .ref (ad 20 0), .ref (ad 20 1), .ref (ad 20 2), .ref (ad 20 3), .ref (ad 20 4), .int v_7409, .int v_7411, .int v_7413, .int v_7415, .int v_7417])) := p_ad_1_0
  refine pg_get S Y ok_X10 0 (by decide) kf10_9 (v := .ref (ad 40 0)) p_ad_1_0 rfl dX10_takeOver_6 ?_
  refine lv_iconst (v := 0) hx hb dX10_takeOver_9 (by decide) ?_
  refine lv_aload_n hx hb dX10_takeOver_10 rfl (lv_at hl 0 rfl) ?_
  refine pg_get S Y ok_X10 0 (by decide) kf10_9 (v := .ref (ad 40 0)) p_ad_1_0 rfl dX10_takeOver_11 ?_
  obtain ⟨g_7419, p_ad_40_0, o_7420⟩ := I.opi (k := 40) (j := 0) (by decide) rfl
  have p_ad_40_0 : pt L f (ad 40 0) (.inl (G.2 0, 6, .inl g_7419)) := p_ad_40_0
  refine pg_alen S Y (k := 0) (v := 6) p_ad_40_0 rfl rfl dX10_takeOver_14 ?_
  obtain ⟨g_7421, p_ad_40_1, o_7422⟩ := I.opi (k := 40) (j := 1) (by decide) rfl
  have p_ad_40_1 : pt L f (ad 40 1) (.inl (G.2 0, 6, .inl g_7421)) := p_ad_40_1
  refine pg_copyi S Y hl.1 km10_61 kAn kAs kAi p_ad_40_1 p_ad_40_0 (by decide) (by decide) (by decide) (by decide) (by decide) (Nat.le_of_ble_eq_true rfl) (Nat.le_of_ble_eq_true rfl) dX10_takeOver_15 (fun f_7424 H locs ef_7424 Y => ?_)
  obtain ⟨g_7423, eg_7423⟩ : ∃ z, z = va_cpy (g_7421) (g_7419) (0 : Int32).toNatClampNeg (0 : Int32).toNatClampNeg (6 : Int32).toNatClampNeg := ⟨_, rfl⟩
  rw [← eg_7423] at ef_7424
  have p_ad_1_1 := p_ad_1_1.up ef_7424 (I.ne (k := 1) (j := 1) (k' := 40) (j' := 0) (by decide) (by decide) (Or.inl (by decide)))
  have p_ad_1_0 := p_ad_1_0.up ef_7424 (I.ne (k := 1) (j := 0) (k' := 40) (j' := 0) (by decide) (by decide) (Or.inl (by decide)))
  have p_ad_40_1 := p_ad_40_1.up ef_7424 (I.ne (k := 40) (j := 1) (k' := 40) (j' := 0) (by decide) (by decide) (Or.inr (by decide)))
  have p_ad_40_0 := p_ad_40_0.me ef_7424
  have I := I.up (k := 40) (j := 0) (by decide) ef_7424 (okE_a (g := g_7423) trivial)
  refine lv_aload_n hx hb dX10_takeOver_18 rfl (lv_at hl 1 rfl) ?_
  refine pg_get S Y ok_X10 1 (by decide) kf10_15 (v := .ref (ad 41 1)) p_ad_1_1 rfl dX10_takeOver_19 ?_
  refine lv_iconst (v := 0) hx hb dX10_takeOver_22 (by decide) ?_
  refine lv_aload_n hx hb dX10_takeOver_23 rfl (lv_at hl 0 rfl) ?_
  refine pg_get S Y ok_X10 1 (by decide) kf10_15 (v := .ref (ad 41 0)) p_ad_1_0 rfl dX10_takeOver_24 ?_
  refine lv_iconst (v := 0) hx hb dX10_takeOver_27 (by decide) ?_
  refine lv_aload_n hx hb dX10_takeOver_28 rfl (lv_at hl 0 rfl) ?_
  refine pg_get S Y ok_X10 1 (by decide) kf10_15 (v := .ref (ad 41 0)) p_ad_1_0 rfl dX10_takeOver_29 ?_
  obtain ⟨g_7425, p_ad_41_0, o_7426⟩ := I.opi (k := 41) (j := 0) (by decide) rfl
  have p_ad_41_0 : pt L f_7424 (ad 41 0) (.inl (G.2 0, 6, .inl g_7425)) := p_ad_41_0
  refine pg_alen S Y (k := 0) (v := 6) p_ad_41_0 rfl rfl dX10_takeOver_32 ?_
  obtain ⟨g_7427, p_ad_41_1, o_7428⟩ := I.opi (k := 41) (j := 1) (by decide) rfl
  have p_ad_41_1 : pt L f_7424 (ad 41 1) (.inl (G.2 0, 6, .inl g_7427)) := p_ad_41_1
  refine pg_copyi S Y hl.1 km10_61 kAn kAs kAi p_ad_41_1 p_ad_41_0 (by decide) (by decide) (by decide) (by decide) (by decide) (Nat.le_of_ble_eq_true rfl) (Nat.le_of_ble_eq_true rfl) dX10_takeOver_33 (fun f_7430 H locs ef_7430 Y => ?_)
  obtain ⟨g_7429, eg_7429⟩ : ∃ z, z = va_cpy (g_7427) (g_7425) (0 : Int32).toNatClampNeg (0 : Int32).toNatClampNeg (6 : Int32).toNatClampNeg := ⟨_, rfl⟩
  rw [← eg_7429] at ef_7430
  have p_ad_1_1 := p_ad_1_1.up ef_7430 (I.ne (k := 1) (j := 1) (k' := 41) (j' := 0) (by decide) (by decide) (Or.inl (by decide)))
  have p_ad_1_0 := p_ad_1_0.up ef_7430 (I.ne (k := 1) (j := 0) (k' := 41) (j' := 0) (by decide) (by decide) (Or.inl (by decide)))
  have p_ad_40_0 := p_ad_40_0.up ef_7430 (I.ne (k := 40) (j := 0) (k' := 41) (j' := 0) (by decide) (by decide) (Or.inl (by decide)))
  have p_ad_40_1 := p_ad_40_1.up ef_7430 (I.ne (k := 40) (j := 1) (k' := 41) (j' := 0) (by decide) (by decide) (Or.inl (by decide)))
  have p_ad_41_1 := p_ad_41_1.up ef_7430 (I.ne (k := 41) (j := 1) (k' := 41) (j' := 0) (by decide) (by decide) (Or.inr (by decide)))
  have p_ad_41_0 := p_ad_41_0.me ef_7430
  have I := I.up (k := 41) (j := 0) (by decide) ef_7430 (okE_a (g := g_7429) trivial)
  refine lv_iconst (v := 0) hx hb dX10_takeOver_36 (by decide) ?_
  refine lv_istore_n (lv' := [(2, .int 0), (0, .ref (ad 1 0)), (1, .ref (ad 1 1))]) hx hb dX10_takeOver_37 rfl hl (by decide) rfl (fun ls hl => ?_)
  exact J_38 _ 0 _ _  _ _ _ I (bn_w (show bn 0 0 (0 : Int32) from bn_k (by decide)) (by decide)) rfl Y (lv_sub hl [1, 2, 0] rfl)
set_option maxHeartbeats 4000000 in
set_option maxRecDepth 100000 in
theorem x_X10_takeOver1 {l : Launch} {G : GG}  {L : List Nat} {f : HF} {ad : Nat → Nat → Nat} {rf : FS} {fa : Nat → Int × Int} {ft : Nat → (Nat → Int32) → Prop} {fc : Int × Int} {tc w : Nat → Int × Int} {q : Nat → (Nat → Int32) → Prop} (I : SH (spC ((rf, fa, ft, sc0) : RS) fc tc w q) nnC G ad L f) (hW : WBp w 8) (hT : WBp tc 4) (hQ : QIp q) : PMv l yX10_takeOver cX10_takeOver 3 2 0 0 G [.ref (ad 1 1), .ref (ad 1 0)] L f (fun L1 f1 => ∃ tc2 : Nat → Int × Int, ∃ w2 : Nat → Int × Int, ∃ q2 : Nat → (Nat → Int32) → Prop, SH (spC ((rf, fa, ft, sc0) : RS) fc tc2 w2 q2) nnC G ad L1 f1 ∧ tc2 1 = tc 0 ∧ (∀ k, k ≠ 1 → tc2 k = tc k) ∧ w2 5 = w 0 ∧ w2 6 = w 1 ∧ w2 7 = w 2 ∧ w2 8 = w 3 ∧ w2 9 = w 4 ∧ (∀ k, (k < 5 ∨ 10 ≤ k) → w2 k = w k) ∧ q2 5 = q 0 ∧ q2 6 = q 1 ∧ q2 7 = q 2 ∧ q2 8 = q 3 ∧ q2 9 = q 4 ∧ (∀ k, (k < 5 ∨ 10 ≤ k) → q2 k = q k) ∧ WBp tc2 4 ∧ WBp w2 8 ∧ QIp q2) := by
  refine PMv.of (post := fun L1 f1 => ∃ tc2 : Nat → Int × Int, ∃ w2 : Nat → Int × Int, ∃ q2 : Nat → (Nat → Int32) → Prop, SH (spC ((rf, fa, ft, sc0) : RS) fc tc2 w2 q2) nnC G ad L1 f1 ∧ tc2 1 = tc 0 ∧ (∀ k, k ≠ 1 → tc2 k = tc k) ∧ w2 5 = w 0 ∧ w2 6 = w 1 ∧ w2 7 = w 2 ∧ w2 8 = w 3 ∧ w2 9 = w 4 ∧ (∀ k, (k < 5 ∨ 10 ≤ k) → w2 k = w k) ∧ q2 5 = q 0 ∧ q2 6 = q 1 ∧ q2 7 = q 2 ∧ q2 8 = q 3 ∧ q2 9 = q 4 ∧ (∀ k, (k < 5 ∨ 10 ≤ k) → q2 k = q k) ∧ WBp tc2 4 ∧ WBp w2 8 ∧ QIp q2) (own := RX10) (by decide) rfl (Nat.le_of_ble_eq_true rfl) (fun sz p e s m args below meth c A ls hA1 hname S Y hl => ?_)
  have hx := S.hx
  have hb := S.hb
  have hl : lv_has ls 3 [(0, .ref (ad 1 1)), (1, .ref (ad 1 0))] := hl
  have J_69 : ∀ (n69 : Nat) (y69_2 : Int32) (L_69 : List Nat) (f_69 : HF) (H : Heap) (locs : List Loc) (ls : Array Slot), (SH (spC ((rf, fa, ft, sc0) : RS) fc tc w q) nnC G ad L_69 f_69) → (bn 0 30 y69_2) → (((30 : Int) - y69_2.toInt).toNat = n69) → (DY G A s [] L_69 f_69 H locs) → (lv_has ls 3 [(0, .ref (ad 1 1)), (1, .ref (ad 1 0)), (2, .int y69_2)]) → W p l e (rmD 2 0 0) s m args below meth c H locs (0) (0) (MQ below (va_Qv (fun (u : List Nat × HF) => (fun L1 f1 => ∃ tc2 : Nat → Int × Int, ∃ w2 : Nat → Int × Int, ∃ q2 : Nat → (Nat → Int32) → Prop, SH (spC ((rf, fa, ft, sc0) : RS) fc tc2 w2 q2) nnC G ad L1 f1 ∧ tc2 1 = tc 0 ∧ (∀ k, k ≠ 1 → tc2 k = tc k) ∧ w2 5 = w 0 ∧ w2 6 = w 1 ∧ w2 7 = w 2 ∧ w2 8 = w 3 ∧ w2 9 = w 4 ∧ (∀ k, (k < 5 ∨ 10 ≤ k) → w2 k = w k) ∧ q2 5 = q 0 ∧ q2 6 = q 1 ∧ q2 7 = q 2 ∧ q2 8 = q 3 ∧ q2 9 = q 4 ∧ (∀ k, (k < 5 ∨ 10 ≤ k) → q2 k = q k) ∧ WBp tc2 4 ∧ WBp w2 8 ∧ QIp q2) u.1 u.2) (fun u t => pOut G (va_A (va_pl L f) sz) u.1 u.2 t) (va_A (va_pl L f) sz)) args s 0 0 A) (F0 m 69 ls []) := by
    intro n69
    induction n69 using Nat.strongRecOn with
    | _ n69 ih69 =>
      intro y69_2 L_69 f_69 H locs ls I b_y69_2 hm69 Y hl
      refine lv_iload_n hx hb dX10_takeOver_69 rfl (lv_at hl 2 rfl) ?_
      refine lv_bipush (v := 30) hx hb dX10_takeOver_70 (by decide) ?_
      refine lv_icmp_ge (tgt := 96) hx hb dX10_takeOver_72 (by decide) (fun c_8625 => ?_) (fun c_8625 => ?_)
      · have B_8626 : bn 30 30 y69_2 := bn_w (bn_ler c_8625 (show bn 30 30 (30 : Int32) from bn_k (by decide)) b_y69_2) (by decide)
        refine lv_aload_n hx hb dX10_takeOver_96 rfl (lv_at hl 0 rfl) ?_
        obtain ⟨v_8628, v_8630, v_8632, v_8634, v_8636, p_ad_1_1, b_8629, b_8631, b_8633, b_8635, b_8637⟩ := opnC_1 (j := 1) I (by decide)
        have p_ad_1_1 : pt L_69 f_69 (ad 1 1) (.inr (10, [.ref (ad 40 1), .ref (ad 41 1), .ref (ad 42 1), .ref (ad 10 31), .ref (ad 43 1), .ref (ad 20 5), .ref (ad 20 6), .ref (ad 20 7), .ref (ad 20 8), .ref (ad 20 9), .int v_8628, .int v_8630, .int v_8632, .int v_8634, .int v_8636])) := p_ad_1_1
        refine pg_get S Y ok_X10 3 (by decide) kf10_27 (v := .ref (ad 10 31)) p_ad_1_1 rfl dX10_takeOver_97 ?_
        refine lv_aload_n hx hb dX10_takeOver_100 rfl (lv_at hl 1 rfl) ?_
        obtain ⟨v_8638, v_8640, v_8642, v_8644, v_8646, p_ad_1_0, b_8639, b_8641, b_8643, b_8645, b_8647⟩ := opnC_1 (j := 0) I (by decide)
        have p_ad_1_0 : pt L_69 f_69 (ad 1 0) (.inr (10, [.ref (ad 40 0), .ref (ad 41 0), .ref (ad 42 0), .ref (ad 10 0), .ref (ad 43 0), .ref (ad 20 0), .ref (ad 20 1), .ref (ad 20 2), .ref (ad 20 3), .ref (ad 20 4), .int v_8638, .int v_8640, .int v_8642, .int v_8644, .int v_8646])) := p_ad_1_0
        refine pg_get S Y ok_X10 3 (by decide) kf10_27 (v := .ref (ad 10 0)) p_ad_1_0 rfl dX10_takeOver_101 ?_
        refine cVv (As := [.ref (ad 10 0)]) (rest := []) S Y (x_X4_takeOver (l := l) (j := 31) (i := 0) I hW hT hQ (by decide) (by decide) (by omega)) cw_X4_takeOver km10_74 (I.opo (k := 10) (j := 31) (by decide) rfl).choose_spec.1 ok_X4.1 rfl rfl ⟨Nat.le_of_ble_eq_true rfl, Nat.le_of_ble_eq_true rfl⟩ hl.1 rfl (Nat.le_of_ble_eq_true rfl) ⟨Nat.le_of_ble_eq_true rfl, Nat.le_of_ble_eq_true rfl⟩ dX10_takeOver_104 (fun L_8648 f_8649 H locs I Y => ?_)
        refine lv_aload_n hx hb dX10_takeOver_107 rfl (lv_at hl 0 rfl) ?_
        obtain ⟨v_8650, v_8652, v_8654, v_8656, v_8658, p_ad_1_1, b_8651, b_8653, b_8655, b_8657, b_8659⟩ := opnC_1 (j := 1) I (by decide)
        have p_ad_1_1 : pt L_8648 f_8649 (ad 1 1) (.inr (10, [.ref (ad 40 1), .ref (ad 41 1), .ref (ad 42 1), .ref (ad 10 31), .ref (ad 43 1), .ref (ad 20 5), .ref (ad 20 6), .ref (ad 20 7), .ref (ad 20 8), .ref (ad 20 9), .int v_8650, .int v_8652, .int v_8654, .int v_8656, .int v_8658])) := p_ad_1_1
        refine pg_get S Y ok_X10 5 (by decide) kf10_40 (v := .ref (ad 20 5)) p_ad_1_1 rfl dX10_takeOver_108 ?_
        refine lv_aload_n hx hb dX10_takeOver_111 rfl (lv_at hl 1 rfl) ?_
        obtain ⟨v_8660, v_8662, v_8664, v_8666, v_8668, p_ad_1_0, b_8661, b_8663, b_8665, b_8667, b_8669⟩ := opnC_1 (j := 0) I (by decide)
        have p_ad_1_0 : pt L_8648 f_8649 (ad 1 0) (.inr (10, [.ref (ad 40 0), .ref (ad 41 0), .ref (ad 42 0), .ref (ad 10 0), .ref (ad 43 0), .ref (ad 20 0), .ref (ad 20 1), .ref (ad 20 2), .ref (ad 20 3), .ref (ad 20 4), .int v_8660, .int v_8662, .int v_8664, .int v_8666, .int v_8668])) := p_ad_1_0
        refine pg_get S Y ok_X10 5 (by decide) kf10_40 (v := .ref (ad 20 0)) p_ad_1_0 rfl dX10_takeOver_112 ?_
        refine cVv (As := [.ref (ad 20 0)]) (rest := []) S Y (x_X9_takeOver (l := l) (j := 5) (i := 0) I hW hT hQ (by decide) (by decide) (by omega)) cw_X9_takeOver km10_77 (I.opo (k := 20) (j := 5) (by decide) rfl).choose_spec.1 ok_X9.1 rfl rfl ⟨Nat.le_of_ble_eq_true rfl, Nat.le_of_ble_eq_true rfl⟩ hl.1 rfl (Nat.le_of_ble_eq_true rfl) ⟨Nat.le_of_ble_eq_true rfl, Nat.le_of_ble_eq_true rfl⟩ dX10_takeOver_115 (fun L_8670 f_8671 H locs hr_8672 Y => ?_)
        obtain ⟨w2_8673, q2_8674, I, e1_8675, e2_8676, e3_8677, e4_8678, eW_8679, eQ_8680⟩ := hr_8672
        refine lv_aload_n hx hb dX10_takeOver_118 rfl (lv_at hl 0 rfl) ?_
        obtain ⟨v_8681, v_8683, v_8685, v_8687, v_8689, p_ad_1_1, b_8682, b_8684, b_8686, b_8688, b_8690⟩ := opnC_1 (j := 1) I (by decide)
        have p_ad_1_1 : pt L_8670 f_8671 (ad 1 1) (.inr (10, [.ref (ad 40 1), .ref (ad 41 1), .ref (ad 42 1), .ref (ad 10 31), .ref (ad 43 1), .ref (ad 20 5), .ref (ad 20 6), .ref (ad 20 7), .ref (ad 20 8), .ref (ad 20 9), .int v_8681, .int v_8683, .int v_8685, .int v_8687, .int v_8689])) := p_ad_1_1
        refine pg_get S Y ok_X10 6 (by decide) kf10_44 (v := .ref (ad 20 6)) p_ad_1_1 rfl dX10_takeOver_119 ?_
        refine lv_aload_n hx hb dX10_takeOver_122 rfl (lv_at hl 1 rfl) ?_
        obtain ⟨v_8691, v_8693, v_8695, v_8697, v_8699, p_ad_1_0, b_8692, b_8694, b_8696, b_8698, b_8700⟩ := opnC_1 (j := 0) I (by decide)
        have p_ad_1_0 : pt L_8670 f_8671 (ad 1 0) (.inr (10, [.ref (ad 40 0), .ref (ad 41 0), .ref (ad 42 0), .ref (ad 10 0), .ref (ad 43 0), .ref (ad 20 0), .ref (ad 20 1), .ref (ad 20 2), .ref (ad 20 3), .ref (ad 20 4), .int v_8691, .int v_8693, .int v_8695, .int v_8697, .int v_8699])) := p_ad_1_0
        refine pg_get S Y ok_X10 6 (by decide) kf10_44 (v := .ref (ad 20 1)) p_ad_1_0 rfl dX10_takeOver_123 ?_
        refine cVv (As := [.ref (ad 20 1)]) (rest := []) S Y (x_X9_takeOver (l := l) (j := 6) (i := 1) I eW_8679 hT eQ_8680 (by decide) (by decide) (by omega)) cw_X9_takeOver km10_77 (I.opo (k := 20) (j := 6) (by decide) rfl).choose_spec.1 ok_X9.1 rfl rfl ⟨Nat.le_of_ble_eq_true rfl, Nat.le_of_ble_eq_true rfl⟩ hl.1 rfl (Nat.le_of_ble_eq_true rfl) ⟨Nat.le_of_ble_eq_true rfl, Nat.le_of_ble_eq_true rfl⟩ dX10_takeOver_126 (fun L_8701 f_8702 H locs hr_8703 Y => ?_)
        obtain ⟨w2_8704, q2_8705, I, e1_8706, e2_8707, e3_8708, e4_8709, eW_8710, eQ_8711⟩ := hr_8703
        refine lv_aload_n hx hb dX10_takeOver_129 rfl (lv_at hl 0 rfl) ?_
        obtain ⟨v_8712, v_8714, v_8716, v_8718, v_8720, p_ad_1_1, b_8713, b_8715, b_8717, b_8719, b_8721⟩ := opnC_1 (j := 1) I (by decide)
        have p_ad_1_1 : pt L_8701 f_8702 (ad 1 1) (.inr (10, [.ref (ad 40 1), .ref (ad 41 1), .ref (ad 42 1), .ref (ad 10 31), .ref (ad 43 1), .ref (ad 20 5), .ref (ad 20 6), .ref (ad 20 7), .ref (ad 20 8), .ref (ad 20 9), .int v_8712, .int v_8714, .int v_8716, .int v_8718, .int v_8720])) := p_ad_1_1
        refine pg_get S Y ok_X10 7 (by decide) kf10_47 (v := .ref (ad 20 7)) p_ad_1_1 rfl dX10_takeOver_130 ?_
        refine lv_aload_n hx hb dX10_takeOver_133 rfl (lv_at hl 1 rfl) ?_
        obtain ⟨v_8722, v_8724, v_8726, v_8728, v_8730, p_ad_1_0, b_8723, b_8725, b_8727, b_8729, b_8731⟩ := opnC_1 (j := 0) I (by decide)
        have p_ad_1_0 : pt L_8701 f_8702 (ad 1 0) (.inr (10, [.ref (ad 40 0), .ref (ad 41 0), .ref (ad 42 0), .ref (ad 10 0), .ref (ad 43 0), .ref (ad 20 0), .ref (ad 20 1), .ref (ad 20 2), .ref (ad 20 3), .ref (ad 20 4), .int v_8722, .int v_8724, .int v_8726, .int v_8728, .int v_8730])) := p_ad_1_0
        refine pg_get S Y ok_X10 7 (by decide) kf10_47 (v := .ref (ad 20 2)) p_ad_1_0 rfl dX10_takeOver_134 ?_
        refine cVv (As := [.ref (ad 20 2)]) (rest := []) S Y (x_X9_takeOver (l := l) (j := 7) (i := 2) I eW_8710 hT eQ_8711 (by decide) (by decide) (by omega)) cw_X9_takeOver km10_77 (I.opo (k := 20) (j := 7) (by decide) rfl).choose_spec.1 ok_X9.1 rfl rfl ⟨Nat.le_of_ble_eq_true rfl, Nat.le_of_ble_eq_true rfl⟩ hl.1 rfl (Nat.le_of_ble_eq_true rfl) ⟨Nat.le_of_ble_eq_true rfl, Nat.le_of_ble_eq_true rfl⟩ dX10_takeOver_137 (fun L_8732 f_8733 H locs hr_8734 Y => ?_)
        obtain ⟨w2_8735, q2_8736, I, e1_8737, e2_8738, e3_8739, e4_8740, eW_8741, eQ_8742⟩ := hr_8734
        refine lv_aload_n hx hb dX10_takeOver_140 rfl (lv_at hl 0 rfl) ?_
        obtain ⟨v_8743, v_8745, v_8747, v_8749, v_8751, p_ad_1_1, b_8744, b_8746, b_8748, b_8750, b_8752⟩ := opnC_1 (j := 1) I (by decide)
        have p_ad_1_1 : pt L_8732 f_8733 (ad 1 1) (.inr (10, [.ref (ad 40 1), .ref (ad 41 1), .ref (ad 42 1), .ref (ad 10 31), .ref (ad 43 1), .ref (ad 20 5), .ref (ad 20 6), .ref (ad 20 7), .ref (ad 20 8), .ref (ad 20 9), .int v_8743, .int v_8745, .int v_8747, .int v_8749, .int v_8751])) := p_ad_1_1
        refine pg_get S Y ok_X10 8 (by decide) kf10_50 (v := .ref (ad 20 8)) p_ad_1_1 rfl dX10_takeOver_141 ?_
        refine lv_aload_n hx hb dX10_takeOver_144 rfl (lv_at hl 1 rfl) ?_
        obtain ⟨v_8753, v_8755, v_8757, v_8759, v_8761, p_ad_1_0, b_8754, b_8756, b_8758, b_8760, b_8762⟩ := opnC_1 (j := 0) I (by decide)
        have p_ad_1_0 : pt L_8732 f_8733 (ad 1 0) (.inr (10, [.ref (ad 40 0), .ref (ad 41 0), .ref (ad 42 0), .ref (ad 10 0), .ref (ad 43 0), .ref (ad 20 0), .ref (ad 20 1), .ref (ad 20 2), .ref (ad 20 3), .ref (ad 20 4), .int v_8753, .int v_8755, .int v_8757, .int v_8759, .int v_8761])) := p_ad_1_0
        refine pg_get S Y ok_X10 8 (by decide) kf10_50 (v := .ref (ad 20 3)) p_ad_1_0 rfl dX10_takeOver_145 ?_
        refine cVv (As := [.ref (ad 20 3)]) (rest := []) S Y (x_X9_takeOver (l := l) (j := 8) (i := 3) I eW_8741 hT eQ_8742 (by decide) (by decide) (by omega)) cw_X9_takeOver km10_77 (I.opo (k := 20) (j := 8) (by decide) rfl).choose_spec.1 ok_X9.1 rfl rfl ⟨Nat.le_of_ble_eq_true rfl, Nat.le_of_ble_eq_true rfl⟩ hl.1 rfl (Nat.le_of_ble_eq_true rfl) ⟨Nat.le_of_ble_eq_true rfl, Nat.le_of_ble_eq_true rfl⟩ dX10_takeOver_148 (fun L_8763 f_8764 H locs hr_8765 Y => ?_)
        obtain ⟨w2_8766, q2_8767, I, e1_8768, e2_8769, e3_8770, e4_8771, eW_8772, eQ_8773⟩ := hr_8765
        refine lv_aload_n hx hb dX10_takeOver_151 rfl (lv_at hl 0 rfl) ?_
        obtain ⟨v_8774, v_8776, v_8778, v_8780, v_8782, p_ad_1_1, b_8775, b_8777, b_8779, b_8781, b_8783⟩ := opnC_1 (j := 1) I (by decide)
        have p_ad_1_1 : pt L_8763 f_8764 (ad 1 1) (.inr (10, [.ref (ad 40 1), .ref (ad 41 1), .ref (ad 42 1), .ref (ad 10 31), .ref (ad 43 1), .ref (ad 20 5), .ref (ad 20 6), .ref (ad 20 7), .ref (ad 20 8), .ref (ad 20 9), .int v_8774, .int v_8776, .int v_8778, .int v_8780, .int v_8782])) := p_ad_1_1
        refine pg_get S Y ok_X10 9 (by decide) kf10_53 (v := .ref (ad 20 9)) p_ad_1_1 rfl dX10_takeOver_152 ?_
        refine lv_aload_n hx hb dX10_takeOver_155 rfl (lv_at hl 1 rfl) ?_
        obtain ⟨v_8784, v_8786, v_8788, v_8790, v_8792, p_ad_1_0, b_8785, b_8787, b_8789, b_8791, b_8793⟩ := opnC_1 (j := 0) I (by decide)
        have p_ad_1_0 : pt L_8763 f_8764 (ad 1 0) (.inr (10, [.ref (ad 40 0), .ref (ad 41 0), .ref (ad 42 0), .ref (ad 10 0), .ref (ad 43 0), .ref (ad 20 0), .ref (ad 20 1), .ref (ad 20 2), .ref (ad 20 3), .ref (ad 20 4), .int v_8784, .int v_8786, .int v_8788, .int v_8790, .int v_8792])) := p_ad_1_0
        refine pg_get S Y ok_X10 9 (by decide) kf10_53 (v := .ref (ad 20 4)) p_ad_1_0 rfl dX10_takeOver_156 ?_
        refine cVv (As := [.ref (ad 20 4)]) (rest := []) S Y (x_X9_takeOver (l := l) (j := 9) (i := 4) I eW_8772 hT eQ_8773 (by decide) (by decide) (by omega)) cw_X9_takeOver km10_77 (I.opo (k := 20) (j := 9) (by decide) rfl).choose_spec.1 ok_X9.1 rfl rfl ⟨Nat.le_of_ble_eq_true rfl, Nat.le_of_ble_eq_true rfl⟩ hl.1 rfl (Nat.le_of_ble_eq_true rfl) ⟨Nat.le_of_ble_eq_true rfl, Nat.le_of_ble_eq_true rfl⟩ dX10_takeOver_159 (fun L_8794 f_8795 H locs hr_8796 Y => ?_)
        obtain ⟨w2_8797, q2_8798, I, e1_8799, e2_8800, e3_8801, e4_8802, eW_8803, eQ_8804⟩ := hr_8796
        refine lv_aload_n hx hb dX10_takeOver_162 rfl (lv_at hl 0 rfl) ?_
        refine lv_aload_n hx hb dX10_takeOver_163 rfl (lv_at hl 1 rfl) ?_
        obtain ⟨v_8805, v_8807, v_8809, v_8811, v_8813, p_ad_1_0, b_8806, b_8808, b_8810, b_8812, b_8814⟩ := opnC_1 (j := 0) I (by decide)
        have p_ad_1_0 : pt L_8794 f_8795 (ad 1 0) (.inr (10, [.ref (ad 40 0), .ref (ad 41 0), .ref (ad 42 0), .ref (ad 10 0), .ref (ad 43 0), .ref (ad 20 0), .ref (ad 20 1), .ref (ad 20 2), .ref (ad 20 3), .ref (ad 20 4), .int v_8805, .int v_8807, .int v_8809, .int v_8811, .int v_8813])) := p_ad_1_0
        refine pg_get S Y ok_X10 10 (by decide) kf10_80 (v := .int v_8805) p_ad_1_0 rfl dX10_takeOver_164 ?_
        obtain ⟨v_8815, v_8817, v_8819, v_8821, v_8823, p_ad_1_1, b_8816, b_8818, b_8820, b_8822, b_8824⟩ := opnC_1 (j := 1) I (by decide)
        have p_ad_1_1 : pt L_8794 f_8795 (ad 1 1) (.inr (10, [.ref (ad 40 1), .ref (ad 41 1), .ref (ad 42 1), .ref (ad 10 31), .ref (ad 43 1), .ref (ad 20 5), .ref (ad 20 6), .ref (ad 20 7), .ref (ad 20 8), .ref (ad 20 9), .int v_8815, .int v_8817, .int v_8819, .int v_8821, .int v_8823])) := p_ad_1_1
        refine pg_put S Y ok_X10 10 (by decide) kf10_80 rfl (fs' := [.ref (ad 40 1), .ref (ad 41 1), .ref (ad 42 1), .ref (ad 10 31), .ref (ad 43 1), .ref (ad 20 5), .ref (ad 20 6), .ref (ad 20 7), .ref (ad 20 8), .ref (ad 20 9), .int v_8805, .int v_8817, .int v_8819, .int v_8821, .int v_8823]) (v := .int v_8805) p_ad_1_1 rfl rfl rfl (Nat.le_of_ble_eq_true rfl) dX10_takeOver_167 (fun f_8825 H locs ef_8825 Y => ?_)
        have p_ad_1_0 := p_ad_1_0.up ef_8825 (I.ne (k := 1) (j := 0) (k' := 1) (j' := 1) (by decide) (by decide) (Or.inr (by decide)))
        have p_ad_1_1 := p_ad_1_1.me ef_8825
        have I := I.up (k := 1) (j := 1) (by decide) ef_8825 (okE_o (okFs_c okV_r (okFs_c okV_r (okFs_c okV_r (okFs_c okV_r (okFs_c okV_r (okFs_c okV_r (okFs_c okV_r (okFs_c okV_r (okFs_c okV_r (okFs_c okV_r (okFs_c (okV_i (bn_w b_8806 (by decide))) (okFs_c (okV_p b_8818) (okFs_c (okV_i b_8820) (okFs_c (okV_i b_8822) (okFs_c (okV_i b_8824) okFs_n))))))))))))))))
        refine lv_aload_n hx hb dX10_takeOver_170 rfl (lv_at hl 0 rfl) ?_
        refine lv_aload_n hx hb dX10_takeOver_171 rfl (lv_at hl 1 rfl) ?_
        refine pg_get S Y ok_X10 11 (by decide) kf10_67 (v := .int v_8807) p_ad_1_0 rfl dX10_takeOver_172 ?_
        refine pg_put S Y ok_X10 11 (by decide) kf10_67 rfl (fs' := [.ref (ad 40 1), .ref (ad 41 1), .ref (ad 42 1), .ref (ad 10 31), .ref (ad 43 1), .ref (ad 20 5), .ref (ad 20 6), .ref (ad 20 7), .ref (ad 20 8), .ref (ad 20 9), .int v_8805, .int v_8807, .int v_8819, .int v_8821, .int v_8823]) (v := .int v_8807) p_ad_1_1 rfl rfl rfl (Nat.le_of_ble_eq_true rfl) dX10_takeOver_175 (fun f_8826 H locs ef_8826 Y => ?_)
        have p_ad_1_0 := p_ad_1_0.up ef_8826 (I.ne (k := 1) (j := 0) (k' := 1) (j' := 1) (by decide) (by decide) (Or.inr (by decide)))
        have p_ad_1_1 := p_ad_1_1.me ef_8826
        have I := I.upS (sp' := spC ((rf, fa, ft, sc0) : RS) fc (stf tc 1 (tc 0)) w2_8797 q2_8798) (k := 1) (j := 1) (by decide) ef_8826 (okE_o (okFs_c okV_r (okFs_c okV_r (okFs_c okV_r (okFs_c okV_r (okFs_c okV_r (okFs_c okV_r (okFs_c okV_r (okFs_c okV_r (okFs_c okV_r (okFs_c okV_r (okFs_c (okV_i (bn_w b_8806 (by decide))) (okFs_c (okV_p (q := stf tc 1 (tc 0) 1) (by rw [stf_s]; exact b_8808)) (okFs_c (okV_i b_8820) (okFs_c (okV_i b_8822) (okFs_c (okV_i b_8824) okFs_n)))))))))))))))) tcC
        refine lv_aload_n hx hb dX10_takeOver_178 rfl (lv_at hl 0 rfl) ?_
        refine lv_aload_n hx hb dX10_takeOver_179 rfl (lv_at hl 1 rfl) ?_
        refine pg_get S Y ok_X10 12 (by decide) kf10_56 (v := .int v_8809) p_ad_1_0 rfl dX10_takeOver_180 ?_
        refine pg_put S Y ok_X10 12 (by decide) kf10_56 rfl (fs' := [.ref (ad 40 1), .ref (ad 41 1), .ref (ad 42 1), .ref (ad 10 31), .ref (ad 43 1), .ref (ad 20 5), .ref (ad 20 6), .ref (ad 20 7), .ref (ad 20 8), .ref (ad 20 9), .int v_8805, .int v_8807, .int v_8809, .int v_8821, .int v_8823]) (v := .int v_8809) p_ad_1_1 rfl rfl rfl (Nat.le_of_ble_eq_true rfl) dX10_takeOver_183 (fun f_8827 H locs ef_8827 Y => ?_)
        have p_ad_1_0 := p_ad_1_0.up ef_8827 (I.ne (k := 1) (j := 0) (k' := 1) (j' := 1) (by decide) (by decide) (Or.inr (by decide)))
        have p_ad_1_1 := p_ad_1_1.me ef_8827
        have I := I.up (k := 1) (j := 1) (by decide) ef_8827 (okE_o (okFs_c okV_r (okFs_c okV_r (okFs_c okV_r (okFs_c okV_r (okFs_c okV_r (okFs_c okV_r (okFs_c okV_r (okFs_c okV_r (okFs_c okV_r (okFs_c okV_r (okFs_c (okV_i (bn_w b_8806 (by decide))) (okFs_c (okV_p (q := stf tc 1 (tc 0) 1) (by rw [stf_s]; exact b_8808)) (okFs_c (okV_i (bn_w (bn_any v_8809) (by decide))) (okFs_c (okV_i b_8822) (okFs_c (okV_i b_8824) okFs_n))))))))))))))))
        refine lv_aload_n hx hb dX10_takeOver_186 rfl (lv_at hl 0 rfl) ?_
        refine lv_aload_n hx hb dX10_takeOver_187 rfl (lv_at hl 1 rfl) ?_
        refine pg_get S Y ok_X10 13 (by decide) kf10_83 (v := .int v_8811) p_ad_1_0 rfl dX10_takeOver_188 ?_
        refine pg_put S Y ok_X10 13 (by decide) kf10_83 rfl (fs' := [.ref (ad 40 1), .ref (ad 41 1), .ref (ad 42 1), .ref (ad 10 31), .ref (ad 43 1), .ref (ad 20 5), .ref (ad 20 6), .ref (ad 20 7), .ref (ad 20 8), .ref (ad 20 9), .int v_8805, .int v_8807, .int v_8809, .int v_8811, .int v_8823]) (v := .int v_8811) p_ad_1_1 rfl rfl rfl (Nat.le_of_ble_eq_true rfl) dX10_takeOver_191 (fun f_8828 H locs ef_8828 Y => ?_)
        have p_ad_1_0 := p_ad_1_0.up ef_8828 (I.ne (k := 1) (j := 0) (k' := 1) (j' := 1) (by decide) (by decide) (Or.inr (by decide)))
        have p_ad_1_1 := p_ad_1_1.me ef_8828
        have I := I.up (k := 1) (j := 1) (by decide) ef_8828 (okE_o (okFs_c okV_r (okFs_c okV_r (okFs_c okV_r (okFs_c okV_r (okFs_c okV_r (okFs_c okV_r (okFs_c okV_r (okFs_c okV_r (okFs_c okV_r (okFs_c okV_r (okFs_c (okV_i (bn_w b_8806 (by decide))) (okFs_c (okV_p (q := stf tc 1 (tc 0) 1) (by rw [stf_s]; exact b_8808)) (okFs_c (okV_i (bn_w (bn_any v_8809) (by decide))) (okFs_c (okV_i (bn_w b_8812 (by decide))) (okFs_c (okV_i b_8824) okFs_n))))))))))))))))
        refine lv_aload_n hx hb dX10_takeOver_194 rfl (lv_at hl 0 rfl) ?_
        refine lv_aload_n hx hb dX10_takeOver_195 rfl (lv_at hl 1 rfl) ?_
        refine pg_get S Y ok_X10 14 (by decide) kf10_86 (v := .int v_8813) p_ad_1_0 rfl dX10_takeOver_196 ?_
        refine pg_put S Y ok_X10 14 (by decide) kf10_86 rfl (fs' := [.ref (ad 40 1), .ref (ad 41 1), .ref (ad 42 1), .ref (ad 10 31), .ref (ad 43 1), .ref (ad 20 5), .ref (ad 20 6), .ref (ad 20 7), .ref (ad 20 8), .ref (ad 20 9), .int v_8805, .int v_8807, .int v_8809, .int v_8811, .int v_8813]) (v := .int v_8813) p_ad_1_1 rfl rfl rfl (Nat.le_of_ble_eq_true rfl) dX10_takeOver_199 (fun f_8829 H locs ef_8829 Y => ?_)
        have p_ad_1_0 := p_ad_1_0.up ef_8829 (I.ne (k := 1) (j := 0) (k' := 1) (j' := 1) (by decide) (by decide) (Or.inr (by decide)))
        have p_ad_1_1 := p_ad_1_1.me ef_8829
        have I := I.up (k := 1) (j := 1) (by decide) ef_8829 (okE_o (okFs_c okV_r (okFs_c okV_r (okFs_c okV_r (okFs_c okV_r (okFs_c okV_r (okFs_c okV_r (okFs_c okV_r (okFs_c okV_r (okFs_c okV_r (okFs_c okV_r (okFs_c (okV_i (bn_w b_8806 (by decide))) (okFs_c (okV_p (q := stf tc 1 (tc 0) 1) (by rw [stf_s]; exact b_8808)) (okFs_c (okV_i (bn_w (bn_any v_8809) (by decide))) (okFs_c (okV_i (bn_w b_8812 (by decide))) (okFs_c (okV_i (bn_w b_8814 (by decide))) okFs_n))))))))))))))))
        exact prV (post := fun L1 f1 => ∃ tc2 : Nat → Int × Int, ∃ w2 : Nat → Int × Int, ∃ q2 : Nat → (Nat → Int32) → Prop, SH (spC ((rf, fa, ft, sc0) : RS) fc tc2 w2 q2) nnC G ad L1 f1 ∧ tc2 1 = tc 0 ∧ (∀ k, k ≠ 1 → tc2 k = tc k) ∧ w2 5 = w 0 ∧ w2 6 = w 1 ∧ w2 7 = w 2 ∧ w2 8 = w 3 ∧ w2 9 = w 4 ∧ (∀ k, (k < 5 ∨ 10 ≤ k) → w2 k = w k) ∧ q2 5 = q 0 ∧ q2 6 = q 1 ∧ q2 7 = q 2 ∧ q2 8 = q 3 ∧ q2 9 = q 4 ∧ (∀ k, (k < 5 ∨ 10 ≤ k) → q2 k = q k) ∧ WBp tc2 4 ∧ WBp w2 8 ∧ QIp q2) S Y (by decide) (by decide) hA1 ⟨stf tc 1 (tc 0), w2_8797, q2_8798, I, stf_s, fun k h => stf_n h, by rw [e2_8800 _ (by decide), e2_8769 _ (by decide), e2_8738 _ (by decide), e2_8707 _ (by decide), e1_8675], by rw [e2_8800 _ (by decide), e2_8769 _ (by decide), e2_8738 _ (by decide), e1_8706, e2_8676 _ (by decide)], by rw [e2_8800 _ (by decide), e2_8769 _ (by decide), e1_8737, e2_8707 _ (by decide), e2_8676 _ (by decide)], by rw [e2_8800 _ (by decide), e1_8768, e2_8738 _ (by decide), e2_8707 _ (by decide), e2_8676 _ (by decide)], by rw [e1_8799, e2_8769 _ (by decide), e2_8738 _ (by decide), e2_8707 _ (by decide), e2_8676 _ (by decide)], fun k h => by rw [e2_8800 _ (by omega), e2_8769 _ (by omega), e2_8738 _ (by omega), e2_8707 _ (by omega), e2_8676 _ (by omega)], by rw [e4_8802 _ (by decide), e4_8771 _ (by decide), e4_8740 _ (by decide), e4_8709 _ (by decide), e3_8677], by rw [e4_8802 _ (by decide), e4_8771 _ (by decide), e4_8740 _ (by decide), e3_8708, e4_8678 _ (by decide)], by rw [e4_8802 _ (by decide), e4_8771 _ (by decide), e3_8739, e4_8709 _ (by decide), e4_8678 _ (by decide)], by rw [e4_8802 _ (by decide), e3_8770, e4_8740 _ (by decide), e4_8709 _ (by decide), e4_8678 _ (by decide)], by rw [e3_8801, e4_8771 _ (by decide), e4_8740 _ (by decide), e4_8709 _ (by decide), e4_8678 _ (by decide)], fun k h => by rw [e4_8802 _ (by omega), e4_8771 _ (by omega), e4_8740 _ (by omega), e4_8709 _ (by omega), e4_8678 _ (by omega)], WI_stf hT, eW_8803, eQ_8804⟩ dX10_takeOver_202
      · have B_8627 : bn 0 29 y69_2 := bn_w (bn_gtr c_8625 (show bn 30 30 (30 : Int32) from bn_k (by decide)) b_y69_2) (by decide)
        refine lv_aload_n hx hb dX10_takeOver_75 rfl (lv_at hl 0 rfl) ?_
        obtain ⟨v_8830, v_8832, v_8834, v_8836, v_8838, p_ad_1_1, b_8831, b_8833, b_8835, b_8837, b_8839⟩ := opnC_1 (j := 1) I (by decide)
        have p_ad_1_1 : pt L_69 f_69 (ad 1 1) (.inr (10, [.ref (ad 40 1), .ref (ad 41 1), .ref (ad 42 1), .ref (ad 10 31), .ref (ad 43 1), .ref (ad 20 5), .ref (ad 20 6), .ref (ad 20 7), .ref (ad 20 8), .ref (ad 20 9), .int v_8830, .int v_8832, .int v_8834, .int v_8836, .int v_8838])) := p_ad_1_1
        refine pg_get S Y ok_X10 4 (by decide) kf10_31 (v := .ref (ad 43 1)) p_ad_1_1 rfl dX10_takeOver_76 ?_
        refine lv_iload_n hx hb dX10_takeOver_79 rfl (lv_at hl 2 rfl) ?_
        obtain ⟨g_8840, p_ad_43_1, o_8841⟩ := I.opr (k := 43) (j := 1) (by decide) rfl
        have p_ad_43_1 : pt L_69 f_69 (ad 43 1) (.inl (G.2 3, 30, .inr (.inr (.inr (.inr g_8840))))) := p_ad_43_1
        refine pg_aald S Y (k := 3) (o := (ad 10 (32 + y69_2.toNatClampNeg))) p_ad_43_1 rfl (vp_bn B_8627 (by decide)) (o_8841 _ (tn_bn B_8627 (by decide))) dX10_takeOver_80 ?_
        refine lv_aload_n hx hb dX10_takeOver_81 rfl (lv_at hl 1 rfl) ?_
        obtain ⟨v_8842, v_8844, v_8846, v_8848, v_8850, p_ad_1_0, b_8843, b_8845, b_8847, b_8849, b_8851⟩ := opnC_1 (j := 0) I (by decide)
        have p_ad_1_0 : pt L_69 f_69 (ad 1 0) (.inr (10, [.ref (ad 40 0), .ref (ad 41 0), .ref (ad 42 0), .ref (ad 10 0), .ref (ad 43 0), .ref (ad 20 0), .ref (ad 20 1), .ref (ad 20 2), .ref (ad 20 3), .ref (ad 20 4), .int v_8842, .int v_8844, .int v_8846, .int v_8848, .int v_8850])) := p_ad_1_0
        refine pg_get S Y ok_X10 4 (by decide) kf10_31 (v := .ref (ad 43 0)) p_ad_1_0 rfl dX10_takeOver_82 ?_
        refine lv_iload_n hx hb dX10_takeOver_85 rfl (lv_at hl 2 rfl) ?_
        obtain ⟨g_8852, p_ad_43_0, o_8853⟩ := I.opr (k := 43) (j := 0) (by decide) rfl
        have p_ad_43_0 : pt L_69 f_69 (ad 43 0) (.inl (G.2 3, 30, .inr (.inr (.inr (.inr g_8852))))) := p_ad_43_0
        refine pg_aald S Y (k := 3) (o := (ad 10 (1 + y69_2.toNatClampNeg))) p_ad_43_0 rfl (vp_bn B_8627 (by decide)) (o_8853 _ (tn_bn B_8627 (by decide))) dX10_takeOver_86 ?_
        refine cVv (As := [.ref (ad 10 (1 + y69_2.toNatClampNeg))]) (rest := []) S Y (x_X4_takeOver (l := l) (j := (32 + y69_2.toNatClampNeg)) (i := (1 + y69_2.toNatClampNeg)) I hW hT hQ (show (32 + y69_2.toNatClampNeg) < 63 from by have h9 := tn_bn (n := 30) B_8627 (by decide); omega) (show (1 + y69_2.toNatClampNeg) < 63 from by have h9 := tn_bn (n := 30) B_8627 (by decide); omega) (by omega)) cw_X4_takeOver km10_74 (I.opo (k := 10) (j := (32 + y69_2.toNatClampNeg)) (show (32 + y69_2.toNatClampNeg) < 63 from by have h9 := tn_bn (n := 30) B_8627 (by decide); omega) rfl).choose_spec.1 ok_X4.1 rfl rfl ⟨Nat.le_of_ble_eq_true rfl, Nat.le_of_ble_eq_true rfl⟩ hl.1 rfl (Nat.le_of_ble_eq_true rfl) ⟨Nat.le_of_ble_eq_true rfl, Nat.le_of_ble_eq_true rfl⟩ dX10_takeOver_87 (fun L_8854 f_8855 H locs I Y => ?_)
        obtain ⟨x_8856, ex_8856⟩ : ∃ z : Int32, z = y69_2 + 1 := ⟨_, rfl⟩
        refine lv_iinc (v := x_8856) (lv' := [(2, .int x_8856), (0, .ref (ad 1 1)), (1, .ref (ad 1 0))]) hx hb dX10_takeOver_90 hl (k := 2) rfl (by rw [ex_8856]; rfl) (by decide) rfl (fun ls hl => ?_)
        refine lv_goto (tgt := 69) hx hb dX10_takeOver_93 (by decide) ?_
        exact ih69 _ (by rw [← hm69]; exact ms_up (m := 1) ex_8856 (show bn 1 1 (1 : Int32) from bn_k (by decide)) B_8627 (bn_w (bn_eq ex_8856 (bn_add B_8627 (show bn 1 1 (1 : Int32) from bn_k (by decide)) (by decide))) (by decide) : bn 0 30 x_8856) (by decide)) x_8856 _ _  _ _ _ I (bn_w (bn_eq ex_8856 (bn_add B_8627 (show bn 1 1 (1 : Int32) from bn_k (by decide)) (by decide))) (by decide)) rfl Y (lv_sub hl [1, 2, 0] rfl)
  have J_38 : ∀ (n38 : Nat) (y38_2 : Int32) (L_38 : List Nat) (f_38 : HF) (H : Heap) (locs : List Loc) (ls : Array Slot), (SH (spC ((rf, fa, ft, sc0) : RS) fc tc w q) nnC G ad L_38 f_38) → (bn 0 4 y38_2) → (((4 : Int) - y38_2.toInt).toNat = n38) → (DY G A s [] L_38 f_38 H locs) → (lv_has ls 3 [(0, .ref (ad 1 1)), (1, .ref (ad 1 0)), (2, .int y38_2)]) → W p l e (rmD 2 0 0) s m args below meth c H locs (0) (0) (MQ below (va_Qv (fun (u : List Nat × HF) => (fun L1 f1 => ∃ tc2 : Nat → Int × Int, ∃ w2 : Nat → Int × Int, ∃ q2 : Nat → (Nat → Int32) → Prop, SH (spC ((rf, fa, ft, sc0) : RS) fc tc2 w2 q2) nnC G ad L1 f1 ∧ tc2 1 = tc 0 ∧ (∀ k, k ≠ 1 → tc2 k = tc k) ∧ w2 5 = w 0 ∧ w2 6 = w 1 ∧ w2 7 = w 2 ∧ w2 8 = w 3 ∧ w2 9 = w 4 ∧ (∀ k, (k < 5 ∨ 10 ≤ k) → w2 k = w k) ∧ q2 5 = q 0 ∧ q2 6 = q 1 ∧ q2 7 = q 2 ∧ q2 8 = q 3 ∧ q2 9 = q 4 ∧ (∀ k, (k < 5 ∨ 10 ≤ k) → q2 k = q k) ∧ WBp tc2 4 ∧ WBp w2 8 ∧ QIp q2) u.1 u.2) (fun u t => pOut G (va_A (va_pl L f) sz) u.1 u.2 t) (va_A (va_pl L f) sz)) args s 0 0 A) (F0 m 38 ls []) := by
    intro n38
    induction n38 using Nat.strongRecOn with
    | _ n38 ih38 =>
      intro y38_2 L_38 f_38 H locs ls I b_y38_2 hm38 Y hl
      refine lv_iload_n hx hb dX10_takeOver_38 rfl (lv_at hl 2 rfl) ?_
      refine lv_aload_n hx hb dX10_takeOver_39 rfl (lv_at hl 1 rfl) ?_
      obtain ⟨v_8857, v_8859, v_8861, v_8863, v_8865, p_ad_1_0, b_8858, b_8860, b_8862, b_8864, b_8866⟩ := opnC_1 (j := 0) I (by decide)
      have p_ad_1_0 : pt L_38 f_38 (ad 1 0) (.inr (10, [.ref (ad 40 0), .ref (ad 41 0), .ref (ad 42 0), .ref (ad 10 0), .ref (ad 43 0), .ref (ad 20 0), .ref (ad 20 1), .ref (ad 20 2), .ref (ad 20 3), .ref (ad 20 4), .int v_8857, .int v_8859, .int v_8861, .int v_8863, .int v_8865])) := p_ad_1_0
      refine pg_get S Y ok_X10 11 (by decide) kf10_67 (v := .int v_8859) p_ad_1_0 rfl dX10_takeOver_40 ?_
      refine lv_icmp_ge (tgt := 67) hx hb dX10_takeOver_43 (by decide) (fun c_8867 => ?_) (fun c_8867 => ?_)
      · refine lv_iconst (v := 0) hx hb dX10_takeOver_67 (by decide) ?_
        refine lv_istore_n (lv' := [(2, .int 0), (0, .ref (ad 1 1)), (1, .ref (ad 1 0))]) hx hb dX10_takeOver_68 rfl hl (by decide) rfl (fun ls hl => ?_)
        exact J_69 _ 0 _ _  _ _ _ I (bn_w (show bn 0 0 (0 : Int32) from bn_k (by decide)) (by decide)) rfl Y (lv_sub hl [1, 2, 0] rfl)
      · have B_8868 : bn 1 4 v_8859 := bn_w (bn_gtl c_8867 (bn_w (a' := 0) (b' := 4) b_8860 (hT 0)) b_y38_2) (by decide)
        have B_8869 : bn 0 3 y38_2 := bn_w (bn_gtr c_8867 (bn_w (a' := 0) (b' := 4) b_8860 (hT 0)) b_y38_2) (by decide)
        refine lv_aload_n hx hb dX10_takeOver_46 rfl (lv_at hl 0 rfl) ?_
        obtain ⟨v_8870, v_8872, v_8874, v_8876, v_8878, p_ad_1_1, b_8871, b_8873, b_8875, b_8877, b_8879⟩ := opnC_1 (j := 1) I (by decide)
        have p_ad_1_1 : pt L_38 f_38 (ad 1 1) (.inr (10, [.ref (ad 40 1), .ref (ad 41 1), .ref (ad 42 1), .ref (ad 10 31), .ref (ad 43 1), .ref (ad 20 5), .ref (ad 20 6), .ref (ad 20 7), .ref (ad 20 8), .ref (ad 20 9), .int v_8870, .int v_8872, .int v_8874, .int v_8876, .int v_8878])) := p_ad_1_1
        refine pg_get S Y ok_X10 2 (by decide) kf10_20 (v := .ref (ad 42 1)) p_ad_1_1 rfl dX10_takeOver_47 ?_
        refine lv_iload_n hx hb dX10_takeOver_50 rfl (lv_at hl 2 rfl) ?_
        obtain ⟨g_8880, p_ad_42_1, o_8881⟩ := I.opr (k := 42) (j := 1) (by decide) rfl
        have p_ad_42_1 : pt L_38 f_38 (ad 42 1) (.inl (G.2 4, 4, .inr (.inr (.inr (.inr g_8880))))) := p_ad_42_1
        refine pg_aald S Y (k := 4) (o := (ad 30 (4 + y38_2.toNatClampNeg))) p_ad_42_1 rfl (vp_bn B_8869 (by decide)) (o_8881 _ (tn_bn B_8869 (by decide))) dX10_takeOver_51 ?_
        refine lv_aload_n hx hb dX10_takeOver_52 rfl (lv_at hl 1 rfl) ?_
        refine pg_get S Y ok_X10 2 (by decide) kf10_20 (v := .ref (ad 42 0)) p_ad_1_0 rfl dX10_takeOver_53 ?_
        refine lv_iload_n hx hb dX10_takeOver_56 rfl (lv_at hl 2 rfl) ?_
        obtain ⟨g_8882, p_ad_42_0, o_8883⟩ := I.opr (k := 42) (j := 0) (by decide) rfl
        have p_ad_42_0 : pt L_38 f_38 (ad 42 0) (.inl (G.2 4, 4, .inr (.inr (.inr (.inr g_8882))))) := p_ad_42_0
        refine pg_aald S Y (k := 4) (o := (ad 30 y38_2.toNatClampNeg)) p_ad_42_0 rfl (vp_bn B_8869 (by decide)) (aal0 (o_8883 _ (tn_bn B_8869 (by decide)))) dX10_takeOver_57 ?_
        refine cVv (As := [.ref (ad 30 y38_2.toNatClampNeg)]) (rest := []) S Y (x_X7_takeOver (l := l) (j := (4 + y38_2.toNatClampNeg)) (i := y38_2.toNatClampNeg) I hW hT hQ (show (4 + y38_2.toNatClampNeg) < 8 from by have h9 := tn_bn (n := 4) B_8869 (by decide); omega) (show y38_2.toNatClampNeg < 8 from by have h9 := tn_bn (n := 4) B_8869 (by decide); omega) (by omega)) cw_X7_takeOver km10_70 (I.opo (k := 30) (j := (4 + y38_2.toNatClampNeg)) (show (4 + y38_2.toNatClampNeg) < 8 from by have h9 := tn_bn (n := 4) B_8869 (by decide); omega) rfl).choose_spec.1 ok_X7.1 rfl rfl ⟨Nat.le_of_ble_eq_true rfl, Nat.le_of_ble_eq_true rfl⟩ hl.1 rfl (Nat.le_of_ble_eq_true rfl) ⟨Nat.le_of_ble_eq_true rfl, Nat.le_of_ble_eq_true rfl⟩ dX10_takeOver_58 (fun L_8884 f_8885 H locs I Y => ?_)
        obtain ⟨x_8886, ex_8886⟩ : ∃ z : Int32, z = y38_2 + 1 := ⟨_, rfl⟩
        refine lv_iinc (v := x_8886) (lv' := [(2, .int x_8886), (0, .ref (ad 1 1)), (1, .ref (ad 1 0))]) hx hb dX10_takeOver_61 hl (k := 2) rfl (by rw [ex_8886]; rfl) (by decide) rfl (fun ls hl => ?_)
        refine lv_goto (tgt := 38) hx hb dX10_takeOver_64 (by decide) ?_
        exact ih38 _ (by rw [← hm38]; exact ms_up (m := 1) ex_8886 (show bn 1 1 (1 : Int32) from bn_k (by decide)) B_8869 (bn_w (bn_eq ex_8886 (bn_add B_8869 (show bn 1 1 (1 : Int32) from bn_k (by decide)) (by decide))) (by decide) : bn 0 4 x_8886) (by decide)) x_8886 _ _  _ _ _ I (bn_w (bn_eq ex_8886 (bn_add B_8869 (show bn 1 1 (1 : Int32) from bn_k (by decide)) (by decide))) (by decide)) rfl Y (lv_sub hl [1, 2, 0] rfl)
  refine lv_aload_n hx hb dX10_takeOver_0 rfl (lv_at hl 1 rfl) ?_
  obtain ⟨v_8887, v_8889, v_8891, v_8893, v_8895, p_ad_1_0, b_8888, b_8890, b_8892, b_8894, b_8896⟩ := opnC_1 (j := 0) I (by decide)
  have p_ad_1_0 : pt L f (ad 1 0) (.inr (10, [.ref (ad 40 0), .ref (ad 41 0), .ref (ad 42 0), .ref (ad 10 0), .ref (ad 43 0), .ref (ad 20 0), .ref (ad 20 1), .ref (ad 20 2), .ref (ad 20 3), .ref (ad 20 4), .int v_8887, .int v_8889, .int v_8891, .int v_8893, .int v_8895])) := p_ad_1_0
  refine pg_get S Y ok_X10 0 (by decide) kf10_9 (v := .ref (ad 40 0)) p_ad_1_0 rfl dX10_takeOver_1 ?_
  refine lv_iconst (v := 0) hx hb dX10_takeOver_4 (by decide) ?_
  refine lv_aload_n hx hb dX10_takeOver_5 rfl (lv_at hl 0 rfl) ?_
  obtain ⟨v_8897, v_8899, v_8901, v_8903, v_8905, p_ad_1_1, b_8898, b_8900, b_8902, b_8904, b_8906⟩ := opnC_1 (j := 1) I (by decide)
  have p_ad_1_1 : pt L f (ad 1 1) (.inr (10, [.ref (ad 40 1), .ref (ad 41 1), .ref (ad 42 1), .ref (ad 10 31), .ref (ad 43 1), .ref (ad 20 5), .ref (ad 20 6), .ref (ad 20 7), .ref (ad 20 8), .ref (ad 20 9), .int v_8897, .int v_8899, .int v_8901, .int v_8903, .int v_8905])) := p_ad_1_1
  refine pg_get S Y ok_X10 0 (by decide) kf10_9 (v := .ref (ad 40 1)) p_ad_1_1 rfl dX10_takeOver_6 ?_
  refine lv_iconst (v := 0) hx hb dX10_takeOver_9 (by decide) ?_
  refine lv_aload_n hx hb dX10_takeOver_10 rfl (lv_at hl 0 rfl) ?_
  refine pg_get S Y ok_X10 0 (by decide) kf10_9 (v := .ref (ad 40 1)) p_ad_1_1 rfl dX10_takeOver_11 ?_
  obtain ⟨g_8907, p_ad_40_1, o_8908⟩ := I.opi (k := 40) (j := 1) (by decide) rfl
  have p_ad_40_1 : pt L f (ad 40 1) (.inl (G.2 0, 6, .inl g_8907)) := p_ad_40_1
  refine pg_alen S Y (k := 0) (v := 6) p_ad_40_1 rfl rfl dX10_takeOver_14 ?_
  obtain ⟨g_8909, p_ad_40_0, o_8910⟩ := I.opi (k := 40) (j := 0) (by decide) rfl
  have p_ad_40_0 : pt L f (ad 40 0) (.inl (G.2 0, 6, .inl g_8909)) := p_ad_40_0
  refine pg_copyi S Y hl.1 km10_61 kAn kAs kAi p_ad_40_0 p_ad_40_1 (by decide) (by decide) (by decide) (by decide) (by decide) (Nat.le_of_ble_eq_true rfl) (Nat.le_of_ble_eq_true rfl) dX10_takeOver_15 (fun f_8912 H locs ef_8912 Y => ?_)
  obtain ⟨g_8911, eg_8911⟩ : ∃ z, z = va_cpy (g_8909) (g_8907) (0 : Int32).toNatClampNeg (0 : Int32).toNatClampNeg (6 : Int32).toNatClampNeg := ⟨_, rfl⟩
  rw [← eg_8911] at ef_8912
  have p_ad_1_0 := p_ad_1_0.up ef_8912 (I.ne (k := 1) (j := 0) (k' := 40) (j' := 1) (by decide) (by decide) (Or.inl (by decide)))
  have p_ad_1_1 := p_ad_1_1.up ef_8912 (I.ne (k := 1) (j := 1) (k' := 40) (j' := 1) (by decide) (by decide) (Or.inl (by decide)))
  have p_ad_40_0 := p_ad_40_0.up ef_8912 (I.ne (k := 40) (j := 0) (k' := 40) (j' := 1) (by decide) (by decide) (Or.inr (by decide)))
  have p_ad_40_1 := p_ad_40_1.me ef_8912
  have I := I.up (k := 40) (j := 1) (by decide) ef_8912 (okE_a (g := g_8911) trivial)
  refine lv_aload_n hx hb dX10_takeOver_18 rfl (lv_at hl 1 rfl) ?_
  refine pg_get S Y ok_X10 1 (by decide) kf10_15 (v := .ref (ad 41 0)) p_ad_1_0 rfl dX10_takeOver_19 ?_
  refine lv_iconst (v := 0) hx hb dX10_takeOver_22 (by decide) ?_
  refine lv_aload_n hx hb dX10_takeOver_23 rfl (lv_at hl 0 rfl) ?_
  refine pg_get S Y ok_X10 1 (by decide) kf10_15 (v := .ref (ad 41 1)) p_ad_1_1 rfl dX10_takeOver_24 ?_
  refine lv_iconst (v := 0) hx hb dX10_takeOver_27 (by decide) ?_
  refine lv_aload_n hx hb dX10_takeOver_28 rfl (lv_at hl 0 rfl) ?_
  refine pg_get S Y ok_X10 1 (by decide) kf10_15 (v := .ref (ad 41 1)) p_ad_1_1 rfl dX10_takeOver_29 ?_
  obtain ⟨g_8913, p_ad_41_1, o_8914⟩ := I.opi (k := 41) (j := 1) (by decide) rfl
  have p_ad_41_1 : pt L f_8912 (ad 41 1) (.inl (G.2 0, 6, .inl g_8913)) := p_ad_41_1
  refine pg_alen S Y (k := 0) (v := 6) p_ad_41_1 rfl rfl dX10_takeOver_32 ?_
  obtain ⟨g_8915, p_ad_41_0, o_8916⟩ := I.opi (k := 41) (j := 0) (by decide) rfl
  have p_ad_41_0 : pt L f_8912 (ad 41 0) (.inl (G.2 0, 6, .inl g_8915)) := p_ad_41_0
  refine pg_copyi S Y hl.1 km10_61 kAn kAs kAi p_ad_41_0 p_ad_41_1 (by decide) (by decide) (by decide) (by decide) (by decide) (Nat.le_of_ble_eq_true rfl) (Nat.le_of_ble_eq_true rfl) dX10_takeOver_33 (fun f_8918 H locs ef_8918 Y => ?_)
  obtain ⟨g_8917, eg_8917⟩ : ∃ z, z = va_cpy (g_8915) (g_8913) (0 : Int32).toNatClampNeg (0 : Int32).toNatClampNeg (6 : Int32).toNatClampNeg := ⟨_, rfl⟩
  rw [← eg_8917] at ef_8918
  have p_ad_1_0 := p_ad_1_0.up ef_8918 (I.ne (k := 1) (j := 0) (k' := 41) (j' := 1) (by decide) (by decide) (Or.inl (by decide)))
  have p_ad_1_1 := p_ad_1_1.up ef_8918 (I.ne (k := 1) (j := 1) (k' := 41) (j' := 1) (by decide) (by decide) (Or.inl (by decide)))
  have p_ad_40_1 := p_ad_40_1.up ef_8918 (I.ne (k := 40) (j := 1) (k' := 41) (j' := 1) (by decide) (by decide) (Or.inl (by decide)))
  have p_ad_40_0 := p_ad_40_0.up ef_8918 (I.ne (k := 40) (j := 0) (k' := 41) (j' := 1) (by decide) (by decide) (Or.inl (by decide)))
  have p_ad_41_0 := p_ad_41_0.up ef_8918 (I.ne (k := 41) (j := 0) (k' := 41) (j' := 1) (by decide) (by decide) (Or.inr (by decide)))
  have p_ad_41_1 := p_ad_41_1.me ef_8918
  have I := I.up (k := 41) (j := 1) (by decide) ef_8918 (okE_a (g := g_8917) trivial)
  refine lv_iconst (v := 0) hx hb dX10_takeOver_36 (by decide) ?_
  refine lv_istore_n (lv' := [(2, .int 0), (0, .ref (ad 1 1)), (1, .ref (ad 1 0))]) hx hb dX10_takeOver_37 rfl hl (by decide) rfl (fun ls hl => ?_)
  exact J_38 _ 0 _ _  _ _ _ I (bn_w (show bn 0 0 (0 : Int32) from bn_k (by decide)) (by decide)) rfl Y (lv_sub hl [1, 2, 0] rfl)
