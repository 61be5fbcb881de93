theorem dX4_init_0 : decode cX4_init 0 = .ok (.aload_n 0, 1) := by decide +kernel
theorem dX4_init_1 : decode cX4_init 1 = .ok (.invokespecial 3, 3) := by decide +kernel
theorem km4_3 : inW (Cond.methodLink RX4 3 objectInit) := ⟨List.mem_of_getElem? (i := 158) (by decide +kernel), by decide +kernel⟩
theorem kObj1 : inW (Cond.instanceMethod objectInit) := ⟨List.mem_of_getElem? (i := 151) (by decide +kernel), by decide +kernel⟩
theorem kObj2 : inW (Cond.code objectInit ⟨#[0xb1]⟩ 1 none) := ⟨List.mem_of_getElem? (i := 152) (by decide +kernel), by decide +kernel⟩
theorem dX4_init_4 : decode cX4_init 4 = .ok (.aload_n 0, 1) := by decide +kernel
theorem dX4_init_5 : decode cX4_init 5 = .ok (.bipush 98, 2) := by decide +kernel
theorem dX4_init_7 : decode cX4_init 7 = .ok (.newarray .int, 2) := by decide +kernel
theorem ka_int : inW (Cond.arrayClass .int) := ⟨List.mem_of_getElem? (i := 197) (by decide +kernel), by decide +kernel⟩
theorem dX4_init_9 : decode cX4_init 9 = .ok (.putfield 9, 3) := by decide +kernel
theorem kf4_9 : inW (Cond.fieldLink RX4 9 "KneeOaths$Ledger" "oaths" "[I") := ⟨List.mem_of_getElem? (i := 159) (by decide +kernel), by decide +kernel⟩
theorem dX4_init_12 : decode cX4_init 12 = .ok (.aload_n 0, 1) := by decide +kernel
theorem dX4_init_13 : decode cX4_init 13 = .ok (.bipush 90, 2) := by decide +kernel
theorem dX4_init_15 : decode cX4_init 15 = .ok (.newarray .int, 2) := by decide +kernel
theorem dX4_init_17 : decode cX4_init 17 = .ok (.putfield 15, 3) := by decide +kernel
theorem kf4_15 : inW (Cond.fieldLink RX4 15 "KneeOaths$Ledger" "aches" "[I") := ⟨List.mem_of_getElem? (i := 160) (by decide +kernel), by decide +kernel⟩
theorem dX4_init_20 : decode cX4_init 20 = .ok (.aload_n 0, 1) := by decide +kernel
theorem dX4_init_21 : decode cX4_init 21 = .ok (.sipush 137, 3) := by decide +kernel
theorem dX4_init_24 : decode cX4_init 24 = .ok (.putfield 18, 3) := by decide +kernel
theorem kf4_18 : inW (Cond.fieldLink RX4 18 "KneeOaths$Ledger" "x" "I") := ⟨List.mem_of_getElem? (i := 179) (by decide +kernel), by decide +kernel⟩
theorem dX4_init_27 : decode cX4_init 27 = .ok (.return_, 1) := by decide +kernel
theorem dX9_init_0 : decode cX9_init 0 = .ok (.aload_n 0, 1) := by decide +kernel
theorem dX9_init_1 : decode cX9_init 1 = .ok (.invokespecial 3, 3) := by decide +kernel
theorem km9_3 : inW (Cond.methodLink RX9 3 objectInit) := ⟨List.mem_of_getElem? (i := 214) (by decide +kernel), by decide +kernel⟩
theorem dX9_init_4 : decode cX9_init 4 = .ok (.aload_n 0, 1) := by decide +kernel
theorem dX9_init_5 : decode cX9_init 5 = .ok (.bipush 24, 2) := by decide +kernel
theorem dX9_init_7 : decode cX9_init 7 = .ok (.newarray .int, 2) := by decide +kernel
theorem dX9_init_9 : decode cX9_init 9 = .ok (.putfield 9, 3) := by decide +kernel
theorem dX9_init_12 : decode cX9_init 12 = .ok (.aload_n 0, 1) := by decide +kernel
theorem dX9_init_13 : decode cX9_init 13 = .ok (.iload_n 1, 1) := by decide +kernel
theorem dX9_init_14 : decode cX9_init 14 = .ok (.bipush 8, 2) := by decide +kernel
theorem dX9_init_16 : decode cX9_init 16 = .ok (.invokestatic 15, 3) := by decide +kernel
theorem km9_15 : inW (Cond.methodLink RX9 15 Lib.Math.min.name) := ⟨List.mem_of_getElem? (i := 215) (by decide +kernel), by decide +kernel⟩
theorem dX9_init_19 : decode cX9_init 19 = .ok (.putfield 21, 3) := by decide +kernel
theorem dX9_init_22 : decode cX9_init 22 = .ok (.return_, 1) := by decide +kernel
theorem dX7_init_0 : decode cX7_init 0 = .ok (.aload_n 0, 1) := by decide +kernel
theorem dX7_init_1 : decode cX7_init 1 = .ok (.invokespecial 3, 3) := by decide +kernel
theorem km7_3 : inW (Cond.methodLink RX7 3 objectInit) := ⟨List.mem_of_getElem? (i := 236) (by decide +kernel), by decide +kernel⟩
theorem dX7_init_4 : decode cX7_init 4 = .ok (.aload_n 0, 1) := by decide +kernel
theorem dX7_init_5 : decode cX7_init 5 = .ok (.sipush 300, 3) := by decide +kernel
theorem dX7_init_8 : decode cX7_init 8 = .ok (.newarray .int, 2) := by decide +kernel
theorem dX7_init_10 : decode cX7_init 10 = .ok (.putfield 9, 3) := by decide +kernel
theorem kf7_9 : inW (Cond.fieldLink RX7 9 "KneeOaths$Script" "doings" "[I") := ⟨List.mem_of_getElem? (i := 237) (by decide +kernel), by decide +kernel⟩
theorem dX7_init_13 : decode cX7_init 13 = .ok (.aload_n 0, 1) := by decide +kernel
theorem dX7_init_14 : decode cX7_init 14 = .ok (.sipush 300, 3) := by decide +kernel
theorem dX7_init_17 : decode cX7_init 17 = .ok (.newarray .int, 2) := by decide +kernel
theorem dX7_init_19 : decode cX7_init 19 = .ok (.putfield 15, 3) := by decide +kernel
theorem kf7_15 : inW (Cond.fieldLink RX7 15 "KneeOaths$Script" "numbers" "[I") := ⟨List.mem_of_getElem? (i := 238) (by decide +kernel), by decide +kernel⟩
theorem dX7_init_22 : decode cX7_init 22 = .ok (.aload_n 0, 1) := by decide +kernel
theorem dX7_init_23 : decode cX7_init 23 = .ok (.iconst 3, 1) := by decide +kernel
theorem dX7_init_24 : decode cX7_init 24 = .ok (.newarray .int, 2) := by decide +kernel
theorem dX7_init_26 : decode cX7_init 26 = .ok (.putfield 18, 3) := by decide +kernel
theorem dX7_init_29 : decode cX7_init 29 = .ok (.aload_n 0, 1) := by decide +kernel
theorem dX7_init_30 : decode cX7_init 30 = .ok (.iconst 3, 1) := by decide +kernel
theorem dX7_init_31 : decode cX7_init 31 = .ok (.newarray .int, 2) := by decide +kernel
theorem dX7_init_33 : decode cX7_init 33 = .ok (.putfield 21, 3) := by decide +kernel
theorem dX7_init_36 : decode cX7_init 36 = .ok (.aload_n 0, 1) := by decide +kernel
theorem dX7_init_37 : decode cX7_init 37 = .ok (.bipush 120, 2) := by decide +kernel
theorem dX7_init_39 : decode cX7_init 39 = .ok (.newarray .int, 2) := by decide +kernel
theorem dX7_init_41 : decode cX7_init 41 = .ok (.putfield 24, 3) := by decide +kernel
theorem kf7_24 : inW (Cond.fieldLink RX7 24 "KneeOaths$Script" "clauses" "[I") := ⟨List.mem_of_getElem? (i := 241) (by decide +kernel), by decide +kernel⟩
theorem dX7_init_44 : decode cX7_init 44 = .ok (.return_, 1) := by decide +kernel
theorem dX5_init_0 : decode cX5_init 0 = .ok (.aload_n 0, 1) := by decide +kernel
theorem dX5_init_1 : decode cX5_init 1 = .ok (.invokespecial 3, 3) := by decide +kernel
theorem km5_3 : inW (Cond.methodLink RX5 3 objectInit) := ⟨List.mem_of_getElem? (i := 338) (by decide +kernel), by decide +kernel⟩
theorem dX5_init_4 : decode cX5_init 4 = .ok (.aload_n 0, 1) := by decide +kernel
theorem dX5_init_5 : decode cX5_init 5 = .ok (.sipush 300, 3) := by decide +kernel
theorem dX5_init_8 : decode cX5_init 8 = .ok (.newarray .int, 2) := by decide +kernel
theorem dX5_init_10 : decode cX5_init 10 = .ok (.putfield 9, 3) := by decide +kernel
theorem dX5_init_13 : decode cX5_init 13 = .ok (.aload_n 0, 1) := by decide +kernel
theorem dX5_init_14 : decode cX5_init 14 = .ok (.sipush 301, 3) := by decide +kernel
theorem dX5_init_17 : decode cX5_init 17 = .ok (.newarray .int, 2) := by decide +kernel
theorem dX5_init_19 : decode cX5_init 19 = .ok (.putfield 15, 3) := by decide +kernel
theorem dX5_init_22 : decode cX5_init 22 = .ok (.aload_n 0, 1) := by decide +kernel
theorem dX5_init_23 : decode cX5_init 23 = .ok (.sipush 301, 3) := by decide +kernel
theorem dX5_init_26 : decode cX5_init 26 = .ok (.newarray .int, 2) := by decide +kernel
theorem dX5_init_28 : decode cX5_init 28 = .ok (.putfield 18, 3) := by decide +kernel
theorem dX5_init_31 : decode cX5_init 31 = .ok (.aload_n 0, 1) := by decide +kernel
theorem dX5_init_32 : decode cX5_init 32 = .ok (.sipush 301, 3) := by decide +kernel
theorem dX5_init_35 : decode cX5_init 35 = .ok (.newarray .int, 2) := by decide +kernel
theorem dX5_init_37 : decode cX5_init 37 = .ok (.putfield 21, 3) := by decide +kernel
theorem dX5_init_40 : decode cX5_init 40 = .ok (.aload_n 0, 1) := by decide +kernel
theorem dX5_init_41 : decode cX5_init 41 = .ok (.iconst (-1), 1) := by decide +kernel
theorem dX5_init_42 : decode cX5_init 42 = .ok (.putfield 24, 3) := by decide +kernel
theorem dX5_init_45 : decode cX5_init 45 = .ok (.aload_n 0, 1) := by decide +kernel
theorem dX5_init_46 : decode cX5_init 46 = .ok (.iconst (-1), 1) := by decide +kernel
theorem dX5_init_47 : decode cX5_init 47 = .ok (.putfield 28, 3) := by decide +kernel
theorem dX5_init_50 : decode cX5_init 50 = .ok (.return_, 1) := by decide +kernel
theorem dX3_init_0 : decode cX3_init 0 = .ok (.aload_n 0, 1) := by decide +kernel
theorem dX3_init_1 : decode cX3_init 1 = .ok (.invokespecial 3, 3) := by decide +kernel
theorem km3_3 : inW (Cond.methodLink RX3 3 objectInit) := ⟨List.mem_of_getElem? (i := 387) (by decide +kernel), by decide +kernel⟩
theorem dX3_init_4 : decode cX3_init 4 = .ok (.aload_n 0, 1) := by decide +kernel
theorem dX3_init_5 : decode cX3_init 5 = .ok (.sipush 300, 3) := by decide +kernel
theorem dX3_init_8 : decode cX3_init 8 = .ok (.newarray .int, 2) := by decide +kernel
theorem dX3_init_10 : decode cX3_init 10 = .ok (.putfield 9, 3) := by decide +kernel
theorem ok_X3 : clOK 3 RX3 TX3 3 tyX3 := ⟨rfl, fun w h => ⟨(show ∀ w ∈ u_ws RX3 TX3 3, w ∈ lw_tbl by decide +kernel) w h, (show ∀ w ∈ u_ws RX3 TX3 3, gw w = true by decide +kernel) w h⟩, tyX3_ok, nmX3⟩
theorem kf3_9 : inW (Cond.fieldLink RX3 9 "KneeOaths$Judge" "stack" "[I") := ⟨List.mem_of_getElem? (i := 389) (by decide +kernel), by decide +kernel⟩
theorem dX3_init_13 : decode cX3_init 13 = .ok (.aload_n 0, 1) := by decide +kernel
theorem dX3_init_14 : decode cX3_init 14 = .ok (.aload_n 1, 1) := by decide +kernel
theorem dX3_init_15 : decode cX3_init 15 = .ok (.putfield 15, 3) := by decide +kernel
theorem kf3_15 : inW (Cond.fieldLink RX3 15 "KneeOaths$Judge" "world" "LKneeOaths$World;") := ⟨List.mem_of_getElem? (i := 388) (by decide +kernel), by decide +kernel⟩
theorem dX3_init_18 : decode cX3_init 18 = .ok (.return_, 1) := by decide +kernel
theorem dX6_init_0 : decode cX6_init 0 = .ok (.aload_n 0, 1) := by decide +kernel
theorem dX6_init_1 : decode cX6_init 1 = .ok (.invokespecial 3, 3) := by decide +kernel
theorem km6_3 : inW (Cond.methodLink RX6 3 objectInit) := ⟨List.mem_of_getElem? (i := 403) (by decide +kernel), by decide +kernel⟩
theorem dX6_init_4 : decode cX6_init 4 = .ok (.aload_n 0, 1) := by decide +kernel
theorem dX6_init_5 : decode cX6_init 5 = .ok (.aload_n 1, 1) := by decide +kernel
theorem dX6_init_6 : decode cX6_init 6 = .ok (.putfield 9, 3) := by decide +kernel
theorem dX6_init_9 : decode cX6_init 9 = .ok (.return_, 1) := by decide +kernel
theorem dX1_init_0 : decode cX1_init 0 = .ok (.aload_n 0, 1) := by decide +kernel
theorem dX1_init_1 : decode cX1_init 1 = .ok (.invokespecial 3, 3) := by decide +kernel
theorem km1_3 : inW (Cond.methodLink RX1 3 objectInit) := ⟨List.mem_of_getElem? (i := 416) (by decide +kernel), by decide +kernel⟩
theorem dX1_init_4 : decode cX1_init 4 = .ok (.aload_n 0, 1) := by decide +kernel
theorem dX1_init_5 : decode cX1_init 5 = .ok (.bipush 14, 2) := by decide +kernel
theorem dX1_init_7 : decode cX1_init 7 = .ok (.newarray .int, 2) := by decide +kernel
theorem dX1_init_9 : decode cX1_init 9 = .ok (.putfield 9, 3) := by decide +kernel
theorem kf1_9 : inW (Cond.fieldLink RX1 9 "KneeOaths$Deeds" "more" "[I") := ⟨List.mem_of_getElem? (i := 420) (by decide +kernel), by decide +kernel⟩
theorem dX1_init_12 : decode cX1_init 12 = .ok (.aload_n 0, 1) := by decide +kernel
theorem dX1_init_13 : decode cX1_init 13 = .ok (.aload_n 1, 1) := by decide +kernel
theorem dX1_init_14 : decode cX1_init 14 = .ok (.putfield 15, 3) := by decide +kernel
theorem dX1_init_17 : decode cX1_init 17 = .ok (.aload_n 0, 1) := by decide +kernel
theorem dX1_init_18 : decode cX1_init 18 = .ok (.aload_n 2, 1) := by decide +kernel
theorem dX1_init_19 : decode cX1_init 19 = .ok (.putfield 19, 3) := by decide +kernel
theorem kf1_19 : inW (Cond.fieldLink RX1 19 "KneeOaths$Deeds" "judge" "LKneeOaths$Judge;") := ⟨List.mem_of_getElem? (i := 418) (by decide +kernel), by decide +kernel⟩
theorem dX1_init_22 : decode cX1_init 22 = .ok (.aload_n 0, 1) := by decide +kernel
theorem dX1_init_23 : decode cX1_init 23 = .ok (.aload_n 3, 1) := by decide +kernel
theorem dX1_init_24 : decode cX1_init 24 = .ok (.putfield 23, 3) := by decide +kernel
theorem dX1_init_27 : decode cX1_init 27 = .ok (.return_, 1) := by decide +kernel
theorem dX2_init_0 : decode cX2_init 0 = .ok (.aload_n 0, 1) := by decide +kernel
theorem dX2_init_1 : decode cX2_init 1 = .ok (.invokespecial 3, 3) := by decide +kernel
theorem km2_3 : inW (Cond.methodLink RX2 3 objectInit) := ⟨List.mem_of_getElem? (i := 438) (by decide +kernel), by decide +kernel⟩
theorem dX2_init_4 : decode cX2_init 4 = .ok (.aload_n 0, 1) := by decide +kernel
theorem dX2_init_5 : decode cX2_init 5 = .ok (.aload_n 1, 1) := by decide +kernel
theorem dX2_init_6 : decode cX2_init 6 = .ok (.putfield 9, 3) := by decide +kernel
theorem dX2_init_9 : decode cX2_init 9 = .ok (.aload_n 0, 1) := by decide +kernel
theorem dX2_init_10 : decode cX2_init 10 = .ok (.aload_n 2, 1) := by decide +kernel
theorem dX2_init_11 : decode cX2_init 11 = .ok (.putfield 15, 3) := by decide +kernel
theorem kf2_15 : inW (Cond.fieldLink RX2 15 "KneeOaths$Foresight" "judge" "LKneeOaths$Judge;") := ⟨List.mem_of_getElem? (i := 440) (by decide +kernel), by decide +kernel⟩
theorem dX2_init_14 : decode cX2_init 14 = .ok (.aload_n 0, 1) := by decide +kernel
theorem dX2_init_15 : decode cX2_init 15 = .ok (.aload_n 3, 1) := by decide +kernel
theorem dX2_init_16 : decode cX2_init 16 = .ok (.putfield 19, 3) := by decide +kernel
theorem kf2_19 : inW (Cond.fieldLink RX2 19 "KneeOaths$Foresight" "deeds" "LKneeOaths$Deeds;") := ⟨List.mem_of_getElem? (i := 441) (by decide +kernel), by decide +kernel⟩
theorem dX2_init_19 : decode cX2_init 19 = .ok (.aload_n 0, 1) := by decide +kernel
theorem dX2_init_20 : decode cX2_init 20 = .ok (.aload 4, 2) := by decide +kernel
theorem dX2_init_22 : decode cX2_init 22 = .ok (.putfield 23, 3) := by decide +kernel
theorem kf2_23 : inW (Cond.fieldLink RX2 23 "KneeOaths$Foresight" "scratch" "LKneeOaths$Ledger;") := ⟨List.mem_of_getElem? (i := 442) (by decide +kernel), by decide +kernel⟩
theorem dX2_init_25 : decode cX2_init 25 = .ok (.return_, 1) := by decide +kernel
theorem dX8_init_0 : decode cX8_init 0 = .ok (.aload_n 0, 1) := by decide +kernel
theorem dX8_init_1 : decode cX8_init 1 = .ok (.invokespecial 3, 3) := by decide +kernel
theorem km8_3 : inW (Cond.methodLink RX8 3 objectInit) := ⟨List.mem_of_getElem? (i := 457) (by decide +kernel), by decide +kernel⟩
theorem dX8_init_4 : decode cX8_init 4 = .ok (.aload_n 0, 1) := by decide +kernel
theorem dX8_init_5 : decode cX8_init 5 = .ok (.bipush 14, 2) := by decide +kernel
theorem dX8_init_7 : decode cX8_init 7 = .ok (.newarray .int, 2) := by decide +kernel
theorem dX8_init_9 : decode cX8_init 9 = .ok (.putfield 9, 3) := by decide +kernel
theorem ok_X8 : clOK 8 RX8 TX8 10 tyX8 := ⟨rfl, fun w h => ⟨(show ∀ w ∈ u_ws RX8 TX8 10, w ∈ lw_tbl by decide +kernel) w h, (show ∀ w ∈ u_ws RX8 TX8 10, gw w = true by decide +kernel) w h⟩, tyX8_ok, nmX8⟩
theorem kf8_9 : inW (Cond.fieldLink RX8 9 "KneeOaths$Suspicions" "members" "[I") := ⟨List.mem_of_getElem? (i := 461) (by decide +kernel), by decide +kernel⟩
theorem dX8_init_12 : decode cX8_init 12 = .ok (.aload_n 0, 1) := by decide +kernel
theorem dX8_init_13 : decode cX8_init 13 = .ok (.bipush 14, 2) := by decide +kernel
theorem dX8_init_15 : decode cX8_init 15 = .ok (.newarray .int, 2) := by decide +kernel
theorem dX8_init_17 : decode cX8_init 17 = .ok (.putfield 15, 3) := by decide +kernel
theorem kf8_15 : inW (Cond.fieldLink RX8 15 "KneeOaths$Suspicions" "heldBy" "[I") := ⟨List.mem_of_getElem? (i := 462) (by decide +kernel), by decide +kernel⟩
theorem dX8_init_20 : decode cX8_init 20 = .ok (.aload_n 0, 1) := by decide +kernel
theorem dX8_init_21 : decode cX8_init 21 = .ok (.bipush 84, 2) := by decide +kernel
theorem dX8_init_23 : decode cX8_init 23 = .ok (.newarray .int, 2) := by decide +kernel
theorem dX8_init_25 : decode cX8_init 25 = .ok (.putfield 18, 3) := by decide +kernel
theorem kf8_18 : inW (Cond.fieldLink RX8 18 "KneeOaths$Suspicions" "pains" "[I") := ⟨List.mem_of_getElem? (i := 463) (by decide +kernel), by decide +kernel⟩
theorem dX8_init_28 : decode cX8_init 28 = .ok (.aload_n 0, 1) := by decide +kernel
theorem dX8_init_29 : decode cX8_init 29 = .ok (.bipush 6, 2) := by decide +kernel
theorem dX8_init_31 : decode cX8_init 31 = .ok (.newarray .int, 2) := by decide +kernel
theorem dX8_init_33 : decode cX8_init 33 = .ok (.putfield 21, 3) := by decide +kernel
theorem kf8_21 : inW (Cond.fieldLink RX8 21 "KneeOaths$Suspicions" "unexplained" "[I") := ⟨List.mem_of_getElem? (i := 464) (by decide +kernel), by decide +kernel⟩
theorem dX8_init_36 : decode cX8_init 36 = .ok (.aload_n 0, 1) := by decide +kernel
theorem dX8_init_37 : decode cX8_init 37 = .ok (.aload_n 1, 1) := by decide +kernel
theorem dX8_init_38 : decode cX8_init 38 = .ok (.putfield 24, 3) := by decide +kernel
theorem kf8_24 : inW (Cond.fieldLink RX8 24 "KneeOaths$Suspicions" "world" "LKneeOaths$World;") := ⟨List.mem_of_getElem? (i := 458) (by decide +kernel), by decide +kernel⟩
theorem dX8_init_41 : decode cX8_init 41 = .ok (.aload_n 0, 1) := by decide +kernel
theorem dX8_init_42 : decode cX8_init 42 = .ok (.aload_n 2, 1) := by decide +kernel
theorem dX8_init_43 : decode cX8_init 43 = .ok (.putfield 28, 3) := by decide +kernel
theorem kf8_28 : inW (Cond.fieldLink RX8 28 "KneeOaths$Suspicions" "judge" "LKneeOaths$Judge;") := ⟨List.mem_of_getElem? (i := 459) (by decide +kernel), by decide +kernel⟩
theorem dX8_init_46 : decode cX8_init 46 = .ok (.aload_n 0, 1) := by decide +kernel
theorem dX8_init_47 : decode cX8_init 47 = .ok (.aload_n 3, 1) := by decide +kernel
theorem dX8_init_48 : decode cX8_init 48 = .ok (.putfield 32, 3) := by decide +kernel
theorem kf8_32 : inW (Cond.fieldLink RX8 32 "KneeOaths$Suspicions" "scratch" "LKneeOaths$Ledger;") := ⟨List.mem_of_getElem? (i := 460) (by decide +kernel), by decide +kernel⟩
theorem dX8_init_51 : decode cX8_init 51 = .ok (.return_, 1) := by decide +kernel
theorem dX0_init_0 : decode cX0_init 0 = .ok (.aload_n 0, 1) := by decide +kernel
theorem dX0_init_1 : decode cX0_init 1 = .ok (.invokespecial 3, 3) := by decide +kernel
theorem km0_3 : inW (Cond.methodLink RX0 3 objectInit) := ⟨List.mem_of_getElem? (i := 494) (by decide +kernel), by decide +kernel⟩
theorem dX0_init_4 : decode cX0_init 4 = .ok (.aload_n 0, 1) := by decide +kernel
theorem dX0_init_5 : decode cX0_init 5 = .ok (.bipush 8, 2) := by decide +kernel
theorem dX0_init_7 : decode cX0_init 7 = .ok (.newarray .int, 2) := by decide +kernel
theorem dX0_init_9 : decode cX0_init 9 = .ok (.putfield 9, 3) := by decide +kernel
theorem kf0_9 : inW (Cond.fieldLink RX0 9 "KneeOaths$Choices" "pairs" "[I") := ⟨List.mem_of_getElem? (i := 496) (by decide +kernel), by decide +kernel⟩
theorem dX0_init_12 : decode cX0_init 12 = .ok (.aload_n 0, 1) := by decide +kernel
theorem dX0_init_13 : decode cX0_init 13 = .ok (.bipush 6, 2) := by decide +kernel
theorem dX0_init_15 : decode cX0_init 15 = .ok (.newarray .int, 2) := by decide +kernel
theorem dX0_init_17 : decode cX0_init 17 = .ok (.putfield 15, 3) := by decide +kernel
theorem kf0_15 : inW (Cond.fieldLink RX0 15 "KneeOaths$Choices" "knowledge" "[I") := ⟨List.mem_of_getElem? (i := 497) (by decide +kernel), by decide +kernel⟩
theorem dX0_init_20 : decode cX0_init 20 = .ok (.aload_n 0, 1) := by decide +kernel
theorem dX0_init_21 : decode cX0_init 21 = .ok (.aload_n 1, 1) := by decide +kernel
theorem dX0_init_22 : decode cX0_init 22 = .ok (.putfield 18, 3) := by decide +kernel
theorem dX0_init_25 : decode cX0_init 25 = .ok (.return_, 1) := by decide +kernel
/-- the first n of pf are Ledgers with their rows, all new since L0, none of them nw -/
def pastOK (G : GG) (L0 : List Nat) (nw : Nat) (L1 : List Nat) (f1 : HF) (pf : Nat → Option Nat) (n : Nat) : Prop := ∀ j, j < n → ∃ (o a b : Nat) (g1 g2 : Nat → Int32) (v1 v2 v3 v4 v5 : Int32), pf j = some o ∧ o ∉ L0 ∧ a ∉ L0 ∧ b ∉ L0 ∧ o ≠ nw ∧ pt L1 f1 o (.inr (4, [.ref a, .ref b, .int v1, .int v2, .int v3, .int v4, .int v5])) ∧ pt L1 f1 a (.inl (G.2 0, 98, .inl g1)) ∧ pt L1 f1 b (.inl (G.2 0, 90, .inl g2))
theorem pastOK.keep {G : GG} {L0 : List Nat} {nw : Nat} {L1 L2 : List Nat} {f1 f2 : HF} {pf : Nat → Option Nat} {n : Nat} {S : List Nat} (h : pastOK G L0 nw L1 f1 pf n) (k : kp L1 f1 L2 f2 S) (hS : ∀ (b : Nat) (e : va_E), pt L1 f1 b e → ((∃ x, e = .inr (4, x)) ∨ (∃ x, e = .inl (G.2 0, 98, x)) ∨ (∃ x, e = .inl (G.2 0, 90, x))) → b ∉ S) : pastOK G L0 nw L2 f2 pf n := fun j hj => by
  obtain ⟨o, a, b, g1, g2, v1, v2, v3, v4, v5, h1, h2, h3, h4, h5, h6, h7, h8⟩ := h j hj
  exact ⟨o, a, b, g1, g2, v1, v2, v3, v4, v5, h1, h2, h3, h4, h5, k.1 _ _ (hS _ _ h6 (Or.inl ⟨_, rfl⟩)) h6, k.1 _ _ (hS _ _ h7 (Or.inr (Or.inl ⟨_, rfl⟩))) h7, k.1 _ _ (hS _ _ h8 (Or.inr (Or.inr ⟨_, rfl⟩))) h8⟩
theorem pastOK_zero {G : GG} {L0 : List Nat} {nw : Nat} {L1 : List Nat} {f1 : HF} {pf : Nat → Option Nat} : pastOK G L0 nw L1 f1 pf 0 := fun j hj => absurd hj (Nat.not_lt_zero j)
set_option maxHeartbeats 4000000 in
set_option maxRecDepth 100000 in
theorem c_X4_init {l : Launch} {G : GG} {L : List Nat} {f : HF} {h : Nat}  (p_h : pt L f h (.inr (4, [.null, .null, .int 0, .int 0, .int 0, .int 0, .int 0])))  : PMv l yX4_init cX4_init 1 1 2 188 G [.ref h] L f (fun L1 f1 => ∃ a1 : Nat, ∃ a2 : Nat, kp L f L1 f1 [h] ∧ pt L1 f1 h (.inr (4, [.ref a1, .ref a2, .int 0, .int 0, .int 0, .int 0, .int 137])) ∧ pt L1 f1 a1 (.inl (G.2 0, 98, .inl (fun _ => 0))) ∧ pt L1 f1 a2 (.inl (G.2 0, 90, .inl (fun _ => 0))) ∧ a1 ∉ L ∧ a2 ∉ L) := by
  refine PMv.of (post := fun L1 f1 => ∃ a1 : Nat, ∃ a2 : Nat, kp L f L1 f1 [h] ∧ pt L1 f1 h (.inr (4, [.ref a1, .ref a2, .int 0, .int 0, .int 0, .int 0, .int 137])) ∧ pt L1 f1 a1 (.inl (G.2 0, 98, .inl (fun _ => 0))) ∧ pt L1 f1 a2 (.inl (G.2 0, 90, .inl (fun _ => 0))) ∧ a1 ∉ L ∧ a2 ∉ L) (own := RX4) (by decide) rfl (Nat.le_of_ble_eq_true rfl) (fun sz p e s m args below meth c A ls hA1 hname S Y hl => ?_)
  have hx := S.hx
  have hb := S.hb
  have hl : lv_has ls 1 [(0, .ref h)] := hl
  have hk : kp L f L f [h] := kp.rf
  refine lv_aload_n hx hb dX4_init_0 rfl (lv_at hl 0 rfl) ?_
  refine pObj S km4_3 kObj1 kObj2 hl.1 (Nat.le_of_ble_eq_true rfl) (Nat.le_of_ble_eq_true rfl) dX4_init_1 ?_
  refine lv_aload_n hx hb dX4_init_4 rfl (lv_at hl 0 rfl) ?_
  refine lv_bipush (v := 98) hx hb dX4_init_5 (by decide) ?_
  refine pg_newa S Y (ty := .int) rfl 0 rfl ka_int (N' := 98) (98, .inl (fun _ => 0)) (fun _ => rfl) (by decide) (by decide) (by decide) (by decide) (by decide) dX4_init_7 (fun q_340 f_341 H nq_340 ef_341 Y => ?_)
  have whkq_340 := hk.notin nq_340
  have hk := hk.push ef_341 nq_340
  have p_h := p_h.push ef_341 nq_340
  have p_q_340 := pt.new (L := L) ef_341
  refine pg_putF S Y hname ok_X4 0 (by decide) kf4_9 rfl rfl (fs' := [.ref q_340, .null, .int 0, .int 0, .int 0, .int 0, .int 0]) (v := .ref q_340) p_h rfl rfl rfl (Nat.le_of_ble_eq_true rfl) dX4_init_9 (fun f_342 H locs ef_342 Y => ?_)
  have p_q_340 := p_q_340.up ef_342 ((p_q_340.neB p_h))
  have p_h := p_h.me ef_342
  have hk := hk.up ef_342 (by simp)
  refine lv_aload_n hx hb dX4_init_12 rfl (lv_at hl 0 rfl) ?_
  refine lv_bipush (v := 90) hx hb dX4_init_13 (by decide) ?_
  refine pg_newa S Y (ty := .int) rfl 0 rfl ka_int (N' := 90) (90, .inl (fun _ => 0)) (fun _ => rfl) (by decide) (by decide) (by decide) (by decide) (by decide) dX4_init_15 (fun q_343 f_344 H nq_343 ef_344 Y => ?_)
  have whkq_343 := hk.notin nq_343
  have hk := hk.push ef_344 nq_343
  have p_h := p_h.push ef_344 nq_343
  have p_q_340 := p_q_340.push ef_344 nq_343
  have p_q_343 := pt.new (L := (L ++ [q_340])) ef_344
  refine pg_putF S Y hname ok_X4 1 (by decide) kf4_15 rfl rfl (fs' := [.ref q_340, .ref q_343, .int 0, .int 0, .int 0, .int 0, .int 0]) (v := .ref q_343) p_h rfl rfl rfl (Nat.le_of_ble_eq_true rfl) dX4_init_17 (fun f_345 H locs ef_345 Y => ?_)
  have p_q_340 := p_q_340.up ef_345 ((p_q_340.neB p_h))
  have p_q_343 := p_q_343.up ef_345 ((p_q_343.neB p_h))
  have p_h := p_h.me ef_345
  have hk := hk.up ef_345 (by simp)
  refine lv_aload_n hx hb dX4_init_20 rfl (lv_at hl 0 rfl) ?_
  refine lv_sipush (v := 137) hx hb dX4_init_21 (by decide) ?_
  refine pg_put S Y ok_X4 6 (by decide) kf4_18 rfl (fs' := [.ref q_340, .ref q_343, .int 0, .int 0, .int 0, .int 0, .int 137]) (v := .int 137) p_h rfl rfl rfl (Nat.le_of_ble_eq_true rfl) dX4_init_24 (fun f_346 H locs ef_346 Y => ?_)
  have p_q_340 := p_q_340.up ef_346 ((p_q_340.neB p_h))
  have p_q_343 := p_q_343.up ef_346 ((p_q_343.neB p_h))
  have p_h := p_h.me ef_346
  have hk := hk.up ef_346 (by simp)
  exact prV (post := fun L1 f1 => ∃ a1 : Nat, ∃ a2 : Nat, kp L f L1 f1 [h] ∧ pt L1 f1 h (.inr (4, [.ref a1, .ref a2, .int 0, .int 0, .int 0, .int 0, .int 137])) ∧ pt L1 f1 a1 (.inl (G.2 0, 98, .inl (fun _ => 0))) ∧ pt L1 f1 a2 (.inl (G.2 0, 90, .inl (fun _ => 0))) ∧ a1 ∉ L ∧ a2 ∉ L) S Y (by decide) (by decide) hA1 ⟨q_340, q_343, hk, p_h, p_q_340, p_q_343, whkq_340, whkq_343⟩ dX4_init_27
set_option maxHeartbeats 4000000 in
set_option maxRecDepth 100000 in
theorem c_told6 {l : Launch} {G : GG} {L : List Nat} {f : HF} {h : Nat}  (p_h : pt L f h (.inr (9, [.null, .int 0, .int 0])))  : PMv l yX9_init cX9_init 2 1 1 24 G [.ref h, .int 6] L f (fun L1 f1 => ∃ a1 : Nat, kp L f L1 f1 [h] ∧ pt L1 f1 h (.inr (9, [.ref a1, .int 6, .int 0])) ∧ pt L1 f1 a1 (.inl (G.2 0, 24, .inl (fun _ => 0))) ∧ a1 ∉ L) := by
  refine PMv.of (post := fun L1 f1 => ∃ a1 : Nat, kp L f L1 f1 [h] ∧ pt L1 f1 h (.inr (9, [.ref a1, .int 6, .int 0])) ∧ pt L1 f1 a1 (.inl (G.2 0, 24, .inl (fun _ => 0))) ∧ a1 ∉ L) (own := RX9) (by decide) rfl (Nat.le_of_ble_eq_true rfl) (fun sz p e s m args below meth c A ls hA1 hname S Y hl => ?_)
  have hx := S.hx
  have hb := S.hb
  have hl : lv_has ls 2 [(0, .ref h), (1, .int 6)] := hl
  have hk : kp L f L f [h] := kp.rf
  refine lv_aload_n hx hb dX9_init_0 rfl (lv_at hl 0 rfl) ?_
  refine pObj S km9_3 kObj1 kObj2 hl.1 (Nat.le_of_ble_eq_true rfl) (Nat.le_of_ble_eq_true rfl) dX9_init_1 ?_
  refine lv_aload_n hx hb dX9_init_4 rfl (lv_at hl 0 rfl) ?_
  refine lv_bipush (v := 24) hx hb dX9_init_5 (by decide) ?_
  refine pg_newa S Y (ty := .int) rfl 0 rfl ka_int (N' := 24) (24, .inl (fun _ => 0)) (fun _ => rfl) (by decide) (by decide) (by decide) (by decide) (by decide) dX9_init_7 (fun q_347 f_348 H nq_347 ef_348 Y => ?_)
  have whkq_347 := hk.notin nq_347
  have hk := hk.push ef_348 nq_347
  have p_h := p_h.push ef_348 nq_347
  have p_q_347 := pt.new (L := L) ef_348
  refine pg_putF S Y hname ok_X9 0 (by decide) kf9_9 rfl rfl (fs' := [.ref q_347, .int 0, .int 0]) (v := .ref q_347) p_h rfl rfl rfl (Nat.le_of_ble_eq_true rfl) dX9_init_9 (fun f_349 H locs ef_349 Y => ?_)
  have p_q_347 := p_q_347.up ef_349 ((p_q_347.neB p_h))
  have p_h := p_h.me ef_349
  have hk := hk.up ef_349 (by simp)
  refine lv_aload_n hx hb dX9_init_12 rfl (lv_at hl 0 rfl) ?_
  refine lv_iload_n hx hb dX9_init_13 rfl (lv_at hl 1 rfl) ?_
  refine lv_bipush (v := 8) hx hb dX9_init_14 (by decide) ?_
  refine va_mmin hx hb (S.ml.trans hl.1.symm) S.ow (S.w km9_15) (S.w kMs_min) (S.w kMi) (S.w kMc_min) (Nat.le_of_ble_eq_true rfl) (Nat.le_of_ble_eq_true rfl) (by decide) (by decide) dX9_init_16 ?_
  refine lv_fold (z := 6) (by decide) ?_
  refine pg_putF S Y hname ok_X9 1 (by decide) kf9_21 rfl rfl (fs' := [.ref q_347, .int 6, .int 0]) (v := .int 6) p_h rfl rfl rfl (Nat.le_of_ble_eq_true rfl) dX9_init_19 (fun f_350 H locs ef_350 Y => ?_)
  have p_q_347 := p_q_347.up ef_350 ((p_q_347.neB p_h))
  have p_h := p_h.me ef_350
  have hk := hk.up ef_350 (by simp)
  exact prV (post := fun L1 f1 => ∃ a1 : Nat, kp L f L1 f1 [h] ∧ pt L1 f1 h (.inr (9, [.ref a1, .int 6, .int 0])) ∧ pt L1 f1 a1 (.inl (G.2 0, 24, .inl (fun _ => 0))) ∧ a1 ∉ L) S Y (by decide) (by decide) hA1 ⟨q_347, hk, p_h, p_q_347, whkq_347⟩ dX9_init_22
set_option maxHeartbeats 4000000 in
set_option maxRecDepth 100000 in
theorem c_told8 {l : Launch} {G : GG} {L : List Nat} {f : HF} {h : Nat}  (p_h : pt L f h (.inr (9, [.null, .int 0, .int 0])))  : PMv l yX9_init cX9_init 2 1 1 24 G [.ref h, .int 8] L f (fun L1 f1 => ∃ a1 : Nat, kp L f L1 f1 [h] ∧ pt L1 f1 h (.inr (9, [.ref a1, .int 8, .int 0])) ∧ pt L1 f1 a1 (.inl (G.2 0, 24, .inl (fun _ => 0))) ∧ a1 ∉ L) := by
  refine PMv.of (post := fun L1 f1 => ∃ a1 : Nat, kp L f L1 f1 [h] ∧ pt L1 f1 h (.inr (9, [.ref a1, .int 8, .int 0])) ∧ pt L1 f1 a1 (.inl (G.2 0, 24, .inl (fun _ => 0))) ∧ a1 ∉ L) (own := RX9) (by decide) rfl (Nat.le_of_ble_eq_true rfl) (fun sz p e s m args below meth c A ls hA1 hname S Y hl => ?_)
  have hx := S.hx
  have hb := S.hb
  have hl : lv_has ls 2 [(0, .ref h), (1, .int 8)] := hl
  have hk : kp L f L f [h] := kp.rf
  refine lv_aload_n hx hb dX9_init_0 rfl (lv_at hl 0 rfl) ?_
  refine pObj S km9_3 kObj1 kObj2 hl.1 (Nat.le_of_ble_eq_true rfl) (Nat.le_of_ble_eq_true rfl) dX9_init_1 ?_
  refine lv_aload_n hx hb dX9_init_4 rfl (lv_at hl 0 rfl) ?_
  refine lv_bipush (v := 24) hx hb dX9_init_5 (by decide) ?_
  refine pg_newa S Y (ty := .int) rfl 0 rfl ka_int (N' := 24) (24, .inl (fun _ => 0)) (fun _ => rfl) (by decide) (by decide) (by decide) (by decide) (by decide) dX9_init_7 (fun q_351 f_352 H nq_351 ef_352 Y => ?_)
  have whkq_351 := hk.notin nq_351
  have hk := hk.push ef_352 nq_351
  have p_h := p_h.push ef_352 nq_351
  have p_q_351 := pt.new (L := L) ef_352
  refine pg_putF S Y hname ok_X9 0 (by decide) kf9_9 rfl rfl (fs' := [.ref q_351, .int 0, .int 0]) (v := .ref q_351) p_h rfl rfl rfl (Nat.le_of_ble_eq_true rfl) dX9_init_9 (fun f_353 H locs ef_353 Y => ?_)
  have p_q_351 := p_q_351.up ef_353 ((p_q_351.neB p_h))
  have p_h := p_h.me ef_353
  have hk := hk.up ef_353 (by simp)
  refine lv_aload_n hx hb dX9_init_12 rfl (lv_at hl 0 rfl) ?_
  refine lv_iload_n hx hb dX9_init_13 rfl (lv_at hl 1 rfl) ?_
  refine lv_bipush (v := 8) hx hb dX9_init_14 (by decide) ?_
  refine va_mmin hx hb (S.ml.trans hl.1.symm) S.ow (S.w km9_15) (S.w kMs_min) (S.w kMi) (S.w kMc_min) (Nat.le_of_ble_eq_true rfl) (Nat.le_of_ble_eq_true rfl) (by decide) (by decide) dX9_init_16 ?_
  refine lv_fold (z := 8) (by decide) ?_
  refine pg_putF S Y hname ok_X9 1 (by decide) kf9_21 rfl rfl (fs' := [.ref q_351, .int 8, .int 0]) (v := .int 8) p_h rfl rfl rfl (Nat.le_of_ble_eq_true rfl) dX9_init_19 (fun f_354 H locs ef_354 Y => ?_)
  have p_q_351 := p_q_351.up ef_354 ((p_q_351.neB p_h))
  have p_h := p_h.me ef_354
  have hk := hk.up ef_354 (by simp)
  exact prV (post := fun L1 f1 => ∃ a1 : Nat, kp L f L1 f1 [h] ∧ pt L1 f1 h (.inr (9, [.ref a1, .int 8, .int 0])) ∧ pt L1 f1 a1 (.inl (G.2 0, 24, .inl (fun _ => 0))) ∧ a1 ∉ L) S Y (by decide) (by decide) hA1 ⟨q_351, hk, p_h, p_q_351, whkq_351⟩ dX9_init_22
set_option maxHeartbeats 4000000 in
set_option maxRecDepth 100000 in
theorem c_X7_init {l : Launch} {G : GG} {L : List Nat} {f : HF} {h : Nat}  (p_h : pt L f h (.inr (7, [.null, .null, .null, .null, .null, .int 0, .int 0])))  : PMv l yX7_init cX7_init 1 1 5 726 G [.ref h] L f (fun L1 f1 => ∃ a1 : Nat, ∃ a2 : Nat, ∃ a3 : Nat, ∃ a4 : Nat, ∃ a5 : Nat, kp L f L1 f1 [h] ∧ pt L1 f1 h (.inr (7, [.ref a1, .ref a2, .ref a3, .ref a4, .ref a5, .int 0, .int 0])) ∧ pt L1 f1 a3 (.inl (G.2 0, 3, .inl (fun _ => 0))) ∧ pt L1 f1 a4 (.inl (G.2 0, 3, .inl (fun _ => 0))) ∧ a3 ≠ a4) := by
  refine PMv.of (post := fun L1 f1 => ∃ a1 : Nat, ∃ a2 : Nat, ∃ a3 : Nat, ∃ a4 : Nat, ∃ a5 : Nat, kp L f L1 f1 [h] ∧ pt L1 f1 h (.inr (7, [.ref a1, .ref a2, .ref a3, .ref a4, .ref a5, .int 0, .int 0])) ∧ pt L1 f1 a3 (.inl (G.2 0, 3, .inl (fun _ => 0))) ∧ pt L1 f1 a4 (.inl (G.2 0, 3, .inl (fun _ => 0))) ∧ a3 ≠ a4) (own := RX7) (by decide) rfl (Nat.le_of_ble_eq_true rfl) (fun sz p e s m args below meth c A ls hA1 hname S Y hl => ?_)
  have hx := S.hx
  have hb := S.hb
  have hl : lv_has ls 1 [(0, .ref h)] := hl
  have hk : kp L f L f [h] := kp.rf
  refine lv_aload_n hx hb dX7_init_0 rfl (lv_at hl 0 rfl) ?_
  refine pObj S km7_3 kObj1 kObj2 hl.1 (Nat.le_of_ble_eq_true rfl) (Nat.le_of_ble_eq_true rfl) dX7_init_1 ?_
  refine lv_aload_n hx hb dX7_init_4 rfl (lv_at hl 0 rfl) ?_
  refine lv_sipush (v := 300) hx hb dX7_init_5 (by decide) ?_
  refine pg_newa S Y (ty := .int) rfl 0 rfl ka_int (N' := 300) (300, .inl (fun _ => 0)) (fun _ => rfl) (by decide) (by decide) (by decide) (by decide) (by decide) dX7_init_8 (fun q_355 f_356 H nq_355 ef_356 Y => ?_)
  have whkq_355 := hk.notin nq_355
  have hk := hk.push ef_356 nq_355
  have p_h := p_h.push ef_356 nq_355
  have p_q_355 := pt.new (L := L) ef_356
  refine pg_putF S Y hname ok_X7 0 (by decide) kf7_9 rfl rfl (fs' := [.ref q_355, .null, .null, .null, .null, .int 0, .int 0]) (v := .ref q_355) p_h rfl rfl rfl (Nat.le_of_ble_eq_true rfl) dX7_init_10 (fun f_357 H locs ef_357 Y => ?_)
  have p_q_355 := p_q_355.up ef_357 ((p_q_355.neB p_h))
  have p_h := p_h.me ef_357
  have hk := hk.up ef_357 (by simp)
  refine lv_aload_n hx hb dX7_init_13 rfl (lv_at hl 0 rfl) ?_
  refine lv_sipush (v := 300) hx hb dX7_init_14 (by decide) ?_
  refine pg_newa S Y (ty := .int) rfl 0 rfl ka_int (N' := 300) (300, .inl (fun _ => 0)) (fun _ => rfl) (by decide) (by decide) (by decide) (by decide) (by decide) dX7_init_17 (fun q_358 f_359 H nq_358 ef_359 Y => ?_)
  have whkq_358 := hk.notin nq_358
  have hk := hk.push ef_359 nq_358
  have p_h := p_h.push ef_359 nq_358
  have dq_355_q_358 := p_q_355.neQ nq_358
  have p_q_355 := p_q_355.push ef_359 nq_358
  have p_q_358 := pt.new (L := (L ++ [q_355])) ef_359
  refine pg_putF S Y hname ok_X7 1 (by decide) kf7_15 rfl rfl (fs' := [.ref q_355, .ref q_358, .null, .null, .null, .int 0, .int 0]) (v := .ref q_358) p_h rfl rfl rfl (Nat.le_of_ble_eq_true rfl) dX7_init_19 (fun f_360 H locs ef_360 Y => ?_)
  have p_q_355 := p_q_355.up ef_360 ((p_q_355.neB p_h))
  have p_q_358 := p_q_358.up ef_360 ((p_q_358.neB p_h))
  have p_h := p_h.me ef_360
  have hk := hk.up ef_360 (by simp)
  refine lv_aload_n hx hb dX7_init_22 rfl (lv_at hl 0 rfl) ?_
  refine lv_iconst (v := 3) hx hb dX7_init_23 (by decide) ?_
  refine pg_newa S Y (ty := .int) rfl 0 rfl ka_int (N' := 3) (3, .inl (fun _ => 0)) (fun _ => rfl) (by decide) (by decide) (by decide) (by decide) (by decide) dX7_init_24 (fun q_361 f_362 H nq_361 ef_362 Y => ?_)
  have whkq_361 := hk.notin nq_361
  have hk := hk.push ef_362 nq_361
  have p_h := p_h.push ef_362 nq_361
  have p_q_355 := p_q_355.push ef_362 nq_361
  have p_q_358 := p_q_358.push ef_362 nq_361
  have p_q_361 := pt.new (L := ((L ++ [q_355]) ++ [q_358])) ef_362
  refine pg_putF S Y hname ok_X7 2 (by decide) kf7_18 rfl rfl (fs' := [.ref q_355, .ref q_358, .ref q_361, .null, .null, .int 0, .int 0]) (v := .ref q_361) p_h rfl rfl rfl (Nat.le_of_ble_eq_true rfl) dX7_init_26 (fun f_363 H locs ef_363 Y => ?_)
  have p_q_355 := p_q_355.up ef_363 ((p_q_355.neB p_h))
  have p_q_358 := p_q_358.up ef_363 ((p_q_358.neB p_h))
  have p_q_361 := p_q_361.up ef_363 ((p_q_361.neB p_h))
  have p_h := p_h.me ef_363
  have hk := hk.up ef_363 (by simp)
  refine lv_aload_n hx hb dX7_init_29 rfl (lv_at hl 0 rfl) ?_
  refine lv_iconst (v := 3) hx hb dX7_init_30 (by decide) ?_
  refine pg_newa S Y (ty := .int) rfl 0 rfl ka_int (N' := 3) (3, .inl (fun _ => 0)) (fun _ => rfl) (by decide) (by decide) (by decide) (by decide) (by decide) dX7_init_31 (fun q_364 f_365 H nq_364 ef_365 Y => ?_)
  have whkq_364 := hk.notin nq_364
  have hk := hk.push ef_365 nq_364
  have p_h := p_h.push ef_365 nq_364
  have p_q_355 := p_q_355.push ef_365 nq_364
  have p_q_358 := p_q_358.push ef_365 nq_364
  have dq_361_q_364 := p_q_361.neQ nq_364
  have p_q_361 := p_q_361.push ef_365 nq_364
  have p_q_364 := pt.new (L := (((L ++ [q_355]) ++ [q_358]) ++ [q_361])) ef_365
  refine pg_putF S Y hname ok_X7 3 (by decide) kf7_21 rfl rfl (fs' := [.ref q_355, .ref q_358, .ref q_361, .ref q_364, .null, .int 0, .int 0]) (v := .ref q_364) p_h rfl rfl rfl (Nat.le_of_ble_eq_true rfl) dX7_init_33 (fun f_366 H locs ef_366 Y => ?_)
  have p_q_355 := p_q_355.up ef_366 ((p_q_355.neB p_h))
  have p_q_358 := p_q_358.up ef_366 ((p_q_358.neB p_h))
  have p_q_361 := p_q_361.up ef_366 ((p_q_361.neB p_h))
  have p_q_364 := p_q_364.up ef_366 ((p_q_364.neB p_h))
  have p_h := p_h.me ef_366
  have hk := hk.up ef_366 (by simp)
  refine lv_aload_n hx hb dX7_init_36 rfl (lv_at hl 0 rfl) ?_
  refine lv_bipush (v := 120) hx hb dX7_init_37 (by decide) ?_
  refine pg_newa S Y (ty := .int) rfl 0 rfl ka_int (N' := 120) (120, .inl (fun _ => 0)) (fun _ => rfl) (by decide) (by decide) (by decide) (by decide) (by decide) dX7_init_39 (fun q_367 f_368 H nq_367 ef_368 Y => ?_)
  have whkq_367 := hk.notin nq_367
  have hk := hk.push ef_368 nq_367
  have p_h := p_h.push ef_368 nq_367
  have p_q_355 := p_q_355.push ef_368 nq_367
  have p_q_358 := p_q_358.push ef_368 nq_367
  have p_q_361 := p_q_361.push ef_368 nq_367
  have p_q_364 := p_q_364.push ef_368 nq_367
  have p_q_367 := pt.new (L := ((((L ++ [q_355]) ++ [q_358]) ++ [q_361]) ++ [q_364])) ef_368
  refine pg_putF S Y hname ok_X7 4 (by decide) kf7_24 rfl rfl (fs' := [.ref q_355, .ref q_358, .ref q_361, .ref q_364, .ref q_367, .int 0, .int 0]) (v := .ref q_367) p_h rfl rfl rfl (Nat.le_of_ble_eq_true rfl) dX7_init_41 (fun f_369 H locs ef_369 Y => ?_)
  have p_q_355 := p_q_355.up ef_369 ((p_q_355.neB p_h))
  have p_q_358 := p_q_358.up ef_369 ((p_q_358.neB p_h))
  have p_q_361 := p_q_361.up ef_369 ((p_q_361.neB p_h))
  have p_q_364 := p_q_364.up ef_369 ((p_q_364.neB p_h))
  have p_q_367 := p_q_367.up ef_369 ((p_q_367.neB p_h))
  have p_h := p_h.me ef_369
  have hk := hk.up ef_369 (by simp)
  exact prV (post := fun L1 f1 => ∃ a1 : Nat, ∃ a2 : Nat, ∃ a3 : Nat, ∃ a4 : Nat, ∃ a5 : Nat, kp L f L1 f1 [h] ∧ pt L1 f1 h (.inr (7, [.ref a1, .ref a2, .ref a3, .ref a4, .ref a5, .int 0, .int 0])) ∧ pt L1 f1 a3 (.inl (G.2 0, 3, .inl (fun _ => 0))) ∧ pt L1 f1 a4 (.inl (G.2 0, 3, .inl (fun _ => 0))) ∧ a3 ≠ a4) S Y (by decide) (by decide) hA1 ⟨q_355, q_358, q_361, q_364, q_367, hk, p_h, p_q_361, p_q_364, (dq_361_q_364)⟩ dX7_init_44
set_option maxHeartbeats 4000000 in
set_option maxRecDepth 100000 in
theorem c_X5_init {l : Launch} {G : GG} {L : List Nat} {f : HF} {h : Nat}  (p_h : pt L f h (.inr (5, [.null, .null, .null, .null, .int 0, .int 0, .int 0, .int 0, .int 0, .int 0, .int 0, .null, .int 0, .int 0])))  : PMv l yX5_init cX5_init 1 1 4 1203 G [.ref h] L f (fun L1 f1 => ∃ a1 : Nat, ∃ a2 : Nat, ∃ a3 : Nat, ∃ a4 : Nat, kp L f L1 f1 [h] ∧ pt L1 f1 h (.inr (5, [.ref a1, .ref a2, .ref a3, .ref a4, .int 0, .int 0, .int 0, .int 0, .int 0, .int 0, .int 0, .null, .int (-1), .int (-1)])) ∧ pt L1 f1 a1 (.inl (G.2 0, 300, .inl (fun _ => 0))) ∧ pt L1 f1 a2 (.inl (G.2 0, 301, .inl (fun _ => 0))) ∧ pt L1 f1 a3 (.inl (G.2 0, 301, .inl (fun _ => 0))) ∧ pt L1 f1 a4 (.inl (G.2 0, 301, .inl (fun _ => 0))) ∧ a2 ≠ a3 ∧ a2 ≠ a4 ∧ a3 ≠ a4) := by
  refine PMv.of (post := fun L1 f1 => ∃ a1 : Nat, ∃ a2 : Nat, ∃ a3 : Nat, ∃ a4 : Nat, kp L f L1 f1 [h] ∧ pt L1 f1 h (.inr (5, [.ref a1, .ref a2, .ref a3, .ref a4, .int 0, .int 0, .int 0, .int 0, .int 0, .int 0, .int 0, .null, .int (-1), .int (-1)])) ∧ pt L1 f1 a1 (.inl (G.2 0, 300, .inl (fun _ => 0))) ∧ pt L1 f1 a2 (.inl (G.2 0, 301, .inl (fun _ => 0))) ∧ pt L1 f1 a3 (.inl (G.2 0, 301, .inl (fun _ => 0))) ∧ pt L1 f1 a4 (.inl (G.2 0, 301, .inl (fun _ => 0))) ∧ a2 ≠ a3 ∧ a2 ≠ a4 ∧ a3 ≠ a4) (own := RX5) (by decide) rfl (Nat.le_of_ble_eq_true rfl) (fun sz p e s m args below meth c A ls hA1 hname S Y hl => ?_)
  have hx := S.hx
  have hb := S.hb
  have hl : lv_has ls 1 [(0, .ref h)] := hl
  have hk : kp L f L f [h] := kp.rf
  refine lv_aload_n hx hb dX5_init_0 rfl (lv_at hl 0 rfl) ?_
  refine pObj S km5_3 kObj1 kObj2 hl.1 (Nat.le_of_ble_eq_true rfl) (Nat.le_of_ble_eq_true rfl) dX5_init_1 ?_
  refine lv_aload_n hx hb dX5_init_4 rfl (lv_at hl 0 rfl) ?_
  refine lv_sipush (v := 300) hx hb dX5_init_5 (by decide) ?_
  refine pg_newa S Y (ty := .int) rfl 0 rfl ka_int (N' := 300) (300, .inl (fun _ => 0)) (fun _ => rfl) (by decide) (by decide) (by decide) (by decide) (by decide) dX5_init_8 (fun q_370 f_371 H nq_370 ef_371 Y => ?_)
  have whkq_370 := hk.notin nq_370
  have hk := hk.push ef_371 nq_370
  have p_h := p_h.push ef_371 nq_370
  have p_q_370 := pt.new (L := L) ef_371
  refine pg_putF S Y hname ok_X5 0 (by decide) kf5_9 rfl rfl (fs' := [.ref q_370, .null, .null, .null, .int 0, .int 0, .int 0, .int 0, .int 0, .int 0, .int 0, .null, .int 0, .int 0]) (v := .ref q_370) p_h rfl rfl rfl (Nat.le_of_ble_eq_true rfl) dX5_init_10 (fun f_372 H locs ef_372 Y => ?_)
  have p_q_370 := p_q_370.up ef_372 ((p_q_370.neB p_h))
  have p_h := p_h.me ef_372
  have hk := hk.up ef_372 (by simp)
  refine lv_aload_n hx hb dX5_init_13 rfl (lv_at hl 0 rfl) ?_
  refine lv_sipush (v := 301) hx hb dX5_init_14 (by decide) ?_
  refine pg_newa S Y (ty := .int) rfl 0 rfl ka_int (N' := 301) (301, .inl (fun _ => 0)) (fun _ => rfl) (by decide) (by decide) (by decide) (by decide) (by decide) dX5_init_17 (fun q_373 f_374 H nq_373 ef_374 Y => ?_)
  have whkq_373 := hk.notin nq_373
  have hk := hk.push ef_374 nq_373
  have p_h := p_h.push ef_374 nq_373
  have p_q_370 := p_q_370.push ef_374 nq_373
  have p_q_373 := pt.new (L := (L ++ [q_370])) ef_374
  refine pg_putF S Y hname ok_X5 1 (by decide) kf5_15 rfl rfl (fs' := [.ref q_370, .ref q_373, .null, .null, .int 0, .int 0, .int 0, .int 0, .int 0, .int 0, .int 0, .null, .int 0, .int 0]) (v := .ref q_373) p_h rfl rfl rfl (Nat.le_of_ble_eq_true rfl) dX5_init_19 (fun f_375 H locs ef_375 Y => ?_)
  have p_q_370 := p_q_370.up ef_375 ((p_q_370.neB p_h))
  have p_q_373 := p_q_373.up ef_375 ((p_q_373.neB p_h))
  have p_h := p_h.me ef_375
  have hk := hk.up ef_375 (by simp)
  refine lv_aload_n hx hb dX5_init_22 rfl (lv_at hl 0 rfl) ?_
  refine lv_sipush (v := 301) hx hb dX5_init_23 (by decide) ?_
  refine pg_newa S Y (ty := .int) rfl 0 rfl ka_int (N' := 301) (301, .inl (fun _ => 0)) (fun _ => rfl) (by decide) (by decide) (by decide) (by decide) (by decide) dX5_init_26 (fun q_376 f_377 H nq_376 ef_377 Y => ?_)
  have whkq_376 := hk.notin nq_376
  have hk := hk.push ef_377 nq_376
  have p_h := p_h.push ef_377 nq_376
  have p_q_370 := p_q_370.push ef_377 nq_376
  have dq_373_q_376 := p_q_373.neQ nq_376
  have p_q_373 := p_q_373.push ef_377 nq_376
  have p_q_376 := pt.new (L := ((L ++ [q_370]) ++ [q_373])) ef_377
  refine pg_putF S Y hname ok_X5 2 (by decide) kf5_18 rfl rfl (fs' := [.ref q_370, .ref q_373, .ref q_376, .null, .int 0, .int 0, .int 0, .int 0, .int 0, .int 0, .int 0, .null, .int 0, .int 0]) (v := .ref q_376) p_h rfl rfl rfl (Nat.le_of_ble_eq_true rfl) dX5_init_28 (fun f_378 H locs ef_378 Y => ?_)
  have p_q_370 := p_q_370.up ef_378 ((p_q_370.neB p_h))
  have p_q_373 := p_q_373.up ef_378 ((p_q_373.neB p_h))
  have p_q_376 := p_q_376.up ef_378 ((p_q_376.neB p_h))
  have p_h := p_h.me ef_378
  have hk := hk.up ef_378 (by simp)
  refine lv_aload_n hx hb dX5_init_31 rfl (lv_at hl 0 rfl) ?_
  refine lv_sipush (v := 301) hx hb dX5_init_32 (by decide) ?_
  refine pg_newa S Y (ty := .int) rfl 0 rfl ka_int (N' := 301) (301, .inl (fun _ => 0)) (fun _ => rfl) (by decide) (by decide) (by decide) (by decide) (by decide) dX5_init_35 (fun q_379 f_380 H nq_379 ef_380 Y => ?_)
  have whkq_379 := hk.notin nq_379
  have hk := hk.push ef_380 nq_379
  have p_h := p_h.push ef_380 nq_379
  have p_q_370 := p_q_370.push ef_380 nq_379
  have dq_373_q_379 := p_q_373.neQ nq_379
  have p_q_373 := p_q_373.push ef_380 nq_379
  have dq_376_q_379 := p_q_376.neQ nq_379
  have p_q_376 := p_q_376.push ef_380 nq_379
  have p_q_379 := pt.new (L := (((L ++ [q_370]) ++ [q_373]) ++ [q_376])) ef_380
  refine pg_putF S Y hname ok_X5 3 (by decide) kf5_21 rfl rfl (fs' := [.ref q_370, .ref q_373, .ref q_376, .ref q_379, .int 0, .int 0, .int 0, .int 0, .int 0, .int 0, .int 0, .null, .int 0, .int 0]) (v := .ref q_379) p_h rfl rfl rfl (Nat.le_of_ble_eq_true rfl) dX5_init_37 (fun f_381 H locs ef_381 Y => ?_)
  have p_q_370 := p_q_370.up ef_381 ((p_q_370.neB p_h))
  have p_q_373 := p_q_373.up ef_381 ((p_q_373.neB p_h))
  have p_q_376 := p_q_376.up ef_381 ((p_q_376.neB p_h))
  have p_q_379 := p_q_379.up ef_381 ((p_q_379.neB p_h))
  have p_h := p_h.me ef_381
  have hk := hk.up ef_381 (by simp)
  refine lv_aload_n hx hb dX5_init_40 rfl (lv_at hl 0 rfl) ?_
  refine lv_iconst (v := (-1)) hx hb dX5_init_41 (by decide) ?_
  refine pg_put S Y ok_X5 12 (by decide) kf5_24 rfl (fs' := [.ref q_370, .ref q_373, .ref q_376, .ref q_379, .int 0, .int 0, .int 0, .int 0, .int 0, .int 0, .int 0, .null, .int (-1), .int 0]) (v := .int (-1)) p_h rfl rfl rfl (Nat.le_of_ble_eq_true rfl) dX5_init_42 (fun f_382 H locs ef_382 Y => ?_)
  have p_q_370 := p_q_370.up ef_382 ((p_q_370.neB p_h))
  have p_q_373 := p_q_373.up ef_382 ((p_q_373.neB p_h))
  have p_q_376 := p_q_376.up ef_382 ((p_q_376.neB p_h))
  have p_q_379 := p_q_379.up ef_382 ((p_q_379.neB p_h))
  have p_h := p_h.me ef_382
  have hk := hk.up ef_382 (by simp)
  refine lv_aload_n hx hb dX5_init_45 rfl (lv_at hl 0 rfl) ?_
  refine lv_iconst (v := (-1)) hx hb dX5_init_46 (by decide) ?_
  refine pg_put S Y ok_X5 13 (by decide) kf5_28 rfl (fs' := [.ref q_370, .ref q_373, .ref q_376, .ref q_379, .int 0, .int 0, .int 0, .int 0, .int 0, .int 0, .int 0, .null, .int (-1), .int (-1)]) (v := .int (-1)) p_h rfl rfl rfl (Nat.le_of_ble_eq_true rfl) dX5_init_47 (fun f_383 H locs ef_383 Y => ?_)
  have p_q_370 := p_q_370.up ef_383 ((p_q_370.neB p_h))
  have p_q_373 := p_q_373.up ef_383 ((p_q_373.neB p_h))
  have p_q_376 := p_q_376.up ef_383 ((p_q_376.neB p_h))
  have p_q_379 := p_q_379.up ef_383 ((p_q_379.neB p_h))
  have p_h := p_h.me ef_383
  have hk := hk.up ef_383 (by simp)
  exact prV (post := fun L1 f1 => ∃ a1 : Nat, ∃ a2 : Nat, ∃ a3 : Nat, ∃ a4 : Nat, kp L f L1 f1 [h] ∧ pt L1 f1 h (.inr (5, [.ref a1, .ref a2, .ref a3, .ref a4, .int 0, .int 0, .int 0, .int 0, .int 0, .int 0, .int 0, .null, .int (-1), .int (-1)])) ∧ pt L1 f1 a1 (.inl (G.2 0, 300, .inl (fun _ => 0))) ∧ pt L1 f1 a2 (.inl (G.2 0, 301, .inl (fun _ => 0))) ∧ pt L1 f1 a3 (.inl (G.2 0, 301, .inl (fun _ => 0))) ∧ pt L1 f1 a4 (.inl (G.2 0, 301, .inl (fun _ => 0))) ∧ a2 ≠ a3 ∧ a2 ≠ a4 ∧ a3 ≠ a4) S Y (by decide) (by decide) hA1 ⟨q_370, q_373, q_376, q_379, hk, p_h, p_q_370, p_q_373, p_q_376, p_q_379, (dq_373_q_376), (dq_373_q_379), (dq_376_q_379)⟩ dX5_init_50
set_option maxHeartbeats 4000000 in
set_option maxRecDepth 100000 in
theorem c_X3_init {l : Launch} {G : GG} {L : List Nat} {f : HF} {h w : Nat}  (p_h : pt L f h (.inr (3, [.null, .null, .int 0])))  : PMv l yX3_init cX3_init 2 1 1 300 G [.ref h, .ref w] L f (fun L1 f1 => ∃ a1 : Nat, kp L f L1 f1 [h] ∧ pt L1 f1 h (.inr (3, [.ref w, .ref a1, .int 0]))) := by
  refine PMv.of (post := fun L1 f1 => ∃ a1 : Nat, kp L f L1 f1 [h] ∧ pt L1 f1 h (.inr (3, [.ref w, .ref a1, .int 0]))) (own := RX3) (by decide) rfl (Nat.le_of_ble_eq_true rfl) (fun sz p e s m args below meth c A ls hA1 hname S Y hl => ?_)
  have hx := S.hx
  have hb := S.hb
  have hl : lv_has ls 2 [(0, .ref h), (1, .ref w)] := hl
  have hk : kp L f L f [h] := kp.rf
  refine lv_aload_n hx hb dX3_init_0 rfl (lv_at hl 0 rfl) ?_
  refine pObj S km3_3 kObj1 kObj2 hl.1 (Nat.le_of_ble_eq_true rfl) (Nat.le_of_ble_eq_true rfl) dX3_init_1 ?_
  refine lv_aload_n hx hb dX3_init_4 rfl (lv_at hl 0 rfl) ?_
  refine lv_sipush (v := 300) hx hb dX3_init_5 (by decide) ?_
  refine pg_newa S Y (ty := .int) rfl 0 rfl ka_int (N' := 300) (300, .inl (fun _ => 0)) (fun _ => rfl) (by decide) (by decide) (by decide) (by decide) (by decide) dX3_init_8 (fun q_384 f_385 H nq_384 ef_385 Y => ?_)
  have whkq_384 := hk.notin nq_384
  have hk := hk.push ef_385 nq_384
  have p_h := p_h.push ef_385 nq_384
  have p_q_384 := pt.new (L := L) ef_385
  refine pg_putF S Y hname ok_X3 1 (by decide) kf3_9 rfl rfl (fs' := [.null, .ref q_384, .int 0]) (v := .ref q_384) p_h rfl rfl rfl (Nat.le_of_ble_eq_true rfl) dX3_init_10 (fun f_386 H locs ef_386 Y => ?_)
  have p_q_384 := p_q_384.up ef_386 ((p_q_384.neB p_h))
  have p_h := p_h.me ef_386
  have hk := hk.up ef_386 (by simp)
  refine lv_aload_n hx hb dX3_init_13 rfl (lv_at hl 0 rfl) ?_
  refine lv_aload_n hx hb dX3_init_14 rfl (lv_at hl 1 rfl) ?_
  refine pg_putF S Y hname ok_X3 0 (by decide) kf3_15 rfl rfl (fs' := [.ref w, .ref q_384, .int 0]) (v := .ref w) p_h rfl rfl rfl (Nat.le_of_ble_eq_true rfl) dX3_init_15 (fun f_387 H locs ef_387 Y => ?_)
  have p_q_384 := p_q_384.up ef_387 ((p_q_384.neB p_h))
  have p_h := p_h.me ef_387
  have hk := hk.up ef_387 (by simp)
  exact prV (post := fun L1 f1 => ∃ a1 : Nat, kp L f L1 f1 [h] ∧ pt L1 f1 h (.inr (3, [.ref w, .ref a1, .int 0]))) S Y (by decide) (by decide) hA1 ⟨q_384, hk, p_h⟩ dX3_init_18
set_option maxHeartbeats 4000000 in
set_option maxRecDepth 100000 in
theorem c_X6_init {l : Launch} {G : GG} {L : List Nat} {f : HF} {h w : Nat}  (p_h : pt L f h (.inr (6, [.null, .int 0])))  : PMv l yX6_init cX6_init 2 1 0 0 G [.ref h, .ref w] L f (fun L1 f1 => kp L f L1 f1 [h] ∧ pt L1 f1 h (.inr (6, [.ref w, .int 0]))) := by
  refine PMv.of (post := fun L1 f1 => kp L f L1 f1 [h] ∧ pt L1 f1 h (.inr (6, [.ref w, .int 0]))) (own := RX6) (by decide) rfl (Nat.le_of_ble_eq_true rfl) (fun sz p e s m args below meth c A ls hA1 hname S Y hl => ?_)
  have hx := S.hx
  have hb := S.hb
  have hl : lv_has ls 2 [(0, .ref h), (1, .ref w)] := hl
  have hk : kp L f L f [h] := kp.rf
  refine lv_aload_n hx hb dX6_init_0 rfl (lv_at hl 0 rfl) ?_
  refine pObj S km6_3 kObj1 kObj2 hl.1 (Nat.le_of_ble_eq_true rfl) (Nat.le_of_ble_eq_true rfl) dX6_init_1 ?_
  refine lv_aload_n hx hb dX6_init_4 rfl (lv_at hl 0 rfl) ?_
  refine lv_aload_n hx hb dX6_init_5 rfl (lv_at hl 1 rfl) ?_
  refine pg_putF S Y hname ok_X6 0 (by decide) kf6_9 rfl rfl (fs' := [.ref w, .int 0]) (v := .ref w) p_h rfl rfl rfl (Nat.le_of_ble_eq_true rfl) dX6_init_6 (fun f_388 H locs ef_388 Y => ?_)
  have p_h := p_h.me ef_388
  have hk := hk.up ef_388 (by simp)
  exact prV (post := fun L1 f1 => kp L f L1 f1 [h] ∧ pt L1 f1 h (.inr (6, [.ref w, .int 0]))) S Y (by decide) (by decide) hA1 ⟨hk, p_h⟩ dX6_init_9
set_option maxHeartbeats 4000000 in
set_option maxRecDepth 100000 in
theorem c_X1_init {l : Launch} {G : GG} {L : List Nat} {f : HF} {h w jd rg : Nat}  (p_h : pt L f h (.inr (1, [.null, .null, .null, .null, .int 0])))  : PMv l yX1_init cX1_init 4 1 1 14 G [.ref h, .ref w, .ref jd, .ref rg] L f (fun L1 f1 => ∃ a1 : Nat, kp L f L1 f1 [h] ∧ pt L1 f1 h (.inr (1, [.ref w, .ref jd, .ref rg, .ref a1, .int 0]))) := by
  refine PMv.of (post := fun L1 f1 => ∃ a1 : Nat, kp L f L1 f1 [h] ∧ pt L1 f1 h (.inr (1, [.ref w, .ref jd, .ref rg, .ref a1, .int 0]))) (own := RX1) (by decide) rfl (Nat.le_of_ble_eq_true rfl) (fun sz p e s m args below meth c A ls hA1 hname S Y hl => ?_)
  have hx := S.hx
  have hb := S.hb
  have hl : lv_has ls 4 [(0, .ref h), (1, .ref w), (2, .ref jd), (3, .ref rg)] := hl
  have hk : kp L f L f [h] := kp.rf
  refine lv_aload_n hx hb dX1_init_0 rfl (lv_at hl 0 rfl) ?_
  refine pObj S km1_3 kObj1 kObj2 hl.1 (Nat.le_of_ble_eq_true rfl) (Nat.le_of_ble_eq_true rfl) dX1_init_1 ?_
  refine lv_aload_n hx hb dX1_init_4 rfl (lv_at hl 0 rfl) ?_
  refine lv_bipush (v := 14) hx hb dX1_init_5 (by decide) ?_
  refine pg_newa S Y (ty := .int) rfl 0 rfl ka_int (N' := 14) (14, .inl (fun _ => 0)) (fun _ => rfl) (by decide) (by decide) (by decide) (by decide) (by decide) dX1_init_7 (fun q_389 f_390 H nq_389 ef_390 Y => ?_)
  have whkq_389 := hk.notin nq_389
  have hk := hk.push ef_390 nq_389
  have p_h := p_h.push ef_390 nq_389
  have p_q_389 := pt.new (L := L) ef_390
  refine pg_putF S Y hname ok_X1 3 (by decide) kf1_9 rfl rfl (fs' := [.null, .null, .null, .ref q_389, .int 0]) (v := .ref q_389) p_h rfl rfl rfl (Nat.le_of_ble_eq_true rfl) dX1_init_9 (fun f_391 H locs ef_391 Y => ?_)
  have p_q_389 := p_q_389.up ef_391 ((p_q_389.neB p_h))
  have p_h := p_h.me ef_391
  have hk := hk.up ef_391 (by simp)
  refine lv_aload_n hx hb dX1_init_12 rfl (lv_at hl 0 rfl) ?_
  refine lv_aload_n hx hb dX1_init_13 rfl (lv_at hl 1 rfl) ?_
  refine pg_putF S Y hname ok_X1 0 (by decide) kf1_15 rfl rfl (fs' := [.ref w, .null, .null, .ref q_389, .int 0]) (v := .ref w) p_h rfl rfl rfl (Nat.le_of_ble_eq_true rfl) dX1_init_14 (fun f_392 H locs ef_392 Y => ?_)
  have p_q_389 := p_q_389.up ef_392 ((p_q_389.neB p_h))
  have p_h := p_h.me ef_392
  have hk := hk.up ef_392 (by simp)
  refine lv_aload_n hx hb dX1_init_17 rfl (lv_at hl 0 rfl) ?_
  refine lv_aload_n hx hb dX1_init_18 rfl (lv_at hl 2 rfl) ?_
  refine pg_putF S Y hname ok_X1 1 (by decide) kf1_19 rfl rfl (fs' := [.ref w, .ref jd, .null, .ref q_389, .int 0]) (v := .ref jd) p_h rfl rfl rfl (Nat.le_of_ble_eq_true rfl) dX1_init_19 (fun f_393 H locs ef_393 Y => ?_)
  have p_q_389 := p_q_389.up ef_393 ((p_q_389.neB p_h))
  have p_h := p_h.me ef_393
  have hk := hk.up ef_393 (by simp)
  refine lv_aload_n hx hb dX1_init_22 rfl (lv_at hl 0 rfl) ?_
  refine lv_aload_n hx hb dX1_init_23 rfl (lv_at hl 3 rfl) ?_
  refine pg_putF S Y hname ok_X1 2 (by decide) kf1_23 rfl rfl (fs' := [.ref w, .ref jd, .ref rg, .ref q_389, .int 0]) (v := .ref rg) p_h rfl rfl rfl (Nat.le_of_ble_eq_true rfl) dX1_init_24 (fun f_394 H locs ef_394 Y => ?_)
  have p_q_389 := p_q_389.up ef_394 ((p_q_389.neB p_h))
  have p_h := p_h.me ef_394
  have hk := hk.up ef_394 (by simp)
  exact prV (post := fun L1 f1 => ∃ a1 : Nat, kp L f L1 f1 [h] ∧ pt L1 f1 h (.inr (1, [.ref w, .ref jd, .ref rg, .ref a1, .int 0]))) S Y (by decide) (by decide) hA1 ⟨q_389, hk, p_h⟩ dX1_init_27
set_option maxHeartbeats 4000000 in
set_option maxRecDepth 100000 in
theorem c_X2_init {l : Launch} {G : GG} {L : List Nat} {f : HF} {h w jd dd sl : Nat}  (p_h : pt L f h (.inr (2, [.null, .null, .null, .null])))  : PMv l yX2_init cX2_init 5 1 0 0 G [.ref h, .ref w, .ref jd, .ref dd, .ref sl] L f (fun L1 f1 => kp L f L1 f1 [h] ∧ pt L1 f1 h (.inr (2, [.ref w, .ref jd, .ref dd, .ref sl]))) := by
  refine PMv.of (post := fun L1 f1 => kp L f L1 f1 [h] ∧ pt L1 f1 h (.inr (2, [.ref w, .ref jd, .ref dd, .ref sl]))) (own := RX2) (by decide) rfl (Nat.le_of_ble_eq_true rfl) (fun sz p e s m args below meth c A ls hA1 hname S Y hl => ?_)
  have hx := S.hx
  have hb := S.hb
  have hl : lv_has ls 5 [(0, .ref h), (1, .ref w), (2, .ref jd), (3, .ref dd), (4, .ref sl)] := hl
  have hk : kp L f L f [h] := kp.rf
  refine lv_aload_n hx hb dX2_init_0 rfl (lv_at hl 0 rfl) ?_
  refine pObj S km2_3 kObj1 kObj2 hl.1 (Nat.le_of_ble_eq_true rfl) (Nat.le_of_ble_eq_true rfl) dX2_init_1 ?_
  refine lv_aload_n hx hb dX2_init_4 rfl (lv_at hl 0 rfl) ?_
  refine lv_aload_n hx hb dX2_init_5 rfl (lv_at hl 1 rfl) ?_
  refine pg_putF S Y hname ok_X2 0 (by decide) kf2_9 rfl rfl (fs' := [.ref w, .null, .null, .null]) (v := .ref w) p_h rfl rfl rfl (Nat.le_of_ble_eq_true rfl) dX2_init_6 (fun f_395 H locs ef_395 Y => ?_)
  have p_h := p_h.me ef_395
  have hk := hk.up ef_395 (by simp)
  refine lv_aload_n hx hb dX2_init_9 rfl (lv_at hl 0 rfl) ?_
  refine lv_aload_n hx hb dX2_init_10 rfl (lv_at hl 2 rfl) ?_
  refine pg_putF S Y hname ok_X2 1 (by decide) kf2_15 rfl rfl (fs' := [.ref w, .ref jd, .null, .null]) (v := .ref jd) p_h rfl rfl rfl (Nat.le_of_ble_eq_true rfl) dX2_init_11 (fun f_396 H locs ef_396 Y => ?_)
  have p_h := p_h.me ef_396
  have hk := hk.up ef_396 (by simp)
  refine lv_aload_n hx hb dX2_init_14 rfl (lv_at hl 0 rfl) ?_
  refine lv_aload_n hx hb dX2_init_15 rfl (lv_at hl 3 rfl) ?_
  refine pg_putF S Y hname ok_X2 2 (by decide) kf2_19 rfl rfl (fs' := [.ref w, .ref jd, .ref dd, .null]) (v := .ref dd) p_h rfl rfl rfl (Nat.le_of_ble_eq_true rfl) dX2_init_16 (fun f_397 H locs ef_397 Y => ?_)
  have p_h := p_h.me ef_397
  have hk := hk.up ef_397 (by simp)
  refine lv_aload_n hx hb dX2_init_19 rfl (lv_at hl 0 rfl) ?_
  refine lv_aload hx hb dX2_init_20 (lv_at hl 4 rfl) ?_
  refine pg_putF S Y hname ok_X2 3 (by decide) kf2_23 rfl rfl (fs' := [.ref w, .ref jd, .ref dd, .ref sl]) (v := .ref sl) p_h rfl rfl rfl (Nat.le_of_ble_eq_true rfl) dX2_init_22 (fun f_398 H locs ef_398 Y => ?_)
  have p_h := p_h.me ef_398
  have hk := hk.up ef_398 (by simp)
  exact prV (post := fun L1 f1 => kp L f L1 f1 [h] ∧ pt L1 f1 h (.inr (2, [.ref w, .ref jd, .ref dd, .ref sl]))) S Y (by decide) (by decide) hA1 ⟨hk, p_h⟩ dX2_init_25
set_option maxHeartbeats 4000000 in
set_option maxRecDepth 100000 in
theorem c_X8_init {l : Launch} {G : GG} {L : List Nat} {f : HF} {h w jd sl : Nat}  (p_h : pt L f h (.inr (8, [.null, .null, .null, .null, .null, .null, .null, .int 0, .int 0, .int 0])))  : PMv l yX8_init cX8_init 4 1 4 118 G [.ref h, .ref w, .ref jd, .ref sl] L f (fun L1 f1 => kp L f L1 f1 [h]) := by
  refine PMv.of (post := fun L1 f1 => kp L f L1 f1 [h]) (own := RX8) (by decide) rfl (Nat.le_of_ble_eq_true rfl) (fun sz p e s m args below meth c A ls hA1 hname S Y hl => ?_)
  have hx := S.hx
  have hb := S.hb
  have hl : lv_has ls 4 [(0, .ref h), (1, .ref w), (2, .ref jd), (3, .ref sl)] := hl
  have hk : kp L f L f [h] := kp.rf
  refine lv_aload_n hx hb dX8_init_0 rfl (lv_at hl 0 rfl) ?_
  refine pObj S km8_3 kObj1 kObj2 hl.1 (Nat.le_of_ble_eq_true rfl) (Nat.le_of_ble_eq_true rfl) dX8_init_1 ?_
  refine lv_aload_n hx hb dX8_init_4 rfl (lv_at hl 0 rfl) ?_
  refine lv_bipush (v := 14) hx hb dX8_init_5 (by decide) ?_
  refine pg_newa S Y (ty := .int) rfl 0 rfl ka_int (N' := 14) (14, .inl (fun _ => 0)) (fun _ => rfl) (by decide) (by decide) (by decide) (by decide) (by decide) dX8_init_7 (fun q_399 f_400 H nq_399 ef_400 Y => ?_)
  have whkq_399 := hk.notin nq_399
  have hk := hk.push ef_400 nq_399
  have p_h := p_h.push ef_400 nq_399
  have p_q_399 := pt.new (L := L) ef_400
  refine pg_putF S Y hname ok_X8 3 (by decide) kf8_9 rfl rfl (fs' := [.null, .null, .null, .ref q_399, .null, .null, .null, .int 0, .int 0, .int 0]) (v := .ref q_399) p_h rfl rfl rfl (Nat.le_of_ble_eq_true rfl) dX8_init_9 (fun f_401 H locs ef_401 Y => ?_)
  have p_q_399 := p_q_399.up ef_401 ((p_q_399.neB p_h))
  have p_h := p_h.me ef_401
  have hk := hk.up ef_401 (by simp)
  refine lv_aload_n hx hb dX8_init_12 rfl (lv_at hl 0 rfl) ?_
  refine lv_bipush (v := 14) hx hb dX8_init_13 (by decide) ?_
  refine pg_newa S Y (ty := .int) rfl 0 rfl ka_int (N' := 14) (14, .inl (fun _ => 0)) (fun _ => rfl) (by decide) (by decide) (by decide) (by decide) (by decide) dX8_init_15 (fun q_402 f_403 H nq_402 ef_403 Y => ?_)
  have whkq_402 := hk.notin nq_402
  have hk := hk.push ef_403 nq_402
  have p_h := p_h.push ef_403 nq_402
  have dq_399_q_402 := p_q_399.neQ nq_402
  have p_q_399 := p_q_399.push ef_403 nq_402
  have p_q_402 := pt.new (L := (L ++ [q_399])) ef_403
  refine pg_putF S Y hname ok_X8 4 (by decide) kf8_15 rfl rfl (fs' := [.null, .null, .null, .ref q_399, .ref q_402, .null, .null, .int 0, .int 0, .int 0]) (v := .ref q_402) p_h rfl rfl rfl (Nat.le_of_ble_eq_true rfl) dX8_init_17 (fun f_404 H locs ef_404 Y => ?_)
  have p_q_399 := p_q_399.up ef_404 ((p_q_399.neB p_h))
  have p_q_402 := p_q_402.up ef_404 ((p_q_402.neB p_h))
  have p_h := p_h.me ef_404
  have hk := hk.up ef_404 (by simp)
  refine lv_aload_n hx hb dX8_init_20 rfl (lv_at hl 0 rfl) ?_
  refine lv_bipush (v := 84) hx hb dX8_init_21 (by decide) ?_
  refine pg_newa S Y (ty := .int) rfl 0 rfl ka_int (N' := 84) (84, .inl (fun _ => 0)) (fun _ => rfl) (by decide) (by decide) (by decide) (by decide) (by decide) dX8_init_23 (fun q_405 f_406 H nq_405 ef_406 Y => ?_)
  have whkq_405 := hk.notin nq_405
  have hk := hk.push ef_406 nq_405
  have p_h := p_h.push ef_406 nq_405
  have p_q_399 := p_q_399.push ef_406 nq_405
  have p_q_402 := p_q_402.push ef_406 nq_405
  have p_q_405 := pt.new (L := ((L ++ [q_399]) ++ [q_402])) ef_406
  refine pg_putF S Y hname ok_X8 5 (by decide) kf8_18 rfl rfl (fs' := [.null, .null, .null, .ref q_399, .ref q_402, .ref q_405, .null, .int 0, .int 0, .int 0]) (v := .ref q_405) p_h rfl rfl rfl (Nat.le_of_ble_eq_true rfl) dX8_init_25 (fun f_407 H locs ef_407 Y => ?_)
  have p_q_399 := p_q_399.up ef_407 ((p_q_399.neB p_h))
  have p_q_402 := p_q_402.up ef_407 ((p_q_402.neB p_h))
  have p_q_405 := p_q_405.up ef_407 ((p_q_405.neB p_h))
  have p_h := p_h.me ef_407
  have hk := hk.up ef_407 (by simp)
  refine lv_aload_n hx hb dX8_init_28 rfl (lv_at hl 0 rfl) ?_
  refine lv_bipush (v := 6) hx hb dX8_init_29 (by decide) ?_
  refine pg_newa S Y (ty := .int) rfl 0 rfl ka_int (N' := 6) (6, .inl (fun _ => 0)) (fun _ => rfl) (by decide) (by decide) (by decide) (by decide) (by decide) dX8_init_31 (fun q_408 f_409 H nq_408 ef_409 Y => ?_)
  have whkq_408 := hk.notin nq_408
  have hk := hk.push ef_409 nq_408
  have p_h := p_h.push ef_409 nq_408
  have p_q_399 := p_q_399.push ef_409 nq_408
  have p_q_402 := p_q_402.push ef_409 nq_408
  have p_q_405 := p_q_405.push ef_409 nq_408
  have p_q_408 := pt.new (L := (((L ++ [q_399]) ++ [q_402]) ++ [q_405])) ef_409
  refine pg_putF S Y hname ok_X8 6 (by decide) kf8_21 rfl rfl (fs' := [.null, .null, .null, .ref q_399, .ref q_402, .ref q_405, .ref q_408, .int 0, .int 0, .int 0]) (v := .ref q_408) p_h rfl rfl rfl (Nat.le_of_ble_eq_true rfl) dX8_init_33 (fun f_410 H locs ef_410 Y => ?_)
  have p_q_399 := p_q_399.up ef_410 ((p_q_399.neB p_h))
  have p_q_402 := p_q_402.up ef_410 ((p_q_402.neB p_h))
  have p_q_405 := p_q_405.up ef_410 ((p_q_405.neB p_h))
  have p_q_408 := p_q_408.up ef_410 ((p_q_408.neB p_h))
  have p_h := p_h.me ef_410
  have hk := hk.up ef_410 (by simp)
  refine lv_aload_n hx hb dX8_init_36 rfl (lv_at hl 0 rfl) ?_
  refine lv_aload_n hx hb dX8_init_37 rfl (lv_at hl 1 rfl) ?_
  refine pg_putF S Y hname ok_X8 0 (by decide) kf8_24 rfl rfl (fs' := [.ref w, .null, .null, .ref q_399, .ref q_402, .ref q_405, .ref q_408, .int 0, .int 0, .int 0]) (v := .ref w) p_h rfl rfl rfl (Nat.le_of_ble_eq_true rfl) dX8_init_38 (fun f_411 H locs ef_411 Y => ?_)
  have p_q_399 := p_q_399.up ef_411 ((p_q_399.neB p_h))
  have p_q_402 := p_q_402.up ef_411 ((p_q_402.neB p_h))
  have p_q_405 := p_q_405.up ef_411 ((p_q_405.neB p_h))
  have p_q_408 := p_q_408.up ef_411 ((p_q_408.neB p_h))
  have p_h := p_h.me ef_411
  have hk := hk.up ef_411 (by simp)
  refine lv_aload_n hx hb dX8_init_41 rfl (lv_at hl 0 rfl) ?_
  refine lv_aload_n hx hb dX8_init_42 rfl (lv_at hl 2 rfl) ?_
  refine pg_putF S Y hname ok_X8 1 (by decide) kf8_28 rfl rfl (fs' := [.ref w, .ref jd, .null, .ref q_399, .ref q_402, .ref q_405, .ref q_408, .int 0, .int 0, .int 0]) (v := .ref jd) p_h rfl rfl rfl (Nat.le_of_ble_eq_true rfl) dX8_init_43 (fun f_412 H locs ef_412 Y => ?_)
  have p_q_399 := p_q_399.up ef_412 ((p_q_399.neB p_h))
  have p_q_402 := p_q_402.up ef_412 ((p_q_402.neB p_h))
  have p_q_405 := p_q_405.up ef_412 ((p_q_405.neB p_h))
  have p_q_408 := p_q_408.up ef_412 ((p_q_408.neB p_h))
  have p_h := p_h.me ef_412
  have hk := hk.up ef_412 (by simp)
  refine lv_aload_n hx hb dX8_init_46 rfl (lv_at hl 0 rfl) ?_
  refine lv_aload_n hx hb dX8_init_47 rfl (lv_at hl 3 rfl) ?_
  refine pg_putF S Y hname ok_X8 2 (by decide) kf8_32 rfl rfl (fs' := [.ref w, .ref jd, .ref sl, .ref q_399, .ref q_402, .ref q_405, .ref q_408, .int 0, .int 0, .int 0]) (v := .ref sl) p_h rfl rfl rfl (Nat.le_of_ble_eq_true rfl) dX8_init_48 (fun f_413 H locs ef_413 Y => ?_)
  have p_q_399 := p_q_399.up ef_413 ((p_q_399.neB p_h))
  have p_q_402 := p_q_402.up ef_413 ((p_q_402.neB p_h))
  have p_q_405 := p_q_405.up ef_413 ((p_q_405.neB p_h))
  have p_q_408 := p_q_408.up ef_413 ((p_q_408.neB p_h))
  have p_h := p_h.me ef_413
  have hk := hk.up ef_413 (by simp)
  exact prV (post := fun L1 f1 => kp L f L1 f1 [h]) S Y (by decide) (by decide) hA1 hk dX8_init_51
set_option maxHeartbeats 4000000 in
set_option maxRecDepth 100000 in
theorem c_X0_init {l : Launch} {G : GG} {L : List Nat} {f : HF} {h w : Nat}  (p_h : pt L f h (.inr (0, [.null, .null, .null])))  : PMv l yX0_init cX0_init 2 1 2 14 G [.ref h, .ref w] L f (fun L1 f1 => ∃ a1 : Nat, ∃ a2 : Nat, kp L f L1 f1 [h] ∧ pt L1 f1 h (.inr (0, [.ref w, .ref a1, .ref a2]))) := by
  refine PMv.of (post := fun L1 f1 => ∃ a1 : Nat, ∃ a2 : Nat, kp L f L1 f1 [h] ∧ pt L1 f1 h (.inr (0, [.ref w, .ref a1, .ref a2]))) (own := RX0) (by decide) rfl (Nat.le_of_ble_eq_true rfl) (fun sz p e s m args below meth c A ls hA1 hname S Y hl => ?_)
  have hx := S.hx
  have hb := S.hb
  have hl : lv_has ls 2 [(0, .ref h), (1, .ref w)] := hl
  have hk : kp L f L f [h] := kp.rf
  refine lv_aload_n hx hb dX0_init_0 rfl (lv_at hl 0 rfl) ?_
  refine pObj S km0_3 kObj1 kObj2 hl.1 (Nat.le_of_ble_eq_true rfl) (Nat.le_of_ble_eq_true rfl) dX0_init_1 ?_
  refine lv_aload_n hx hb dX0_init_4 rfl (lv_at hl 0 rfl) ?_
  refine lv_bipush (v := 8) hx hb dX0_init_5 (by decide) ?_
  refine pg_newa S Y (ty := .int) rfl 0 rfl ka_int (N' := 8) (8, .inl (fun _ => 0)) (fun _ => rfl) (by decide) (by decide) (by decide) (by decide) (by decide) dX0_init_7 (fun q_414 f_415 H nq_414 ef_415 Y => ?_)
  have whkq_414 := hk.notin nq_414
  have hk := hk.push ef_415 nq_414
  have p_h := p_h.push ef_415 nq_414
  have p_q_414 := pt.new (L := L) ef_415
  refine pg_putF S Y hname ok_X0 1 (by decide) kf0_9 rfl rfl (fs' := [.null, .ref q_414, .null]) (v := .ref q_414) p_h rfl rfl rfl (Nat.le_of_ble_eq_true rfl) dX0_init_9 (fun f_416 H locs ef_416 Y => ?_)
  have p_q_414 := p_q_414.up ef_416 ((p_q_414.neB p_h))
  have p_h := p_h.me ef_416
  have hk := hk.up ef_416 (by simp)
  refine lv_aload_n hx hb dX0_init_12 rfl (lv_at hl 0 rfl) ?_
  refine lv_bipush (v := 6) hx hb dX0_init_13 (by decide) ?_
  refine pg_newa S Y (ty := .int) rfl 0 rfl ka_int (N' := 6) (6, .inl (fun _ => 0)) (fun _ => rfl) (by decide) (by decide) (by decide) (by decide) (by decide) dX0_init_15 (fun q_417 f_418 H nq_417 ef_418 Y => ?_)
  have whkq_417 := hk.notin nq_417
  have hk := hk.push ef_418 nq_417
  have p_h := p_h.push ef_418 nq_417
  have p_q_414 := p_q_414.push ef_418 nq_417
  have p_q_417 := pt.new (L := (L ++ [q_414])) ef_418
  refine pg_putF S Y hname ok_X0 2 (by decide) kf0_15 rfl rfl (fs' := [.null, .ref q_414, .ref q_417]) (v := .ref q_417) p_h rfl rfl rfl (Nat.le_of_ble_eq_true rfl) dX0_init_17 (fun f_419 H locs ef_419 Y => ?_)
  have p_q_414 := p_q_414.up ef_419 ((p_q_414.neB p_h))
  have p_q_417 := p_q_417.up ef_419 ((p_q_417.neB p_h))
  have p_h := p_h.me ef_419
  have hk := hk.up ef_419 (by simp)
  refine lv_aload_n hx hb dX0_init_20 rfl (lv_at hl 0 rfl) ?_
  refine lv_aload_n hx hb dX0_init_21 rfl (lv_at hl 1 rfl) ?_
  refine pg_putF S Y hname ok_X0 0 (by decide) kf0_18 rfl rfl (fs' := [.ref w, .ref q_414, .ref q_417]) (v := .ref w) p_h rfl rfl rfl (Nat.le_of_ble_eq_true rfl) dX0_init_22 (fun f_420 H locs ef_420 Y => ?_)
  have p_q_414 := p_q_414.up ef_420 ((p_q_414.neB p_h))
  have p_q_417 := p_q_417.up ef_420 ((p_q_417.neB p_h))
  have p_h := p_h.me ef_420
  have hk := hk.up ef_420 (by simp)
  exact prV (post := fun L1 f1 => ∃ a1 : Nat, ∃ a2 : Nat, kp L f L1 f1 [h] ∧ pt L1 f1 h (.inr (0, [.ref w, .ref a1, .ref a2]))) S Y (by decide) (by decide) hA1 ⟨q_414, q_417, hk, p_h⟩ dX0_init_25
