theorem dX2_rainBehind_0 : decode cX2_rainBehind 0 = .ok (.aload_n 0, 1) := by decide +kernel
theorem dX2_rainBehind_1 : decode cX2_rainBehind 1 = .ok (.getfield 23, 3) := by decide +kernel
theorem ok_X2 : clOK 2 RX2 TX2 4 tyX2 := ⟨rfl, fun w h => ⟨(show ∀ w ∈ u_ws RX2 TX2 4, w ∈ lw_tbl by decide +kernel) w h, (show ∀ w ∈ u_ws RX2 TX2 4, gw w = true by decide +kernel) w h⟩, tyX2_ok, nmX2⟩
theorem kf2_23 : inW (Cond.fieldLink RX2 23 "KneeOaths$Foresight" "scratch" "LKneeOaths$Ledger;") := ⟨List.mem_of_getElem? (i := 442) (by decide +kernel), by decide +kernel⟩
theorem dX2_rainBehind_4 : decode cX2_rainBehind 4 = .ok (.aload_n 0, 1) := by decide +kernel
theorem dX2_rainBehind_5 : decode cX2_rainBehind 5 = .ok (.getfield 9, 3) := by decide +kernel
theorem kf2_9 : inW (Cond.fieldLink RX2 9 "KneeOaths$Foresight" "world" "LKneeOaths$World;") := ⟨List.mem_of_getElem? (i := 439) (by decide +kernel), by decide +kernel⟩
theorem dX2_rainBehind_8 : decode cX2_rainBehind 8 = .ok (.getfield 27, 3) := by decide +kernel
theorem kf2_27 : inW (Cond.fieldLinkNest RX2 27 "KneeOaths$World" "now" "LKneeOaths$Ledger;" "KneeOaths") := ⟨List.mem_of_getElem? (i := 267) (by decide +kernel), by decide +kernel⟩
theorem dX2_rainBehind_11 : decode cX2_rainBehind 11 = .ok (.invokevirtual 32, 3) := by decide +kernel
theorem km2_32 : inW (Cond.methodLink RX2 32 yX4_takeOver) := ⟨List.mem_of_getElem? (i := 1183) (by decide +kernel), by decide +kernel⟩
theorem dX2_rainBehind_14 : decode cX2_rainBehind 14 = .ok (.iconst 0, 1) := by decide +kernel
theorem dX2_rainBehind_15 : decode cX2_rainBehind 15 = .ok (.istore_n 2, 1) := by decide +kernel
theorem dX2_rainBehind_16 : decode cX2_rainBehind 16 = .ok (.iload_n 2, 1) := by decide +kernel
theorem dX2_rainBehind_17 : decode cX2_rainBehind 17 = .ok (.iload_n 1, 1) := by decide +kernel
theorem dX2_rainBehind_18 : decode cX2_rainBehind 18 = .ok (.if_icmp .ge 26, 3) := by decide +kernel
theorem dX2_rainBehind_44 : decode cX2_rainBehind 44 = .ok (.aload_n 0, 1) := by decide +kernel
theorem dX2_rainBehind_45 : decode cX2_rainBehind 45 = .ok (.getfield 23, 3) := by decide +kernel
theorem dX2_rainBehind_48 : decode cX2_rainBehind 48 = .ok (.getfield 45, 3) := by decide +kernel
theorem kf2_45 : inW (Cond.fieldLinkNest RX2 45 "KneeOaths$Ledger" "rain" "I" "KneeOaths") := ⟨List.mem_of_getElem? (i := 174) (by decide +kernel), by decide +kernel⟩
theorem dX2_rainBehind_51 : decode cX2_rainBehind 51 = .ok (.ireturn, 1) := by decide +kernel
theorem dX2_rainBehind_21 : decode cX2_rainBehind 21 = .ok (.aload_n 0, 1) := by decide +kernel
theorem dX2_rainBehind_22 : decode cX2_rainBehind 22 = .ok (.getfield 23, 3) := by decide +kernel
theorem dX2_rainBehind_25 : decode cX2_rainBehind 25 = .ok (.invokevirtual 38, 3) := by decide +kernel
theorem km2_38 : inW (Cond.methodLink RX2 38 yX4_lastsOn) := ⟨List.mem_of_getElem? (i := 1184) (by decide +kernel), by decide +kernel⟩
theorem dX2_rainBehind_28 : decode cX2_rainBehind 28 = .ok (.ifCond .eq 16, 3) := by decide +kernel
theorem dX2_rainBehind_31 : decode cX2_rainBehind 31 = .ok (.aload_n 0, 1) := by decide +kernel
theorem dX2_rainBehind_32 : decode cX2_rainBehind 32 = .ok (.getfield 23, 3) := by decide +kernel
theorem dX2_rainBehind_35 : decode cX2_rainBehind 35 = .ok (.invokevirtual 42, 3) := by decide +kernel
theorem km2_42 : inW (Cond.methodLink RX2 42 yX4_turnDay) := ⟨List.mem_of_getElem? (i := 1185) (by decide +kernel), by decide +kernel⟩
theorem dX2_rainBehind_38 : decode cX2_rainBehind 38 = .ok (.iinc 2 1, 3) := by decide +kernel
theorem dX2_rainBehind_41 : decode cX2_rainBehind 41 = .ok (.goto (-25), 3) := by decide +kernel
theorem dX2_achesWithin_0 : decode cX2_achesWithin 0 = .ok (.aload_n 0, 1) := by decide +kernel
theorem dX2_achesWithin_1 : decode cX2_achesWithin 1 = .ok (.getfield 23, 3) := by decide +kernel
theorem dX2_achesWithin_4 : decode cX2_achesWithin 4 = .ok (.aload_n 0, 1) := by decide +kernel
theorem dX2_achesWithin_5 : decode cX2_achesWithin 5 = .ok (.getfield 9, 3) := by decide +kernel
theorem dX2_achesWithin_8 : decode cX2_achesWithin 8 = .ok (.getfield 27, 3) := by decide +kernel
theorem dX2_achesWithin_11 : decode cX2_achesWithin 11 = .ok (.invokevirtual 32, 3) := by decide +kernel
theorem dX2_achesWithin_14 : decode cX2_achesWithin 14 = .ok (.iconst 0, 1) := by decide +kernel
theorem dX2_achesWithin_15 : decode cX2_achesWithin 15 = .ok (.istore_n 3, 1) := by decide +kernel
theorem dX2_achesWithin_16 : decode cX2_achesWithin 16 = .ok (.iconst 0, 1) := by decide +kernel
theorem dX2_achesWithin_17 : decode cX2_achesWithin 17 = .ok (.istore 4, 2) := by decide +kernel
theorem dX2_achesWithin_19 : decode cX2_achesWithin 19 = .ok (.iload 4, 2) := by decide +kernel
theorem dX2_achesWithin_21 : decode cX2_achesWithin 21 = .ok (.iload_n 1, 1) := by decide +kernel
theorem dX2_achesWithin_22 : decode cX2_achesWithin 22 = .ok (.if_icmp .ge 41, 3) := by decide +kernel
theorem dX2_achesWithin_63 : decode cX2_achesWithin 63 = .ok (.iload_n 3, 1) := by decide +kernel
theorem dX2_achesWithin_64 : decode cX2_achesWithin 64 = .ok (.ireturn, 1) := by decide +kernel
theorem dX2_achesWithin_25 : decode cX2_achesWithin 25 = .ok (.aload_n 0, 1) := by decide +kernel
theorem dX2_achesWithin_26 : decode cX2_achesWithin 26 = .ok (.getfield 23, 3) := by decide +kernel
theorem dX2_achesWithin_29 : decode cX2_achesWithin 29 = .ok (.invokevirtual 38, 3) := by decide +kernel
theorem dX2_achesWithin_32 : decode cX2_achesWithin 32 = .ok (.ifCond .eq 31, 3) := by decide +kernel
theorem dX2_achesWithin_35 : decode cX2_achesWithin 35 = .ok (.iload_n 3, 1) := by decide +kernel
theorem dX2_achesWithin_36 : decode cX2_achesWithin 36 = .ok (.aload_n 0, 1) := by decide +kernel
theorem dX2_achesWithin_37 : decode cX2_achesWithin 37 = .ok (.getfield 15, 3) := by decide +kernel
theorem kf2_15 : inW (Cond.fieldLink RX2 15 "KneeOaths$Foresight" "judge" "LKneeOaths$Judge;") := ⟨List.mem_of_getElem? (i := 440) (by decide +kernel), by decide +kernel⟩
theorem dX2_achesWithin_40 : decode cX2_achesWithin 40 = .ok (.aload_n 0, 1) := by decide +kernel
theorem dX2_achesWithin_41 : decode cX2_achesWithin 41 = .ok (.getfield 23, 3) := by decide +kernel
theorem dX2_achesWithin_44 : decode cX2_achesWithin 44 = .ok (.iload_n 2, 1) := by decide +kernel
theorem dX2_achesWithin_45 : decode cX2_achesWithin 45 = .ok (.invokevirtual 49, 3) := by decide +kernel
theorem km2_49 : inW (Cond.methodLink RX2 49 yX3_acheOf) := ⟨List.mem_of_getElem? (i := 1190) (by decide +kernel), by decide +kernel⟩
theorem dX2_achesWithin_48 : decode cX2_achesWithin 48 = .ok (.iadd, 1) := by decide +kernel
theorem dX2_achesWithin_49 : decode cX2_achesWithin 49 = .ok (.istore_n 3, 1) := by decide +kernel
theorem dX2_achesWithin_50 : decode cX2_achesWithin 50 = .ok (.aload_n 0, 1) := by decide +kernel
theorem dX2_achesWithin_51 : decode cX2_achesWithin 51 = .ok (.getfield 23, 3) := by decide +kernel
theorem dX2_achesWithin_54 : decode cX2_achesWithin 54 = .ok (.invokevirtual 42, 3) := by decide +kernel
theorem dX2_achesWithin_57 : decode cX2_achesWithin 57 = .ok (.iinc 4 1, 3) := by decide +kernel
theorem dX2_achesWithin_60 : decode cX2_achesWithin 60 = .ok (.goto (-41), 3) := by decide +kernel
theorem dX2_daysToAche_0 : decode cX2_daysToAche 0 = .ok (.aload_n 0, 1) := by decide +kernel
theorem dX2_daysToAche_1 : decode cX2_daysToAche 1 = .ok (.getfield 23, 3) := by decide +kernel
theorem dX2_daysToAche_4 : decode cX2_daysToAche 4 = .ok (.aload_n 0, 1) := by decide +kernel
theorem dX2_daysToAche_5 : decode cX2_daysToAche 5 = .ok (.getfield 9, 3) := by decide +kernel
theorem dX2_daysToAche_8 : decode cX2_daysToAche 8 = .ok (.getfield 27, 3) := by decide +kernel
theorem dX2_daysToAche_11 : decode cX2_daysToAche 11 = .ok (.invokevirtual 32, 3) := by decide +kernel
theorem dX2_daysToAche_14 : decode cX2_daysToAche 14 = .ok (.iconst 1, 1) := by decide +kernel
theorem dX2_daysToAche_15 : decode cX2_daysToAche 15 = .ok (.istore_n 2, 1) := by decide +kernel
theorem dX2_daysToAche_16 : decode cX2_daysToAche 16 = .ok (.iload_n 2, 1) := by decide +kernel
theorem dX2_daysToAche_17 : decode cX2_daysToAche 17 = .ok (.bipush 60, 2) := by decide +kernel
theorem dX2_daysToAche_19 : decode cX2_daysToAche 19 = .ok (.if_icmp .gt 43, 3) := by decide +kernel
theorem dX2_daysToAche_22 : decode cX2_daysToAche 22 = .ok (.aload_n 0, 1) := by decide +kernel
theorem dX2_daysToAche_23 : decode cX2_daysToAche 23 = .ok (.getfield 23, 3) := by decide +kernel
theorem dX2_daysToAche_26 : decode cX2_daysToAche 26 = .ok (.invokevirtual 38, 3) := by decide +kernel
theorem dX2_daysToAche_29 : decode cX2_daysToAche 29 = .ok (.ifCond .eq 33, 3) := by decide +kernel
theorem dX2_daysToAche_62 : decode cX2_daysToAche 62 = .ok (.iconst (-1), 1) := by decide +kernel
theorem dX2_daysToAche_63 : decode cX2_daysToAche 63 = .ok (.ireturn, 1) := by decide +kernel
theorem dX2_daysToAche_32 : decode cX2_daysToAche 32 = .ok (.aload_n 0, 1) := by decide +kernel
theorem dX2_daysToAche_33 : decode cX2_daysToAche 33 = .ok (.getfield 15, 3) := by decide +kernel
theorem dX2_daysToAche_36 : decode cX2_daysToAche 36 = .ok (.aload_n 0, 1) := by decide +kernel
theorem dX2_daysToAche_37 : decode cX2_daysToAche 37 = .ok (.getfield 23, 3) := by decide +kernel
theorem dX2_daysToAche_40 : decode cX2_daysToAche 40 = .ok (.iload_n 1, 1) := by decide +kernel
theorem dX2_daysToAche_41 : decode cX2_daysToAche 41 = .ok (.invokevirtual 49, 3) := by decide +kernel
theorem dX2_daysToAche_44 : decode cX2_daysToAche 44 = .ok (.ifCond .le 5, 3) := by decide +kernel
theorem dX2_daysToAche_49 : decode cX2_daysToAche 49 = .ok (.aload_n 0, 1) := by decide +kernel
theorem dX2_daysToAche_50 : decode cX2_daysToAche 50 = .ok (.getfield 23, 3) := by decide +kernel
theorem dX2_daysToAche_53 : decode cX2_daysToAche 53 = .ok (.invokevirtual 42, 3) := by decide +kernel
theorem dX2_daysToAche_56 : decode cX2_daysToAche 56 = .ok (.iinc 2 1, 3) := by decide +kernel
theorem dX2_daysToAche_59 : decode cX2_daysToAche 59 = .ok (.goto (-43), 3) := by decide +kernel
theorem dX2_daysToAche_47 : decode cX2_daysToAche 47 = .ok (.iload_n 2, 1) := by decide +kernel
theorem dX2_daysToAche_48 : decode cX2_daysToAche 48 = .ok (.ireturn, 1) := by decide +kernel
theorem dX2_daysToFade_0 : decode cX2_daysToFade 0 = .ok (.aload_n 0, 1) := by decide +kernel
theorem dX2_daysToFade_1 : decode cX2_daysToFade 1 = .ok (.getfield 9, 3) := by decide +kernel
theorem dX2_daysToFade_4 : decode cX2_daysToFade 4 = .ok (.getfield 27, 3) := by decide +kernel
theorem dX2_daysToFade_7 : decode cX2_daysToFade 7 = .ok (.iload_n 1, 1) := by decide +kernel
theorem dX2_daysToFade_8 : decode cX2_daysToFade 8 = .ok (.invokevirtual 55, 3) := by decide +kernel
theorem km2_55 : inW (Cond.methodLink RX2 55 yX4_unreleased) := ⟨List.mem_of_getElem? (i := 1207) (by decide +kernel), by decide +kernel⟩
theorem dX2_daysToFade_11 : decode cX2_daysToFade 11 = .ok (.ifCond .ne 5, 3) := by decide +kernel
theorem dX2_daysToFade_16 : decode cX2_daysToFade 16 = .ok (.aload_n 0, 1) := by decide +kernel
theorem dX2_daysToFade_17 : decode cX2_daysToFade 17 = .ok (.getfield 9, 3) := by decide +kernel
theorem dX2_daysToFade_20 : decode cX2_daysToFade 20 = .ok (.getfield 27, 3) := by decide +kernel
theorem dX2_daysToFade_23 : decode cX2_daysToFade 23 = .ok (.iload_n 1, 1) := by decide +kernel
theorem dX2_daysToFade_24 : decode cX2_daysToFade 24 = .ok (.iconst 1, 1) := by decide +kernel
theorem dX2_daysToFade_25 : decode cX2_daysToFade 25 = .ok (.invokevirtual 59, 3) := by decide +kernel
theorem km2_59 : inW (Cond.methodLink RX2 59 yX4_get) := ⟨List.mem_of_getElem? (i := 1208) (by decide +kernel), by decide +kernel⟩
theorem dX2_daysToFade_28 : decode cX2_daysToFade 28 = .ok (.istore_n 2, 1) := by decide +kernel
theorem dX2_daysToFade_29 : decode cX2_daysToFade 29 = .ok (.aload_n 0, 1) := by decide +kernel
theorem dX2_daysToFade_30 : decode cX2_daysToFade 30 = .ok (.getfield 23, 3) := by decide +kernel
theorem dX2_daysToFade_33 : decode cX2_daysToFade 33 = .ok (.aload_n 0, 1) := by decide +kernel
theorem dX2_daysToFade_34 : decode cX2_daysToFade 34 = .ok (.getfield 9, 3) := by decide +kernel
theorem dX2_daysToFade_37 : decode cX2_daysToFade 37 = .ok (.getfield 27, 3) := by decide +kernel
theorem dX2_daysToFade_40 : decode cX2_daysToFade 40 = .ok (.invokevirtual 32, 3) := by decide +kernel
theorem dX2_daysToFade_43 : decode cX2_daysToFade 43 = .ok (.iconst 0, 1) := by decide +kernel
theorem dX2_daysToFade_44 : decode cX2_daysToFade 44 = .ok (.istore_n 3, 1) := by decide +kernel
theorem dX2_daysToFade_14 : decode cX2_daysToFade 14 = .ok (.iconst (-1), 1) := by decide +kernel
theorem dX2_daysToFade_15 : decode cX2_daysToFade 15 = .ok (.ireturn, 1) := by decide +kernel
theorem dX2_daysToFade_45 : decode cX2_daysToFade 45 = .ok (.iload_n 3, 1) := by decide +kernel
theorem dX2_daysToFade_46 : decode cX2_daysToFade 46 = .ok (.bipush 60, 2) := by decide +kernel
theorem dX2_daysToFade_48 : decode cX2_daysToFade 48 = .ok (.if_icmp .ge 49, 3) := by decide +kernel
theorem dX2_daysToFade_51 : decode cX2_daysToFade 51 = .ok (.aload_n 0, 1) := by decide +kernel
theorem dX2_daysToFade_52 : decode cX2_daysToFade 52 = .ok (.getfield 23, 3) := by decide +kernel
theorem dX2_daysToFade_55 : decode cX2_daysToFade 55 = .ok (.invokevirtual 38, 3) := by decide +kernel
theorem dX2_daysToFade_58 : decode cX2_daysToFade 58 = .ok (.ifCond .eq 39, 3) := by decide +kernel
theorem dX2_daysToFade_97 : decode cX2_daysToFade 97 = .ok (.aload_n 0, 1) := by decide +kernel
theorem dX2_daysToFade_98 : decode cX2_daysToFade 98 = .ok (.getfield 23, 3) := by decide +kernel
theorem dX2_daysToFade_101 : decode cX2_daysToFade 101 = .ok (.iload_n 1, 1) := by decide +kernel
theorem dX2_daysToFade_102 : decode cX2_daysToFade 102 = .ok (.invokevirtual 63, 3) := by decide +kernel
theorem km2_63 : inW (Cond.methodLink RX2 63 yX4_legible) := ⟨List.mem_of_getElem? (i := 1209) (by decide +kernel), by decide +kernel⟩
theorem dX2_daysToFade_105 : decode cX2_daysToFade 105 = .ok (.ifCond .eq 7, 3) := by decide +kernel
theorem dX2_daysToFade_112 : decode cX2_daysToFade 112 = .ok (.aload_n 0, 1) := by decide +kernel
theorem dX2_daysToFade_113 : decode cX2_daysToFade 113 = .ok (.getfield 23, 3) := by decide +kernel
theorem dX2_daysToFade_116 : decode cX2_daysToFade 116 = .ok (.getfield 72, 3) := by decide +kernel
theorem kf2_72 : inW (Cond.fieldLinkNest RX2 72 "KneeOaths$Ledger" "date" "I" "KneeOaths") := ⟨List.mem_of_getElem? (i := 171) (by decide +kernel), by decide +kernel⟩
theorem dX2_daysToFade_119 : decode cX2_daysToFade 119 = .ok (.aload_n 0, 1) := by decide +kernel
theorem dX2_daysToFade_120 : decode cX2_daysToFade 120 = .ok (.getfield 9, 3) := by decide +kernel
theorem dX2_daysToFade_123 : decode cX2_daysToFade 123 = .ok (.getfield 27, 3) := by decide +kernel
theorem dX2_daysToFade_126 : decode cX2_daysToFade 126 = .ok (.getfield 72, 3) := by decide +kernel
theorem dX2_daysToFade_129 : decode cX2_daysToFade 129 = .ok (.isub, 1) := by decide +kernel
theorem dX2_daysToFade_130 : decode cX2_daysToFade 130 = .ok (.ireturn, 1) := by decide +kernel
theorem dX2_daysToFade_108 : decode cX2_daysToFade 108 = .ok (.iconst (-1), 1) := by decide +kernel
theorem dX2_daysToFade_109 : decode cX2_daysToFade 109 = .ok (.goto 21, 3) := by decide +kernel
theorem dX2_daysToFade_61 : decode cX2_daysToFade 61 = .ok (.aload_n 0, 1) := by decide +kernel
theorem dX2_daysToFade_62 : decode cX2_daysToFade 62 = .ok (.getfield 23, 3) := by decide +kernel
theorem dX2_daysToFade_65 : decode cX2_daysToFade 65 = .ok (.iload_n 1, 1) := by decide +kernel
theorem dX2_daysToFade_66 : decode cX2_daysToFade 66 = .ok (.invokevirtual 63, 3) := by decide +kernel
theorem dX2_daysToFade_69 : decode cX2_daysToFade 69 = .ok (.ifCond .eq 28, 3) := by decide +kernel
theorem dX2_daysToFade_72 : decode cX2_daysToFade 72 = .ok (.aload_n 0, 1) := by decide +kernel
theorem dX2_daysToFade_73 : decode cX2_daysToFade 73 = .ok (.getfield 19, 3) := by decide +kernel
theorem kf2_19 : inW (Cond.fieldLink RX2 19 "KneeOaths$Foresight" "deeds" "LKneeOaths$Deeds;") := ⟨List.mem_of_getElem? (i := 441) (by decide +kernel), by decide +kernel⟩
theorem dX2_daysToFade_76 : decode cX2_daysToFade 76 = .ok (.aload_n 0, 1) := by decide +kernel
theorem dX2_daysToFade_77 : decode cX2_daysToFade 77 = .ok (.getfield 23, 3) := by decide +kernel
theorem dX2_daysToFade_80 : decode cX2_daysToFade 80 = .ok (.iload_n 2, 1) := by decide +kernel
theorem dX2_daysToFade_81 : decode cX2_daysToFade 81 = .ok (.invokevirtual 66, 3) := by decide +kernel
theorem km2_66 : inW (Cond.methodLink RX2 66 yX1_wearDown) := ⟨List.mem_of_getElem? (i := 1210) (by decide +kernel), by decide +kernel⟩
theorem dX2_daysToFade_84 : decode cX2_daysToFade 84 = .ok (.aload_n 0, 1) := by decide +kernel
theorem dX2_daysToFade_85 : decode cX2_daysToFade 85 = .ok (.getfield 23, 3) := by decide +kernel
theorem dX2_daysToFade_88 : decode cX2_daysToFade 88 = .ok (.invokevirtual 42, 3) := by decide +kernel
theorem dX2_daysToFade_91 : decode cX2_daysToFade 91 = .ok (.iinc 3 1, 3) := by decide +kernel
theorem dX2_daysToFade_94 : decode cX2_daysToFade 94 = .ok (.goto (-49), 3) := by decide +kernel
set_option maxHeartbeats 4000000 in
set_option maxRecDepth 100000 in
theorem x_X2_rainBehind {l : Launch} {G : GG}  {L : List Nat} {f : HF} {ad : Nat → Nat → Nat} {rs : RS} {fc : Int × Int} {tc w : Nat → Int × Int} {q : Nat → (Nat → Int32) → Prop} {i1 : Int32} (I : SH (spC rs fc tc w q) nnC G ad L f) (hW : WBp w 8) (hT : WBp tc 4) (hQ : QIp q) : PMi l yX2_rainBehind cX2_rainBehind 3 .int 2 0 0 G [.ref (ad 6 0), .int i1] L f (fun r L1 f1 => SH (spC rs fc tc w q) nnC G ad L1 f1) := by
  refine PMi.of (post := fun r L1 f1 => SH (spC rs fc tc w q) nnC G ad L1 f1) (own := RX2) (by decide) rfl (Nat.le_of_ble_eq_true rfl) (fun sz p e s m args below meth c A ls hA1 hname S Y hl => ?_)
  have hx := S.hx
  have hb := S.hb
  have hl : lv_has ls 3 [(0, .ref (ad 6 0)), (1, .int i1)] := hl
  have J_16 : ∀ (n16 : Nat) (y16_2 : Int32) (L_16 : List Nat) (f_16 : HF) (H : Heap) (locs : List Loc) (ls : Array Slot), (SH (spC rs fc tc w q) nnC G ad L_16 f_16) → (bn 0 2147483647 y16_2) → (((2147483647 : Int) - y16_2.toInt).toNat = n16) → (DY G A s [] L_16 f_16 H locs) → (lv_has ls 3 [(0, .ref (ad 6 0)), (1, .int i1), (2, .int y16_2)]) → W p l e (rmD 2 0 0) s m args below meth c H locs (0) (0) (MQ below (va_Qi (fun r (u : List Nat × HF) => (fun r L1 f1 => SH (spC rs fc tc w q) nnC G ad L1 f1) r u.1 u.2) (fun u t => pOut G (va_A (va_pl L f) sz) u.1 u.2 t) (va_A (va_pl L f) sz)) args s 0 0 A) (F0 m 16 ls []) := by
    intro n16
    induction n16 using Nat.strongRecOn with
    | _ n16 ih16 =>
      intro y16_2 L_16 f_16 H locs ls I b_y16_2 hm16 Y hl
      refine lv_iload_n hx hb dX2_rainBehind_16 rfl (lv_at hl 2 rfl) ?_
      refine lv_iload_n hx hb dX2_rainBehind_17 rfl (lv_at hl 1 rfl) ?_
      refine lv_icmp_ge (tgt := 44) hx hb dX2_rainBehind_18 (by decide) (fun c_21439 => ?_) (fun c_21439 => ?_)
      · refine lv_aload_n hx hb dX2_rainBehind_44 rfl (lv_at hl 0 rfl) ?_
        have p_ad_6_0 := opnC_6 (j := 0) I (by decide)
        have p_ad_6_0 : pt L_16 f_16 (ad 6 0) (.inr (2, [.ref (ad 1 0), .ref (ad 3 0), .ref (ad 5 0), .ref (ad 10 62)])) := p_ad_6_0
        refine pg_get S Y ok_X2 3 (by decide) kf2_23 (v := .ref (ad 10 62)) p_ad_6_0 rfl dX2_rainBehind_45 ?_
        obtain ⟨v_21442, v_21444, v_21446, v_21448, v_21450, p_ad_10_62, b_21443, b_21445, b_21447, b_21449, b_21451⟩ := opnC_10 (j := 62) I (by decide)
        have p_ad_10_62 : pt L_16 f_16 (ad 10 62) (.inr (4, [.ref (ad 11 62), .ref (ad 12 62), .int v_21442, .int v_21444, .int v_21446, .int v_21448, .int v_21450])) := p_ad_10_62
        refine pg_getN S Y ok_X4 5 (by decide) kf2_45 (v := .int v_21448) p_ad_10_62 rfl dX2_rainBehind_48 ?_
        exact prI (post := fun r L1 f1 => SH (spC rs fc tc w q) nnC G ad L1 f1) S Y rfl (by decide) (by decide) hA1 I dX2_rainBehind_51
      · have B_21440 : bn 1 2147483647 i1 := bn_w (bn_gtl c_21439 (bn_any i1) b_y16_2) (by decide)
        have B_21441 : bn 0 2147483646 y16_2 := bn_w (bn_gtr c_21439 (bn_any i1) b_y16_2) (by decide)
        refine lv_aload_n hx hb dX2_rainBehind_21 rfl (lv_at hl 0 rfl) ?_
        have p_ad_6_0 := opnC_6 (j := 0) I (by decide)
        have p_ad_6_0 : pt L_16 f_16 (ad 6 0) (.inr (2, [.ref (ad 1 0), .ref (ad 3 0), .ref (ad 5 0), .ref (ad 10 62)])) := p_ad_6_0
        refine pg_get S Y ok_X2 3 (by decide) kf2_23 (v := .ref (ad 10 62)) p_ad_6_0 rfl dX2_rainBehind_22 ?_
        refine cVp (As := []) (rest := []) S Y (x_X4_lastsOn (l := l) (j := 62) I hW hT hQ (by decide)) cw_X4_lastsOn km2_38 (I.opo (k := 10) (j := 62) (by decide) rfl).choose_spec.1 ok_X4.1 rfl rfl ⟨Nat.le_of_ble_eq_true rfl, Nat.le_of_ble_eq_true rfl⟩ hl.1 rfl (Nat.le_of_ble_eq_true rfl) ⟨Nat.le_of_ble_eq_true rfl, Nat.le_of_ble_eq_true rfl⟩ dX2_rainBehind_25 (fun r_21452 H locs er_21452 Y => ?_)
        refine lv_if_eq (tgt := 44) hx hb dX2_rainBehind_28 (by decide) (fun c_21453 => ?_) (fun c_21453 => ?_)
        · have B_21454 : bn 0 0 r_21452 := bn_w (bn_eq c_21453 (show bn 0 0 (0 : Int32) from bn_k (by decide))) (by decide)
          refine lv_aload_n hx hb dX2_rainBehind_44 rfl (lv_at hl 0 rfl) ?_
          refine pg_get S Y ok_X2 3 (by decide) kf2_23 (v := .ref (ad 10 62)) p_ad_6_0 rfl dX2_rainBehind_45 ?_
          obtain ⟨v_21456, v_21458, v_21460, v_21462, v_21464, p_ad_10_62, b_21457, b_21459, b_21461, b_21463, b_21465⟩ := opnC_10 (j := 62) I (by decide)
          have p_ad_10_62 : pt L_16 f_16 (ad 10 62) (.inr (4, [.ref (ad 11 62), .ref (ad 12 62), .int v_21456, .int v_21458, .int v_21460, .int v_21462, .int v_21464])) := p_ad_10_62
          refine pg_getN S Y ok_X4 5 (by decide) kf2_45 (v := .int v_21462) p_ad_10_62 rfl dX2_rainBehind_48 ?_
          exact prI (post := fun r L1 f1 => SH (spC rs fc tc w q) nnC G ad L1 f1) S Y rfl (by decide) (by decide) hA1 I dX2_rainBehind_51
        · have B_21455 : bn 1 1 r_21452 := bn_w (bn_nel c_21453 er_21452 (show bn 0 0 (0 : Int32) from bn_k (by decide))) (by decide)
          refine lv_aload_n hx hb dX2_rainBehind_31 rfl (lv_at hl 0 rfl) ?_
          refine pg_get S Y ok_X2 3 (by decide) kf2_23 (v := .ref (ad 10 62)) p_ad_6_0 rfl dX2_rainBehind_32 ?_
          refine cVv (As := []) (rest := []) S Y (x_X4_turnDay (l := l) (j := 62) I hW hT hQ (by decide)) cw_X4_turnDay km2_42 (I.opo (k := 10) (j := 62) (by decide) rfl).choose_spec.1 ok_X4.1 rfl rfl ⟨Nat.le_of_ble_eq_true rfl, Nat.le_of_ble_eq_true rfl⟩ hl.1 rfl (Nat.le_of_ble_eq_true rfl) ⟨Nat.le_of_ble_eq_true rfl, Nat.le_of_ble_eq_true rfl⟩ dX2_rainBehind_35 (fun L_21466 f_21467 H locs I Y => ?_)
          obtain ⟨x_21468, ex_21468⟩ : ∃ z : Int32, z = y16_2 + 1 := ⟨_, rfl⟩
          refine lv_iinc (v := x_21468) (lv' := [(2, .int x_21468), (0, .ref (ad 6 0)), (1, .int i1)]) hx hb dX2_rainBehind_38 hl (k := 2) rfl (by rw [ex_21468]; rfl) (by decide) rfl (fun ls hl => ?_)
          refine lv_goto (tgt := 16) hx hb dX2_rainBehind_41 (by decide) ?_
          exact ih16 _ (by rw [← hm16]; exact ms_up (m := 1) ex_21468 (show bn 1 1 (1 : Int32) from bn_k (by decide)) B_21441 (bn_w (bn_eq ex_21468 (bn_add B_21441 (show bn 1 1 (1 : Int32) from bn_k (by decide)) (by decide))) (by decide) : bn 0 2147483647 x_21468) (by decide)) x_21468 _ _  _ _ _ I (bn_w (bn_eq ex_21468 (bn_add B_21441 (show bn 1 1 (1 : Int32) from bn_k (by decide)) (by decide))) (by decide)) rfl Y (lv_sub hl [1, 2, 0] rfl)
  refine lv_aload_n hx hb dX2_rainBehind_0 rfl (lv_at hl 0 rfl) ?_
  have p_ad_6_0 := opnC_6 (j := 0) I (by decide)
  have p_ad_6_0 : pt L f (ad 6 0) (.inr (2, [.ref (ad 1 0), .ref (ad 3 0), .ref (ad 5 0), .ref (ad 10 62)])) := p_ad_6_0
  refine pg_get S Y ok_X2 3 (by decide) kf2_23 (v := .ref (ad 10 62)) p_ad_6_0 rfl dX2_rainBehind_1 ?_
  refine lv_aload_n hx hb dX2_rainBehind_4 rfl (lv_at hl 0 rfl) ?_
  refine pg_get S Y ok_X2 0 (by decide) kf2_9 (v := .ref (ad 1 0)) p_ad_6_0 rfl dX2_rainBehind_5 ?_
  obtain ⟨v_21469, v_21471, v_21473, v_21475, v_21477, p_ad_1_0, b_21470, b_21472, b_21474, b_21476, b_21478⟩ := opnC_1 (j := 0) I (by decide)
  have p_ad_1_0 : pt L f (ad 1 0) (.inr (10, [.ref (ad 40 0), .ref (ad 41 0), .ref (ad 42 0), .ref (ad 10 0), .ref (ad 43 0), .ref (ad 20 0), .ref (ad 20 1), .ref (ad 20 2), .ref (ad 20 3), .ref (ad 20 4), .int v_21469, .int v_21471, .int v_21473, .int v_21475, .int v_21477])) := p_ad_1_0
  refine pg_getN S Y ok_X10 3 (by decide) kf2_27 (v := .ref (ad 10 0)) p_ad_1_0 rfl dX2_rainBehind_8 ?_
  refine cVv (As := [.ref (ad 10 0)]) (rest := []) S Y (x_X4_takeOver (l := l) (j := 62) (i := 0) I hW hT hQ (by decide) (by decide) (by omega)) cw_X4_takeOver km2_32 (I.opo (k := 10) (j := 62) (by decide) rfl).choose_spec.1 ok_X4.1 rfl rfl ⟨Nat.le_of_ble_eq_true rfl, Nat.le_of_ble_eq_true rfl⟩ hl.1 rfl (Nat.le_of_ble_eq_true rfl) ⟨Nat.le_of_ble_eq_true rfl, Nat.le_of_ble_eq_true rfl⟩ dX2_rainBehind_11 (fun L_21479 f_21480 H locs I Y => ?_)
  refine lv_iconst (v := 0) hx hb dX2_rainBehind_14 (by decide) ?_
  refine lv_istore_n (lv' := [(2, .int 0), (0, .ref (ad 6 0)), (1, .int i1)]) hx hb dX2_rainBehind_15 rfl hl (by decide) rfl (fun ls hl => ?_)
  exact J_16 _ 0 _ _  _ _ _ I (bn_w (show bn 0 0 (0 : Int32) from bn_k (by decide)) (by decide)) rfl Y (lv_sub hl [1, 2, 0] rfl)
set_option maxHeartbeats 4000000 in
set_option maxRecDepth 100000 in
theorem x_X2_achesWithin {l : Launch} {G : GG}  {L : List Nat} {f : HF} {ad : Nat → Nat → Nat} {rs : RS} {fc : Int × Int} {tc w : Nat → Int × Int} {q : Nat → (Nat → Int32) → Prop} {i1 i2 : Int32} (I : SH (spC rs fc tc w q) nnC G ad L f) (hW : WBp w 8) (hT : WBp tc 4) (hQ : QIp q) : PMi l yX2_achesWithin cX2_achesWithin 5 .int 5 0 0 G [.ref (ad 6 0), .int i1, .int i2] L f (fun r L1 f1 => SH (spC rs fc tc w q) nnC G ad L1 f1) := by
  refine PMi.of (post := fun r L1 f1 => SH (spC rs fc tc w q) nnC G ad L1 f1) (own := RX2) (by decide) rfl (Nat.le_of_ble_eq_true rfl) (fun sz p e s m args below meth c A ls hA1 hname S Y hl => ?_)
  have hx := S.hx
  have hb := S.hb
  have hl : lv_has ls 5 [(0, .ref (ad 6 0)), (1, .int i1), (2, .int i2)] := hl
  have J_19 : ∀ (n19 : Nat) (y19_3 y19_4 : Int32) (L_19 : List Nat) (f_19 : HF) (H : Heap) (locs : List Loc) (ls : Array Slot), (SH (spC rs fc tc w q) nnC G ad L_19 f_19) → (bn 0 2147483647 y19_4) → (((2147483647 : Int) - y19_4.toInt).toNat = n19) → (DY G A s [] L_19 f_19 H locs) → (lv_has ls 5 [(0, .ref (ad 6 0)), (1, .int i1), (2, .int i2), (3, .int y19_3), (4, .int y19_4)]) → W p l e (rmD 5 0 0) s m args below meth c H locs (0) (0) (MQ below (va_Qi (fun r (u : List Nat × HF) => (fun r L1 f1 => SH (spC rs fc tc w q) nnC G ad L1 f1) r u.1 u.2) (fun u t => pOut G (va_A (va_pl L f) sz) u.1 u.2 t) (va_A (va_pl L f) sz)) args s 0 0 A) (F0 m 19 ls []) := by
    intro n19
    induction n19 using Nat.strongRecOn with
    | _ n19 ih19 =>
      intro y19_3 y19_4 L_19 f_19 H locs ls I b_y19_4 hm19 Y hl
      refine lv_iload hx hb dX2_achesWithin_19 (lv_at hl 4 rfl) ?_
      refine lv_iload_n hx hb dX2_achesWithin_21 rfl (lv_at hl 1 rfl) ?_
      refine lv_icmp_ge (tgt := 63) hx hb dX2_achesWithin_22 (by decide) (fun c_22219 => ?_) (fun c_22219 => ?_)
      · refine lv_iload_n hx hb dX2_achesWithin_63 rfl (lv_at hl 3 rfl) ?_
        exact prI (post := fun r L1 f1 => SH (spC rs fc tc w q) nnC G ad L1 f1) S Y rfl (by decide) (by decide) hA1 I dX2_achesWithin_64
      · have B_22220 : bn 1 2147483647 i1 := bn_w (bn_gtl c_22219 (bn_any i1) b_y19_4) (by decide)
        have B_22221 : bn 0 2147483646 y19_4 := bn_w (bn_gtr c_22219 (bn_any i1) b_y19_4) (by decide)
        refine lv_aload_n hx hb dX2_achesWithin_25 rfl (lv_at hl 0 rfl) ?_
        have p_ad_6_0 := opnC_6 (j := 0) I (by decide)
        have p_ad_6_0 : pt L_19 f_19 (ad 6 0) (.inr (2, [.ref (ad 1 0), .ref (ad 3 0), .ref (ad 5 0), .ref (ad 10 62)])) := p_ad_6_0
        refine pg_get S Y ok_X2 3 (by decide) kf2_23 (v := .ref (ad 10 62)) p_ad_6_0 rfl dX2_achesWithin_26 ?_
        refine cVp (As := []) (rest := []) S Y (x_X4_lastsOn (l := l) (j := 62) I hW hT hQ (by decide)) cw_X4_lastsOn km2_38 (I.opo (k := 10) (j := 62) (by decide) rfl).choose_spec.1 ok_X4.1 rfl rfl ⟨Nat.le_of_ble_eq_true rfl, Nat.le_of_ble_eq_true rfl⟩ hl.1 rfl (Nat.le_of_ble_eq_true rfl) ⟨Nat.le_of_ble_eq_true rfl, Nat.le_of_ble_eq_true rfl⟩ dX2_achesWithin_29 (fun r_22222 H locs er_22222 Y => ?_)
        refine lv_if_eq (tgt := 63) hx hb dX2_achesWithin_32 (by decide) (fun c_22223 => ?_) (fun c_22223 => ?_)
        · have B_22224 : bn 0 0 r_22222 := bn_w (bn_eq c_22223 (show bn 0 0 (0 : Int32) from bn_k (by decide))) (by decide)
          refine lv_iload_n hx hb dX2_achesWithin_63 rfl (lv_at hl 3 rfl) ?_
          exact prI (post := fun r L1 f1 => SH (spC rs fc tc w q) nnC G ad L1 f1) S Y rfl (by decide) (by decide) hA1 I dX2_achesWithin_64
        · have B_22225 : bn 1 1 r_22222 := bn_w (bn_nel c_22223 er_22222 (show bn 0 0 (0 : Int32) from bn_k (by decide))) (by decide)
          refine lv_iload_n hx hb dX2_achesWithin_35 rfl (lv_at hl 3 rfl) ?_
          refine lv_aload_n hx hb dX2_achesWithin_36 rfl (lv_at hl 0 rfl) ?_
          refine pg_get S Y ok_X2 1 (by decide) kf2_15 (v := .ref (ad 3 0)) p_ad_6_0 rfl dX2_achesWithin_37 ?_
          refine lv_aload_n hx hb dX2_achesWithin_40 rfl (lv_at hl 0 rfl) ?_
          refine pg_get S Y ok_X2 3 (by decide) kf2_23 (v := .ref (ad 10 62)) p_ad_6_0 rfl dX2_achesWithin_41 ?_
          refine lv_iload_n hx hb dX2_achesWithin_44 rfl (lv_at hl 2 rfl) ?_
          refine cVi (As := [.ref (ad 10 62), .int i2]) (rest := [.int y19_3]) S Y (x_X3_acheOf (l := l) (j := 62) I hW hT hQ (by decide)) cw_X3_acheOf km2_49 (I.opo (k := 3) (j := 0) (by decide) rfl).choose_spec.1 ok_X3.1 rfl rfl ⟨Nat.le_of_ble_eq_true rfl, Nat.le_of_ble_eq_true rfl⟩ hl.1 rfl (Nat.le_of_ble_eq_true rfl) ⟨Nat.le_of_ble_eq_true rfl, Nat.le_of_ble_eq_true rfl⟩ dX2_achesWithin_45 (fun r_22228 L_22226 f_22227 H locs I Y => ?_)
          refine lv_iadd hx hb dX2_achesWithin_48 ?_
          refine lv_topi (fun x_22229 ex_22229 => ?_)
          refine lv_istore_n (lv' := [(3, .int x_22229), (0, .ref (ad 6 0)), (1, .int i1), (2, .int i2), (4, .int y19_4)]) hx hb dX2_achesWithin_49 rfl hl (by decide) rfl (fun ls hl => ?_)
          refine lv_aload_n hx hb dX2_achesWithin_50 rfl (lv_at hl 1 rfl) ?_
          have p_ad_6_0 := opnC_6 (j := 0) I (by decide)
          have p_ad_6_0 : pt L_22226 f_22227 (ad 6 0) (.inr (2, [.ref (ad 1 0), .ref (ad 3 0), .ref (ad 5 0), .ref (ad 10 62)])) := p_ad_6_0
          refine pg_get S Y ok_X2 3 (by decide) kf2_23 (v := .ref (ad 10 62)) p_ad_6_0 rfl dX2_achesWithin_51 ?_
          refine cVv (As := []) (rest := []) S Y (x_X4_turnDay (l := l) (j := 62) I hW hT hQ (by decide)) cw_X4_turnDay km2_42 (I.opo (k := 10) (j := 62) (by decide) rfl).choose_spec.1 ok_X4.1 rfl rfl ⟨Nat.le_of_ble_eq_true rfl, Nat.le_of_ble_eq_true rfl⟩ hl.1 rfl (Nat.le_of_ble_eq_true rfl) ⟨Nat.le_of_ble_eq_true rfl, Nat.le_of_ble_eq_true rfl⟩ dX2_achesWithin_54 (fun L_22230 f_22231 H locs I Y => ?_)
          obtain ⟨x_22232, ex_22232⟩ : ∃ z : Int32, z = y19_4 + 1 := ⟨_, rfl⟩
          refine lv_iinc (v := x_22232) (lv' := [(4, .int x_22232), (3, .int x_22229), (0, .ref (ad 6 0)), (1, .int i1), (2, .int i2)]) hx hb dX2_achesWithin_57 hl (k := 4) rfl (by rw [ex_22232]; rfl) (by decide) rfl (fun ls hl => ?_)
          refine lv_goto (tgt := 19) hx hb dX2_achesWithin_60 (by decide) ?_
          exact ih19 _ (by rw [← hm19]; exact ms_up (m := 1) ex_22232 (show bn 1 1 (1 : Int32) from bn_k (by decide)) B_22221 (bn_w (bn_eq ex_22232 (bn_add B_22221 (show bn 1 1 (1 : Int32) from bn_k (by decide)) (by decide))) (by decide) : bn 0 2147483647 x_22232) (by decide)) x_22229 x_22232 _ _  _ _ _ I (bn_w (bn_eq ex_22232 (bn_add B_22221 (show bn 1 1 (1 : Int32) from bn_k (by decide)) (by decide))) (by decide)) rfl Y (lv_sub hl [2, 3, 4, 1, 0] rfl)
  refine lv_aload_n hx hb dX2_achesWithin_0 rfl (lv_at hl 0 rfl) ?_
  have p_ad_6_0 := opnC_6 (j := 0) I (by decide)
  have p_ad_6_0 : pt L f (ad 6 0) (.inr (2, [.ref (ad 1 0), .ref (ad 3 0), .ref (ad 5 0), .ref (ad 10 62)])) := p_ad_6_0
  refine pg_get S Y ok_X2 3 (by decide) kf2_23 (v := .ref (ad 10 62)) p_ad_6_0 rfl dX2_achesWithin_1 ?_
  refine lv_aload_n hx hb dX2_achesWithin_4 rfl (lv_at hl 0 rfl) ?_
  refine pg_get S Y ok_X2 0 (by decide) kf2_9 (v := .ref (ad 1 0)) p_ad_6_0 rfl dX2_achesWithin_5 ?_
  obtain ⟨v_22233, v_22235, v_22237, v_22239, v_22241, p_ad_1_0, b_22234, b_22236, b_22238, b_22240, b_22242⟩ := opnC_1 (j := 0) I (by decide)
  have p_ad_1_0 : pt L f (ad 1 0) (.inr (10, [.ref (ad 40 0), .ref (ad 41 0), .ref (ad 42 0), .ref (ad 10 0), .ref (ad 43 0), .ref (ad 20 0), .ref (ad 20 1), .ref (ad 20 2), .ref (ad 20 3), .ref (ad 20 4), .int v_22233, .int v_22235, .int v_22237, .int v_22239, .int v_22241])) := p_ad_1_0
  refine pg_getN S Y ok_X10 3 (by decide) kf2_27 (v := .ref (ad 10 0)) p_ad_1_0 rfl dX2_achesWithin_8 ?_
  refine cVv (As := [.ref (ad 10 0)]) (rest := []) S Y (x_X4_takeOver (l := l) (j := 62) (i := 0) I hW hT hQ (by decide) (by decide) (by omega)) cw_X4_takeOver km2_32 (I.opo (k := 10) (j := 62) (by decide) rfl).choose_spec.1 ok_X4.1 rfl rfl ⟨Nat.le_of_ble_eq_true rfl, Nat.le_of_ble_eq_true rfl⟩ hl.1 rfl (Nat.le_of_ble_eq_true rfl) ⟨Nat.le_of_ble_eq_true rfl, Nat.le_of_ble_eq_true rfl⟩ dX2_achesWithin_11 (fun L_22243 f_22244 H locs I Y => ?_)
  refine lv_iconst (v := 0) hx hb dX2_achesWithin_14 (by decide) ?_
  refine lv_istore_n (lv' := [(3, .int 0), (0, .ref (ad 6 0)), (1, .int i1), (2, .int i2)]) hx hb dX2_achesWithin_15 rfl hl (by decide) rfl (fun ls hl => ?_)
  refine lv_iconst (v := 0) hx hb dX2_achesWithin_16 (by decide) ?_
  refine lv_istore (lv' := [(4, .int 0), (3, .int 0), (0, .ref (ad 6 0)), (1, .int i1), (2, .int i2)]) hx hb dX2_achesWithin_17 hl (by decide) rfl (fun ls hl => ?_)
  exact J_19 _ 0 0 _ _  _ _ _ I (bn_w (show bn 0 0 (0 : Int32) from bn_k (by decide)) (by decide)) rfl Y (lv_sub hl [2, 3, 4, 1, 0] rfl)
set_option maxHeartbeats 4000000 in
set_option maxRecDepth 100000 in
theorem x_X2_daysToAche {l : Launch} {G : GG}  {L : List Nat} {f : HF} {ad : Nat → Nat → Nat} {rs : RS} {fc : Int × Int} {tc w : Nat → Int × Int} {q : Nat → (Nat → Int32) → Prop} {i1 : Int32} (I : SH (spC rs fc tc w q) nnC G ad L f) (hW : WBp w 8) (hT : WBp tc 4) (hQ : QIp q) : PMi l yX2_daysToAche cX2_daysToAche 3 .int 5 0 0 G [.ref (ad 6 0), .int i1] L f (fun r L1 f1 => SH (spC rs fc tc w q) nnC G ad L1 f1) := by
  refine PMi.of (post := fun r L1 f1 => SH (spC rs fc tc w q) nnC G ad L1 f1) (own := RX2) (by decide) rfl (Nat.le_of_ble_eq_true rfl) (fun sz p e s m args below meth c A ls hA1 hname S Y hl => ?_)
  have hx := S.hx
  have hb := S.hb
  have hl : lv_has ls 3 [(0, .ref (ad 6 0)), (1, .int i1)] := hl
  have J_16 : ∀ (n16 : Nat) (y16_2 : Int32) (L_16 : List Nat) (f_16 : HF) (H : Heap) (locs : List Loc) (ls : Array Slot), (SH (spC rs fc tc w q) nnC G ad L_16 f_16) → (bn 1 61 y16_2) → (((61 : Int) - y16_2.toInt).toNat = n16) → (DY G A s [] L_16 f_16 H locs) → (lv_has ls 3 [(0, .ref (ad 6 0)), (1, .int i1), (2, .int y16_2)]) → W p l e (rmD 5 0 0) s m args below meth c H locs (0) (0) (MQ below (va_Qi (fun r (u : List Nat × HF) => (fun r L1 f1 => SH (spC rs fc tc w q) nnC G ad L1 f1) r u.1 u.2) (fun u t => pOut G (va_A (va_pl L f) sz) u.1 u.2 t) (va_A (va_pl L f) sz)) args s 0 0 A) (F0 m 16 ls []) := by
    intro n16
    induction n16 using Nat.strongRecOn with
    | _ n16 ih16 =>
      intro y16_2 L_16 f_16 H locs ls I b_y16_2 hm16 Y hl
      refine lv_iload_n hx hb dX2_daysToAche_16 rfl (lv_at hl 2 rfl) ?_
      refine lv_bipush (v := 60) hx hb dX2_daysToAche_17 (by decide) ?_
      refine lv_icmp_gt (tgt := 62) hx hb dX2_daysToAche_19 (by decide) (fun c_22613 => ?_) (fun c_22613 => ?_)
      · have B_22614 : bn 61 61 y16_2 := bn_w (bn_ltr c_22613 (show bn 60 60 (60 : Int32) from bn_k (by decide)) b_y16_2) (by decide)
        refine lv_iconst (v := (-1)) hx hb dX2_daysToAche_62 (by decide) ?_
        exact prI (post := fun r L1 f1 => SH (spC rs fc tc w q) nnC G ad L1 f1) S Y rfl (by decide) (by decide) hA1 I dX2_daysToAche_63
      · have B_22615 : bn 1 60 y16_2 := bn_w (bn_ger c_22613 (show bn 60 60 (60 : Int32) from bn_k (by decide)) b_y16_2) (by decide)
        refine lv_aload_n hx hb dX2_daysToAche_22 rfl (lv_at hl 0 rfl) ?_
        have p_ad_6_0 := opnC_6 (j := 0) I (by decide)
        have p_ad_6_0 : pt L_16 f_16 (ad 6 0) (.inr (2, [.ref (ad 1 0), .ref (ad 3 0), .ref (ad 5 0), .ref (ad 10 62)])) := p_ad_6_0
        refine pg_get S Y ok_X2 3 (by decide) kf2_23 (v := .ref (ad 10 62)) p_ad_6_0 rfl dX2_daysToAche_23 ?_
        refine cVp (As := []) (rest := []) S Y (x_X4_lastsOn (l := l) (j := 62) I hW hT hQ (by decide)) cw_X4_lastsOn km2_38 (I.opo (k := 10) (j := 62) (by decide) rfl).choose_spec.1 ok_X4.1 rfl rfl ⟨Nat.le_of_ble_eq_true rfl, Nat.le_of_ble_eq_true rfl⟩ hl.1 rfl (Nat.le_of_ble_eq_true rfl) ⟨Nat.le_of_ble_eq_true rfl, Nat.le_of_ble_eq_true rfl⟩ dX2_daysToAche_26 (fun r_22616 H locs er_22616 Y => ?_)
        refine lv_if_eq (tgt := 62) hx hb dX2_daysToAche_29 (by decide) (fun c_22617 => ?_) (fun c_22617 => ?_)
        · have B_22618 : bn 0 0 r_22616 := bn_w (bn_eq c_22617 (show bn 0 0 (0 : Int32) from bn_k (by decide))) (by decide)
          refine lv_iconst (v := (-1)) hx hb dX2_daysToAche_62 (by decide) ?_
          exact prI (post := fun r L1 f1 => SH (spC rs fc tc w q) nnC G ad L1 f1) S Y rfl (by decide) (by decide) hA1 I dX2_daysToAche_63
        · have B_22619 : bn 1 1 r_22616 := bn_w (bn_nel c_22617 er_22616 (show bn 0 0 (0 : Int32) from bn_k (by decide))) (by decide)
          refine lv_aload_n hx hb dX2_daysToAche_32 rfl (lv_at hl 0 rfl) ?_
          refine pg_get S Y ok_X2 1 (by decide) kf2_15 (v := .ref (ad 3 0)) p_ad_6_0 rfl dX2_daysToAche_33 ?_
          refine lv_aload_n hx hb dX2_daysToAche_36 rfl (lv_at hl 0 rfl) ?_
          refine pg_get S Y ok_X2 3 (by decide) kf2_23 (v := .ref (ad 10 62)) p_ad_6_0 rfl dX2_daysToAche_37 ?_
          refine lv_iload_n hx hb dX2_daysToAche_40 rfl (lv_at hl 1 rfl) ?_
          refine cVi (As := [.ref (ad 10 62), .int i1]) (rest := []) S Y (x_X3_acheOf (l := l) (j := 62) I hW hT hQ (by decide)) cw_X3_acheOf km2_49 (I.opo (k := 3) (j := 0) (by decide) rfl).choose_spec.1 ok_X3.1 rfl rfl ⟨Nat.le_of_ble_eq_true rfl, Nat.le_of_ble_eq_true rfl⟩ hl.1 rfl (Nat.le_of_ble_eq_true rfl) ⟨Nat.le_of_ble_eq_true rfl, Nat.le_of_ble_eq_true rfl⟩ dX2_daysToAche_41 (fun r_22622 L_22620 f_22621 H locs I Y => ?_)
          refine lv_if_le (tgt := 49) hx hb dX2_daysToAche_44 (by decide) (fun c_22623 => ?_) (fun c_22623 => ?_)
          · have B_22624 : bn (-2147483648) 0 r_22622 := bn_w (bn_lel c_22623 (bn_any r_22622) (show bn 0 0 (0 : Int32) from bn_k (by decide))) (by decide)
            refine lv_aload_n hx hb dX2_daysToAche_49 rfl (lv_at hl 0 rfl) ?_
            have p_ad_6_0 := opnC_6 (j := 0) I (by decide)
            have p_ad_6_0 : pt L_22620 f_22621 (ad 6 0) (.inr (2, [.ref (ad 1 0), .ref (ad 3 0), .ref (ad 5 0), .ref (ad 10 62)])) := p_ad_6_0
            refine pg_get S Y ok_X2 3 (by decide) kf2_23 (v := .ref (ad 10 62)) p_ad_6_0 rfl dX2_daysToAche_50 ?_
            refine cVv (As := []) (rest := []) S Y (x_X4_turnDay (l := l) (j := 62) I hW hT hQ (by decide)) cw_X4_turnDay km2_42 (I.opo (k := 10) (j := 62) (by decide) rfl).choose_spec.1 ok_X4.1 rfl rfl ⟨Nat.le_of_ble_eq_true rfl, Nat.le_of_ble_eq_true rfl⟩ hl.1 rfl (Nat.le_of_ble_eq_true rfl) ⟨Nat.le_of_ble_eq_true rfl, Nat.le_of_ble_eq_true rfl⟩ dX2_daysToAche_53 (fun L_22626 f_22627 H locs I Y => ?_)
            obtain ⟨x_22628, ex_22628⟩ : ∃ z : Int32, z = y16_2 + 1 := ⟨_, rfl⟩
            refine lv_iinc (v := x_22628) (lv' := [(2, .int x_22628), (0, .ref (ad 6 0)), (1, .int i1)]) hx hb dX2_daysToAche_56 hl (k := 2) rfl (by rw [ex_22628]; rfl) (by decide) rfl (fun ls hl => ?_)
            refine lv_goto (tgt := 16) hx hb dX2_daysToAche_59 (by decide) ?_
            exact ih16 _ (by rw [← hm16]; exact ms_up (m := 1) ex_22628 (show bn 1 1 (1 : Int32) from bn_k (by decide)) B_22615 (bn_w (bn_eq ex_22628 (bn_add B_22615 (show bn 1 1 (1 : Int32) from bn_k (by decide)) (by decide))) (by decide) : bn 1 61 x_22628) (by decide)) x_22628 _ _  _ _ _ I (bn_w (bn_eq ex_22628 (bn_add B_22615 (show bn 1 1 (1 : Int32) from bn_k (by decide)) (by decide))) (by decide)) rfl Y (lv_sub hl [1, 2, 0] rfl)
          · have B_22625 : bn 1 2147483647 r_22622 := bn_w (bn_gtl c_22623 (bn_any r_22622) (show bn 0 0 (0 : Int32) from bn_k (by decide))) (by decide)
            refine lv_iload_n hx hb dX2_daysToAche_47 rfl (lv_at hl 2 rfl) ?_
            exact prI (post := fun r L1 f1 => SH (spC rs fc tc w q) nnC G ad L1 f1) S Y rfl (by decide) (by decide) hA1 I dX2_daysToAche_48
  refine lv_aload_n hx hb dX2_daysToAche_0 rfl (lv_at hl 0 rfl) ?_
  have p_ad_6_0 := opnC_6 (j := 0) I (by decide)
  have p_ad_6_0 : pt L f (ad 6 0) (.inr (2, [.ref (ad 1 0), .ref (ad 3 0), .ref (ad 5 0), .ref (ad 10 62)])) := p_ad_6_0
  refine pg_get S Y ok_X2 3 (by decide) kf2_23 (v := .ref (ad 10 62)) p_ad_6_0 rfl dX2_daysToAche_1 ?_
  refine lv_aload_n hx hb dX2_daysToAche_4 rfl (lv_at hl 0 rfl) ?_
  refine pg_get S Y ok_X2 0 (by decide) kf2_9 (v := .ref (ad 1 0)) p_ad_6_0 rfl dX2_daysToAche_5 ?_
  obtain ⟨v_22629, v_22631, v_22633, v_22635, v_22637, p_ad_1_0, b_22630, b_22632, b_22634, b_22636, b_22638⟩ := opnC_1 (j := 0) I (by decide)
  have p_ad_1_0 : pt L f (ad 1 0) (.inr (10, [.ref (ad 40 0), .ref (ad 41 0), .ref (ad 42 0), .ref (ad 10 0), .ref (ad 43 0), .ref (ad 20 0), .ref (ad 20 1), .ref (ad 20 2), .ref (ad 20 3), .ref (ad 20 4), .int v_22629, .int v_22631, .int v_22633, .int v_22635, .int v_22637])) := p_ad_1_0
  refine pg_getN S Y ok_X10 3 (by decide) kf2_27 (v := .ref (ad 10 0)) p_ad_1_0 rfl dX2_daysToAche_8 ?_
  refine cVv (As := [.ref (ad 10 0)]) (rest := []) S Y (x_X4_takeOver (l := l) (j := 62) (i := 0) I hW hT hQ (by decide) (by decide) (by omega)) cw_X4_takeOver km2_32 (I.opo (k := 10) (j := 62) (by decide) rfl).choose_spec.1 ok_X4.1 rfl rfl ⟨Nat.le_of_ble_eq_true rfl, Nat.le_of_ble_eq_true rfl⟩ hl.1 rfl (Nat.le_of_ble_eq_true rfl) ⟨Nat.le_of_ble_eq_true rfl, Nat.le_of_ble_eq_true rfl⟩ dX2_daysToAche_11 (fun L_22639 f_22640 H locs I Y => ?_)
  refine lv_iconst (v := 1) hx hb dX2_daysToAche_14 (by decide) ?_
  refine lv_istore_n (lv' := [(2, .int 1), (0, .ref (ad 6 0)), (1, .int i1)]) hx hb dX2_daysToAche_15 rfl hl (by decide) rfl (fun ls hl => ?_)
  exact J_16 _ 1 _ _  _ _ _ I (bn_w (show bn 1 1 (1 : Int32) from bn_k (by decide)) (by decide)) rfl Y (lv_sub hl [1, 2, 0] rfl)
set_option maxHeartbeats 4000000 in
set_option maxRecDepth 100000 in
theorem x_X2_daysToFade {l : Launch} {G : GG}  {L : List Nat} {f : HF} {ad : Nat → Nat → Nat} {rs : RS} {fc : Int × Int} {tc w : Nat → Int × Int} {q : Nat → (Nat → Int32) → Prop} {i1 : Int32} (I : SH (spC rs fc tc w q) nnC G ad L f) (hW : WBp w 8) (hT : WBp tc 4) (hQ : QIp q) : PMi l yX2_daysToFade cX2_daysToFade 4 .int 5 0 0 G [.ref (ad 6 0), .int i1] L f (fun r L1 f1 => SH (spC rs fc tc w q) nnC G ad L1 f1) := by
  refine PMi.of (post := fun r L1 f1 => SH (spC rs fc tc w q) nnC G ad L1 f1) (own := RX2) (by decide) rfl (Nat.le_of_ble_eq_true rfl) (fun sz p e s m args below meth c A ls hA1 hname S Y hl => ?_)
  have hx := S.hx
  have hb := S.hb
  have hl : lv_has ls 4 [(0, .ref (ad 6 0)), (1, .int i1)] := hl
  have J_45 : ∀ (n45 : Nat) (y45_2 y45_3 : Int32) (L_45 : List Nat) (f_45 : HF) (H : Heap) (locs : List Loc) (ls : Array Slot), (SH (spC rs fc tc w q) nnC G ad L_45 f_45) → (bn 0 60 y45_3) → (((60 : Int) - y45_3.toInt).toNat = n45) → (DY G A s [] L_45 f_45 H locs) → (lv_has ls 4 [(0, .ref (ad 6 0)), (1, .int i1), (2, .int y45_2), (3, .int y45_3)]) → W p l e (rmD 5 0 0) s m args below meth c H locs (0) (0) (MQ below (va_Qi (fun r (u : List Nat × HF) => (fun r L1 f1 => SH (spC rs fc tc w q) nnC G ad L1 f1) r u.1 u.2) (fun u t => pOut G (va_A (va_pl L f) sz) u.1 u.2 t) (va_A (va_pl L f) sz)) args s 0 0 A) (F0 m 45 ls []) := by
    intro n45
    induction n45 using Nat.strongRecOn with
    | _ n45 ih45 =>
      intro y45_2 y45_3 L_45 f_45 H locs ls I b_y45_3 hm45 Y hl
      refine lv_iload_n hx hb dX2_daysToFade_45 rfl (lv_at hl 3 rfl) ?_
      refine lv_bipush (v := 60) hx hb dX2_daysToFade_46 (by decide) ?_
      refine lv_icmp_ge (tgt := 97) hx hb dX2_daysToFade_48 (by decide) (fun c_24909 => ?_) (fun c_24909 => ?_)
      · have B_24910 : bn 60 60 y45_3 := bn_w (bn_ler c_24909 (show bn 60 60 (60 : Int32) from bn_k (by decide)) b_y45_3) (by decide)
        refine lv_aload_n hx hb dX2_daysToFade_97 rfl (lv_at hl 0 rfl) ?_
        have p_ad_6_0 := opnC_6 (j := 0) I (by decide)
        have p_ad_6_0 : pt L_45 f_45 (ad 6 0) (.inr (2, [.ref (ad 1 0), .ref (ad 3 0), .ref (ad 5 0), .ref (ad 10 62)])) := p_ad_6_0
        refine pg_get S Y ok_X2 3 (by decide) kf2_23 (v := .ref (ad 10 62)) p_ad_6_0 rfl dX2_daysToFade_98 ?_
        refine lv_iload_n hx hb dX2_daysToFade_101 rfl (lv_at hl 1 rfl) ?_
        refine cVp (As := [.int i1]) (rest := []) S Y (x_X4_legible (l := l) (j := 62) I hW hT hQ (by decide)) cw_X4_legible km2_63 (I.opo (k := 10) (j := 62) (by decide) rfl).choose_spec.1 ok_X4.1 rfl rfl ⟨Nat.le_of_ble_eq_true rfl, Nat.le_of_ble_eq_true rfl⟩ hl.1 rfl (Nat.le_of_ble_eq_true rfl) ⟨Nat.le_of_ble_eq_true rfl, Nat.le_of_ble_eq_true rfl⟩ dX2_daysToFade_102 (fun r_24912 H locs er_24912 Y => ?_)
        refine lv_if_eq (tgt := 112) hx hb dX2_daysToFade_105 (by decide) (fun c_24913 => ?_) (fun c_24913 => ?_)
        · have B_24914 : bn 0 0 r_24912 := bn_w (bn_eq c_24913 (show bn 0 0 (0 : Int32) from bn_k (by decide))) (by decide)
          refine lv_aload_n hx hb dX2_daysToFade_112 rfl (lv_at hl 0 rfl) ?_
          refine pg_get S Y ok_X2 3 (by decide) kf2_23 (v := .ref (ad 10 62)) p_ad_6_0 rfl dX2_daysToFade_113 ?_
          obtain ⟨v_24916, v_24918, v_24920, v_24922, v_24924, p_ad_10_62, b_24917, b_24919, b_24921, b_24923, b_24925⟩ := opnC_10 (j := 62) I (by decide)
          have p_ad_10_62 : pt L_45 f_45 (ad 10 62) (.inr (4, [.ref (ad 11 62), .ref (ad 12 62), .int v_24916, .int v_24918, .int v_24920, .int v_24922, .int v_24924])) := p_ad_10_62
          refine pg_getN S Y ok_X4 4 (by decide) kf2_72 (v := .int v_24920) p_ad_10_62 rfl dX2_daysToFade_116 ?_
          refine lv_aload_n hx hb dX2_daysToFade_119 rfl (lv_at hl 0 rfl) ?_
          refine pg_get S Y ok_X2 0 (by decide) kf2_9 (v := .ref (ad 1 0)) p_ad_6_0 rfl dX2_daysToFade_120 ?_
          obtain ⟨v_24926, v_24928, v_24930, v_24932, v_24934, p_ad_1_0, b_24927, b_24929, b_24931, b_24933, b_24935⟩ := opnC_1 (j := 0) I (by decide)
          have p_ad_1_0 : pt L_45 f_45 (ad 1 0) (.inr (10, [.ref (ad 40 0), .ref (ad 41 0), .ref (ad 42 0), .ref (ad 10 0), .ref (ad 43 0), .ref (ad 20 0), .ref (ad 20 1), .ref (ad 20 2), .ref (ad 20 3), .ref (ad 20 4), .int v_24926, .int v_24928, .int v_24930, .int v_24932, .int v_24934])) := p_ad_1_0
          refine pg_getN S Y ok_X10 3 (by decide) kf2_27 (v := .ref (ad 10 0)) p_ad_1_0 rfl dX2_daysToFade_123 ?_
          obtain ⟨v_24936, v_24938, v_24940, v_24942, v_24944, p_ad_10_0, b_24937, b_24939, b_24941, b_24943, b_24945⟩ := opnC_10 (j := 0) I (by decide)
          have p_ad_10_0 : pt L_45 f_45 (ad 10 0) (.inr (4, [.ref (ad 11 0), .ref (ad 12 0), .int v_24936, .int v_24938, .int v_24940, .int v_24942, .int v_24944])) := p_ad_10_0
          refine pg_getN S Y ok_X4 4 (by decide) kf2_72 (v := .int v_24940) p_ad_10_0 rfl dX2_daysToFade_126 ?_
          refine lv_isub hx hb dX2_daysToFade_129 ?_
          refine lv_topi (fun x_24946 ex_24946 => ?_)
          exact prI (post := fun r L1 f1 => SH (spC rs fc tc w q) nnC G ad L1 f1) S Y rfl (by decide) (by decide) hA1 I dX2_daysToFade_130
        · have B_24915 : bn 1 1 r_24912 := bn_w (bn_nel c_24913 er_24912 (show bn 0 0 (0 : Int32) from bn_k (by decide))) (by decide)
          refine lv_iconst (v := (-1)) hx hb dX2_daysToFade_108 (by decide) ?_
          refine lv_goto (tgt := 130) hx hb dX2_daysToFade_109 (by decide) ?_
          exact prI (post := fun r L1 f1 => SH (spC rs fc tc w q) nnC G ad L1 f1) S Y rfl (by decide) (by decide) hA1 I dX2_daysToFade_130
      · have B_24911 : bn 0 59 y45_3 := bn_w (bn_gtr c_24909 (show bn 60 60 (60 : Int32) from bn_k (by decide)) b_y45_3) (by decide)
        refine lv_aload_n hx hb dX2_daysToFade_51 rfl (lv_at hl 0 rfl) ?_
        have p_ad_6_0 := opnC_6 (j := 0) I (by decide)
        have p_ad_6_0 : pt L_45 f_45 (ad 6 0) (.inr (2, [.ref (ad 1 0), .ref (ad 3 0), .ref (ad 5 0), .ref (ad 10 62)])) := p_ad_6_0
        refine pg_get S Y ok_X2 3 (by decide) kf2_23 (v := .ref (ad 10 62)) p_ad_6_0 rfl dX2_daysToFade_52 ?_
        refine cVp (As := []) (rest := []) S Y (x_X4_lastsOn (l := l) (j := 62) I hW hT hQ (by decide)) cw_X4_lastsOn km2_38 (I.opo (k := 10) (j := 62) (by decide) rfl).choose_spec.1 ok_X4.1 rfl rfl ⟨Nat.le_of_ble_eq_true rfl, Nat.le_of_ble_eq_true rfl⟩ hl.1 rfl (Nat.le_of_ble_eq_true rfl) ⟨Nat.le_of_ble_eq_true rfl, Nat.le_of_ble_eq_true rfl⟩ dX2_daysToFade_55 (fun r_24947 H locs er_24947 Y => ?_)
        refine lv_if_eq (tgt := 97) hx hb dX2_daysToFade_58 (by decide) (fun c_24948 => ?_) (fun c_24948 => ?_)
        · have B_24949 : bn 0 0 r_24947 := bn_w (bn_eq c_24948 (show bn 0 0 (0 : Int32) from bn_k (by decide))) (by decide)
          refine lv_aload_n hx hb dX2_daysToFade_97 rfl (lv_at hl 0 rfl) ?_
          refine pg_get S Y ok_X2 3 (by decide) kf2_23 (v := .ref (ad 10 62)) p_ad_6_0 rfl dX2_daysToFade_98 ?_
          refine lv_iload_n hx hb dX2_daysToFade_101 rfl (lv_at hl 1 rfl) ?_
          refine cVp (As := [.int i1]) (rest := []) S Y (x_X4_legible (l := l) (j := 62) I hW hT hQ (by decide)) cw_X4_legible km2_63 (I.opo (k := 10) (j := 62) (by decide) rfl).choose_spec.1 ok_X4.1 rfl rfl ⟨Nat.le_of_ble_eq_true rfl, Nat.le_of_ble_eq_true rfl⟩ hl.1 rfl (Nat.le_of_ble_eq_true rfl) ⟨Nat.le_of_ble_eq_true rfl, Nat.le_of_ble_eq_true rfl⟩ dX2_daysToFade_102 (fun r_24951 H locs er_24951 Y => ?_)
          refine lv_if_eq (tgt := 112) hx hb dX2_daysToFade_105 (by decide) (fun c_24952 => ?_) (fun c_24952 => ?_)
          · have B_24953 : bn 0 0 r_24951 := bn_w (bn_eq c_24952 (show bn 0 0 (0 : Int32) from bn_k (by decide))) (by decide)
            refine lv_aload_n hx hb dX2_daysToFade_112 rfl (lv_at hl 0 rfl) ?_
            refine pg_get S Y ok_X2 3 (by decide) kf2_23 (v := .ref (ad 10 62)) p_ad_6_0 rfl dX2_daysToFade_113 ?_
            obtain ⟨v_24955, v_24957, v_24959, v_24961, v_24963, p_ad_10_62, b_24956, b_24958, b_24960, b_24962, b_24964⟩ := opnC_10 (j := 62) I (by decide)
            have p_ad_10_62 : pt L_45 f_45 (ad 10 62) (.inr (4, [.ref (ad 11 62), .ref (ad 12 62), .int v_24955, .int v_24957, .int v_24959, .int v_24961, .int v_24963])) := p_ad_10_62
            refine pg_getN S Y ok_X4 4 (by decide) kf2_72 (v := .int v_24959) p_ad_10_62 rfl dX2_daysToFade_116 ?_
            refine lv_aload_n hx hb dX2_daysToFade_119 rfl (lv_at hl 0 rfl) ?_
            refine pg_get S Y ok_X2 0 (by decide) kf2_9 (v := .ref (ad 1 0)) p_ad_6_0 rfl dX2_daysToFade_120 ?_
            obtain ⟨v_24965, v_24967, v_24969, v_24971, v_24973, p_ad_1_0, b_24966, b_24968, b_24970, b_24972, b_24974⟩ := opnC_1 (j := 0) I (by decide)
            have p_ad_1_0 : pt L_45 f_45 (ad 1 0) (.inr (10, [.ref (ad 40 0), .ref (ad 41 0), .ref (ad 42 0), .ref (ad 10 0), .ref (ad 43 0), .ref (ad 20 0), .ref (ad 20 1), .ref (ad 20 2), .ref (ad 20 3), .ref (ad 20 4), .int v_24965, .int v_24967, .int v_24969, .int v_24971, .int v_24973])) := p_ad_1_0
            refine pg_getN S Y ok_X10 3 (by decide) kf2_27 (v := .ref (ad 10 0)) p_ad_1_0 rfl dX2_daysToFade_123 ?_
            obtain ⟨v_24975, v_24977, v_24979, v_24981, v_24983, p_ad_10_0, b_24976, b_24978, b_24980, b_24982, b_24984⟩ := opnC_10 (j := 0) I (by decide)
            have p_ad_10_0 : pt L_45 f_45 (ad 10 0) (.inr (4, [.ref (ad 11 0), .ref (ad 12 0), .int v_24975, .int v_24977, .int v_24979, .int v_24981, .int v_24983])) := p_ad_10_0
            refine pg_getN S Y ok_X4 4 (by decide) kf2_72 (v := .int v_24979) p_ad_10_0 rfl dX2_daysToFade_126 ?_
            refine lv_isub hx hb dX2_daysToFade_129 ?_
            refine lv_topi (fun x_24985 ex_24985 => ?_)
            exact prI (post := fun r L1 f1 => SH (spC rs fc tc w q) nnC G ad L1 f1) S Y rfl (by decide) (by decide) hA1 I dX2_daysToFade_130
          · have B_24954 : bn 1 1 r_24951 := bn_w (bn_nel c_24952 er_24951 (show bn 0 0 (0 : Int32) from bn_k (by decide))) (by decide)
            refine lv_iconst (v := (-1)) hx hb dX2_daysToFade_108 (by decide) ?_
            refine lv_goto (tgt := 130) hx hb dX2_daysToFade_109 (by decide) ?_
            exact prI (post := fun r L1 f1 => SH (spC rs fc tc w q) nnC G ad L1 f1) S Y rfl (by decide) (by decide) hA1 I dX2_daysToFade_130
        · have B_24950 : bn 1 1 r_24947 := bn_w (bn_nel c_24948 er_24947 (show bn 0 0 (0 : Int32) from bn_k (by decide))) (by decide)
          refine lv_aload_n hx hb dX2_daysToFade_61 rfl (lv_at hl 0 rfl) ?_
          refine pg_get S Y ok_X2 3 (by decide) kf2_23 (v := .ref (ad 10 62)) p_ad_6_0 rfl dX2_daysToFade_62 ?_
          refine lv_iload_n hx hb dX2_daysToFade_65 rfl (lv_at hl 1 rfl) ?_
          refine cVp (As := [.int i1]) (rest := []) S Y (x_X4_legible (l := l) (j := 62) I hW hT hQ (by decide)) cw_X4_legible km2_63 (I.opo (k := 10) (j := 62) (by decide) rfl).choose_spec.1 ok_X4.1 rfl rfl ⟨Nat.le_of_ble_eq_true rfl, Nat.le_of_ble_eq_true rfl⟩ hl.1 rfl (Nat.le_of_ble_eq_true rfl) ⟨Nat.le_of_ble_eq_true rfl, Nat.le_of_ble_eq_true rfl⟩ dX2_daysToFade_66 (fun r_24986 H locs er_24986 Y => ?_)
          refine lv_if_eq (tgt := 97) hx hb dX2_daysToFade_69 (by decide) (fun c_24987 => ?_) (fun c_24987 => ?_)
          · have B_24988 : bn 0 0 r_24986 := bn_w (bn_eq c_24987 (show bn 0 0 (0 : Int32) from bn_k (by decide))) (by decide)
            refine lv_aload_n hx hb dX2_daysToFade_97 rfl (lv_at hl 0 rfl) ?_
            refine pg_get S Y ok_X2 3 (by decide) kf2_23 (v := .ref (ad 10 62)) p_ad_6_0 rfl dX2_daysToFade_98 ?_
            refine lv_iload_n hx hb dX2_daysToFade_101 rfl (lv_at hl 1 rfl) ?_
            refine cVp (As := [.int i1]) (rest := []) S Y (x_X4_legible (l := l) (j := 62) I hW hT hQ (by decide)) cw_X4_legible km2_63 (I.opo (k := 10) (j := 62) (by decide) rfl).choose_spec.1 ok_X4.1 rfl rfl ⟨Nat.le_of_ble_eq_true rfl, Nat.le_of_ble_eq_true rfl⟩ hl.1 rfl (Nat.le_of_ble_eq_true rfl) ⟨Nat.le_of_ble_eq_true rfl, Nat.le_of_ble_eq_true rfl⟩ dX2_daysToFade_102 (fun r_24990 H locs er_24990 Y => ?_)
            refine lv_if_eq (tgt := 112) hx hb dX2_daysToFade_105 (by decide) (fun c_24991 => ?_) (fun c_24991 => ?_)
            · have B_24992 : bn 0 0 r_24990 := bn_w (bn_eq c_24991 (show bn 0 0 (0 : Int32) from bn_k (by decide))) (by decide)
              refine lv_aload_n hx hb dX2_daysToFade_112 rfl (lv_at hl 0 rfl) ?_
              refine pg_get S Y ok_X2 3 (by decide) kf2_23 (v := .ref (ad 10 62)) p_ad_6_0 rfl dX2_daysToFade_113 ?_
              obtain ⟨v_24994, v_24996, v_24998, v_25000, v_25002, p_ad_10_62, b_24995, b_24997, b_24999, b_25001, b_25003⟩ := opnC_10 (j := 62) I (by decide)
              have p_ad_10_62 : pt L_45 f_45 (ad 10 62) (.inr (4, [.ref (ad 11 62), .ref (ad 12 62), .int v_24994, .int v_24996, .int v_24998, .int v_25000, .int v_25002])) := p_ad_10_62
              refine pg_getN S Y ok_X4 4 (by decide) kf2_72 (v := .int v_24998) p_ad_10_62 rfl dX2_daysToFade_116 ?_
              refine lv_aload_n hx hb dX2_daysToFade_119 rfl (lv_at hl 0 rfl) ?_
              refine pg_get S Y ok_X2 0 (by decide) kf2_9 (v := .ref (ad 1 0)) p_ad_6_0 rfl dX2_daysToFade_120 ?_
              obtain ⟨v_25004, v_25006, v_25008, v_25010, v_25012, p_ad_1_0, b_25005, b_25007, b_25009, b_25011, b_25013⟩ := opnC_1 (j := 0) I (by decide)
              have p_ad_1_0 : pt L_45 f_45 (ad 1 0) (.inr (10, [.ref (ad 40 0), .ref (ad 41 0), .ref (ad 42 0), .ref (ad 10 0), .ref (ad 43 0), .ref (ad 20 0), .ref (ad 20 1), .ref (ad 20 2), .ref (ad 20 3), .ref (ad 20 4), .int v_25004, .int v_25006, .int v_25008, .int v_25010, .int v_25012])) := p_ad_1_0
              refine pg_getN S Y ok_X10 3 (by decide) kf2_27 (v := .ref (ad 10 0)) p_ad_1_0 rfl dX2_daysToFade_123 ?_
              obtain ⟨v_25014, v_25016, v_25018, v_25020, v_25022, p_ad_10_0, b_25015, b_25017, b_25019, b_25021, b_25023⟩ := opnC_10 (j := 0) I (by decide)
              have p_ad_10_0 : pt L_45 f_45 (ad 10 0) (.inr (4, [.ref (ad 11 0), .ref (ad 12 0), .int v_25014, .int v_25016, .int v_25018, .int v_25020, .int v_25022])) := p_ad_10_0
              refine pg_getN S Y ok_X4 4 (by decide) kf2_72 (v := .int v_25018) p_ad_10_0 rfl dX2_daysToFade_126 ?_
              refine lv_isub hx hb dX2_daysToFade_129 ?_
              refine lv_topi (fun x_25024 ex_25024 => ?_)
              exact prI (post := fun r L1 f1 => SH (spC rs fc tc w q) nnC G ad L1 f1) S Y rfl (by decide) (by decide) hA1 I dX2_daysToFade_130
            · have B_24993 : bn 1 1 r_24990 := bn_w (bn_nel c_24991 er_24990 (show bn 0 0 (0 : Int32) from bn_k (by decide))) (by decide)
              refine lv_iconst (v := (-1)) hx hb dX2_daysToFade_108 (by decide) ?_
              refine lv_goto (tgt := 130) hx hb dX2_daysToFade_109 (by decide) ?_
              exact prI (post := fun r L1 f1 => SH (spC rs fc tc w q) nnC G ad L1 f1) S Y rfl (by decide) (by decide) hA1 I dX2_daysToFade_130
          · have B_24989 : bn 1 1 r_24986 := bn_w (bn_nel c_24987 er_24986 (show bn 0 0 (0 : Int32) from bn_k (by decide))) (by decide)
            refine lv_aload_n hx hb dX2_daysToFade_72 rfl (lv_at hl 0 rfl) ?_
            refine pg_get S Y ok_X2 2 (by decide) kf2_19 (v := .ref (ad 5 0)) p_ad_6_0 rfl dX2_daysToFade_73 ?_
            refine lv_aload_n hx hb dX2_daysToFade_76 rfl (lv_at hl 0 rfl) ?_
            refine pg_get S Y ok_X2 3 (by decide) kf2_23 (v := .ref (ad 10 62)) p_ad_6_0 rfl dX2_daysToFade_77 ?_
            refine lv_iload_n hx hb dX2_daysToFade_80 rfl (lv_at hl 2 rfl) ?_
            refine cVv (As := [.ref (ad 10 62), .int y45_2]) (rest := []) S Y (x_X1_wearDown (l := l) (j := 62) I hW hT hQ (by decide)) cw_X1_wearDown km2_66 (I.opo (k := 5) (j := 0) (by decide) rfl).choose_spec.1 ok_X1.1 rfl rfl ⟨Nat.le_of_ble_eq_true rfl, Nat.le_of_ble_eq_true rfl⟩ hl.1 rfl (Nat.le_of_ble_eq_true rfl) ⟨Nat.le_of_ble_eq_true rfl, Nat.le_of_ble_eq_true rfl⟩ dX2_daysToFade_81 (fun L_25025 f_25026 H locs I Y => ?_)
            refine lv_aload_n hx hb dX2_daysToFade_84 rfl (lv_at hl 0 rfl) ?_
            have p_ad_6_0 := opnC_6 (j := 0) I (by decide)
            have p_ad_6_0 : pt L_25025 f_25026 (ad 6 0) (.inr (2, [.ref (ad 1 0), .ref (ad 3 0), .ref (ad 5 0), .ref (ad 10 62)])) := p_ad_6_0
            refine pg_get S Y ok_X2 3 (by decide) kf2_23 (v := .ref (ad 10 62)) p_ad_6_0 rfl dX2_daysToFade_85 ?_
            refine cVv (As := []) (rest := []) S Y (x_X4_turnDay (l := l) (j := 62) I hW hT hQ (by decide)) cw_X4_turnDay km2_42 (I.opo (k := 10) (j := 62) (by decide) rfl).choose_spec.1 ok_X4.1 rfl rfl ⟨Nat.le_of_ble_eq_true rfl, Nat.le_of_ble_eq_true rfl⟩ hl.1 rfl (Nat.le_of_ble_eq_true rfl) ⟨Nat.le_of_ble_eq_true rfl, Nat.le_of_ble_eq_true rfl⟩ dX2_daysToFade_88 (fun L_25027 f_25028 H locs I Y => ?_)
            obtain ⟨x_25029, ex_25029⟩ : ∃ z : Int32, z = y45_3 + 1 := ⟨_, rfl⟩
            refine lv_iinc (v := x_25029) (lv' := [(3, .int x_25029), (0, .ref (ad 6 0)), (1, .int i1), (2, .int y45_2)]) hx hb dX2_daysToFade_91 hl (k := 3) rfl (by rw [ex_25029]; rfl) (by decide) rfl (fun ls hl => ?_)
            refine lv_goto (tgt := 45) hx hb dX2_daysToFade_94 (by decide) ?_
            exact ih45 _ (by rw [← hm45]; exact ms_up (m := 1) ex_25029 (show bn 1 1 (1 : Int32) from bn_k (by decide)) B_24911 (bn_w (bn_eq ex_25029 (bn_add B_24911 (show bn 1 1 (1 : Int32) from bn_k (by decide)) (by decide))) (by decide) : bn 0 60 x_25029) (by decide)) y45_2 x_25029 _ _  _ _ _ I (bn_w (bn_eq ex_25029 (bn_add B_24911 (show bn 1 1 (1 : Int32) from bn_k (by decide)) (by decide))) (by decide)) rfl Y (lv_sub hl [1, 2, 3, 0] rfl)
  refine lv_aload_n hx hb dX2_daysToFade_0 rfl (lv_at hl 0 rfl) ?_
  have p_ad_6_0 := opnC_6 (j := 0) I (by decide)
  have p_ad_6_0 : pt L f (ad 6 0) (.inr (2, [.ref (ad 1 0), .ref (ad 3 0), .ref (ad 5 0), .ref (ad 10 62)])) := p_ad_6_0
  refine pg_get S Y ok_X2 0 (by decide) kf2_9 (v := .ref (ad 1 0)) p_ad_6_0 rfl dX2_daysToFade_1 ?_
  obtain ⟨v_25030, v_25032, v_25034, v_25036, v_25038, p_ad_1_0, b_25031, b_25033, b_25035, b_25037, b_25039⟩ := opnC_1 (j := 0) I (by decide)
  have p_ad_1_0 : pt L f (ad 1 0) (.inr (10, [.ref (ad 40 0), .ref (ad 41 0), .ref (ad 42 0), .ref (ad 10 0), .ref (ad 43 0), .ref (ad 20 0), .ref (ad 20 1), .ref (ad 20 2), .ref (ad 20 3), .ref (ad 20 4), .int v_25030, .int v_25032, .int v_25034, .int v_25036, .int v_25038])) := p_ad_1_0
  refine pg_getN S Y ok_X10 3 (by decide) kf2_27 (v := .ref (ad 10 0)) p_ad_1_0 rfl dX2_daysToFade_4 ?_
  refine lv_iload_n hx hb dX2_daysToFade_7 rfl (lv_at hl 1 rfl) ?_
  refine cVp (As := [.int i1]) (rest := []) S Y (x_X4_unreleased (l := l) (j := 0) I hW hT hQ (by decide)) cw_X4_unreleased km2_55 (I.opo (k := 10) (j := 0) (by decide) rfl).choose_spec.1 ok_X4.1 rfl rfl ⟨Nat.le_of_ble_eq_true rfl, Nat.le_of_ble_eq_true rfl⟩ hl.1 rfl (Nat.le_of_ble_eq_true rfl) ⟨Nat.le_of_ble_eq_true rfl, Nat.le_of_ble_eq_true rfl⟩ dX2_daysToFade_8 (fun r_25040 H locs er_25040 Y => ?_)
  refine lv_if_ne (tgt := 16) hx hb dX2_daysToFade_11 (by decide) (fun c_25041 => ?_) (fun c_25041 => ?_)
  · have B_25042 : bn 1 1 r_25040 := bn_w (bn_nel c_25041 er_25040 (show bn 0 0 (0 : Int32) from bn_k (by decide))) (by decide)
    refine lv_aload_n hx hb dX2_daysToFade_16 rfl (lv_at hl 0 rfl) ?_
    refine pg_get S Y ok_X2 0 (by decide) kf2_9 (v := .ref (ad 1 0)) p_ad_6_0 rfl dX2_daysToFade_17 ?_
    refine pg_getN S Y ok_X10 3 (by decide) kf2_27 (v := .ref (ad 10 0)) p_ad_1_0 rfl dX2_daysToFade_20 ?_
    refine lv_iload_n hx hb dX2_daysToFade_23 rfl (lv_at hl 1 rfl) ?_
    refine lv_iconst (v := 1) hx hb dX2_daysToFade_24 (by decide) ?_
    refine cVp (As := [.int i1, .int 1]) (rest := []) S Y (x_X4_get (l := l) (j := 0) I hW hT hQ (by decide)) cw_X4_get km2_59 (I.opo (k := 10) (j := 0) (by decide) rfl).choose_spec.1 ok_X4.1 rfl rfl ⟨Nat.le_of_ble_eq_true rfl, Nat.le_of_ble_eq_true rfl⟩ hl.1 rfl (Nat.le_of_ble_eq_true rfl) ⟨Nat.le_of_ble_eq_true rfl, Nat.le_of_ble_eq_true rfl⟩ dX2_daysToFade_25 (fun r_25044 H locs er_25044 Y => ?_)
    refine lv_istore_n (lv' := [(2, .int r_25044), (0, .ref (ad 6 0)), (1, .int i1)]) hx hb dX2_daysToFade_28 rfl hl (by decide) rfl (fun ls hl => ?_)
    refine lv_aload_n hx hb dX2_daysToFade_29 rfl (lv_at hl 1 rfl) ?_
    refine pg_get S Y ok_X2 3 (by decide) kf2_23 (v := .ref (ad 10 62)) p_ad_6_0 rfl dX2_daysToFade_30 ?_
    refine lv_aload_n hx hb dX2_daysToFade_33 rfl (lv_at hl 1 rfl) ?_
    refine pg_get S Y ok_X2 0 (by decide) kf2_9 (v := .ref (ad 1 0)) p_ad_6_0 rfl dX2_daysToFade_34 ?_
    refine pg_getN S Y ok_X10 3 (by decide) kf2_27 (v := .ref (ad 10 0)) p_ad_1_0 rfl dX2_daysToFade_37 ?_
    refine cVv (As := [.ref (ad 10 0)]) (rest := []) S Y (x_X4_takeOver (l := l) (j := 62) (i := 0) I hW hT hQ (by decide) (by decide) (by omega)) cw_X4_takeOver km2_32 (I.opo (k := 10) (j := 62) (by decide) rfl).choose_spec.1 ok_X4.1 rfl rfl ⟨Nat.le_of_ble_eq_true rfl, Nat.le_of_ble_eq_true rfl⟩ hl.1 rfl (Nat.le_of_ble_eq_true rfl) ⟨Nat.le_of_ble_eq_true rfl, Nat.le_of_ble_eq_true rfl⟩ dX2_daysToFade_40 (fun L_25045 f_25046 H locs I Y => ?_)
    refine lv_iconst (v := 0) hx hb dX2_daysToFade_43 (by decide) ?_
    refine lv_istore_n (lv' := [(3, .int 0), (2, .int r_25044), (0, .ref (ad 6 0)), (1, .int i1)]) hx hb dX2_daysToFade_44 rfl hl (by decide) rfl (fun ls hl => ?_)
    exact J_45 _ r_25044 0 _ _  _ _ _ I (bn_w (show bn 0 0 (0 : Int32) from bn_k (by decide)) (by decide)) rfl Y (lv_sub hl [2, 3, 1, 0] rfl)
  · have B_25043 : bn 0 0 r_25040 := bn_w (bn_eq c_25041 (show bn 0 0 (0 : Int32) from bn_k (by decide))) (by decide)
    refine lv_iconst (v := (-1)) hx hb dX2_daysToFade_14 (by decide) ?_
    exact prI (post := fun r L1 f1 => SH (spC rs fc tc w q) nnC G ad L1 f1) S Y rfl (by decide) (by decide) hA1 I dX2_daysToFade_15
