theorem dX2_rainBehind_0 : decode cX2_rainBehind 0 = .ok (.aload_n 0, 1) := by decide +kernel
theorem dX2_rainBehind_1 : decode cX2_rainBehind 1 = .ok (.getfield 23, 3) := by decide +kernel
theorem ok_X2 : clOK 2 RX2 TX2 4 tyX2 := ⟨rfl, fun w h => ⟨(show ∀ w ∈ u_ws RX2 TX2 4, w ∈ lw_tbl by decide +kernel) w h, (show ∀ w ∈ u_ws RX2 TX2 4, gw w = true by decide +kernel) w h⟩, tyX2_ok, nmX2⟩
theorem kf2_23 : inW (Cond.fieldLink RX2 23 "KneeOaths$Foresight" "scratch" "LKneeOaths$Ledger;") := ⟨List.mem_of_getElem? (i := 442) (by decide +kernel), by decide +kernel⟩
theorem dX2_rainBehind_4 : decode cX2_rainBehind 4 = .ok (.aload_n 0, 1) := by decide +kernel
theorem dX2_rainBehind_5 : decode cX2_rainBehind 5 = .ok (.getfield 9, 3) := by decide +kernel
theorem kf2_9 : inW (Cond.fieldLink RX2 9 "KneeOaths$Foresight" "world" "LKneeOaths$World;") := ⟨List.mem_of_getElem? (i := 439) (by decide +kernel), by decide +kernel⟩
theorem dX2_rainBehind_8 : decode cX2_rainBehind 8 = .ok (.getfield 27, 3) := by decide +kernel
theorem kf2_27 : inW (Cond.fieldLinkNest RX2 27 "KneeOaths$World" "now" "LKneeOaths$Ledger;" "KneeOaths") := ⟨List.mem_of_getElem? (i := 267) (by decide +kernel), by decide +kernel⟩
theorem dX2_rainBehind_11 : decode cX2_rainBehind 11 = .ok (.invokevirtual 32, 3) := by decide +kernel
theorem km2_32 : inW (Cond.methodLink RX2 32 yX4_takeOver) := ⟨List.mem_of_getElem? (i := 1183) (by decide +kernel), by decide +kernel⟩
theorem dX2_rainBehind_14 : decode cX2_rainBehind 14 = .ok (.iconst 0, 1) := by decide +kernel
theorem dX2_rainBehind_15 : decode cX2_rainBehind 15 = .ok (.istore_n 2, 1) := by decide +kernel
theorem dX2_rainBehind_16 : decode cX2_rainBehind 16 = .ok (.iload_n 2, 1) := by decide +kernel
theorem dX2_rainBehind_17 : decode cX2_rainBehind 17 = .ok (.iload_n 1, 1) := by decide +kernel
theorem dX2_rainBehind_18 : decode cX2_rainBehind 18 = .ok (.if_icmp .ge 26, 3) := by decide +kernel
theorem dX2_rainBehind_44 : decode cX2_rainBehind 44 = .ok (.aload_n 0, 1) := by decide +kernel
theorem dX2_rainBehind_45 : decode cX2_rainBehind 45 = .ok (.getfield 23, 3) := by decide +kernel
theorem dX2_rainBehind_48 : decode cX2_rainBehind 48 = .ok (.getfield 45, 3) := by decide +kernel
theorem kf2_45 : inW (Cond.fieldLinkNest RX2 45 "KneeOaths$Ledger" "rain" "I" "KneeOaths") := ⟨List.mem_of_getElem? (i := 174) (by decide +kernel), by decide +kernel⟩
theorem dX2_rainBehind_51 : decode cX2_rainBehind 51 = .ok (.ireturn, 1) := by decide +kernel
theorem dX2_rainBehind_21 : decode cX2_rainBehind 21 = .ok (.aload_n 0, 1) := by decide +kernel
theorem dX2_rainBehind_22 : decode cX2_rainBehind 22 = .ok (.getfield 23, 3) := by decide +kernel
theorem dX2_rainBehind_25 : decode cX2_rainBehind 25 = .ok (.invokevirtual 38, 3) := by decide +kernel
theorem km2_38 : inW (Cond.methodLink RX2 38 yX4_lastsOn) := ⟨List.mem_of_getElem? (i := 1184) (by decide +kernel), by decide +kernel⟩
theorem dX2_rainBehind_28 : decode cX2_rainBehind 28 = .ok (.ifCond .eq 16, 3) := by decide +kernel
theorem dX2_rainBehind_31 : decode cX2_rainBehind 31 = .ok (.aload_n 0, 1) := by decide +kernel
theorem dX2_rainBehind_32 : decode cX2_rainBehind 32 = .ok (.getfield 23, 3) := by decide +kernel
theorem dX2_rainBehind_35 : decode cX2_rainBehind 35 = .ok (.invokevirtual 42, 3) := by decide +kernel
theorem km2_42 : inW (Cond.methodLink RX2 42 yX4_turnDay) := ⟨List.mem_of_getElem? (i := 1185) (by decide +kernel), by decide +kernel⟩
theorem dX2_rainBehind_38 : decode cX2_rainBehind 38 = .ok (.iinc 2 1, 3) := by decide +kernel
theorem dX2_rainBehind_41 : decode cX2_rainBehind 41 = .ok (.goto (-25), 3) := by decide +kernel
theorem dX2_achesWithin_0 : decode cX2_achesWithin 0 = .ok (.aload_n 0, 1) := by decide +kernel
theorem dX2_achesWithin_1 : decode cX2_achesWithin 1 = .ok (.getfield 23, 3) := by decide +kernel
theorem dX2_achesWithin_4 : decode cX2_achesWithin 4 = .ok (.aload_n 0, 1) := by decide +kernel
theorem dX2_achesWithin_5 : decode cX2_achesWithin 5 = .ok (.getfield 9, 3) := by decide +kernel
theorem dX2_achesWithin_8 : decode cX2_achesWithin 8 = .ok (.getfield 27, 3) := by decide +kernel
theorem dX2_achesWithin_11 : decode cX2_achesWithin 11 = .ok (.invokevirtual 32, 3) := by decide +kernel
theorem dX2_achesWithin_14 : decode cX2_achesWithin 14 = .ok (.iconst 0, 1) := by decide +kernel
theorem dX2_achesWithin_15 : decode cX2_achesWithin 15 = .ok (.istore_n 3, 1) := by decide +kernel
theorem dX2_achesWithin_16 : decode cX2_achesWithin 16 = .ok (.iconst 0, 1) := by decide +kernel
theorem dX2_achesWithin_17 : decode cX2_achesWithin 17 = .ok (.istore 4, 2) := by decide +kernel
theorem dX2_achesWithin_19 : decode cX2_achesWithin 19 = .ok (.iload 4, 2) := by decide +kernel
theorem dX2_achesWithin_21 : decode cX2_achesWithin 21 = .ok (.iload_n 1, 1) := by decide +kernel
theorem dX2_achesWithin_22 : decode cX2_achesWithin 22 = .ok (.if_icmp .ge 41, 3) := by decide +kernel
theorem dX2_achesWithin_63 : decode cX2_achesWithin 63 = .ok (.iload_n 3, 1) := by decide +kernel
theorem dX2_achesWithin_64 : decode cX2_achesWithin 64 = .ok (.ireturn, 1) := by decide +kernel
theorem dX2_achesWithin_25 : decode cX2_achesWithin 25 = .ok (.aload_n 0, 1) := by decide +kernel
theorem dX2_achesWithin_26 : decode cX2_achesWithin 26 = .ok (.getfield 23, 3) := by decide +kernel
theorem dX2_achesWithin_29 : decode cX2_achesWithin 29 = .ok (.invokevirtual 38, 3) := by decide +kernel
theorem dX2_achesWithin_32 : decode cX2_achesWithin 32 = .ok (.ifCond .eq 31, 3) := by decide +kernel
theorem dX2_achesWithin_35 : decode cX2_achesWithin 35 = .ok (.iload_n 3, 1) := by decide +kernel
theorem dX2_achesWithin_36 : decode cX2_achesWithin 36 = .ok (.aload_n 0, 1) := by decide +kernel
theorem dX2_achesWithin_37 : decode cX2_achesWithin 37 = .ok (.getfield 15, 3) := by decide +kernel
theorem kf2_15 : inW (Cond.fieldLink RX2 15 "KneeOaths$Foresight" "judge" "LKneeOaths$Judge;") := ⟨List.mem_of_getElem? (i := 440) (by decide +kernel), by decide +kernel⟩
theorem dX2_achesWithin_40 : decode cX2_achesWithin 40 = .ok (.aload_n 0, 1) := by decide +kernel
theorem dX2_achesWithin_41 : decode cX2_achesWithin 41 = .ok (.getfield 23, 3) := by decide +kernel
theorem dX2_achesWithin_44 : decode cX2_achesWithin 44 = .ok (.iload_n 2, 1) := by decide +kernel
theorem dX2_achesWithin_45 : decode cX2_achesWithin 45 = .ok (.invokevirtual 49, 3) := by decide +kernel
theorem km2_49 : inW (Cond.methodLink RX2 49 yX3_acheOf) := ⟨List.mem_of_getElem? (i := 1190) (by decide +kernel), by decide +kernel⟩
theorem dX2_achesWithin_48 : decode cX2_achesWithin 48 = .ok (.iadd, 1) := by decide +kernel
theorem dX2_achesWithin_49 : decode cX2_achesWithin 49 = .ok (.istore_n 3, 1) := by decide +kernel
theorem dX2_achesWithin_50 : decode cX2_achesWithin 50 = .ok (.aload_n 0, 1) := by decide +kernel
theorem dX2_achesWithin_51 : decode cX2_achesWithin 51 = .ok (.getfield 23, 3) := by decide +kernel
theorem dX2_achesWithin_54 : decode cX2_achesWithin 54 = .ok (.invokevirtual 42, 3) := by decide +kernel
theorem dX2_achesWithin_57 : decode cX2_achesWithin 57 = .ok (.iinc 4 1, 3) := by decide +kernel
theorem dX2_achesWithin_60 : decode cX2_achesWithin 60 = .ok (.goto (-41), 3) := by decide +kernel
theorem dX2_daysToAche_0 : decode cX2_daysToAche 0 = .ok (.aload_n 0, 1) := by decide +kernel
theorem dX2_daysToAche_1 : decode cX2_daysToAche 1 = .ok (.getfield 23, 3) := by decide +kernel
theorem dX2_daysToAche_4 : decode cX2_daysToAche 4 = .ok (.aload_n 0, 1) := by decide +kernel
theorem dX2_daysToAche_5 : decode cX2_daysToAche 5 = .ok (.getfield 9, 3) := by decide +kernel
theorem dX2_daysToAche_8 : decode cX2_daysToAche 8 = .ok (.getfield 27, 3) := by decide +kernel
theorem dX2_daysToAche_11 : decode cX2_daysToAche 11 = .ok (.invokevirtual 32, 3) := by decide +kernel
theorem dX2_daysToAche_14 : decode cX2_daysToAche 14 = .ok (.iconst 1, 1) := by decide +kernel
theorem dX2_daysToAche_15 : decode cX2_daysToAche 15 = .ok (.istore_n 2, 1) := by decide +kernel
theorem dX2_daysToAche_16 : decode cX2_daysToAche 16 = .ok (.iload_n 2, 1) := by decide +kernel
theorem dX2_daysToAche_17 : decode cX2_daysToAche 17 = .ok (.bipush 60, 2) := by decide +kernel
theorem dX2_daysToAche_19 : decode cX2_daysToAche 19 = .ok (.if_icmp .gt 43, 3) := by decide +kernel
theorem dX2_daysToAche_22 : decode cX2_daysToAche 22 = .ok (.aload_n 0, 1) := by decide +kernel
theorem dX2_daysToAche_23 : decode cX2_daysToAche 23 = .ok (.getfield 23, 3) := by decide +kernel
theorem dX2_daysToAche_26 : decode cX2_daysToAche 26 = .ok (.invokevirtual 38, 3) := by decide +kernel
theorem dX2_daysToAche_29 : decode cX2_daysToAche 29 = .ok (.ifCond .eq 33, 3) := by decide +kernel
theorem dX2_daysToAche_62 : decode cX2_daysToAche 62 = .ok (.iconst (-1), 1) := by decide +kernel
theorem dX2_daysToAche_63 : decode cX2_daysToAche 63 = .ok (.ireturn, 1) := by decide +kernel
theorem dX2_daysToAche_32 : decode cX2_daysToAche 32 = .ok (.aload_n 0, 1) := by decide +kernel
theorem dX2_daysToAche_33 : decode cX2_daysToAche 33 = .ok (.getfield 15, 3) := by decide +kernel
theorem dX2_daysToAche_36 : decode cX2_daysToAche 36 = .ok (.aload_n 0, 1) := by decide +kernel
theorem dX2_daysToAche_37 : decode cX2_daysToAche 37 = .ok (.getfield 23, 3) := by decide +kernel
theorem dX2_daysToAche_40 : decode cX2_daysToAche 40 = .ok (.iload_n 1, 1) := by decide +kernel
theorem dX2_daysToAche_41 : decode cX2_daysToAche 41 = .ok (.invokevirtual 49, 3) := by decide +kernel
theorem dX2_daysToAche_44 : decode cX2_daysToAche 44 = .ok (.ifCond .le 5, 3) := by decide +kernel
theorem dX2_daysToAche_49 : decode cX2_daysToAche 49 = .ok (.aload_n 0, 1) := by decide +kernel
theorem dX2_daysToAche_50 : decode cX2_daysToAche 50 = .ok (.getfield 23, 3) := by decide +kernel
theorem dX2_daysToAche_53 : decode cX2_daysToAche 53 = .ok (.invokevirtual 42, 3) := by decide +kernel
theorem dX2_daysToAche_56 : decode cX2_daysToAche 56 = .ok (.iinc 2 1, 3) := by decide +kernel
theorem dX2_daysToAche_59 : decode cX2_daysToAche 59 = .ok (.goto (-43), 3) := by decide +kernel
theorem dX2_daysToAche_47 : decode cX2_daysToAche 47 = .ok (.iload_n 2, 1) := by decide +kernel
theorem dX2_daysToAche_48 : decode cX2_daysToAche 48 = .ok (.ireturn, 1) := by decide +kernel
theorem dX2_daysToFade_0 : decode cX2_daysToFade 0 = .ok (.aload_n 0, 1) := by decide +kernel
theorem dX2_daysToFade_1 : decode cX2_daysToFade 1 = .ok (.getfield 9, 3) := by decide +kernel
theorem dX2_daysToFade_4 : decode cX2_daysToFade 4 = .ok (.getfield 27, 3) := by decide +kernel
theorem dX2_daysToFade_7 : decode cX2_daysToFade 7 = .ok (.iload_n 1, 1) := by decide +kernel
theorem dX2_daysToFade_8 : decode cX2_daysToFade 8 = .ok (.invokevirtual 55, 3) := by decide +kernel
theorem km2_55 : inW (Cond.methodLink RX2 55 yX4_unreleased) := ⟨List.mem_of_getElem? (i := 1207) (by decide +kernel), by decide +kernel⟩
theorem dX2_daysToFade_11 : decode cX2_daysToFade 11 = .ok (.ifCond .ne 5, 3) := by decide +kernel
theorem dX2_daysToFade_16 : decode cX2_daysToFade 16 = .ok (.aload_n 0, 1) := by decide +kernel
theorem dX2_daysToFade_17 : decode cX2_daysToFade 17 = .ok (.getfield 9, 3) := by decide +kernel
theorem dX2_daysToFade_20 : decode cX2_daysToFade 20 = .ok (.getfield 27, 3) := by decide +kernel
theorem dX2_daysToFade_23 : decode cX2_daysToFade 23 = .ok (.iload_n 1, 1) := by decide +kernel
theorem dX2_daysToFade_24 : decode cX2_daysToFade 24 = .ok (.iconst 1, 1) := by decide +kernel
theorem dX2_daysToFade_25 : decode cX2_daysToFade 25 = .ok (.invokevirtual 59, 3) := by decide +kernel
theorem km2_59 : inW (Cond.methodLink RX2 59 yX4_get) := ⟨List.mem_of_getElem? (i := 1208) (by decide +kernel), by decide +kernel⟩
theorem dX2_daysToFade_28 : decode cX2_daysToFade 28 = .ok (.istore_n 2, 1) := by decide +kernel
theorem dX2_daysToFade_29 : decode cX2_daysToFade 29 = .ok (.aload_n 0, 1) := by decide +kernel
theorem dX2_daysToFade_30 : decode cX2_daysToFade 30 = .ok (.getfield 23, 3) := by decide +kernel
theorem dX2_daysToFade_33 : decode cX2_daysToFade 33 = .ok (.aload_n 0, 1) := by decide +kernel
theorem dX2_daysToFade_34 : decode cX2_daysToFade 34 = .ok (.getfield 9, 3) := by decide +kernel
theorem dX2_daysToFade_37 : decode cX2_daysToFade 37 = .ok (.getfield 27, 3) := by decide +kernel
theorem dX2_daysToFade_40 : decode cX2_daysToFade 40 = .ok (.invokevirtual 32, 3) := by decide +kernel
theorem dX2_daysToFade_43 : decode cX2_daysToFade 43 = .ok (.iconst 0, 1) := by decide +kernel
theorem dX2_daysToFade_44 : decode cX2_daysToFade 44 = .ok (.istore_n 3, 1) := by decide +kernel
theorem dX2_daysToFade_14 : decode cX2_daysToFade 14 = .ok (.iconst (-1), 1) := by decide +kernel
theorem dX2_daysToFade_15 : decode cX2_daysToFade 15 = .ok (.ireturn, 1) := by decide +kernel
theorem dX2_daysToFade_45 : decode cX2_daysToFade 45 = .ok (.iload_n 3, 1) := by decide +kernel
theorem dX2_daysToFade_46 : decode cX2_daysToFade 46 = .ok (.bipush 60, 2) := by decide +kernel
theorem dX2_daysToFade_48 : decode cX2_daysToFade 48 = .ok (.if_icmp .ge 49, 3) := by decide +kernel
theorem dX2_daysToFade_51 : decode cX2_daysToFade 51 = .ok (.aload_n 0, 1) := by decide +kernel
theorem dX2_daysToFade_52 : decode cX2_daysToFade 52 = .ok (.getfield 23, 3) := by decide +kernel
theorem dX2_daysToFade_55 : decode cX2_daysToFade 55 = .ok (.invokevirtual 38, 3) := by decide +kernel
theorem dX2_daysToFade_58 : decode cX2_daysToFade 58 = .ok (.ifCond .eq 39, 3) := by decide +kernel
theorem dX2_daysToFade_97 : decode cX2_daysToFade 97 = .ok (.aload_n 0, 1) := by decide +kernel
theorem dX2_daysToFade_98 : decode cX2_daysToFade 98 = .ok (.getfield 23, 3) := by decide +kernel
theorem dX2_daysToFade_101 : decode cX2_daysToFade 101 = .ok (.iload_n 1, 1) := by decide +kernel
theorem dX2_daysToFade_102 : decode cX2_daysToFade 102 = .ok (.invokevirtual 63, 3) := by decide +kernel
theorem km2_63 : inW (Cond.methodLink RX2 63 yX4_legible) := ⟨List.mem_of_getElem? (i := 1209) (by decide +kernel), by decide +kernel⟩
theorem dX2_daysToFade_105 : decode cX2_daysToFade 105 = .ok (.ifCond .eq 7, 3) := by decide +kernel
theorem dX2_daysToFade_112 : decode cX2_daysToFade 112 = .ok (.aload_n 0, 1) := by decide +kernel
theorem dX2_daysToFade_113 : decode cX2_daysToFade 113 = .ok (.getfield 23, 3) := by decide +kernel
theorem dX2_daysToFade_116 : decode cX2_daysToFade 116 = .ok (.getfield 72, 3) := by decide +kernel
theorem kf2_72 : inW (Cond.fieldLinkNest RX2 72 "KneeOaths$Ledger" "date" "I" "KneeOaths") := ⟨List.mem_of_getElem? (i := 171) (by decide +kernel), by decide +kernel⟩
theorem dX2_daysToFade_119 : decode cX2_daysToFade 119 = .ok (.aload_n 0, 1) := by decide +kernel
theorem dX2_daysToFade_120 : decode cX2_daysToFade 120 = .ok (.getfield 9, 3) := by decide +kernel
theorem dX2_daysToFade_123 : decode cX2_daysToFade 123 = .ok (.getfield 27, 3) := by decide +kernel
theorem dX2_daysToFade_126 : decode cX2_daysToFade 126 = .ok (.getfield 72, 3) := by decide +kernel
theorem dX2_daysToFade_129 : decode cX2_daysToFade 129 = .ok (.isub, 1) := by decide +kernel
theorem dX2_daysToFade_130 : decode cX2_daysToFade 130 = .ok (.ireturn, 1) := by decide +kernel
theorem dX2_daysToFade_108 : decode cX2_daysToFade 108 = .ok (.iconst (-1), 1) := by decide +kernel
theorem dX2_daysToFade_109 : decode cX2_daysToFade 109 = .ok (.goto 21, 3) := by decide +kernel
theorem dX2_daysToFade_61 : decode cX2_daysToFade 61 = .ok (.aload_n 0, 1) := by decide +kernel
theorem dX2_daysToFade_62 : decode cX2_daysToFade 62 = .ok (.getfield 23, 3) := by decide +kernel
theorem dX2_daysToFade_65 : decode cX2_daysToFade 65 = .ok (.iload_n 1, 1) := by decide +kernel
theorem dX2_daysToFade_66 : decode cX2_daysToFade 66 = .ok (.invokevirtual 63, 3) := by decide +kernel
theorem dX2_daysToFade_69 : decode cX2_daysToFade 69 = .ok (.ifCond .eq 28, 3) := by decide +kernel
theorem dX2_daysToFade_72 : decode cX2_daysToFade 72 = .ok (.aload_n 0, 1) := by decide +kernel
theorem dX2_daysToFade_73 : decode cX2_daysToFade 73 = .ok (.getfield 19, 3) := by decide +kernel
theorem kf2_19 : inW (Cond.fieldLink RX2 19 "KneeOaths$Foresight" "deeds" "LKneeOaths$Deeds;") := ⟨List.mem_of_getElem? (i := 441) (by decide +kernel), by decide +kernel⟩
theorem dX2_daysToFade_76 : decode cX2_daysToFade 76 = .ok (.aload_n 0, 1) := by decide +kernel
theorem dX2_daysToFade_77 : decode cX2_daysToFade 77 = .ok (.getfield 23, 3) := by decide +kernel
theorem dX2_daysToFade_80 : decode cX2_daysToFade 80 = .ok (.iload_n 2, 1) := by decide +kernel
theorem dX2_daysToFade_81 : decode cX2_daysToFade 81 = .ok (.invokevirtual 66, 3) := by decide +kernel
theorem km2_66 : inW (Cond.methodLink RX2 66 yX1_wearDown) := ⟨List.mem_of_getElem? (i := 1210) (by decide +kernel), by decide +kernel⟩
theorem dX2_daysToFade_84 : decode cX2_daysToFade 84 = .ok (.aload_n 0, 1) := by decide +kernel
theorem dX2_daysToFade_85 : decode cX2_daysToFade 85 = .ok (.getfield 23, 3) := by decide +kernel
theorem dX2_daysToFade_88 : decode cX2_daysToFade 88 = .ok (.invokevirtual 42, 3) := by decide +kernel
theorem dX2_daysToFade_91 : decode cX2_daysToFade 91 = .ok (.iinc 3 1, 3) := by decide +kernel
theorem dX2_daysToFade_94 : decode cX2_daysToFade 94 = .ok (.goto (-49), 3) := by decide +kernel
set_option maxHeartbeats 4000000 in
set_option maxRecDepth 100000 in
theorem x_X2_rainBehind {l : Launch} {G : GG}  {L : List Nat} {f : HF} {ad : Nat → Nat → Nat} {rs : FS} {fc : Int × Int} {tc w : Nat → Int × Int} {q : Nat → (Nat → Int32) → Prop} {i1 : Int32} (I : SH (spC rs fc tc w q) nnC G ad L f) (hW : WBp w 8) (hT : WBp tc 4) (hQ : QIp q) : PMi l yX2_rainBehind cX2_rainBehind 3 .int 2 0 0 G [.ref (ad 6 0), .int i1] L f (fun r L1 f1 => SH (spC rs fc tc w q) nnC G ad L1 f1) := by
  refine PMi.of (post := fun r L1 f1 => SH (spC rs fc tc w q) nnC G ad L1 f1) (own := RX2) (by decide) rfl (Nat.le_of_ble_eq_true rfl) (fun sz p e s m args below meth c A ls hA1 hname S Y hl => ?_)
  have hx := S.hx
  have hb := S.hb
  have hl : lv_has ls 3 [(0, .ref (ad 6 0)), (1, .int i1)] := hl
  have J_16 : ∀ (n16 : Nat) (y16_2 : Int32) (L_16 : List Nat) (f_16 : HF) (H : Heap) (locs : List Loc) (ls : Array Slot), (SH (spC rs fc tc w q) nnC G ad L_16 f_16) → (bn 0 2147483647 y16_2) → (((2147483647 : Int) - y16_2.toInt).toNat = n16) → (DY G A s [] L_16 f_16 H locs) → (lv_has ls 3 [(0, .ref (ad 6 0)), (1, .int i1), (2, .int y16_2)]) → W p l e (rmD 2 0 0) s m args below meth c H locs (0) (0) (MQ below (va_Qi (fun r (u : List Nat × HF) => (fun r L1 f1 => SH (spC rs fc tc w q) nnC G ad L1 f1) r u.1 u.2) (fun u t => pOut G (va_A (va_pl L f) sz) u.1 u.2 t) (va_A (va_pl L f) sz)) args s 0 0 A) (F0 m 16 ls []) := by
    intro n16
    induction n16 using Nat.strongRecOn with
    | _ n16 ih16 =>
      intro y16_2 L_16 f_16 H locs ls I b_y16_2 hm16 Y hl
      refine lv_iload_n hx hb dX2_rainBehind_16 rfl (lv_at hl 2 rfl) ?_
      refine lv_iload_n hx hb dX2_rainBehind_17 rfl (lv_at hl 1 rfl) ?_
      refine lv_icmp_ge (tgt := 44) hx hb dX2_rainBehind_18 (by decide) (fun c_21280 => ?_) (fun c_21280 => ?_)
      · refine lv_aload_n hx hb dX2_rainBehind_44 rfl (lv_at hl 0 rfl) ?_
        have p_ad_6_0 := opnC_6 (j := 0) I (by decide)
        have p_ad_6_0 : pt L_16 f_16 (ad 6 0) (.inr (2, [.ref (ad 1 0), .ref (ad 3 0), .ref (ad 5 0), .ref (ad 10 62)])) := p_ad_6_0
        refine pg_get S Y ok_X2 3 (by decide) kf2_23 (v := .ref (ad 10 62)) p_ad_6_0 rfl dX2_rainBehind_45 ?_
        obtain ⟨v_21283, v_21285, v_21287, v_21289, v_21291, p_ad_10_62, b_21284, b_21286, b_21288, b_21290, b_21292⟩ := opnC_10 (j := 62) I (by decide)
        have p_ad_10_62 : pt L_16 f_16 (ad 10 62) (.inr (4, [.ref (ad 11 62), .ref (ad 12 62), .int v_21283, .int v_21285, .int v_21287, .int v_21289, .int v_21291])) := p_ad_10_62
        refine pg_getN S Y ok_X4 5 (by decide) kf2_45 (v := .int v_21289) p_ad_10_62 rfl dX2_rainBehind_48 ?_
        exact prI (post := fun r L1 f1 => SH (spC rs fc tc w q) nnC G ad L1 f1) S Y rfl (by decide) (by decide) hA1 I dX2_rainBehind_51
      · have B_21281 : bn 1 2147483647 i1 := bn_w (bn_gtl c_21280 (bn_any i1) b_y16_2) (by decide)
        have B_21282 : bn 0 2147483646 y16_2 := bn_w (bn_gtr c_21280 (bn_any i1) b_y16_2) (by decide)
        refine lv_aload_n hx hb dX2_rainBehind_21 rfl (lv_at hl 0 rfl) ?_
        have p_ad_6_0 := opnC_6 (j := 0) I (by decide)
        have p_ad_6_0 : pt L_16 f_16 (ad 6 0) (.inr (2, [.ref (ad 1 0), .ref (ad 3 0), .ref (ad 5 0), .ref (ad 10 62)])) := p_ad_6_0
        refine pg_get S Y ok_X2 3 (by decide) kf2_23 (v := .ref (ad 10 62)) p_ad_6_0 rfl dX2_rainBehind_22 ?_
        refine cVp (As := []) (rest := []) S Y (x_X4_lastsOn (l := l) (j := 62) I hW hT hQ (by decide)) cw_X4_lastsOn km2_38 (I.opo (k := 10) (j := 62) (by decide) rfl).choose_spec.1 ok_X4.1 rfl rfl ⟨Nat.le_of_ble_eq_true rfl, Nat.le_of_ble_eq_true rfl⟩ hl.1 rfl (Nat.le_of_ble_eq_true rfl) ⟨Nat.le_of_ble_eq_true rfl, Nat.le_of_ble_eq_true rfl⟩ dX2_rainBehind_25 (fun r_21293 H locs er_21293 Y => ?_)
        refine lv_if_eq (tgt := 44) hx hb dX2_rainBehind_28 (by decide) (fun c_21294 => ?_) (fun c_21294 => ?_)
        · have B_21295 : bn 0 0 r_21293 := bn_w (bn_eq c_21294 (show bn 0 0 (0 : Int32) from bn_k (by decide))) (by decide)
          refine lv_aload_n hx hb dX2_rainBehind_44 rfl (lv_at hl 0 rfl) ?_
          refine pg_get S Y ok_X2 3 (by decide) kf2_23 (v := .ref (ad 10 62)) p_ad_6_0 rfl dX2_rainBehind_45 ?_
          obtain ⟨v_21297, v_21299, v_21301, v_21303, v_21305, p_ad_10_62, b_21298, b_21300, b_21302, b_21304, b_21306⟩ := opnC_10 (j := 62) I (by decide)
          have p_ad_10_62 : pt L_16 f_16 (ad 10 62) (.inr (4, [.ref (ad 11 62), .ref (ad 12 62), .int v_21297, .int v_21299, .int v_21301, .int v_21303, .int v_21305])) := p_ad_10_62
          refine pg_getN S Y ok_X4 5 (by decide) kf2_45 (v := .int v_21303) p_ad_10_62 rfl dX2_rainBehind_48 ?_
          exact prI (post := fun r L1 f1 => SH (spC rs fc tc w q) nnC G ad L1 f1) S Y rfl (by decide) (by decide) hA1 I dX2_rainBehind_51
        · have B_21296 : bn 1 1 r_21293 := bn_w (bn_nel c_21294 er_21293 (show bn 0 0 (0 : Int32) from bn_k (by decide))) (by decide)
          refine lv_aload_n hx hb dX2_rainBehind_31 rfl (lv_at hl 0 rfl) ?_
          refine pg_get S Y ok_X2 3 (by decide) kf2_23 (v := .ref (ad 10 62)) p_ad_6_0 rfl dX2_rainBehind_32 ?_
          refine cVv (As := []) (rest := []) S Y (x_X4_turnDay (l := l) (j := 62) I hW hT hQ (by decide)) cw_X4_turnDay km2_42 (I.opo (k := 10) (j := 62) (by decide) rfl).choose_spec.1 ok_X4.1 rfl rfl ⟨Nat.le_of_ble_eq_true rfl, Nat.le_of_ble_eq_true rfl⟩ hl.1 rfl (Nat.le_of_ble_eq_true rfl) ⟨Nat.le_of_ble_eq_true rfl, Nat.le_of_ble_eq_true rfl⟩ dX2_rainBehind_35 (fun L_21307 f_21308 H locs I Y => ?_)
          obtain ⟨x_21309, ex_21309⟩ : ∃ z : Int32, z = y16_2 + 1 := ⟨_, rfl⟩
          refine lv_iinc (v := x_21309) (lv' := [(2, .int x_21309), (0, .ref (ad 6 0)), (1, .int i1)]) hx hb dX2_rainBehind_38 hl (k := 2) rfl (by rw [ex_21309]; rfl) (by decide) rfl (fun ls hl => ?_)
          refine lv_goto (tgt := 16) hx hb dX2_rainBehind_41 (by decide) ?_
          exact ih16 _ (by rw [← hm16]; exact ms_up (m := 1) ex_21309 (show bn 1 1 (1 : Int32) from bn_k (by decide)) B_21282 (bn_w (bn_eq ex_21309 (bn_add B_21282 (show bn 1 1 (1 : Int32) from bn_k (by decide)) (by decide))) (by decide) : bn 0 2147483647 x_21309) (by decide)) x_21309 _ _  _ _ _ I (bn_w (bn_eq ex_21309 (bn_add B_21282 (show bn 1 1 (1 : Int32) from bn_k (by decide)) (by decide))) (by decide)) rfl Y (lv_sub hl [1, 2, 0] rfl)
  refine lv_aload_n hx hb dX2_rainBehind_0 rfl (lv_at hl 0 rfl) ?_
  have p_ad_6_0 := opnC_6 (j := 0) I (by decide)
  have p_ad_6_0 : pt L f (ad 6 0) (.inr (2, [.ref (ad 1 0), .ref (ad 3 0), .ref (ad 5 0), .ref (ad 10 62)])) := p_ad_6_0
  refine pg_get S Y ok_X2 3 (by decide) kf2_23 (v := .ref (ad 10 62)) p_ad_6_0 rfl dX2_rainBehind_1 ?_
  refine lv_aload_n hx hb dX2_rainBehind_4 rfl (lv_at hl 0 rfl) ?_
  refine pg_get S Y ok_X2 0 (by decide) kf2_9 (v := .ref (ad 1 0)) p_ad_6_0 rfl dX2_rainBehind_5 ?_
  obtain ⟨v_21310, v_21312, v_21314, v_21316, v_21318, p_ad_1_0, b_21311, b_21313, b_21315, b_21317, b_21319⟩ := opnC_1 (j := 0) I (by decide)
  have p_ad_1_0 : pt L f (ad 1 0) (.inr (10, [.ref (ad 40 0), .ref (ad 41 0), .ref (ad 42 0), .ref (ad 10 0), .ref (ad 43 0), .ref (ad 20 0), .ref (ad 20 1), .ref (ad 20 2), .ref (ad 20 3), .ref (ad 20 4), .int v_21310, .int v_21312, .int v_21314, .int v_21316, .int v_21318])) := p_ad_1_0
  refine pg_getN S Y ok_X10 3 (by decide) kf2_27 (v := .ref (ad 10 0)) p_ad_1_0 rfl dX2_rainBehind_8 ?_
  refine cVv (As := [.ref (ad 10 0)]) (rest := []) S Y (x_X4_takeOver (l := l) (j := 62) (i := 0) I hW hT hQ (by decide) (by decide) (by omega)) cw_X4_takeOver km2_32 (I.opo (k := 10) (j := 62) (by decide) rfl).choose_spec.1 ok_X4.1 rfl rfl ⟨Nat.le_of_ble_eq_true rfl, Nat.le_of_ble_eq_true rfl⟩ hl.1 rfl (Nat.le_of_ble_eq_true rfl) ⟨Nat.le_of_ble_eq_true rfl, Nat.le_of_ble_eq_true rfl⟩ dX2_rainBehind_11 (fun L_21320 f_21321 H locs I Y => ?_)
  refine lv_iconst (v := 0) hx hb dX2_rainBehind_14 (by decide) ?_
  refine lv_istore_n (lv' := [(2, .int 0), (0, .ref (ad 6 0)), (1, .int i1)]) hx hb dX2_rainBehind_15 rfl hl (by decide) rfl (fun ls hl => ?_)
  exact J_16 _ 0 _ _  _ _ _ I (bn_w (show bn 0 0 (0 : Int32) from bn_k (by decide)) (by decide)) rfl Y (lv_sub hl [1, 2, 0] rfl)
set_option maxHeartbeats 4000000 in
set_option maxRecDepth 100000 in
theorem x_X2_achesWithin {l : Launch} {G : GG}  {L : List Nat} {f : HF} {ad : Nat → Nat → Nat} {rs : FS} {fc : Int × Int} {tc w : Nat → Int × Int} {q : Nat → (Nat → Int32) → Prop} {i1 i2 : Int32} (I : SH (spC rs fc tc w q) nnC G ad L f) (hW : WBp w 8) (hT : WBp tc 4) (hQ : QIp q) : PMi l yX2_achesWithin cX2_achesWithin 5 .int 5 0 0 G [.ref (ad 6 0), .int i1, .int i2] L f (fun r L1 f1 => SH (spC rs fc tc w q) nnC G ad L1 f1) := by
  refine PMi.of (post := fun r L1 f1 => SH (spC rs fc tc w q) nnC G ad L1 f1) (own := RX2) (by decide) rfl (Nat.le_of_ble_eq_true rfl) (fun sz p e s m args below meth c A ls hA1 hname S Y hl => ?_)
  have hx := S.hx
  have hb := S.hb
  have hl : lv_has ls 5 [(0, .ref (ad 6 0)), (1, .int i1), (2, .int i2)] := hl
  have J_19 : ∀ (n19 : Nat) (y19_3 y19_4 : Int32) (L_19 : List Nat) (f_19 : HF) (H : Heap) (locs : List Loc) (ls : Array Slot), (SH (spC rs fc tc w q) nnC G ad L_19 f_19) → (bn 0 2147483647 y19_4) → (((2147483647 : Int) - y19_4.toInt).toNat = n19) → (DY G A s [] L_19 f_19 H locs) → (lv_has ls 5 [(0, .ref (ad 6 0)), (1, .int i1), (2, .int i2), (3, .int y19_3), (4, .int y19_4)]) → W p l e (rmD 5 0 0) s m args below meth c H locs (0) (0) (MQ below (va_Qi (fun r (u : List Nat × HF) => (fun r L1 f1 => SH (spC rs fc tc w q) nnC G ad L1 f1) r u.1 u.2) (fun u t => pOut G (va_A (va_pl L f) sz) u.1 u.2 t) (va_A (va_pl L f) sz)) args s 0 0 A) (F0 m 19 ls []) := by
    intro n19
    induction n19 using Nat.strongRecOn with
    | _ n19 ih19 =>
      intro y19_3 y19_4 L_19 f_19 H locs ls I b_y19_4 hm19 Y hl
      refine lv_iload hx hb dX2_achesWithin_19 (lv_at hl 4 rfl) ?_
      refine lv_iload_n hx hb dX2_achesWithin_21 rfl (lv_at hl 1 rfl) ?_
      refine lv_icmp_ge (tgt := 63) hx hb dX2_achesWithin_22 (by decide) (fun c_22060 => ?_) (fun c_22060 => ?_)
      · refine lv_iload_n hx hb dX2_achesWithin_63 rfl (lv_at hl 3 rfl) ?_
        exact prI (post := fun r L1 f1 => SH (spC rs fc tc w q) nnC G ad L1 f1) S Y rfl (by decide) (by decide) hA1 I dX2_achesWithin_64
      · have B_22061 : bn 1 2147483647 i1 := bn_w (bn_gtl c_22060 (bn_any i1) b_y19_4) (by decide)
        have B_22062 : bn 0 2147483646 y19_4 := bn_w (bn_gtr c_22060 (bn_any i1) b_y19_4) (by decide)
        refine lv_aload_n hx hb dX2_achesWithin_25 rfl (lv_at hl 0 rfl) ?_
        have p_ad_6_0 := opnC_6 (j := 0) I (by decide)
        have p_ad_6_0 : pt L_19 f_19 (ad 6 0) (.inr (2, [.ref (ad 1 0), .ref (ad 3 0), .ref (ad 5 0), .ref (ad 10 62)])) := p_ad_6_0
        refine pg_get S Y ok_X2 3 (by decide) kf2_23 (v := .ref (ad 10 62)) p_ad_6_0 rfl dX2_achesWithin_26 ?_
        refine cVp (As := []) (rest := []) S Y (x_X4_lastsOn (l := l) (j := 62) I hW hT hQ (by decide)) cw_X4_lastsOn km2_38 (I.opo (k := 10) (j := 62) (by decide) rfl).choose_spec.1 ok_X4.1 rfl rfl ⟨Nat.le_of_ble_eq_true rfl, Nat.le_of_ble_eq_true rfl⟩ hl.1 rfl (Nat.le_of_ble_eq_true rfl) ⟨Nat.le_of_ble_eq_true rfl, Nat.le_of_ble_eq_true rfl⟩ dX2_achesWithin_29 (fun r_22063 H locs er_22063 Y => ?_)
        refine lv_if_eq (tgt := 63) hx hb dX2_achesWithin_32 (by decide) (fun c_22064 => ?_) (fun c_22064 => ?_)
        · have B_22065 : bn 0 0 r_22063 := bn_w (bn_eq c_22064 (show bn 0 0 (0 : Int32) from bn_k (by decide))) (by decide)
          refine lv_iload_n hx hb dX2_achesWithin_63 rfl (lv_at hl 3 rfl) ?_
          exact prI (post := fun r L1 f1 => SH (spC rs fc tc w q) nnC G ad L1 f1) S Y rfl (by decide) (by decide) hA1 I dX2_achesWithin_64
        · have B_22066 : bn 1 1 r_22063 := bn_w (bn_nel c_22064 er_22063 (show bn 0 0 (0 : Int32) from bn_k (by decide))) (by decide)
          refine lv_iload_n hx hb dX2_achesWithin_35 rfl (lv_at hl 3 rfl) ?_
          refine lv_aload_n hx hb dX2_achesWithin_36 rfl (lv_at hl 0 rfl) ?_
          refine pg_get S Y ok_X2 1 (by decide) kf2_15 (v := .ref (ad 3 0)) p_ad_6_0 rfl dX2_achesWithin_37 ?_
          refine lv_aload_n hx hb dX2_achesWithin_40 rfl (lv_at hl 0 rfl) ?_
          refine pg_get S Y ok_X2 3 (by decide) kf2_23 (v := .ref (ad 10 62)) p_ad_6_0 rfl dX2_achesWithin_41 ?_
          refine lv_iload_n hx hb dX2_achesWithin_44 rfl (lv_at hl 2 rfl) ?_
          refine cVi (As := [.ref (ad 10 62), .int i2]) (rest := [.int y19_3]) S Y (x_X3_acheOf (l := l) (j := 62) I hW hT hQ (by decide)) cw_X3_acheOf km2_49 (I.opo (k := 3) (j := 0) (by decide) rfl).choose_spec.1 ok_X3.1 rfl rfl ⟨Nat.le_of_ble_eq_true rfl, Nat.le_of_ble_eq_true rfl⟩ hl.1 rfl (Nat.le_of_ble_eq_true rfl) ⟨Nat.le_of_ble_eq_true rfl, Nat.le_of_ble_eq_true rfl⟩ dX2_achesWithin_45 (fun r_22069 L_22067 f_22068 H locs I Y => ?_)
          refine lv_iadd hx hb dX2_achesWithin_48 ?_
          refine lv_topi (fun x_22070 ex_22070 => ?_)
          refine lv_istore_n (lv' := [(3, .int x_22070), (0, .ref (ad 6 0)), (1, .int i1), (2, .int i2), (4, .int y19_4)]) hx hb dX2_achesWithin_49 rfl hl (by decide) rfl (fun ls hl => ?_)
          refine lv_aload_n hx hb dX2_achesWithin_50 rfl (lv_at hl 1 rfl) ?_
          have p_ad_6_0 := opnC_6 (j := 0) I (by decide)
          have p_ad_6_0 : pt L_22067 f_22068 (ad 6 0) (.inr (2, [.ref (ad 1 0), .ref (ad 3 0), .ref (ad 5 0), .ref (ad 10 62)])) := p_ad_6_0
          refine pg_get S Y ok_X2 3 (by decide) kf2_23 (v := .ref (ad 10 62)) p_ad_6_0 rfl dX2_achesWithin_51 ?_
          refine cVv (As := []) (rest := []) S Y (x_X4_turnDay (l := l) (j := 62) I hW hT hQ (by decide)) cw_X4_turnDay km2_42 (I.opo (k := 10) (j := 62) (by decide) rfl).choose_spec.1 ok_X4.1 rfl rfl ⟨Nat.le_of_ble_eq_true rfl, Nat.le_of_ble_eq_true rfl⟩ hl.1 rfl (Nat.le_of_ble_eq_true rfl) ⟨Nat.le_of_ble_eq_true rfl, Nat.le_of_ble_eq_true rfl⟩ dX2_achesWithin_54 (fun L_22071 f_22072 H locs I Y => ?_)
          obtain ⟨x_22073, ex_22073⟩ : ∃ z : Int32, z = y19_4 + 1 := ⟨_, rfl⟩
          refine lv_iinc (v := x_22073) (lv' := [(4, .int x_22073), (3, .int x_22070), (0, .ref (ad 6 0)), (1, .int i1), (2, .int i2)]) hx hb dX2_achesWithin_57 hl (k := 4) rfl (by rw [ex_22073]; rfl) (by decide) rfl (fun ls hl => ?_)
          refine lv_goto (tgt := 19) hx hb dX2_achesWithin_60 (by decide) ?_
          exact ih19 _ (by rw [← hm19]; exact ms_up (m := 1) ex_22073 (show bn 1 1 (1 : Int32) from bn_k (by decide)) B_22062 (bn_w (bn_eq ex_22073 (bn_add B_22062 (show bn 1 1 (1 : Int32) from bn_k (by decide)) (by decide))) (by decide) : bn 0 2147483647 x_22073) (by decide)) x_22070 x_22073 _ _  _ _ _ I (bn_w (bn_eq ex_22073 (bn_add B_22062 (show bn 1 1 (1 : Int32) from bn_k (by decide)) (by decide))) (by decide)) rfl Y (lv_sub hl [2, 3, 4, 1, 0] rfl)
  refine lv_aload_n hx hb dX2_achesWithin_0 rfl (lv_at hl 0 rfl) ?_
  have p_ad_6_0 := opnC_6 (j := 0) I (by decide)
  have p_ad_6_0 : pt L f (ad 6 0) (.inr (2, [.ref (ad 1 0), .ref (ad 3 0), .ref (ad 5 0), .ref (ad 10 62)])) := p_ad_6_0
  refine pg_get S Y ok_X2 3 (by decide) kf2_23 (v := .ref (ad 10 62)) p_ad_6_0 rfl dX2_achesWithin_1 ?_
  refine lv_aload_n hx hb dX2_achesWithin_4 rfl (lv_at hl 0 rfl) ?_
  refine pg_get S Y ok_X2 0 (by decide) kf2_9 (v := .ref (ad 1 0)) p_ad_6_0 rfl dX2_achesWithin_5 ?_
  obtain ⟨v_22074, v_22076, v_22078, v_22080, v_22082, p_ad_1_0, b_22075, b_22077, b_22079, b_22081, b_22083⟩ := opnC_1 (j := 0) I (by decide)
  have p_ad_1_0 : pt L f (ad 1 0) (.inr (10, [.ref (ad 40 0), .ref (ad 41 0), .ref (ad 42 0), .ref (ad 10 0), .ref (ad 43 0), .ref (ad 20 0), .ref (ad 20 1), .ref (ad 20 2), .ref (ad 20 3), .ref (ad 20 4), .int v_22074, .int v_22076, .int v_22078, .int v_22080, .int v_22082])) := p_ad_1_0
  refine pg_getN S Y ok_X10 3 (by decide) kf2_27 (v := .ref (ad 10 0)) p_ad_1_0 rfl dX2_achesWithin_8 ?_
  refine cVv (As := [.ref (ad 10 0)]) (rest := []) S Y (x_X4_takeOver (l := l) (j := 62) (i := 0) I hW hT hQ (by decide) (by decide) (by omega)) cw_X4_takeOver km2_32 (I.opo (k := 10) (j := 62) (by decide) rfl).choose_spec.1 ok_X4.1 rfl rfl ⟨Nat.le_of_ble_eq_true rfl, Nat.le_of_ble_eq_true rfl⟩ hl.1 rfl (Nat.le_of_ble_eq_true rfl) ⟨Nat.le_of_ble_eq_true rfl, Nat.le_of_ble_eq_true rfl⟩ dX2_achesWithin_11 (fun L_22084 f_22085 H locs I Y => ?_)
  refine lv_iconst (v := 0) hx hb dX2_achesWithin_14 (by decide) ?_
  refine lv_istore_n (lv' := [(3, .int 0), (0, .ref (ad 6 0)), (1, .int i1), (2, .int i2)]) hx hb dX2_achesWithin_15 rfl hl (by decide) rfl (fun ls hl => ?_)
  refine lv_iconst (v := 0) hx hb dX2_achesWithin_16 (by decide) ?_
  refine lv_istore (lv' := [(4, .int 0), (3, .int 0), (0, .ref (ad 6 0)), (1, .int i1), (2, .int i2)]) hx hb dX2_achesWithin_17 hl (by decide) rfl (fun ls hl => ?_)
  exact J_19 _ 0 0 _ _  _ _ _ I (bn_w (show bn 0 0 (0 : Int32) from bn_k (by decide)) (by decide)) rfl Y (lv_sub hl [2, 3, 4, 1, 0] rfl)
set_option maxHeartbeats 4000000 in
set_option maxRecDepth 100000 in
theorem x_X2_daysToAche {l : Launch} {G : GG}  {L : List Nat} {f : HF} {ad : Nat → Nat → Nat} {rs : FS} {fc : Int × Int} {tc w : Nat → Int × Int} {q : Nat → (Nat → Int32) → Prop} {i1 : Int32} (I : SH (spC rs fc tc w q) nnC G ad L f) (hW : WBp w 8) (hT : WBp tc 4) (hQ : QIp q) : PMi l yX2_daysToAche cX2_daysToAche 3 .int 5 0 0 G [.ref (ad 6 0), .int i1] L f (fun r L1 f1 => SH (spC rs fc tc w q) nnC G ad L1 f1) := by
  refine PMi.of (post := fun r L1 f1 => SH (spC rs fc tc w q) nnC G ad L1 f1) (own := RX2) (by decide) rfl (Nat.le_of_ble_eq_true rfl) (fun sz p e s m args below meth c A ls hA1 hname S Y hl => ?_)
  have hx := S.hx
  have hb := S.hb
  have hl : lv_has ls 3 [(0, .ref (ad 6 0)), (1, .int i1)] := hl
  have J_16 : ∀ (n16 : Nat) (y16_2 : Int32) (L_16 : List Nat) (f_16 : HF) (H : Heap) (locs : List Loc) (ls : Array Slot), (SH (spC rs fc tc w q) nnC G ad L_16 f_16) → (bn 1 61 y16_2) → (((61 : Int) - y16_2.toInt).toNat = n16) → (DY G A s [] L_16 f_16 H locs) → (lv_has ls 3 [(0, .ref (ad 6 0)), (1, .int i1), (2, .int y16_2)]) → W p l e (rmD 5 0 0) s m args below meth c H locs (0) (0) (MQ below (va_Qi (fun r (u : List Nat × HF) => (fun r L1 f1 => SH (spC rs fc tc w q) nnC G ad L1 f1) r u.1 u.2) (fun u t => pOut G (va_A (va_pl L f) sz) u.1 u.2 t) (va_A (va_pl L f) sz)) args s 0 0 A) (F0 m 16 ls []) := by
    intro n16
    induction n16 using Nat.strongRecOn with
    | _ n16 ih16 =>
      intro y16_2 L_16 f_16 H locs ls I b_y16_2 hm16 Y hl
      refine lv_iload_n hx hb dX2_daysToAche_16 rfl (lv_at hl 2 rfl) ?_
      refine lv_bipush (v := 60) hx hb dX2_daysToAche_17 (by decide) ?_
      refine lv_icmp_gt (tgt := 62) hx hb dX2_daysToAche_19 (by decide) (fun c_22454 => ?_) (fun c_22454 => ?_)
      · have B_22455 : bn 61 61 y16_2 := bn_w (bn_ltr c_22454 (show bn 60 60 (60 : Int32) from bn_k (by decide)) b_y16_2) (by decide)
        refine lv_iconst (v := (-1)) hx hb dX2_daysToAche_62 (by decide) ?_
        exact prI (post := fun r L1 f1 => SH (spC rs fc tc w q) nnC G ad L1 f1) S Y rfl (by decide) (by decide) hA1 I dX2_daysToAche_63
      · have B_22456 : bn 1 60 y16_2 := bn_w (bn_ger c_22454 (show bn 60 60 (60 : Int32) from bn_k (by decide)) b_y16_2) (by decide)
        refine lv_aload_n hx hb dX2_daysToAche_22 rfl (lv_at hl 0 rfl) ?_
        have p_ad_6_0 := opnC_6 (j := 0) I (by decide)
        have p_ad_6_0 : pt L_16 f_16 (ad 6 0) (.inr (2, [.ref (ad 1 0), .ref (ad 3 0), .ref (ad 5 0), .ref (ad 10 62)])) := p_ad_6_0
        refine pg_get S Y ok_X2 3 (by decide) kf2_23 (v := .ref (ad 10 62)) p_ad_6_0 rfl dX2_daysToAche_23 ?_
        refine cVp (As := []) (rest := []) S Y (x_X4_lastsOn (l := l) (j := 62) I hW hT hQ (by decide)) cw_X4_lastsOn km2_38 (I.opo (k := 10) (j := 62) (by decide) rfl).choose_spec.1 ok_X4.1 rfl rfl ⟨Nat.le_of_ble_eq_true rfl, Nat.le_of_ble_eq_true rfl⟩ hl.1 rfl (Nat.le_of_ble_eq_true rfl) ⟨Nat.le_of_ble_eq_true rfl, Nat.le_of_ble_eq_true rfl⟩ dX2_daysToAche_26 (fun r_22457 H locs er_22457 Y => ?_)
        refine lv_if_eq (tgt := 62) hx hb dX2_daysToAche_29 (by decide) (fun c_22458 => ?_) (fun c_22458 => ?_)
        · have B_22459 : bn 0 0 r_22457 := bn_w (bn_eq c_22458 (show bn 0 0 (0 : Int32) from bn_k (by decide))) (by decide)
          refine lv_iconst (v := (-1)) hx hb dX2_daysToAche_62 (by decide) ?_
          exact prI (post := fun r L1 f1 => SH (spC rs fc tc w q) nnC G ad L1 f1) S Y rfl (by decide) (by decide) hA1 I dX2_daysToAche_63
        · have B_22460 : bn 1 1 r_22457 := bn_w (bn_nel c_22458 er_22457 (show bn 0 0 (0 : Int32) from bn_k (by decide))) (by decide)
          refine lv_aload_n hx hb dX2_daysToAche_32 rfl (lv_at hl 0 rfl) ?_
          refine pg_get S Y ok_X2 1 (by decide) kf2_15 (v := .ref (ad 3 0)) p_ad_6_0 rfl dX2_daysToAche_33 ?_
          refine lv_aload_n hx hb dX2_daysToAche_36 rfl (lv_at hl 0 rfl) ?_
          refine pg_get S Y ok_X2 3 (by decide) kf2_23 (v := .ref (ad 10 62)) p_ad_6_0 rfl dX2_daysToAche_37 ?_
          refine lv_iload_n hx hb dX2_daysToAche_40 rfl (lv_at hl 1 rfl) ?_
          refine cVi (As := [.ref (ad 10 62), .int i1]) (rest := []) S Y (x_X3_acheOf (l := l) (j := 62) I hW hT hQ (by decide)) cw_X3_acheOf km2_49 (I.opo (k := 3) (j := 0) (by decide) rfl).choose_spec.1 ok_X3.1 rfl rfl ⟨Nat.le_of_ble_eq_true rfl, Nat.le_of_ble_eq_true rfl⟩ hl.1 rfl (Nat.le_of_ble_eq_true rfl) ⟨Nat.le_of_ble_eq_true rfl, Nat.le_of_ble_eq_true rfl⟩ dX2_daysToAche_41 (fun r_22463 L_22461 f_22462 H locs I Y => ?_)
          refine lv_if_le (tgt := 49) hx hb dX2_daysToAche_44 (by decide) (fun c_22464 => ?_) (fun c_22464 => ?_)
          · have B_22465 : bn (-2147483648) 0 r_22463 := bn_w (bn_lel c_22464 (bn_any r_22463) (show bn 0 0 (0 : Int32) from bn_k (by decide))) (by decide)
            refine lv_aload_n hx hb dX2_daysToAche_49 rfl (lv_at hl 0 rfl) ?_
            have p_ad_6_0 := opnC_6 (j := 0) I (by decide)
            have p_ad_6_0 : pt L_22461 f_22462 (ad 6 0) (.inr (2, [.ref (ad 1 0), .ref (ad 3 0), .ref (ad 5 0), .ref (ad 10 62)])) := p_ad_6_0
            refine pg_get S Y ok_X2 3 (by decide) kf2_23 (v := .ref (ad 10 62)) p_ad_6_0 rfl dX2_daysToAche_50 ?_
            refine cVv (As := []) (rest := []) S Y (x_X4_turnDay (l := l) (j := 62) I hW hT hQ (by decide)) cw_X4_turnDay km2_42 (I.opo (k := 10) (j := 62) (by decide) rfl).choose_spec.1 ok_X4.1 rfl rfl ⟨Nat.le_of_ble_eq_true rfl, Nat.le_of_ble_eq_true rfl⟩ hl.1 rfl (Nat.le_of_ble_eq_true rfl) ⟨Nat.le_of_ble_eq_true rfl, Nat.le_of_ble_eq_true rfl⟩ dX2_daysToAche_53 (fun L_22467 f_22468 H locs I Y => ?_)
            obtain ⟨x_22469, ex_22469⟩ : ∃ z : Int32, z = y16_2 + 1 := ⟨_, rfl⟩
            refine lv_iinc (v := x_22469) (lv' := [(2, .int x_22469), (0, .ref (ad 6 0)), (1, .int i1)]) hx hb dX2_daysToAche_56 hl (k := 2) rfl (by rw [ex_22469]; rfl) (by decide) rfl (fun ls hl => ?_)
            refine lv_goto (tgt := 16) hx hb dX2_daysToAche_59 (by decide) ?_
            exact ih16 _ (by rw [← hm16]; exact ms_up (m := 1) ex_22469 (show bn 1 1 (1 : Int32) from bn_k (by decide)) B_22456 (bn_w (bn_eq ex_22469 (bn_add B_22456 (show bn 1 1 (1 : Int32) from bn_k (by decide)) (by decide))) (by decide) : bn 1 61 x_22469) (by decide)) x_22469 _ _  _ _ _ I (bn_w (bn_eq ex_22469 (bn_add B_22456 (show bn 1 1 (1 : Int32) from bn_k (by decide)) (by decide))) (by decide)) rfl Y (lv_sub hl [1, 2, 0] rfl)
          · have B_22466 : bn 1 2147483647 r_22463 := bn_w (bn_gtl c_22464 (bn_any r_22463) (show bn 0 0 (0 : Int32) from bn_k (by decide))) (by decide)
            refine lv_iload_n hx hb dX2_daysToAche_47 rfl (lv_at hl 2 rfl) ?_
            exact prI (post := fun r L1 f1 => SH (spC rs fc tc w q) nnC G ad L1 f1) S Y rfl (by decide) (by decide) hA1 I dX2_daysToAche_48
  refine lv_aload_n hx hb dX2_daysToAche_0 rfl (lv_at hl 0 rfl) ?_
  have p_ad_6_0 := opnC_6 (j := 0) I (by decide)
  have p_ad_6_0 : pt L f (ad 6 0) (.inr (2, [.ref (ad 1 0), .ref (ad 3 0), .ref (ad 5 0), .ref (ad 10 62)])) := p_ad_6_0
  refine pg_get S Y ok_X2 3 (by decide) kf2_23 (v := .ref (ad 10 62)) p_ad_6_0 rfl dX2_daysToAche_1 ?_
  refine lv_aload_n hx hb dX2_daysToAche_4 rfl (lv_at hl 0 rfl) ?_
  refine pg_get S Y ok_X2 0 (by decide) kf2_9 (v := .ref (ad 1 0)) p_ad_6_0 rfl dX2_daysToAche_5 ?_
  obtain ⟨v_22470, v_22472, v_22474, v_22476, v_22478, p_ad_1_0, b_22471, b_22473, b_22475, b_22477, b_22479⟩ := opnC_1 (j := 0) I (by decide)
  have p_ad_1_0 : pt L f (ad 1 0) (.inr (10, [.ref (ad 40 0), .ref (ad 41 0), .ref (ad 42 0), .ref (ad 10 0), .ref (ad 43 0), .ref (ad 20 0), .ref (ad 20 1), .ref (ad 20 2), .ref (ad 20 3), .ref (ad 20 4), .int v_22470, .int v_22472, .int v_22474, .int v_22476, .int v_22478])) := p_ad_1_0
  refine pg_getN S Y ok_X10 3 (by decide) kf2_27 (v := .ref (ad 10 0)) p_ad_1_0 rfl dX2_daysToAche_8 ?_
  refine cVv (As := [.ref (ad 10 0)]) (rest := []) S Y (x_X4_takeOver (l := l) (j := 62) (i := 0) I hW hT hQ (by decide) (by decide) (by omega)) cw_X4_takeOver km2_32 (I.opo (k := 10) (j := 62) (by decide) rfl).choose_spec.1 ok_X4.1 rfl rfl ⟨Nat.le_of_ble_eq_true rfl, Nat.le_of_ble_eq_true rfl⟩ hl.1 rfl (Nat.le_of_ble_eq_true rfl) ⟨Nat.le_of_ble_eq_true rfl, Nat.le_of_ble_eq_true rfl⟩ dX2_daysToAche_11 (fun L_22480 f_22481 H locs I Y => ?_)
  refine lv_iconst (v := 1) hx hb dX2_daysToAche_14 (by decide) ?_
  refine lv_istore_n (lv' := [(2, .int 1), (0, .ref (ad 6 0)), (1, .int i1)]) hx hb dX2_daysToAche_15 rfl hl (by decide) rfl (fun ls hl => ?_)
  exact J_16 _ 1 _ _  _ _ _ I (bn_w (show bn 1 1 (1 : Int32) from bn_k (by decide)) (by decide)) rfl Y (lv_sub hl [1, 2, 0] rfl)
set_option maxHeartbeats 4000000 in
set_option maxRecDepth 100000 in
theorem x_X2_daysToFade {l : Launch} {G : GG}  {L : List Nat} {f : HF} {ad : Nat → Nat → Nat} {rs : FS} {fc : Int × Int} {tc w : Nat → Int × Int} {q : Nat → (Nat → Int32) → Prop} {i1 : Int32} (I : SH (spC rs fc tc w q) nnC G ad L f) (hW : WBp w 8) (hT : WBp tc 4) (hQ : QIp q) : PMi l yX2_daysToFade cX2_daysToFade 4 .int 5 0 0 G [.ref (ad 6 0), .int i1] L f (fun r L1 f1 => SH (spC rs fc tc w q) nnC G ad L1 f1) := by
  refine PMi.of (post := fun r L1 f1 => SH (spC rs fc tc w q) nnC G ad L1 f1) (own := RX2) (by decide) rfl (Nat.le_of_ble_eq_true rfl) (fun sz p e s m args below meth c A ls hA1 hname S Y hl => ?_)
  have hx := S.hx
  have hb := S.hb
  have hl : lv_has ls 4 [(0, .ref (ad 6 0)), (1, .int i1)] := hl
  have J_45 : ∀ (n45 : Nat) (y45_2 y45_3 : Int32) (L_45 : List Nat) (f_45 : HF) (H : Heap) (locs : List Loc) (ls : Array Slot), (SH (spC rs fc tc w q) nnC G ad L_45 f_45) → (bn 0 60 y45_3) → (((60 : Int) - y45_3.toInt).toNat = n45) → (DY G A s [] L_45 f_45 H locs) → (lv_has ls 4 [(0, .ref (ad 6 0)), (1, .int i1), (2, .int y45_2), (3, .int y45_3)]) → W p l e (rmD 5 0 0) s m args below meth c H locs (0) (0) (MQ below (va_Qi (fun r (u : List Nat × HF) => (fun r L1 f1 => SH (spC rs fc tc w q) nnC G ad L1 f1) r u.1 u.2) (fun u t => pOut G (va_A (va_pl L f) sz) u.1 u.2 t) (va_A (va_pl L f) sz)) args s 0 0 A) (F0 m 45 ls []) := by
    intro n45
    induction n45 using Nat.strongRecOn with
    | _ n45 ih45 =>
      intro y45_2 y45_3 L_45 f_45 H locs ls I b_y45_3 hm45 Y hl
      refine lv_iload_n hx hb dX2_daysToFade_45 rfl (lv_at hl 3 rfl) ?_
      refine lv_bipush (v := 60) hx hb dX2_daysToFade_46 (by decide) ?_
      refine lv_icmp_ge (tgt := 97) hx hb dX2_daysToFade_48 (by decide) (fun c_24750 => ?_) (fun c_24750 => ?_)
      · have B_24751 : bn 60 60 y45_3 := bn_w (bn_ler c_24750 (show bn 60 60 (60 : Int32) from bn_k (by decide)) b_y45_3) (by decide)
        refine lv_aload_n hx hb dX2_daysToFade_97 rfl (lv_at hl 0 rfl) ?_
        have p_ad_6_0 := opnC_6 (j := 0) I (by decide)
        have p_ad_6_0 : pt L_45 f_45 (ad 6 0) (.inr (2, [.ref (ad 1 0), .ref (ad 3 0), .ref (ad 5 0), .ref (ad 10 62)])) := p_ad_6_0
        refine pg_get S Y ok_X2 3 (by decide) kf2_23 (v := .ref (ad 10 62)) p_ad_6_0 rfl dX2_daysToFade_98 ?_
        refine lv_iload_n hx hb dX2_daysToFade_101 rfl (lv_at hl 1 rfl) ?_
        refine cVp (As := [.int i1]) (rest := []) S Y (x_X4_legible (l := l) (j := 62) I hW hT hQ (by decide)) cw_X4_legible km2_63 (I.opo (k := 10) (j := 62) (by decide) rfl).choose_spec.1 ok_X4.1 rfl rfl ⟨Nat.le_of_ble_eq_true rfl, Nat.le_of_ble_eq_true rfl⟩ hl.1 rfl (Nat.le_of_ble_eq_true rfl) ⟨Nat.le_of_ble_eq_true rfl, Nat.le_of_ble_eq_true rfl⟩ dX2_daysToFade_102 (fun r_24753 H locs er_24753 Y => ?_)
        refine lv_if_eq (tgt := 112) hx hb dX2_daysToFade_105 (by decide) (fun c_24754 => ?_) (fun c_24754 => ?_)
        · have B_24755 : bn 0 0 r_24753 := bn_w (bn_eq c_24754 (show bn 0 0 (0 : Int32) from bn_k (by decide))) (by decide)
          refine lv_aload_n hx hb dX2_daysToFade_112 rfl (lv_at hl 0 rfl) ?_
          refine pg_get S Y ok_X2 3 (by decide) kf2_23 (v := .ref (ad 10 62)) p_ad_6_0 rfl dX2_daysToFade_113 ?_
          obtain ⟨v_24757, v_24759, v_24761, v_24763, v_24765, p_ad_10_62, b_24758, b_24760, b_24762, b_24764, b_24766⟩ := opnC_10 (j := 62) I (by decide)
          have p_ad_10_62 : pt L_45 f_45 (ad 10 62) (.inr (4, [.ref (ad 11 62), .ref (ad 12 62), .int v_24757, .int v_24759, .int v_24761, .int v_24763, .int v_24765])) := p_ad_10_62
          refine pg_getN S Y ok_X4 4 (by decide) kf2_72 (v := .int v_24761) p_ad_10_62 rfl dX2_daysToFade_116 ?_
          refine lv_aload_n hx hb dX2_daysToFade_119 rfl (lv_at hl 0 rfl) ?_
          refine pg_get S Y ok_X2 0 (by decide) kf2_9 (v := .ref (ad 1 0)) p_ad_6_0 rfl dX2_daysToFade_120 ?_
          obtain ⟨v_24767, v_24769, v_24771, v_24773, v_24775, p_ad_1_0, b_24768, b_24770, b_24772, b_24774, b_24776⟩ := opnC_1 (j := 0) I (by decide)
          have p_ad_1_0 : pt L_45 f_45 (ad 1 0) (.inr (10, [.ref (ad 40 0), .ref (ad 41 0), .ref (ad 42 0), .ref (ad 10 0), .ref (ad 43 0), .ref (ad 20 0), .ref (ad 20 1), .ref (ad 20 2), .ref (ad 20 3), .ref (ad 20 4), .int v_24767, .int v_24769, .int v_24771, .int v_24773, .int v_24775])) := p_ad_1_0
          refine pg_getN S Y ok_X10 3 (by decide) kf2_27 (v := .ref (ad 10 0)) p_ad_1_0 rfl dX2_daysToFade_123 ?_
          obtain ⟨v_24777, v_24779, v_24781, v_24783, v_24785, p_ad_10_0, b_24778, b_24780, b_24782, b_24784, b_24786⟩ := opnC_10 (j := 0) I (by decide)
          have p_ad_10_0 : pt L_45 f_45 (ad 10 0) (.inr (4, [.ref (ad 11 0), .ref (ad 12 0), .int v_24777, .int v_24779, .int v_24781, .int v_24783, .int v_24785])) := p_ad_10_0
          refine pg_getN S Y ok_X4 4 (by decide) kf2_72 (v := .int v_24781) p_ad_10_0 rfl dX2_daysToFade_126 ?_
          refine lv_isub hx hb dX2_daysToFade_129 ?_
          refine lv_topi (fun x_24787 ex_24787 => ?_)
          exact prI (post := fun r L1 f1 => SH (spC rs fc tc w q) nnC G ad L1 f1) S Y rfl (by decide) (by decide) hA1 I dX2_daysToFade_130
        · have B_24756 : bn 1 1 r_24753 := bn_w (bn_nel c_24754 er_24753 (show bn 0 0 (0 : Int32) from bn_k (by decide))) (by decide)
          refine lv_iconst (v := (-1)) hx hb dX2_daysToFade_108 (by decide) ?_
          refine lv_goto (tgt := 130) hx hb dX2_daysToFade_109 (by decide) ?_
          exact prI (post := fun r L1 f1 => SH (spC rs fc tc w q) nnC G ad L1 f1) S Y rfl (by decide) (by decide) hA1 I dX2_daysToFade_130
      · have B_24752 : bn 0 59 y45_3 := bn_w (bn_gtr c_24750 (show bn 60 60 (60 : Int32) from bn_k (by decide)) b_y45_3) (by decide)
        refine lv_aload_n hx hb dX2_daysToFade_51 rfl (lv_at hl 0 rfl) ?_
        have p_ad_6_0 := opnC_6 (j := 0) I (by decide)
        have p_ad_6_0 : pt L_45 f_45 (ad 6 0) (.inr (2, [.ref (ad 1 0), .ref (ad 3 0), .ref (ad 5 0), .ref (ad 10 62)])) := p_ad_6_0
        refine pg_get S Y ok_X2 3 (by decide) kf2_23 (v := .ref (ad 10 62)) p_ad_6_0 rfl dX2_daysToFade_52 ?_
        refine cVp (As := []) (rest := []) S Y (x_X4_lastsOn (l := l) (j := 62) I hW hT hQ (by decide)) cw_X4_lastsOn km2_38 (I.opo (k := 10) (j := 62) (by decide) rfl).choose_spec.1 ok_X4.1 rfl rfl ⟨Nat.le_of_ble_eq_true rfl, Nat.le_of_ble_eq_true rfl⟩ hl.1 rfl (Nat.le_of_ble_eq_true rfl) ⟨Nat.le_of_ble_eq_true rfl, Nat.le_of_ble_eq_true rfl⟩ dX2_daysToFade_55 (fun r_24788 H locs er_24788 Y => ?_)
        refine lv_if_eq (tgt := 97) hx hb dX2_daysToFade_58 (by decide) (fun c_24789 => ?_) (fun c_24789 => ?_)
        · have B_24790 : bn 0 0 r_24788 := bn_w (bn_eq c_24789 (show bn 0 0 (0 : Int32) from bn_k (by decide))) (by decide)
          refine lv_aload_n hx hb dX2_daysToFade_97 rfl (lv_at hl 0 rfl) ?_
          refine pg_get S Y ok_X2 3 (by decide) kf2_23 (v := .ref (ad 10 62)) p_ad_6_0 rfl dX2_daysToFade_98 ?_
          refine lv_iload_n hx hb dX2_daysToFade_101 rfl (lv_at hl 1 rfl) ?_
          refine cVp (As := [.int i1]) (rest := []) S Y (x_X4_legible (l := l) (j := 62) I hW hT hQ (by decide)) cw_X4_legible km2_63 (I.opo (k := 10) (j := 62) (by decide) rfl).choose_spec.1 ok_X4.1 rfl rfl ⟨Nat.le_of_ble_eq_true rfl, Nat.le_of_ble_eq_true rfl⟩ hl.1 rfl (Nat.le_of_ble_eq_true rfl) ⟨Nat.le_of_ble_eq_true rfl, Nat.le_of_ble_eq_true rfl⟩ dX2_daysToFade_102 (fun r_24792 H locs er_24792 Y => ?_)
          refine lv_if_eq (tgt := 112) hx hb dX2_daysToFade_105 (by decide) (fun c_24793 => ?_) (fun c_24793 => ?_)
          · have B_24794 : bn 0 0 r_24792 := bn_w (bn_eq c_24793 (show bn 0 0 (0 : Int32) from bn_k (by decide))) (by decide)
            refine lv_aload_n hx hb dX2_daysToFade_112 rfl (lv_at hl 0 rfl) ?_
            refine pg_get S Y ok_X2 3 (by decide) kf2_23 (v := .ref (ad 10 62)) p_ad_6_0 rfl dX2_daysToFade_113 ?_
            obtain ⟨v_24796, v_24798, v_24800, v_24802, v_24804, p_ad_10_62, b_24797, b_24799, b_24801, b_24803, b_24805⟩ := opnC_10 (j := 62) I (by decide)
            have p_ad_10_62 : pt L_45 f_45 (ad 10 62) (.inr (4, [.ref (ad 11 62), .ref (ad 12 62), .int v_24796, .int v_24798, .int v_24800, .int v_24802, .int v_24804])) := p_ad_10_62
            refine pg_getN S Y ok_X4 4 (by decide) kf2_72 (v := .int v_24800) p_ad_10_62 rfl dX2_daysToFade_116 ?_
            refine lv_aload_n hx hb dX2_daysToFade_119 rfl (lv_at hl 0 rfl) ?_
            refine pg_get S Y ok_X2 0 (by decide) kf2_9 (v := .ref (ad 1 0)) p_ad_6_0 rfl dX2_daysToFade_120 ?_
            obtain ⟨v_24806, v_24808, v_24810, v_24812, v_24814, p_ad_1_0, b_24807, b_24809, b_24811, b_24813, b_24815⟩ := opnC_1 (j := 0) I (by decide)
            have p_ad_1_0 : pt L_45 f_45 (ad 1 0) (.inr (10, [.ref (ad 40 0), .ref (ad 41 0), .ref (ad 42 0), .ref (ad 10 0), .ref (ad 43 0), .ref (ad 20 0), .ref (ad 20 1), .ref (ad 20 2), .ref (ad 20 3), .ref (ad 20 4), .int v_24806, .int v_24808, .int v_24810, .int v_24812, .int v_24814])) := p_ad_1_0
            refine pg_getN S Y ok_X10 3 (by decide) kf2_27 (v := .ref (ad 10 0)) p_ad_1_0 rfl dX2_daysToFade_123 ?_
            obtain ⟨v_24816, v_24818, v_24820, v_24822, v_24824, p_ad_10_0, b_24817, b_24819, b_24821, b_24823, b_24825⟩ := opnC_10 (j := 0) I (by decide)
            have p_ad_10_0 : pt L_45 f_45 (ad 10 0) (.inr (4, [.ref (ad 11 0), .ref (ad 12 0), .int v_24816, .int v_24818, .int v_24820, .int v_24822, .int v_24824])) := p_ad_10_0
            refine pg_getN S Y ok_X4 4 (by decide) kf2_72 (v := .int v_24820) p_ad_10_0 rfl dX2_daysToFade_126 ?_
            refine lv_isub hx hb dX2_daysToFade_129 ?_
            refine lv_topi (fun x_24826 ex_24826 => ?_)
            exact prI (post := fun r L1 f1 => SH (spC rs fc tc w q) nnC G ad L1 f1) S Y rfl (by decide) (by decide) hA1 I dX2_daysToFade_130
          · have B_24795 : bn 1 1 r_24792 := bn_w (bn_nel c_24793 er_24792 (show bn 0 0 (0 : Int32) from bn_k (by decide))) (by decide)
            refine lv_iconst (v := (-1)) hx hb dX2_daysToFade_108 (by decide) ?_
            refine lv_goto (tgt := 130) hx hb dX2_daysToFade_109 (by decide) ?_
            exact prI (post := fun r L1 f1 => SH (spC rs fc tc w q) nnC G ad L1 f1) S Y rfl (by decide) (by decide) hA1 I dX2_daysToFade_130
        · have B_24791 : bn 1 1 r_24788 := bn_w (bn_nel c_24789 er_24788 (show bn 0 0 (0 : Int32) from bn_k (by decide))) (by decide)
          refine lv_aload_n hx hb dX2_daysToFade_61 rfl (lv_at hl 0 rfl) ?_
          refine pg_get S Y ok_X2 3 (by decide) kf2_23 (v := .ref (ad 10 62)) p_ad_6_0 rfl dX2_daysToFade_62 ?_
          refine lv_iload_n hx hb dX2_daysToFade_65 rfl (lv_at hl 1 rfl) ?_
          refine cVp (As := [.int i1]) (rest := []) S Y (x_X4_legible (l := l) (j := 62) I hW hT hQ (by decide)) cw_X4_legible km2_63 (I.opo (k := 10) (j := 62) (by decide) rfl).choose_spec.1 ok_X4.1 rfl rfl ⟨Nat.le_of_ble_eq_true rfl, Nat.le_of_ble_eq_true rfl⟩ hl.1 rfl (Nat.le_of_ble_eq_true rfl) ⟨Nat.le_of_ble_eq_true rfl, Nat.le_of_ble_eq_true rfl⟩ dX2_daysToFade_66 (fun r_24827 H locs er_24827 Y => ?_)
          refine lv_if_eq (tgt := 97) hx hb dX2_daysToFade_69 (by decide) (fun c_24828 => ?_) (fun c_24828 => ?_)
          · have B_24829 : bn 0 0 r_24827 := bn_w (bn_eq c_24828 (show bn 0 0 (0 : Int32) from bn_k (by decide))) (by decide)
            refine lv_aload_n hx hb dX2_daysToFade_97 rfl (lv_at hl 0 rfl) ?_
            refine pg_get S Y ok_X2 3 (by decide) kf2_23 (v := .ref (ad 10 62)) p_ad_6_0 rfl dX2_daysToFade_98 ?_
            refine lv_iload_n hx hb dX2_daysToFade_101 rfl (lv_at hl 1 rfl) ?_
            refine cVp (As := [.int i1]) (rest := []) S Y (x_X4_legible (l := l) (j := 62) I hW hT hQ (by decide)) cw_X4_legible km2_63 (I.opo (k := 10) (j := 62) (by decide) rfl).choose_spec.1 ok_X4.1 rfl rfl ⟨Nat.le_of_ble_eq_true rfl, Nat.le_of_ble_eq_true rfl⟩ hl.1 rfl (Nat.le_of_ble_eq_true rfl) ⟨Nat.le_of_ble_eq_true rfl, Nat.le_of_ble_eq_true rfl⟩ dX2_daysToFade_102 (fun r_24831 H locs er_24831 Y => ?_)
            refine lv_if_eq (tgt := 112) hx hb dX2_daysToFade_105 (by decide) (fun c_24832 => ?_) (fun c_24832 => ?_)
            · have B_24833 : bn 0 0 r_24831 := bn_w (bn_eq c_24832 (show bn 0 0 (0 : Int32) from bn_k (by decide))) (by decide)
              refine lv_aload_n hx hb dX2_daysToFade_112 rfl (lv_at hl 0 rfl) ?_
              refine pg_get S Y ok_X2 3 (by decide) kf2_23 (v := .ref (ad 10 62)) p_ad_6_0 rfl dX2_daysToFade_113 ?_
              obtain ⟨v_24835, v_24837, v_24839, v_24841, v_24843, p_ad_10_62, b_24836, b_24838, b_24840, b_24842, b_24844⟩ := opnC_10 (j := 62) I (by decide)
              have p_ad_10_62 : pt L_45 f_45 (ad 10 62) (.inr (4, [.ref (ad 11 62), .ref (ad 12 62), .int v_24835, .int v_24837, .int v_24839, .int v_24841, .int v_24843])) := p_ad_10_62
              refine pg_getN S Y ok_X4 4 (by decide) kf2_72 (v := .int v_24839) p_ad_10_62 rfl dX2_daysToFade_116 ?_
              refine lv_aload_n hx hb dX2_daysToFade_119 rfl (lv_at hl 0 rfl) ?_
              refine pg_get S Y ok_X2 0 (by decide) kf2_9 (v := .ref (ad 1 0)) p_ad_6_0 rfl dX2_daysToFade_120 ?_
              obtain ⟨v_24845, v_24847, v_24849, v_24851, v_24853, p_ad_1_0, b_24846, b_24848, b_24850, b_24852, b_24854⟩ := opnC_1 (j := 0) I (by decide)
              have p_ad_1_0 : pt L_45 f_45 (ad 1 0) (.inr (10, [.ref (ad 40 0), .ref (ad 41 0), .ref (ad 42 0), .ref (ad 10 0), .ref (ad 43 0), .ref (ad 20 0), .ref (ad 20 1), .ref (ad 20 2), .ref (ad 20 3), .ref (ad 20 4), .int v_24845, .int v_24847, .int v_24849, .int v_24851, .int v_24853])) := p_ad_1_0
              refine pg_getN S Y ok_X10 3 (by decide) kf2_27 (v := .ref (ad 10 0)) p_ad_1_0 rfl dX2_daysToFade_123 ?_
              obtain ⟨v_24855, v_24857, v_24859, v_24861, v_24863, p_ad_10_0, b_24856, b_24858, b_24860, b_24862, b_24864⟩ := opnC_10 (j := 0) I (by decide)
              have p_ad_10_0 : pt L_45 f_45 (ad 10 0) (.inr (4, [.ref (ad 11 0), .ref (ad 12 0), .int v_24855, .int v_24857, .int v_24859, .int v_24861, .int v_24863])) := p_ad_10_0
              refine pg_getN S Y ok_X4 4 (by decide) kf2_72 (v := .int v_24859) p_ad_10_0 rfl dX2_daysToFade_126 ?_
              refine lv_isub hx hb dX2_daysToFade_129 ?_
              refine lv_topi (fun x_24865 ex_24865 => ?_)
              exact prI (post := fun r L1 f1 => SH (spC rs fc tc w q) nnC G ad L1 f1) S Y rfl (by decide) (by decide) hA1 I dX2_daysToFade_130
            · have B_24834 : bn 1 1 r_24831 := bn_w (bn_nel c_24832 er_24831 (show bn 0 0 (0 : Int32) from bn_k (by decide))) (by decide)
              refine lv_iconst (v := (-1)) hx hb dX2_daysToFade_108 (by decide) ?_
              refine lv_goto (tgt := 130) hx hb dX2_daysToFade_109 (by decide) ?_
              exact prI (post := fun r L1 f1 => SH (spC rs fc tc w q) nnC G ad L1 f1) S Y rfl (by decide) (by decide) hA1 I dX2_daysToFade_130
          · have B_24830 : bn 1 1 r_24827 := bn_w (bn_nel c_24828 er_24827 (show bn 0 0 (0 : Int32) from bn_k (by decide))) (by decide)
            refine lv_aload_n hx hb dX2_daysToFade_72 rfl (lv_at hl 0 rfl) ?_
            refine pg_get S Y ok_X2 2 (by decide) kf2_19 (v := .ref (ad 5 0)) p_ad_6_0 rfl dX2_daysToFade_73 ?_
            refine lv_aload_n hx hb dX2_daysToFade_76 rfl (lv_at hl 0 rfl) ?_
            refine pg_get S Y ok_X2 3 (by decide) kf2_23 (v := .ref (ad 10 62)) p_ad_6_0 rfl dX2_daysToFade_77 ?_
            refine lv_iload_n hx hb dX2_daysToFade_80 rfl (lv_at hl 2 rfl) ?_
            refine cVv (As := [.ref (ad 10 62), .int y45_2]) (rest := []) S Y (x_X1_wearDown (l := l) (j := 62) I hW hT hQ (by decide)) cw_X1_wearDown km2_66 (I.opo (k := 5) (j := 0) (by decide) rfl).choose_spec.1 ok_X1.1 rfl rfl ⟨Nat.le_of_ble_eq_true rfl, Nat.le_of_ble_eq_true rfl⟩ hl.1 rfl (Nat.le_of_ble_eq_true rfl) ⟨Nat.le_of_ble_eq_true rfl, Nat.le_of_ble_eq_true rfl⟩ dX2_daysToFade_81 (fun L_24866 f_24867 H locs I Y => ?_)
            refine lv_aload_n hx hb dX2_daysToFade_84 rfl (lv_at hl 0 rfl) ?_
            have p_ad_6_0 := opnC_6 (j := 0) I (by decide)
            have p_ad_6_0 : pt L_24866 f_24867 (ad 6 0) (.inr (2, [.ref (ad 1 0), .ref (ad 3 0), .ref (ad 5 0), .ref (ad 10 62)])) := p_ad_6_0
            refine pg_get S Y ok_X2 3 (by decide) kf2_23 (v := .ref (ad 10 62)) p_ad_6_0 rfl dX2_daysToFade_85 ?_
            refine cVv (As := []) (rest := []) S Y (x_X4_turnDay (l := l) (j := 62) I hW hT hQ (by decide)) cw_X4_turnDay km2_42 (I.opo (k := 10) (j := 62) (by decide) rfl).choose_spec.1 ok_X4.1 rfl rfl ⟨Nat.le_of_ble_eq_true rfl, Nat.le_of_ble_eq_true rfl⟩ hl.1 rfl (Nat.le_of_ble_eq_true rfl) ⟨Nat.le_of_ble_eq_true rfl, Nat.le_of_ble_eq_true rfl⟩ dX2_daysToFade_88 (fun L_24868 f_24869 H locs I Y => ?_)
            obtain ⟨x_24870, ex_24870⟩ : ∃ z : Int32, z = y45_3 + 1 := ⟨_, rfl⟩
            refine lv_iinc (v := x_24870) (lv' := [(3, .int x_24870), (0, .ref (ad 6 0)), (1, .int i1), (2, .int y45_2)]) hx hb dX2_daysToFade_91 hl (k := 3) rfl (by rw [ex_24870]; rfl) (by decide) rfl (fun ls hl => ?_)
            refine lv_goto (tgt := 45) hx hb dX2_daysToFade_94 (by decide) ?_
            exact ih45 _ (by rw [← hm45]; exact ms_up (m := 1) ex_24870 (show bn 1 1 (1 : Int32) from bn_k (by decide)) B_24752 (bn_w (bn_eq ex_24870 (bn_add B_24752 (show bn 1 1 (1 : Int32) from bn_k (by decide)) (by decide))) (by decide) : bn 0 60 x_24870) (by decide)) y45_2 x_24870 _ _  _ _ _ I (bn_w (bn_eq ex_24870 (bn_add B_24752 (show bn 1 1 (1 : Int32) from bn_k (by decide)) (by decide))) (by decide)) rfl Y (lv_sub hl [1, 2, 3, 0] rfl)
  refine lv_aload_n hx hb dX2_daysToFade_0 rfl (lv_at hl 0 rfl) ?_
  have p_ad_6_0 := opnC_6 (j := 0) I (by decide)
  have p_ad_6_0 : pt L f (ad 6 0) (.inr (2, [.ref (ad 1 0), .ref (ad 3 0), .ref (ad 5 0), .ref (ad 10 62)])) := p_ad_6_0
  refine pg_get S Y ok_X2 0 (by decide) kf2_9 (v := .ref (ad 1 0)) p_ad_6_0 rfl dX2_daysToFade_1 ?_
  obtain ⟨v_24871, v_24873, v_24875, v_24877, v_24879, p_ad_1_0, b_24872, b_24874, b_24876, b_24878, b_24880⟩ := opnC_1 (j := 0) I (by decide)
  have p_ad_1_0 : pt L f (ad 1 0) (.inr (10, [.ref (ad 40 0), .ref (ad 41 0), .ref (ad 42 0), .ref (ad 10 0), .ref (ad 43 0), .ref (ad 20 0), .ref (ad 20 1), .ref (ad 20 2), .ref (ad 20 3), .ref (ad 20 4), .int v_24871, .int v_24873, .int v_24875, .int v_24877, .int v_24879])) := p_ad_1_0
  refine pg_getN S Y ok_X10 3 (by decide) kf2_27 (v := .ref (ad 10 0)) p_ad_1_0 rfl dX2_daysToFade_4 ?_
  refine lv_iload_n hx hb dX2_daysToFade_7 rfl (lv_at hl 1 rfl) ?_
  refine cVp (As := [.int i1]) (rest := []) S Y (x_X4_unreleased (l := l) (j := 0) I hW hT hQ (by decide)) cw_X4_unreleased km2_55 (I.opo (k := 10) (j := 0) (by decide) rfl).choose_spec.1 ok_X4.1 rfl rfl ⟨Nat.le_of_ble_eq_true rfl, Nat.le_of_ble_eq_true rfl⟩ hl.1 rfl (Nat.le_of_ble_eq_true rfl) ⟨Nat.le_of_ble_eq_true rfl, Nat.le_of_ble_eq_true rfl⟩ dX2_daysToFade_8 (fun r_24881 H locs er_24881 Y => ?_)
  refine lv_if_ne (tgt := 16) hx hb dX2_daysToFade_11 (by decide) (fun c_24882 => ?_) (fun c_24882 => ?_)
  · have B_24883 : bn 1 1 r_24881 := bn_w (bn_nel c_24882 er_24881 (show bn 0 0 (0 : Int32) from bn_k (by decide))) (by decide)
    refine lv_aload_n hx hb dX2_daysToFade_16 rfl (lv_at hl 0 rfl) ?_
    refine pg_get S Y ok_X2 0 (by decide) kf2_9 (v := .ref (ad 1 0)) p_ad_6_0 rfl dX2_daysToFade_17 ?_
    refine pg_getN S Y ok_X10 3 (by decide) kf2_27 (v := .ref (ad 10 0)) p_ad_1_0 rfl dX2_daysToFade_20 ?_
    refine lv_iload_n hx hb dX2_daysToFade_23 rfl (lv_at hl 1 rfl) ?_
    refine lv_iconst (v := 1) hx hb dX2_daysToFade_24 (by decide) ?_
    refine cVp (As := [.int i1, .int 1]) (rest := []) S Y (x_X4_get (l := l) (j := 0) I hW hT hQ (by decide)) cw_X4_get km2_59 (I.opo (k := 10) (j := 0) (by decide) rfl).choose_spec.1 ok_X4.1 rfl rfl ⟨Nat.le_of_ble_eq_true rfl, Nat.le_of_ble_eq_true rfl⟩ hl.1 rfl (Nat.le_of_ble_eq_true rfl) ⟨Nat.le_of_ble_eq_true rfl, Nat.le_of_ble_eq_true rfl⟩ dX2_daysToFade_25 (fun r_24885 H locs er_24885 Y => ?_)
    refine lv_istore_n (lv' := [(2, .int r_24885), (0, .ref (ad 6 0)), (1, .int i1)]) hx hb dX2_daysToFade_28 rfl hl (by decide) rfl (fun ls hl => ?_)
    refine lv_aload_n hx hb dX2_daysToFade_29 rfl (lv_at hl 1 rfl) ?_
    refine pg_get S Y ok_X2 3 (by decide) kf2_23 (v := .ref (ad 10 62)) p_ad_6_0 rfl dX2_daysToFade_30 ?_
    refine lv_aload_n hx hb dX2_daysToFade_33 rfl (lv_at hl 1 rfl) ?_
    refine pg_get S Y ok_X2 0 (by decide) kf2_9 (v := .ref (ad 1 0)) p_ad_6_0 rfl dX2_daysToFade_34 ?_
    refine pg_getN S Y ok_X10 3 (by decide) kf2_27 (v := .ref (ad 10 0)) p_ad_1_0 rfl dX2_daysToFade_37 ?_
    refine cVv (As := [.ref (ad 10 0)]) (rest := []) S Y (x_X4_takeOver (l := l) (j := 62) (i := 0) I hW hT hQ (by decide) (by decide) (by omega)) cw_X4_takeOver km2_32 (I.opo (k := 10) (j := 62) (by decide) rfl).choose_spec.1 ok_X4.1 rfl rfl ⟨Nat.le_of_ble_eq_true rfl, Nat.le_of_ble_eq_true rfl⟩ hl.1 rfl (Nat.le_of_ble_eq_true rfl) ⟨Nat.le_of_ble_eq_true rfl, Nat.le_of_ble_eq_true rfl⟩ dX2_daysToFade_40 (fun L_24886 f_24887 H locs I Y => ?_)
    refine lv_iconst (v := 0) hx hb dX2_daysToFade_43 (by decide) ?_
    refine lv_istore_n (lv' := [(3, .int 0), (2, .int r_24885), (0, .ref (ad 6 0)), (1, .int i1)]) hx hb dX2_daysToFade_44 rfl hl (by decide) rfl (fun ls hl => ?_)
    exact J_45 _ r_24885 0 _ _  _ _ _ I (bn_w (show bn 0 0 (0 : Int32) from bn_k (by decide)) (by decide)) rfl Y (lv_sub hl [2, 3, 1, 0] rfl)
  · have B_24884 : bn 0 0 r_24881 := bn_w (bn_eq c_24882 (show bn 0 0 (0 : Int32) from bn_k (by decide))) (by decide)
    refine lv_iconst (v := (-1)) hx hb dX2_daysToFade_14 (by decide) ?_
    exact prI (post := fun r L1 f1 => SH (spC rs fc tc w q) nnC G ad L1 f1) S Y rfl (by decide) (by decide) hA1 I dX2_daysToFade_15
