theorem dX8_gatherMembers_0 : decode cX8_gatherMembers 0 = .ok (.aload_n 0, 1) := by decide +kernel
theorem dX8_gatherMembers_1 : decode cX8_gatherMembers 1 = .ok (.iconst 0, 1) := by decide +kernel
theorem dX8_gatherMembers_2 : decode cX8_gatherMembers 2 = .ok (.putfield 50, 3) := by decide +kernel
theorem ok_X8 : clOK 8 RX8 TX8 10 tyX8 := ⟨rfl, fun w h => ⟨(show ∀ w ∈ u_ws RX8 TX8 10, w ∈ lw_tbl by decide +kernel) w h, (show ∀ w ∈ u_ws RX8 TX8 10, gw w = true by decide +kernel) w h⟩, tyX8_ok, nmX8⟩
theorem kf8_50 : inW (Cond.fieldLink RX8 50 "KneeOaths$Suspicions" "memberCount" "I") := ⟨List.mem_of_getElem? (i := 465) (by decide +kernel), by decide +kernel⟩
theorem dX8_gatherMembers_5 : decode cX8_gatherMembers 5 = .ok (.iconst 0, 1) := by decide +kernel
theorem dX8_gatherMembers_6 : decode cX8_gatherMembers 6 = .ok (.istore_n 2, 1) := by decide +kernel
theorem dX8_gatherMembers_7 : decode cX8_gatherMembers 7 = .ok (.iload_n 2, 1) := by decide +kernel
theorem dX8_gatherMembers_8 : decode cX8_gatherMembers 8 = .ok (.aload_n 0, 1) := by decide +kernel
theorem dX8_gatherMembers_9 : decode cX8_gatherMembers 9 = .ok (.getfield 24, 3) := by decide +kernel
theorem kf8_24 : inW (Cond.fieldLink RX8 24 "KneeOaths$Suspicions" "world" "LKneeOaths$World;") := ⟨List.mem_of_getElem? (i := 458) (by decide +kernel), by decide +kernel⟩
theorem dX8_gatherMembers_12 : decode cX8_gatherMembers 12 = .ok (.getfield 63, 3) := by decide +kernel
theorem kf8_63 : inW (Cond.fieldLinkNest RX8 63 "KneeOaths$World" "now" "LKneeOaths$Ledger;" "KneeOaths") := ⟨List.mem_of_getElem? (i := 268) (by decide +kernel), by decide +kernel⟩
theorem dX8_gatherMembers_15 : decode cX8_gatherMembers 15 = .ok (.getfield 68, 3) := by decide +kernel
theorem kf8_68 : inW (Cond.fieldLinkNest RX8 68 "KneeOaths$Ledger" "oathCount" "I" "KneeOaths") := ⟨List.mem_of_getElem? (i := 164) (by decide +kernel), by decide +kernel⟩
theorem dX8_gatherMembers_18 : decode cX8_gatherMembers 18 = .ok (.if_icmp .ge 63, 3) := by decide +kernel
theorem dX8_gatherMembers_81 : decode cX8_gatherMembers 81 = .ok (.return_, 1) := by decide +kernel
theorem dX8_gatherMembers_21 : decode cX8_gatherMembers 21 = .ok (.aload_n 0, 1) := by decide +kernel
theorem dX8_gatherMembers_22 : decode cX8_gatherMembers 22 = .ok (.getfield 24, 3) := by decide +kernel
theorem dX8_gatherMembers_25 : decode cX8_gatherMembers 25 = .ok (.getfield 63, 3) := by decide +kernel
theorem dX8_gatherMembers_28 : decode cX8_gatherMembers 28 = .ok (.iload_n 2, 1) := by decide +kernel
theorem dX8_gatherMembers_29 : decode cX8_gatherMembers 29 = .ok (.iload_n 1, 1) := by decide +kernel
theorem dX8_gatherMembers_30 : decode cX8_gatherMembers 30 = .ok (.invokevirtual 73, 3) := by decide +kernel
theorem km8_73 : inW (Cond.methodLink RX8 73 yX4_legibleOn) := ⟨List.mem_of_getElem? (i := 1235) (by decide +kernel), by decide +kernel⟩
theorem dX8_gatherMembers_33 : decode cX8_gatherMembers 33 = .ok (.ifCond .eq 42, 3) := by decide +kernel
theorem dX8_gatherMembers_75 : decode cX8_gatherMembers 75 = .ok (.iinc 2 1, 3) := by decide +kernel
theorem dX8_gatherMembers_78 : decode cX8_gatherMembers 78 = .ok (.goto (-71), 3) := by decide +kernel
theorem dX8_gatherMembers_36 : decode cX8_gatherMembers 36 = .ok (.aload_n 0, 1) := by decide +kernel
theorem dX8_gatherMembers_37 : decode cX8_gatherMembers 37 = .ok (.getfield 50, 3) := by decide +kernel
theorem dX8_gatherMembers_40 : decode cX8_gatherMembers 40 = .ok (.bipush 14, 2) := by decide +kernel
theorem dX8_gatherMembers_42 : decode cX8_gatherMembers 42 = .ok (.if_icmp .ge 33, 3) := by decide +kernel
theorem dX8_gatherMembers_45 : decode cX8_gatherMembers 45 = .ok (.aload_n 0, 1) := by decide +kernel
theorem dX8_gatherMembers_46 : decode cX8_gatherMembers 46 = .ok (.getfield 9, 3) := by decide +kernel
theorem kf8_9 : inW (Cond.fieldLink RX8 9 "KneeOaths$Suspicions" "members" "[I") := ⟨List.mem_of_getElem? (i := 461) (by decide +kernel), by decide +kernel⟩
theorem dX8_gatherMembers_49 : decode cX8_gatherMembers 49 = .ok (.aload_n 0, 1) := by decide +kernel
theorem dX8_gatherMembers_50 : decode cX8_gatherMembers 50 = .ok (.getfield 50, 3) := by decide +kernel
theorem dX8_gatherMembers_53 : decode cX8_gatherMembers 53 = .ok (.iload_n 2, 1) := by decide +kernel
theorem dX8_gatherMembers_54 : decode cX8_gatherMembers 54 = .ok (.iastore, 1) := by decide +kernel
theorem dX8_gatherMembers_55 : decode cX8_gatherMembers 55 = .ok (.aload_n 0, 1) := by decide +kernel
theorem dX8_gatherMembers_56 : decode cX8_gatherMembers 56 = .ok (.getfield 15, 3) := by decide +kernel
theorem kf8_15 : inW (Cond.fieldLink RX8 15 "KneeOaths$Suspicions" "heldBy" "[I") := ⟨List.mem_of_getElem? (i := 462) (by decide +kernel), by decide +kernel⟩
theorem dX8_gatherMembers_59 : decode cX8_gatherMembers 59 = .ok (.aload_n 0, 1) := by decide +kernel
theorem dX8_gatherMembers_60 : decode cX8_gatherMembers 60 = .ok (.getfield 50, 3) := by decide +kernel
theorem dX8_gatherMembers_63 : decode cX8_gatherMembers 63 = .ok (.iconst 0, 1) := by decide +kernel
theorem dX8_gatherMembers_64 : decode cX8_gatherMembers 64 = .ok (.iastore, 1) := by decide +kernel
theorem dX8_gatherMembers_65 : decode cX8_gatherMembers 65 = .ok (.aload_n 0, 1) := by decide +kernel
theorem dX8_gatherMembers_66 : decode cX8_gatherMembers 66 = .ok (.dup, 1) := by decide +kernel
theorem dX8_gatherMembers_67 : decode cX8_gatherMembers 67 = .ok (.getfield 50, 3) := by decide +kernel
theorem dX8_gatherMembers_70 : decode cX8_gatherMembers 70 = .ok (.iconst 1, 1) := by decide +kernel
theorem dX8_gatherMembers_71 : decode cX8_gatherMembers 71 = .ok (.iadd, 1) := by decide +kernel
theorem dX8_gatherMembers_72 : decode cX8_gatherMembers 72 = .ok (.putfield 50, 3) := by decide +kernel
theorem dX8_gatherFeelings_0 : decode cX8_gatherFeelings 0 = .ok (.aload_n 0, 1) := by decide +kernel
theorem dX8_gatherFeelings_1 : decode cX8_gatherFeelings 1 = .ok (.getfield 24, 3) := by decide +kernel
theorem dX8_gatherFeelings_4 : decode cX8_gatherFeelings 4 = .ok (.getfield 77, 3) := by decide +kernel
theorem kf8_77 : inW (Cond.fieldLinkNest RX8 77 "KneeOaths$World" "feelings" "LKneeOaths$Told;" "KneeOaths") := ⟨List.mem_of_getElem? (i := 274) (by decide +kernel), by decide +kernel⟩
theorem dX8_gatherFeelings_7 : decode cX8_gatherFeelings 7 = .ok (.astore_n 2, 1) := by decide +kernel
theorem dX8_gatherFeelings_8 : decode cX8_gatherFeelings 8 = .ok (.aload_n 0, 1) := by decide +kernel
theorem dX8_gatherFeelings_9 : decode cX8_gatherFeelings 9 = .ok (.getfield 32, 3) := by decide +kernel
theorem kf8_32 : inW (Cond.fieldLink RX8 32 "KneeOaths$Suspicions" "scratch" "LKneeOaths$Ledger;") := ⟨List.mem_of_getElem? (i := 460) (by decide +kernel), by decide +kernel⟩
theorem dX8_gatherFeelings_12 : decode cX8_gatherFeelings 12 = .ok (.aload_n 0, 1) := by decide +kernel
theorem dX8_gatherFeelings_13 : decode cX8_gatherFeelings 13 = .ok (.getfield 24, 3) := by decide +kernel
theorem dX8_gatherFeelings_16 : decode cX8_gatherFeelings 16 = .ok (.getfield 63, 3) := by decide +kernel
theorem dX8_gatherFeelings_19 : decode cX8_gatherFeelings 19 = .ok (.invokevirtual 81, 3) := by decide +kernel
theorem km8_81 : inW (Cond.methodLink RX8 81 yX4_takeOver) := ⟨List.mem_of_getElem? (i := 1240) (by decide +kernel), by decide +kernel⟩
theorem dX8_gatherFeelings_22 : decode cX8_gatherFeelings 22 = .ok (.aload_n 0, 1) := by decide +kernel
theorem dX8_gatherFeelings_23 : decode cX8_gatherFeelings 23 = .ok (.iconst 0, 1) := by decide +kernel
theorem dX8_gatherFeelings_24 : decode cX8_gatherFeelings 24 = .ok (.putfield 85, 3) := by decide +kernel
theorem kf8_85 : inW (Cond.fieldLink RX8 85 "KneeOaths$Suspicions" "feelingCount" "I") := ⟨List.mem_of_getElem? (i := 466) (by decide +kernel), by decide +kernel⟩
theorem dX8_gatherFeelings_27 : decode cX8_gatherFeelings 27 = .ok (.iconst 0, 1) := by decide +kernel
theorem dX8_gatherFeelings_28 : decode cX8_gatherFeelings 28 = .ok (.istore_n 3, 1) := by decide +kernel
theorem dX8_gatherFeelings_29 : decode cX8_gatherFeelings 29 = .ok (.iload_n 3, 1) := by decide +kernel
theorem dX8_gatherFeelings_30 : decode cX8_gatherFeelings 30 = .ok (.aload_n 2, 1) := by decide +kernel
theorem dX8_gatherFeelings_31 : decode cX8_gatherFeelings 31 = .ok (.getfield 88, 3) := by decide +kernel
theorem kf8_88 : inW (Cond.fieldLinkNest RX8 88 "KneeOaths$Told" "count" "I" "KneeOaths") := ⟨List.mem_of_getElem? (i := 222) (by decide +kernel), by decide +kernel⟩
theorem dX8_gatherFeelings_34 : decode cX8_gatherFeelings 34 = .ok (.if_icmp .ge 117, 3) := by decide +kernel
theorem dX8_gatherFeelings_151 : decode cX8_gatherFeelings 151 = .ok (.return_, 1) := by decide +kernel
theorem dX8_gatherFeelings_37 : decode cX8_gatherFeelings 37 = .ok (.aload_n 2, 1) := by decide +kernel
theorem dX8_gatherFeelings_38 : decode cX8_gatherFeelings 38 = .ok (.iload_n 3, 1) := by decide +kernel
theorem dX8_gatherFeelings_39 : decode cX8_gatherFeelings 39 = .ok (.iconst 0, 1) := by decide +kernel
theorem dX8_gatherFeelings_40 : decode cX8_gatherFeelings 40 = .ok (.invokevirtual 93, 3) := by decide +kernel
theorem km8_93 : inW (Cond.methodLink RX8 93 yX9_get) := ⟨List.mem_of_getElem? (i := 1241) (by decide +kernel), by decide +kernel⟩
theorem dX8_gatherFeelings_43 : decode cX8_gatherFeelings 43 = .ok (.iload_n 1, 1) := by decide +kernel
theorem dX8_gatherFeelings_44 : decode cX8_gatherFeelings 44 = .ok (.if_icmp .ne 101, 3) := by decide +kernel
theorem dX8_gatherFeelings_145 : decode cX8_gatherFeelings 145 = .ok (.iinc 3 1, 3) := by decide +kernel
theorem dX8_gatherFeelings_148 : decode cX8_gatherFeelings 148 = .ok (.goto (-119), 3) := by decide +kernel
theorem dX8_gatherFeelings_47 : decode cX8_gatherFeelings 47 = .ok (.aload_n 0, 1) := by decide +kernel
theorem dX8_gatherFeelings_48 : decode cX8_gatherFeelings 48 = .ok (.getfield 85, 3) := by decide +kernel
theorem dX8_gatherFeelings_51 : decode cX8_gatherFeelings 51 = .ok (.bipush 6, 2) := by decide +kernel
theorem dX8_gatherFeelings_53 : decode cX8_gatherFeelings 53 = .ok (.if_icmp .ge 92, 3) := by decide +kernel
theorem dX8_gatherFeelings_56 : decode cX8_gatherFeelings 56 = .ok (.aload_n 0, 1) := by decide +kernel
theorem dX8_gatherFeelings_57 : decode cX8_gatherFeelings 57 = .ok (.getfield 32, 3) := by decide +kernel
theorem dX8_gatherFeelings_60 : decode cX8_gatherFeelings 60 = .ok (.aload_n 2, 1) := by decide +kernel
theorem dX8_gatherFeelings_61 : decode cX8_gatherFeelings 61 = .ok (.iload_n 3, 1) := by decide +kernel
theorem dX8_gatherFeelings_62 : decode cX8_gatherFeelings 62 = .ok (.iconst 1, 1) := by decide +kernel
theorem dX8_gatherFeelings_63 : decode cX8_gatherFeelings 63 = .ok (.invokevirtual 93, 3) := by decide +kernel
theorem dX8_gatherFeelings_66 : decode cX8_gatherFeelings 66 = .ok (.putfield 97, 3) := by decide +kernel
theorem kf8_97 : inW (Cond.fieldLinkNest RX8 97 "KneeOaths$Ledger" "rain" "I" "KneeOaths") := ⟨List.mem_of_getElem? (i := 177) (by decide +kernel), by decide +kernel⟩
theorem dX8_gatherFeelings_69 : decode cX8_gatherFeelings 69 = .ok (.aload_n 0, 1) := by decide +kernel
theorem dX8_gatherFeelings_70 : decode cX8_gatherFeelings 70 = .ok (.getfield 21, 3) := by decide +kernel
theorem kf8_21 : inW (Cond.fieldLink RX8 21 "KneeOaths$Suspicions" "unexplained" "[I") := ⟨List.mem_of_getElem? (i := 464) (by decide +kernel), by decide +kernel⟩
theorem dX8_gatherFeelings_73 : decode cX8_gatherFeelings 73 = .ok (.aload_n 0, 1) := by decide +kernel
theorem dX8_gatherFeelings_74 : decode cX8_gatherFeelings 74 = .ok (.getfield 85, 3) := by decide +kernel
theorem dX8_gatherFeelings_77 : decode cX8_gatherFeelings 77 = .ok (.aload_n 2, 1) := by decide +kernel
theorem dX8_gatherFeelings_78 : decode cX8_gatherFeelings 78 = .ok (.iload_n 3, 1) := by decide +kernel
theorem dX8_gatherFeelings_79 : decode cX8_gatherFeelings 79 = .ok (.iconst 2, 1) := by decide +kernel
theorem dX8_gatherFeelings_80 : decode cX8_gatherFeelings 80 = .ok (.invokevirtual 93, 3) := by decide +kernel
theorem dX8_gatherFeelings_83 : decode cX8_gatherFeelings 83 = .ok (.iastore, 1) := by decide +kernel
theorem dX8_gatherFeelings_84 : decode cX8_gatherFeelings 84 = .ok (.iconst 0, 1) := by decide +kernel
theorem dX8_gatherFeelings_85 : decode cX8_gatherFeelings 85 = .ok (.istore 4, 2) := by decide +kernel
theorem dX8_gatherFeelings_87 : decode cX8_gatherFeelings 87 = .ok (.iload 4, 2) := by decide +kernel
theorem dX8_gatherFeelings_89 : decode cX8_gatherFeelings 89 = .ok (.aload_n 0, 1) := by decide +kernel
theorem dX8_gatherFeelings_90 : decode cX8_gatherFeelings 90 = .ok (.getfield 50, 3) := by decide +kernel
theorem dX8_gatherFeelings_93 : decode cX8_gatherFeelings 93 = .ok (.if_icmp .ge 42, 3) := by decide +kernel
theorem dX8_gatherFeelings_135 : decode cX8_gatherFeelings 135 = .ok (.aload_n 0, 1) := by decide +kernel
theorem dX8_gatherFeelings_136 : decode cX8_gatherFeelings 136 = .ok (.dup, 1) := by decide +kernel
theorem dX8_gatherFeelings_137 : decode cX8_gatherFeelings 137 = .ok (.getfield 85, 3) := by decide +kernel
theorem dX8_gatherFeelings_140 : decode cX8_gatherFeelings 140 = .ok (.iconst 1, 1) := by decide +kernel
theorem dX8_gatherFeelings_141 : decode cX8_gatherFeelings 141 = .ok (.iadd, 1) := by decide +kernel
theorem dX8_gatherFeelings_142 : decode cX8_gatherFeelings 142 = .ok (.putfield 85, 3) := by decide +kernel
theorem dX8_gatherFeelings_96 : decode cX8_gatherFeelings 96 = .ok (.aload_n 0, 1) := by decide +kernel
theorem dX8_gatherFeelings_97 : decode cX8_gatherFeelings 97 = .ok (.getfield 18, 3) := by decide +kernel
theorem kf8_18 : inW (Cond.fieldLink RX8 18 "KneeOaths$Suspicions" "pains" "[I") := ⟨List.mem_of_getElem? (i := 463) (by decide +kernel), by decide +kernel⟩
theorem dX8_gatherFeelings_100 : decode cX8_gatherFeelings 100 = .ok (.aload_n 0, 1) := by decide +kernel
theorem dX8_gatherFeelings_101 : decode cX8_gatherFeelings 101 = .ok (.getfield 85, 3) := by decide +kernel
theorem dX8_gatherFeelings_104 : decode cX8_gatherFeelings 104 = .ok (.bipush 14, 2) := by decide +kernel
theorem dX8_gatherFeelings_106 : decode cX8_gatherFeelings 106 = .ok (.imul, 1) := by decide +kernel
theorem dX8_gatherFeelings_107 : decode cX8_gatherFeelings 107 = .ok (.iload 4, 2) := by decide +kernel
theorem dX8_gatherFeelings_109 : decode cX8_gatherFeelings 109 = .ok (.iadd, 1) := by decide +kernel
theorem dX8_gatherFeelings_110 : decode cX8_gatherFeelings 110 = .ok (.aload_n 0, 1) := by decide +kernel
theorem dX8_gatherFeelings_111 : decode cX8_gatherFeelings 111 = .ok (.getfield 28, 3) := by decide +kernel
theorem kf8_28 : inW (Cond.fieldLink RX8 28 "KneeOaths$Suspicions" "judge" "LKneeOaths$Judge;") := ⟨List.mem_of_getElem? (i := 459) (by decide +kernel), by decide +kernel⟩
theorem dX8_gatherFeelings_114 : decode cX8_gatherFeelings 114 = .ok (.aload_n 0, 1) := by decide +kernel
theorem dX8_gatherFeelings_115 : decode cX8_gatherFeelings 115 = .ok (.getfield 32, 3) := by decide +kernel
theorem dX8_gatherFeelings_118 : decode cX8_gatherFeelings 118 = .ok (.aload_n 0, 1) := by decide +kernel
theorem dX8_gatherFeelings_119 : decode cX8_gatherFeelings 119 = .ok (.getfield 9, 3) := by decide +kernel
theorem dX8_gatherFeelings_122 : decode cX8_gatherFeelings 122 = .ok (.iload 4, 2) := by decide +kernel
theorem dX8_gatherFeelings_124 : decode cX8_gatherFeelings 124 = .ok (.iaload, 1) := by decide +kernel
theorem dX8_gatherFeelings_125 : decode cX8_gatherFeelings 125 = .ok (.invokevirtual 100, 3) := by decide +kernel
theorem km8_100 : inW (Cond.methodLink RX8 100 yX3_painOf) := ⟨List.mem_of_getElem? (i := 1245) (by decide +kernel), by decide +kernel⟩
theorem dX8_gatherFeelings_128 : decode cX8_gatherFeelings 128 = .ok (.iastore, 1) := by decide +kernel
theorem dX8_gatherFeelings_129 : decode cX8_gatherFeelings 129 = .ok (.iinc 4 1, 3) := by decide +kernel
theorem dX8_gatherFeelings_132 : decode cX8_gatherFeelings 132 = .ok (.goto (-45), 3) := by decide +kernel
theorem dX8_explain_0 : decode cX8_explain 0 = .ok (.iconst 0, 1) := by decide +kernel
theorem dX8_explain_1 : decode cX8_explain 1 = .ok (.istore_n 3, 1) := by decide +kernel
theorem dX8_explain_2 : decode cX8_explain 2 = .ok (.iload_n 3, 1) := by decide +kernel
theorem dX8_explain_3 : decode cX8_explain 3 = .ok (.aload_n 0, 1) := by decide +kernel
theorem dX8_explain_4 : decode cX8_explain 4 = .ok (.getfield 85, 3) := by decide +kernel
theorem dX8_explain_7 : decode cX8_explain 7 = .ok (.if_icmp .ge 31, 3) := by decide +kernel
theorem dX8_explain_38 : decode cX8_explain 38 = .ok (.return_, 1) := by decide +kernel
theorem dX8_explain_10 : decode cX8_explain 10 = .ok (.aload_n 0, 1) := by decide +kernel
theorem dX8_explain_11 : decode cX8_explain 11 = .ok (.getfield 21, 3) := by decide +kernel
theorem dX8_explain_14 : decode cX8_explain 14 = .ok (.iload_n 3, 1) := by decide +kernel
theorem dX8_explain_15 : decode cX8_explain 15 = .ok (.dup2, 1) := by decide +kernel
theorem dX8_explain_16 : decode cX8_explain 16 = .ok (.iaload, 1) := by decide +kernel
theorem dX8_explain_17 : decode cX8_explain 17 = .ok (.iload_n 2, 1) := by decide +kernel
theorem dX8_explain_18 : decode cX8_explain 18 = .ok (.aload_n 0, 1) := by decide +kernel
theorem dX8_explain_19 : decode cX8_explain 19 = .ok (.getfield 18, 3) := by decide +kernel
theorem dX8_explain_22 : decode cX8_explain 22 = .ok (.iload_n 3, 1) := by decide +kernel
theorem dX8_explain_23 : decode cX8_explain 23 = .ok (.bipush 14, 2) := by decide +kernel
theorem dX8_explain_25 : decode cX8_explain 25 = .ok (.imul, 1) := by decide +kernel
theorem dX8_explain_26 : decode cX8_explain 26 = .ok (.iload_n 1, 1) := by decide +kernel
theorem dX8_explain_27 : decode cX8_explain 27 = .ok (.iadd, 1) := by decide +kernel
theorem dX8_explain_28 : decode cX8_explain 28 = .ok (.iaload, 1) := by decide +kernel
theorem dX8_explain_29 : decode cX8_explain 29 = .ok (.imul, 1) := by decide +kernel
theorem dX8_explain_30 : decode cX8_explain 30 = .ok (.isub, 1) := by decide +kernel
theorem dX8_explain_31 : decode cX8_explain 31 = .ok (.iastore, 1) := by decide +kernel
theorem dX8_explain_32 : decode cX8_explain 32 = .ok (.iinc 3 1, 3) := by decide +kernel
theorem dX8_explain_35 : decode cX8_explain 35 = .ok (.goto (-33), 3) := by decide +kernel
theorem dX8_countSet_0 : decode cX8_countSet 0 = .ok (.iconst 0, 1) := by decide +kernel
theorem dX8_countSet_1 : decode cX8_countSet 1 = .ok (.istore_n 2, 1) := by decide +kernel
theorem dX8_countSet_2 : decode cX8_countSet 2 = .ok (.iload_n 2, 1) := by decide +kernel
theorem dX8_countSet_3 : decode cX8_countSet 3 = .ok (.aload_n 0, 1) := by decide +kernel
theorem dX8_countSet_4 : decode cX8_countSet 4 = .ok (.getfield 85, 3) := by decide +kernel
theorem dX8_countSet_7 : decode cX8_countSet 7 = .ok (.if_icmp .ge 19, 3) := by decide +kernel
theorem dX8_countSet_26 : decode cX8_countSet 26 = .ok (.aload_n 0, 1) := by decide +kernel
theorem dX8_countSet_27 : decode cX8_countSet 27 = .ok (.dup, 1) := by decide +kernel
theorem dX8_countSet_28 : decode cX8_countSet 28 = .ok (.getfield 43, 3) := by decide +kernel
theorem kf8_43 : inW (Cond.fieldLink RX8 43 "KneeOaths$Suspicions" "setCount" "I") := ⟨List.mem_of_getElem? (i := 467) (by decide +kernel), by decide +kernel⟩
theorem dX8_countSet_31 : decode cX8_countSet 31 = .ok (.iconst 1, 1) := by decide +kernel
theorem dX8_countSet_32 : decode cX8_countSet 32 = .ok (.iadd, 1) := by decide +kernel
theorem dX8_countSet_33 : decode cX8_countSet 33 = .ok (.putfield 43, 3) := by decide +kernel
theorem dX8_countSet_36 : decode cX8_countSet 36 = .ok (.iconst 0, 1) := by decide +kernel
theorem dX8_countSet_37 : decode cX8_countSet 37 = .ok (.istore_n 2, 1) := by decide +kernel
theorem dX8_countSet_10 : decode cX8_countSet 10 = .ok (.aload_n 0, 1) := by decide +kernel
theorem dX8_countSet_11 : decode cX8_countSet 11 = .ok (.getfield 21, 3) := by decide +kernel
theorem dX8_countSet_14 : decode cX8_countSet 14 = .ok (.iload_n 2, 1) := by decide +kernel
theorem dX8_countSet_15 : decode cX8_countSet 15 = .ok (.iaload, 1) := by decide +kernel
theorem dX8_countSet_16 : decode cX8_countSet 16 = .ok (.ifCond .eq 4, 3) := by decide +kernel
theorem dX8_countSet_20 : decode cX8_countSet 20 = .ok (.iinc 2 1, 3) := by decide +kernel
theorem dX8_countSet_23 : decode cX8_countSet 23 = .ok (.goto (-21), 3) := by decide +kernel
theorem dX8_countSet_19 : decode cX8_countSet 19 = .ok (.return_, 1) := by decide +kernel
theorem dX8_countSet_38 : decode cX8_countSet 38 = .ok (.iload_n 2, 1) := by decide +kernel
theorem dX8_countSet_39 : decode cX8_countSet 39 = .ok (.aload_n 0, 1) := by decide +kernel
theorem dX8_countSet_40 : decode cX8_countSet 40 = .ok (.getfield 50, 3) := by decide +kernel
theorem dX8_countSet_43 : decode cX8_countSet 43 = .ok (.if_icmp .ge 23, 3) := by decide +kernel
theorem dX8_countSet_66 : decode cX8_countSet 66 = .ok (.return_, 1) := by decide +kernel
theorem dX8_countSet_46 : decode cX8_countSet 46 = .ok (.aload_n 0, 1) := by decide +kernel
theorem dX8_countSet_47 : decode cX8_countSet 47 = .ok (.getfield 15, 3) := by decide +kernel
theorem dX8_countSet_50 : decode cX8_countSet 50 = .ok (.iload_n 2, 1) := by decide +kernel
theorem dX8_countSet_51 : decode cX8_countSet 51 = .ok (.dup2, 1) := by decide +kernel
theorem dX8_countSet_52 : decode cX8_countSet 52 = .ok (.iaload, 1) := by decide +kernel
theorem dX8_countSet_53 : decode cX8_countSet 53 = .ok (.iload_n 1, 1) := by decide +kernel
theorem dX8_countSet_54 : decode cX8_countSet 54 = .ok (.iload_n 2, 1) := by decide +kernel
theorem dX8_countSet_55 : decode cX8_countSet 55 = .ok (.ishr, 1) := by decide +kernel
theorem dX8_countSet_56 : decode cX8_countSet 56 = .ok (.iconst 1, 1) := by decide +kernel
theorem dX8_countSet_57 : decode cX8_countSet 57 = .ok (.iand, 1) := by decide +kernel
theorem dX8_countSet_58 : decode cX8_countSet 58 = .ok (.iadd, 1) := by decide +kernel
theorem dX8_countSet_59 : decode cX8_countSet 59 = .ok (.iastore, 1) := by decide +kernel
theorem dX8_countSet_60 : decode cX8_countSet 60 = .ok (.iinc 2 1, 3) := by decide +kernel
theorem dX8_countSet_63 : decode cX8_countSet 63 = .ok (.goto (-25), 3) := by decide +kernel
theorem dX8_weigh_0 : decode cX8_weigh 0 = .ok (.aload_n 0, 1) := by decide +kernel
theorem dX8_weigh_1 : decode cX8_weigh 1 = .ok (.iload_n 1, 1) := by decide +kernel
theorem dX8_weigh_2 : decode cX8_weigh 2 = .ok (.invokevirtual 36, 3) := by decide +kernel
theorem cw_X8_gatherMembers : CWv yX8_gatherMembers cX8_gatherMembers 3 none 1 := ⟨⟨⟨List.mem_of_getElem? (i := 135) (by decide +kernel), by decide +kernel⟩, ⟨List.mem_of_getElem? (i := 1234) (by decide +kernel), by decide +kernel⟩, by decide +kernel⟩, ⟨List.mem_of_getElem? (i := 1233) (by decide +kernel), by decide +kernel⟩, ⟨List.mem_of_getElem? (i := 35) (by decide +kernel), by decide +kernel⟩⟩
theorem km8_36 : inW (Cond.methodLink RX8 36 yX8_gatherMembers) := ⟨List.mem_of_getElem? (i := 1231) (by decide +kernel), by decide +kernel⟩
theorem dX8_weigh_5 : decode cX8_weigh 5 = .ok (.aload_n 0, 1) := by decide +kernel
theorem dX8_weigh_6 : decode cX8_weigh 6 = .ok (.iload_n 1, 1) := by decide +kernel
theorem dX8_weigh_7 : decode cX8_weigh 7 = .ok (.invokevirtual 40, 3) := by decide +kernel
theorem cw_X8_gatherFeelings : CWv yX8_gatherFeelings cX8_gatherFeelings 5 none 1 := ⟨⟨⟨List.mem_of_getElem? (i := 135) (by decide +kernel), by decide +kernel⟩, ⟨List.mem_of_getElem? (i := 1239) (by decide +kernel), by decide +kernel⟩, by decide +kernel⟩, ⟨List.mem_of_getElem? (i := 1238) (by decide +kernel), by decide +kernel⟩, ⟨List.mem_of_getElem? (i := 36) (by decide +kernel), by decide +kernel⟩⟩
theorem km8_40 : inW (Cond.methodLink RX8 40 yX8_gatherFeelings) := ⟨List.mem_of_getElem? (i := 1236) (by decide +kernel), by decide +kernel⟩
theorem dX8_weigh_10 : decode cX8_weigh 10 = .ok (.aload_n 0, 1) := by decide +kernel
theorem dX8_weigh_11 : decode cX8_weigh 11 = .ok (.iconst 0, 1) := by decide +kernel
theorem dX8_weigh_12 : decode cX8_weigh 12 = .ok (.putfield 43, 3) := by decide +kernel
theorem dX8_weigh_15 : decode cX8_weigh 15 = .ok (.iconst 0, 1) := by decide +kernel
theorem dX8_weigh_16 : decode cX8_weigh 16 = .ok (.istore_n 2, 1) := by decide +kernel
theorem dX8_weigh_17 : decode cX8_weigh 17 = .ok (.aload_n 0, 1) := by decide +kernel
theorem dX8_weigh_18 : decode cX8_weigh 18 = .ok (.iload_n 2, 1) := by decide +kernel
theorem dX8_weigh_19 : decode cX8_weigh 19 = .ok (.invokevirtual 47, 3) := by decide +kernel
theorem cw_X8_countSet : CWv yX8_countSet cX8_countSet 3 none 1 := ⟨⟨⟨List.mem_of_getElem? (i := 135) (by decide +kernel), by decide +kernel⟩, ⟨List.mem_of_getElem? (i := 1249) (by decide +kernel), by decide +kernel⟩, by decide +kernel⟩, ⟨List.mem_of_getElem? (i := 1248) (by decide +kernel), by decide +kernel⟩, ⟨List.mem_of_getElem? (i := 37) (by decide +kernel), by decide +kernel⟩⟩
theorem km8_47 : inW (Cond.methodLink RX8 47 yX8_countSet) := ⟨List.mem_of_getElem? (i := 1246) (by decide +kernel), by decide +kernel⟩
theorem dX8_weigh_22 : decode cX8_weigh 22 = .ok (.iconst 1, 1) := by decide +kernel
theorem dX8_weigh_23 : decode cX8_weigh 23 = .ok (.istore_n 3, 1) := by decide +kernel
theorem dX8_weigh_24 : decode cX8_weigh 24 = .ok (.iload_n 3, 1) := by decide +kernel
theorem dX8_weigh_25 : decode cX8_weigh 25 = .ok (.iconst 1, 1) := by decide +kernel
theorem dX8_weigh_26 : decode cX8_weigh 26 = .ok (.aload_n 0, 1) := by decide +kernel
theorem dX8_weigh_27 : decode cX8_weigh 27 = .ok (.getfield 50, 3) := by decide +kernel
theorem dX8_weigh_30 : decode cX8_weigh 30 = .ok (.ishl, 1) := by decide +kernel
theorem dX8_weigh_31 : decode cX8_weigh 31 = .ok (.if_icmp .ge 52, 3) := by decide +kernel
theorem dX8_weigh_83 : decode cX8_weigh 83 = .ok (.return_, 1) := by decide +kernel
theorem dX8_weigh_34 : decode cX8_weigh 34 = .ok (.iload_n 3, 1) := by decide +kernel
theorem dX8_weigh_35 : decode cX8_weigh 35 = .ok (.iload_n 3, 1) := by decide +kernel
theorem dX8_weigh_36 : decode cX8_weigh 36 = .ok (.ineg, 1) := by decide +kernel
theorem dX8_weigh_37 : decode cX8_weigh 37 = .ok (.iand, 1) := by decide +kernel
theorem dX8_weigh_38 : decode cX8_weigh 38 = .ok (.iconst 1, 1) := by decide +kernel
theorem dX8_weigh_39 : decode cX8_weigh 39 = .ok (.isub, 1) := by decide +kernel
theorem dX8_weigh_40 : decode cX8_weigh 40 = .ok (.invokestatic 53, 3) := by decide +kernel
theorem km8_53 : inW (Cond.methodLink RX8 53 yJ6_bitCount_0f7a4) := ⟨List.mem_of_getElem? (i := 1250) (by decide +kernel), by decide +kernel⟩
theorem dX8_weigh_43 : decode cX8_weigh 43 = .ok (.istore 4, 2) := by decide +kernel
theorem dX8_weigh_45 : decode cX8_weigh 45 = .ok (.iload_n 2, 1) := by decide +kernel
theorem dX8_weigh_46 : decode cX8_weigh 46 = .ok (.iconst 1, 1) := by decide +kernel
theorem dX8_weigh_47 : decode cX8_weigh 47 = .ok (.iload 4, 2) := by decide +kernel
theorem dX8_weigh_49 : decode cX8_weigh 49 = .ok (.ishl, 1) := by decide +kernel
theorem dX8_weigh_50 : decode cX8_weigh 50 = .ok (.ixor, 1) := by decide +kernel
theorem dX8_weigh_51 : decode cX8_weigh 51 = .ok (.istore_n 2, 1) := by decide +kernel
theorem dX8_weigh_52 : decode cX8_weigh 52 = .ok (.aload_n 0, 1) := by decide +kernel
theorem dX8_weigh_53 : decode cX8_weigh 53 = .ok (.iload 4, 2) := by decide +kernel
theorem dX8_weigh_55 : decode cX8_weigh 55 = .ok (.iload_n 2, 1) := by decide +kernel
theorem dX8_weigh_56 : decode cX8_weigh 56 = .ok (.iload 4, 2) := by decide +kernel
theorem dX8_weigh_58 : decode cX8_weigh 58 = .ok (.ishr, 1) := by decide +kernel
theorem dX8_weigh_59 : decode cX8_weigh 59 = .ok (.iconst 1, 1) := by decide +kernel
theorem dX8_weigh_60 : decode cX8_weigh 60 = .ok (.iand, 1) := by decide +kernel
theorem dX8_weigh_61 : decode cX8_weigh 61 = .ok (.ifCond .eq 7, 3) := by decide +kernel
theorem dX8_weigh_68 : decode cX8_weigh 68 = .ok (.iconst (-1), 1) := by decide +kernel
theorem dX8_weigh_69 : decode cX8_weigh 69 = .ok (.invokevirtual 59, 3) := by decide +kernel
theorem cw_X8_explain : CWv yX8_explain cX8_explain 4 none 2 := ⟨⟨⟨List.mem_of_getElem? (i := 135) (by decide +kernel), by decide +kernel⟩, ⟨List.mem_of_getElem? (i := 1254) (by decide +kernel), by decide +kernel⟩, by decide +kernel⟩, ⟨List.mem_of_getElem? (i := 1253) (by decide +kernel), by decide +kernel⟩, ⟨List.mem_of_getElem? (i := 38) (by decide +kernel), by decide +kernel⟩⟩
theorem km8_59 : inW (Cond.methodLink RX8 59 yX8_explain) := ⟨List.mem_of_getElem? (i := 1251) (by decide +kernel), by decide +kernel⟩
theorem dX8_weigh_72 : decode cX8_weigh 72 = .ok (.aload_n 0, 1) := by decide +kernel
theorem dX8_weigh_73 : decode cX8_weigh 73 = .ok (.iload_n 2, 1) := by decide +kernel
theorem dX8_weigh_74 : decode cX8_weigh 74 = .ok (.invokevirtual 47, 3) := by decide +kernel
theorem dX8_weigh_77 : decode cX8_weigh 77 = .ok (.iinc 3 1, 3) := by decide +kernel
theorem dX8_weigh_80 : decode cX8_weigh 80 = .ok (.goto (-56), 3) := by decide +kernel
theorem dX8_weigh_64 : decode cX8_weigh 64 = .ok (.iconst 1, 1) := by decide +kernel
theorem dX8_weigh_65 : decode cX8_weigh 65 = .ok (.goto 4, 3) := by decide +kernel
theorem dX8_sets_0 : decode cX8_sets 0 = .ok (.aload_n 0, 1) := by decide +kernel
theorem dX8_sets_1 : decode cX8_sets 1 = .ok (.getfield 43, 3) := by decide +kernel
theorem dX8_sets_4 : decode cX8_sets 4 = .ok (.ireturn, 1) := by decide +kernel
theorem dX8_heldByJust_0 : decode cX8_heldByJust 0 = .ok (.iconst 0, 1) := by decide +kernel
theorem dX8_heldByJust_1 : decode cX8_heldByJust 1 = .ok (.istore_n 2, 1) := by decide +kernel
theorem dX8_heldByJust_2 : decode cX8_heldByJust 2 = .ok (.iconst 0, 1) := by decide +kernel
theorem dX8_heldByJust_3 : decode cX8_heldByJust 3 = .ok (.istore_n 3, 1) := by decide +kernel
theorem dX8_heldByJust_4 : decode cX8_heldByJust 4 = .ok (.iload_n 3, 1) := by decide +kernel
theorem dX8_heldByJust_5 : decode cX8_heldByJust 5 = .ok (.aload_n 0, 1) := by decide +kernel
theorem dX8_heldByJust_6 : decode cX8_heldByJust 6 = .ok (.getfield 50, 3) := by decide +kernel
theorem dX8_heldByJust_9 : decode cX8_heldByJust 9 = .ok (.if_icmp .ge 30, 3) := by decide +kernel
theorem dX8_heldByJust_39 : decode cX8_heldByJust 39 = .ok (.iload_n 2, 1) := by decide +kernel
theorem dX8_heldByJust_40 : decode cX8_heldByJust 40 = .ok (.ireturn, 1) := by decide +kernel
theorem dX8_heldByJust_12 : decode cX8_heldByJust 12 = .ok (.aload_n 0, 1) := by decide +kernel
theorem dX8_heldByJust_13 : decode cX8_heldByJust 13 = .ok (.getfield 15, 3) := by decide +kernel
theorem dX8_heldByJust_16 : decode cX8_heldByJust 16 = .ok (.iload_n 3, 1) := by decide +kernel
theorem dX8_heldByJust_17 : decode cX8_heldByJust 17 = .ok (.iaload, 1) := by decide +kernel
theorem dX8_heldByJust_18 : decode cX8_heldByJust 18 = .ok (.iload_n 1, 1) := by decide +kernel
theorem dX8_heldByJust_19 : decode cX8_heldByJust 19 = .ok (.if_icmp .ne 14, 3) := by decide +kernel
theorem dX8_heldByJust_33 : decode cX8_heldByJust 33 = .ok (.iinc 3 1, 3) := by decide +kernel
theorem dX8_heldByJust_36 : decode cX8_heldByJust 36 = .ok (.goto (-32), 3) := by decide +kernel
theorem dX8_heldByJust_22 : decode cX8_heldByJust 22 = .ok (.iload_n 2, 1) := by decide +kernel
theorem dX8_heldByJust_23 : decode cX8_heldByJust 23 = .ok (.iconst 1, 1) := by decide +kernel
theorem dX8_heldByJust_24 : decode cX8_heldByJust 24 = .ok (.aload_n 0, 1) := by decide +kernel
theorem dX8_heldByJust_25 : decode cX8_heldByJust 25 = .ok (.getfield 9, 3) := by decide +kernel
theorem dX8_heldByJust_28 : decode cX8_heldByJust 28 = .ok (.iload_n 3, 1) := by decide +kernel
theorem dX8_heldByJust_29 : decode cX8_heldByJust 29 = .ok (.iaload, 1) := by decide +kernel
theorem dX8_heldByJust_30 : decode cX8_heldByJust 30 = .ok (.ishl, 1) := by decide +kernel
theorem dX8_heldByJust_31 : decode cX8_heldByJust 31 = .ok (.ior, 1) := by decide +kernel
theorem dX8_heldByJust_32 : decode cX8_heldByJust 32 = .ok (.istore_n 2, 1) := by decide +kernel
theorem dX8_sureBroken_0 : decode cX8_sureBroken 0 = .ok (.aload_n 0, 1) := by decide +kernel
theorem dX8_sureBroken_1 : decode cX8_sureBroken 1 = .ok (.aload_n 0, 1) := by decide +kernel
theorem dX8_sureBroken_2 : decode cX8_sureBroken 2 = .ok (.getfield 43, 3) := by decide +kernel
theorem dX8_sureBroken_5 : decode cX8_sureBroken 5 = .ok (.invokevirtual 106, 3) := by decide +kernel
theorem cw_X8_heldByJust : CWv yX8_heldByJust cX8_heldByJust 4 (some .int) 1 := ⟨⟨⟨List.mem_of_getElem? (i := 135) (by decide +kernel), by decide +kernel⟩, ⟨List.mem_of_getElem? (i := 1266) (by decide +kernel), by decide +kernel⟩, by decide +kernel⟩, ⟨List.mem_of_getElem? (i := 1265) (by decide +kernel), by decide +kernel⟩, ⟨List.mem_of_getElem? (i := 39) (by decide +kernel), by decide +kernel⟩⟩
theorem km8_106 : inW (Cond.methodLink RX8 106 yX8_heldByJust) := ⟨List.mem_of_getElem? (i := 1263) (by decide +kernel), by decide +kernel⟩
theorem dX8_sureBroken_8 : decode cX8_sureBroken 8 = .ok (.ireturn, 1) := by decide +kernel
theorem dX8_sureKept_0 : decode cX8_sureKept 0 = .ok (.aload_n 0, 1) := by decide +kernel
theorem dX8_sureKept_1 : decode cX8_sureKept 1 = .ok (.iconst 0, 1) := by decide +kernel
theorem dX8_sureKept_2 : decode cX8_sureKept 2 = .ok (.invokevirtual 106, 3) := by decide +kernel
theorem dX8_sureKept_5 : decode cX8_sureKept 5 = .ok (.ireturn, 1) := by decide +kernel
theorem dX8_commonMeasure_0 : decode cX8_commonMeasure 0 = .ok (.iload_n 0, 1) := by decide +kernel
theorem dX8_commonMeasure_1 : decode cX8_commonMeasure 1 = .ok (.istore_n 2, 1) := by decide +kernel
theorem dX8_commonMeasure_2 : decode cX8_commonMeasure 2 = .ok (.iload_n 1, 1) := by decide +kernel
theorem dX8_commonMeasure_3 : decode cX8_commonMeasure 3 = .ok (.istore_n 3, 1) := by decide +kernel
theorem dX8_commonMeasure_4 : decode cX8_commonMeasure 4 = .ok (.iconst 0, 1) := by decide +kernel
theorem dX8_commonMeasure_5 : decode cX8_commonMeasure 5 = .ok (.istore 4, 2) := by decide +kernel
theorem dX8_commonMeasure_7 : decode cX8_commonMeasure 7 = .ok (.iload 4, 2) := by decide +kernel
theorem dX8_commonMeasure_9 : decode cX8_commonMeasure 9 = .ok (.sipush 300, 3) := by decide +kernel
theorem dX8_commonMeasure_12 : decode cX8_commonMeasure 12 = .ok (.if_icmp .ge 23, 3) := by decide +kernel
theorem dX8_commonMeasure_15 : decode cX8_commonMeasure 15 = .ok (.iload_n 3, 1) := by decide +kernel
theorem dX8_commonMeasure_16 : decode cX8_commonMeasure 16 = .ok (.ifCond .eq 19, 3) := by decide +kernel
theorem dX8_commonMeasure_35 : decode cX8_commonMeasure 35 = .ok (.iload_n 2, 1) := by decide +kernel
theorem dX8_commonMeasure_36 : decode cX8_commonMeasure 36 = .ok (.ireturn, 1) := by decide +kernel
theorem dX8_commonMeasure_19 : decode cX8_commonMeasure 19 = .ok (.iload_n 2, 1) := by decide +kernel
theorem dX8_commonMeasure_20 : decode cX8_commonMeasure 20 = .ok (.iload_n 3, 1) := by decide +kernel
theorem dX8_commonMeasure_21 : decode cX8_commonMeasure 21 = .ok (.irem, 1) := by decide +kernel
theorem dX8_commonMeasure_22 : decode cX8_commonMeasure 22 = .ok (.istore 5, 2) := by decide +kernel
theorem dX8_commonMeasure_24 : decode cX8_commonMeasure 24 = .ok (.iload_n 3, 1) := by decide +kernel
theorem dX8_commonMeasure_25 : decode cX8_commonMeasure 25 = .ok (.istore_n 2, 1) := by decide +kernel
theorem dX8_commonMeasure_26 : decode cX8_commonMeasure 26 = .ok (.iload 5, 2) := by decide +kernel
theorem dX8_commonMeasure_28 : decode cX8_commonMeasure 28 = .ok (.istore_n 3, 1) := by decide +kernel
theorem dX8_commonMeasure_29 : decode cX8_commonMeasure 29 = .ok (.iinc 4 1, 3) := by decide +kernel
theorem dX8_commonMeasure_32 : decode cX8_commonMeasure 32 = .ok (.goto (-25), 3) := by decide +kernel
theorem dX8_chance_0 : decode cX8_chance 0 = .ok (.iconst 0, 1) := by decide +kernel
theorem dX8_chance_1 : decode cX8_chance 1 = .ok (.istore_n 3, 1) := by decide +kernel
theorem dX8_chance_2 : decode cX8_chance 2 = .ok (.iconst 0, 1) := by decide +kernel
theorem dX8_chance_3 : decode cX8_chance 3 = .ok (.istore 4, 2) := by decide +kernel
theorem dX8_chance_5 : decode cX8_chance 5 = .ok (.iload 4, 2) := by decide +kernel
theorem dX8_chance_7 : decode cX8_chance 7 = .ok (.aload_n 0, 1) := by decide +kernel
theorem dX8_chance_8 : decode cX8_chance 8 = .ok (.getfield 50, 3) := by decide +kernel
theorem dX8_chance_11 : decode cX8_chance 11 = .ok (.if_icmp .ge 28, 3) := by decide +kernel
theorem dX8_chance_39 : decode cX8_chance 39 = .ok (.iload_n 3, 1) := by decide +kernel
theorem dX8_chance_40 : decode cX8_chance 40 = .ok (.aload_n 0, 1) := by decide +kernel
theorem dX8_chance_41 : decode cX8_chance 41 = .ok (.getfield 43, 3) := by decide +kernel
theorem dX8_chance_44 : decode cX8_chance 44 = .ok (.invokestatic 109, 3) := by decide +kernel
theorem cw_X8_commonMeasure : CWs yX8_commonMeasure cX8_commonMeasure 6 (some .int) 2 := ⟨⟨⟨List.mem_of_getElem? (i := 135) (by decide +kernel), by decide +kernel⟩, ⟨List.mem_of_getElem? (i := 1282) (by decide +kernel), by decide +kernel⟩, by decide +kernel⟩, ⟨List.mem_of_getElem? (i := 1281) (by decide +kernel), by decide +kernel⟩⟩
theorem km8_109 : inW (Cond.methodLink RX8 109 yX8_commonMeasure) := ⟨List.mem_of_getElem? (i := 1280) (by decide +kernel), by decide +kernel⟩
theorem dX8_chance_47 : decode cX8_chance 47 = .ok (.istore 4, 2) := by decide +kernel
theorem dX8_chance_49 : decode cX8_chance 49 = .ok (.iload 4, 2) := by decide +kernel
theorem dX8_chance_51 : decode cX8_chance 51 = .ok (.ifCond .ne 13, 3) := by decide +kernel
theorem dX8_chance_64 : decode cX8_chance 64 = .ok (.iload_n 2, 1) := by decide +kernel
theorem dX8_chance_65 : decode cX8_chance 65 = .ok (.ifCond .eq 13, 3) := by decide +kernel
theorem dX8_chance_78 : decode cX8_chance 78 = .ok (.iload_n 3, 1) := by decide +kernel
theorem dX8_chance_79 : decode cX8_chance 79 = .ok (.iload 4, 2) := by decide +kernel
theorem dX8_chance_81 : decode cX8_chance 81 = .ok (.idiv, 1) := by decide +kernel
theorem dX8_chance_82 : decode cX8_chance 82 = .ok (.ireturn, 1) := by decide +kernel
theorem dX8_chance_68 : decode cX8_chance 68 = .ok (.aload_n 0, 1) := by decide +kernel
theorem dX8_chance_69 : decode cX8_chance 69 = .ok (.getfield 43, 3) := by decide +kernel
theorem dX8_chance_72 : decode cX8_chance 72 = .ok (.iload 4, 2) := by decide +kernel
theorem dX8_chance_74 : decode cX8_chance 74 = .ok (.idiv, 1) := by decide +kernel
theorem dX8_chance_75 : decode cX8_chance 75 = .ok (.goto 7, 3) := by decide +kernel
theorem dX8_chance_54 : decode cX8_chance 54 = .ok (.iload_n 2, 1) := by decide +kernel
theorem dX8_chance_55 : decode cX8_chance 55 = .ok (.ifCond .eq 7, 3) := by decide +kernel
theorem dX8_chance_62 : decode cX8_chance 62 = .ok (.iconst 0, 1) := by decide +kernel
theorem dX8_chance_63 : decode cX8_chance 63 = .ok (.ireturn, 1) := by decide +kernel
theorem dX8_chance_58 : decode cX8_chance 58 = .ok (.iconst 1, 1) := by decide +kernel
theorem dX8_chance_59 : decode cX8_chance 59 = .ok (.goto 4, 3) := by decide +kernel
theorem dX8_chance_14 : decode cX8_chance 14 = .ok (.aload_n 0, 1) := by decide +kernel
theorem dX8_chance_15 : decode cX8_chance 15 = .ok (.getfield 9, 3) := by decide +kernel
theorem dX8_chance_18 : decode cX8_chance 18 = .ok (.iload 4, 2) := by decide +kernel
theorem dX8_chance_20 : decode cX8_chance 20 = .ok (.iaload, 1) := by decide +kernel
theorem dX8_chance_21 : decode cX8_chance 21 = .ok (.iload_n 1, 1) := by decide +kernel
theorem dX8_chance_22 : decode cX8_chance 22 = .ok (.if_icmp .ne 11, 3) := by decide +kernel
theorem dX8_chance_33 : decode cX8_chance 33 = .ok (.iinc 4 1, 3) := by decide +kernel
theorem dX8_chance_36 : decode cX8_chance 36 = .ok (.goto (-31), 3) := by decide +kernel
theorem dX8_chance_25 : decode cX8_chance 25 = .ok (.aload_n 0, 1) := by decide +kernel
theorem dX8_chance_26 : decode cX8_chance 26 = .ok (.getfield 15, 3) := by decide +kernel
theorem dX8_chance_29 : decode cX8_chance 29 = .ok (.iload 4, 2) := by decide +kernel
theorem dX8_chance_31 : decode cX8_chance 31 = .ok (.iaload, 1) := by decide +kernel
theorem dX8_chance_32 : decode cX8_chance 32 = .ok (.istore_n 3, 1) := by decide +kernel
theorem dX8_mostTelling_0 : decode cX8_mostTelling 0 = .ok (.iconst (-1), 1) := by decide +kernel
theorem dX8_mostTelling_1 : decode cX8_mostTelling 1 = .ok (.istore_n 1, 1) := by decide +kernel
theorem dX8_mostTelling_2 : decode cX8_mostTelling 2 = .ok (.iconst 0, 1) := by decide +kernel
theorem dX8_mostTelling_3 : decode cX8_mostTelling 3 = .ok (.istore_n 2, 1) := by decide +kernel
theorem dX8_mostTelling_4 : decode cX8_mostTelling 4 = .ok (.iconst 0, 1) := by decide +kernel
theorem dX8_mostTelling_5 : decode cX8_mostTelling 5 = .ok (.istore_n 3, 1) := by decide +kernel
theorem dX8_mostTelling_6 : decode cX8_mostTelling 6 = .ok (.iload_n 3, 1) := by decide +kernel
theorem dX8_mostTelling_7 : decode cX8_mostTelling 7 = .ok (.aload_n 0, 1) := by decide +kernel
theorem dX8_mostTelling_8 : decode cX8_mostTelling 8 = .ok (.getfield 50, 3) := by decide +kernel
theorem dX8_mostTelling_11 : decode cX8_mostTelling 11 = .ok (.if_icmp .ge 82, 3) := by decide +kernel
theorem dX8_mostTelling_93 : decode cX8_mostTelling 93 = .ok (.iload_n 1, 1) := by decide +kernel
theorem dX8_mostTelling_94 : decode cX8_mostTelling 94 = .ok (.ireturn, 1) := by decide +kernel
theorem dX8_mostTelling_14 : decode cX8_mostTelling 14 = .ok (.iconst 2, 1) := by decide +kernel
theorem dX8_mostTelling_15 : decode cX8_mostTelling 15 = .ok (.aload_n 0, 1) := by decide +kernel
theorem dX8_mostTelling_16 : decode cX8_mostTelling 16 = .ok (.getfield 15, 3) := by decide +kernel
theorem dX8_mostTelling_19 : decode cX8_mostTelling 19 = .ok (.iload_n 3, 1) := by decide +kernel
theorem dX8_mostTelling_20 : decode cX8_mostTelling 20 = .ok (.iaload, 1) := by decide +kernel
theorem dX8_mostTelling_21 : decode cX8_mostTelling 21 = .ok (.imul, 1) := by decide +kernel
theorem dX8_mostTelling_22 : decode cX8_mostTelling 22 = .ok (.aload_n 0, 1) := by decide +kernel
theorem dX8_mostTelling_23 : decode cX8_mostTelling 23 = .ok (.getfield 43, 3) := by decide +kernel
theorem dX8_mostTelling_26 : decode cX8_mostTelling 26 = .ok (.isub, 1) := by decide +kernel
theorem dX8_mostTelling_27 : decode cX8_mostTelling 27 = .ok (.invokestatic 112, 3) := by decide +kernel
theorem km8_112 : inW (Cond.methodLink RX8 112 Lib.Math.abs.name) := ⟨List.mem_of_getElem? (i := 1291) (by decide +kernel), by decide +kernel⟩
theorem kMs_abs : inW (Cond.static Lib.Math.abs.name) := ⟨List.mem_of_getElem? (i := 1292) (by decide +kernel), by decide +kernel⟩
theorem kMc_abs : inW (Cond.code Lib.Math.abs.name Lib.Math.abs.code 1 (some .int)) := ⟨List.mem_of_getElem? (i := 1293) (by decide +kernel), by decide +kernel⟩
theorem dX8_mostTelling_30 : decode cX8_mostTelling 30 = .ok (.istore 4, 2) := by decide +kernel
theorem dX8_mostTelling_32 : decode cX8_mostTelling 32 = .ok (.aload_n 0, 1) := by decide +kernel
theorem dX8_mostTelling_33 : decode cX8_mostTelling 33 = .ok (.getfield 15, 3) := by decide +kernel
theorem dX8_mostTelling_36 : decode cX8_mostTelling 36 = .ok (.iload_n 3, 1) := by decide +kernel
theorem dX8_mostTelling_37 : decode cX8_mostTelling 37 = .ok (.iaload, 1) := by decide +kernel
theorem dX8_mostTelling_38 : decode cX8_mostTelling 38 = .ok (.ifCond .le 20, 3) := by decide +kernel
theorem dX8_mostTelling_41 : decode cX8_mostTelling 41 = .ok (.aload_n 0, 1) := by decide +kernel
theorem dX8_mostTelling_42 : decode cX8_mostTelling 42 = .ok (.getfield 15, 3) := by decide +kernel
theorem dX8_mostTelling_45 : decode cX8_mostTelling 45 = .ok (.iload_n 3, 1) := by decide +kernel
theorem dX8_mostTelling_46 : decode cX8_mostTelling 46 = .ok (.iaload, 1) := by decide +kernel
theorem dX8_mostTelling_47 : decode cX8_mostTelling 47 = .ok (.aload_n 0, 1) := by decide +kernel
theorem dX8_mostTelling_48 : decode cX8_mostTelling 48 = .ok (.getfield 43, 3) := by decide +kernel
theorem dX8_mostTelling_51 : decode cX8_mostTelling 51 = .ok (.if_icmp .ge 7, 3) := by decide +kernel
theorem dX8_mostTelling_54 : decode cX8_mostTelling 54 = .ok (.iconst 1, 1) := by decide +kernel
theorem dX8_mostTelling_55 : decode cX8_mostTelling 55 = .ok (.goto 4, 3) := by decide +kernel
theorem dX8_mostTelling_58 : decode cX8_mostTelling 58 = .ok (.iconst 0, 1) := by decide +kernel
theorem dX8_mostTelling_59 : decode cX8_mostTelling 59 = .ok (.istore 5, 2) := by decide +kernel
theorem dX8_mostTelling_61 : decode cX8_mostTelling 61 = .ok (.iload 5, 2) := by decide +kernel
theorem dX8_mostTelling_63 : decode cX8_mostTelling 63 = .ok (.ifCond .eq 24, 3) := by decide +kernel
theorem dX8_mostTelling_66 : decode cX8_mostTelling 66 = .ok (.iload_n 1, 1) := by decide +kernel
theorem dX8_mostTelling_67 : decode cX8_mostTelling 67 = .ok (.iconst (-1), 1) := by decide +kernel
theorem dX8_mostTelling_68 : decode cX8_mostTelling 68 = .ok (.if_icmp .eq 9, 3) := by decide +kernel
theorem dX8_mostTelling_71 : decode cX8_mostTelling 71 = .ok (.iload 4, 2) := by decide +kernel
theorem dX8_mostTelling_73 : decode cX8_mostTelling 73 = .ok (.iload_n 2, 1) := by decide +kernel
theorem dX8_mostTelling_74 : decode cX8_mostTelling 74 = .ok (.if_icmp .ge 13, 3) := by decide +kernel
theorem dX8_mostTelling_87 : decode cX8_mostTelling 87 = .ok (.iinc 3 1, 3) := by decide +kernel
theorem dX8_mostTelling_90 : decode cX8_mostTelling 90 = .ok (.goto (-84), 3) := by decide +kernel
theorem dX8_mostTelling_77 : decode cX8_mostTelling 77 = .ok (.aload_n 0, 1) := by decide +kernel
theorem dX8_mostTelling_78 : decode cX8_mostTelling 78 = .ok (.getfield 9, 3) := by decide +kernel
theorem dX8_mostTelling_81 : decode cX8_mostTelling 81 = .ok (.iload_n 3, 1) := by decide +kernel
theorem dX8_mostTelling_82 : decode cX8_mostTelling 82 = .ok (.iaload, 1) := by decide +kernel
theorem dX8_mostTelling_83 : decode cX8_mostTelling 83 = .ok (.istore_n 1, 1) := by decide +kernel
theorem dX8_mostTelling_84 : decode cX8_mostTelling 84 = .ok (.iload 4, 2) := by decide +kernel
theorem dX8_mostTelling_86 : decode cX8_mostTelling 86 = .ok (.istore_n 2, 1) := by decide +kernel
set_option maxHeartbeats 4000000 in
set_option maxRecDepth 100000 in
theorem x_X8_gatherMembers {l : Launch} {G : GG}  {L : List Nat} {f : HF} {ad : Nat → Nat → Nat} {rs : RS} {tc w : Nat → Int × Int} {q : Nat → (Nat → Int32) → Prop} {i1 : Int32} (I : SH (spC rs ((0, 6) : Int × Int) tc w q) nnC G ad L f) (hW : WBp w 8) (hT : WBp tc 4) (hQ : QIp q) : PMv l yX8_gatherMembers cX8_gatherMembers 3 1 0 0 G [.ref (ad 7 0), .int i1] L f (fun L1 f1 => SH (spC rs ((0, 6) : Int × Int) tc w q) nnC G ad L1 f1) := by
  refine PMv.of (post := fun L1 f1 => SH (spC rs ((0, 6) : Int × Int) tc w q) nnC G ad L1 f1) (own := RX8) (by decide) rfl (Nat.le_of_ble_eq_true rfl) (fun sz p e s m args below meth c A ls hA1 hname S Y hl => ?_)
  have hx := S.hx
  have hb := S.hb
  have hl : lv_has ls 3 [(0, .ref (ad 7 0)), (1, .int i1)] := hl
  have J_7 : ∀ (n7 : Nat) (y7_2 : Int32) (L_7 : List Nat) (f_7 : HF) (H : Heap) (locs : List Loc) (ls : Array Slot), (SH (spC rs ((0, 6) : Int × Int) tc w q) nnC G ad L_7 f_7) → (bn 0 14 y7_2) → (((14 : Int) - y7_2.toInt).toNat = n7) → (DY G A s [] L_7 f_7 H locs) → (lv_has ls 3 [(0, .ref (ad 7 0)), (1, .int i1), (2, .int y7_2)]) → W p l e (rmD 1 0 0) s m args below meth c H locs (0) (0) (MQ below (va_Qv (fun (u : List Nat × HF) => (fun L1 f1 => SH (spC rs ((0, 6) : Int × Int) tc w q) nnC G ad L1 f1) u.1 u.2) (fun u t => pOut G (va_A (va_pl L f) sz) u.1 u.2 t) (va_A (va_pl L f) sz)) args s 0 0 A) (F0 m 7 ls []) := by
    intro n7
    induction n7 using Nat.strongRecOn with
    | _ n7 ih7 =>
      intro y7_2 L_7 f_7 H locs ls I b_y7_2 hm7 Y hl
      refine lv_iload_n hx hb dX8_gatherMembers_7 rfl (lv_at hl 2 rfl) ?_
      refine lv_aload_n hx hb dX8_gatherMembers_8 rfl (lv_at hl 0 rfl) ?_
      obtain ⟨v_25747, v_25749, v_25751, p_ad_7_0, b_25748, b_25750, b_25752⟩ := opnC_7 (j := 0) I (by decide)
      have p_ad_7_0 : pt L_7 f_7 (ad 7 0) (.inr (8, [.ref (ad 1 0), .ref (ad 3 0), .ref (ad 10 62), .ref (ad 56 0), .ref (ad 57 0), .ref (ad 58 0), .ref (ad 59 0), .int v_25747, .int v_25749, .int v_25751])) := p_ad_7_0
      refine pg_get S Y ok_X8 0 (by decide) kf8_24 (v := .ref (ad 1 0)) p_ad_7_0 rfl dX8_gatherMembers_9 ?_
      obtain ⟨v_25753, v_25755, v_25757, v_25759, v_25761, p_ad_1_0, b_25754, b_25756, b_25758, b_25760, b_25762⟩ := opnC_1 (j := 0) I (by decide)
      have p_ad_1_0 : pt L_7 f_7 (ad 1 0) (.inr (10, [.ref (ad 40 0), .ref (ad 41 0), .ref (ad 42 0), .ref (ad 10 0), .ref (ad 43 0), .ref (ad 20 0), .ref (ad 20 1), .ref (ad 20 2), .ref (ad 20 3), .ref (ad 20 4), .int v_25753, .int v_25755, .int v_25757, .int v_25759, .int v_25761])) := p_ad_1_0
      refine pg_getN S Y ok_X10 3 (by decide) kf8_63 (v := .ref (ad 10 0)) p_ad_1_0 rfl dX8_gatherMembers_12 ?_
      obtain ⟨v_25763, v_25765, v_25767, v_25769, v_25771, p_ad_10_0, b_25764, b_25766, b_25768, b_25770, b_25772⟩ := opnC_10 (j := 0) I (by decide)
      have p_ad_10_0 : pt L_7 f_7 (ad 10 0) (.inr (4, [.ref (ad 11 0), .ref (ad 12 0), .int v_25763, .int v_25765, .int v_25767, .int v_25769, .int v_25771])) := p_ad_10_0
      refine pg_getN S Y ok_X4 2 (by decide) kf8_68 (v := .int v_25763) p_ad_10_0 rfl dX8_gatherMembers_15 ?_
      refine lv_icmp_ge (tgt := 81) hx hb dX8_gatherMembers_18 (by decide) (fun c_25773 => ?_) (fun c_25773 => ?_)
      · exact prV (post := fun L1 f1 => SH (spC rs ((0, 6) : Int × Int) tc w q) nnC G ad L1 f1) S Y (by decide) (by decide) hA1 I dX8_gatherMembers_81
      · have B_25774 : bn 1 14 v_25763 := bn_w (bn_gtl c_25773 b_25764 b_y7_2) (by decide)
        have B_25775 : bn 0 13 y7_2 := bn_w (bn_gtr c_25773 b_25764 b_y7_2) (by decide)
        refine lv_aload_n hx hb dX8_gatherMembers_21 rfl (lv_at hl 0 rfl) ?_
        refine pg_get S Y ok_X8 0 (by decide) kf8_24 (v := .ref (ad 1 0)) p_ad_7_0 rfl dX8_gatherMembers_22 ?_
        refine pg_getN S Y ok_X10 3 (by decide) kf8_63 (v := .ref (ad 10 0)) p_ad_1_0 rfl dX8_gatherMembers_25 ?_
        refine lv_iload_n hx hb dX8_gatherMembers_28 rfl (lv_at hl 2 rfl) ?_
        refine lv_iload_n hx hb dX8_gatherMembers_29 rfl (lv_at hl 1 rfl) ?_
        refine cVp (As := [.int y7_2, .int i1]) (rest := []) S Y (x_X4_legibleOn (l := l) (j := 0) I hW hT hQ (by decide)) cw_X4_legibleOn km8_73 p_ad_10_0 ok_X4.1 rfl rfl ⟨Nat.le_of_ble_eq_true rfl, Nat.le_of_ble_eq_true rfl⟩ hl.1 rfl (Nat.le_of_ble_eq_true rfl) ⟨Nat.le_of_ble_eq_true rfl, Nat.le_of_ble_eq_true rfl⟩ dX8_gatherMembers_30 (fun r_25776 H locs er_25776 Y => ?_)
        refine lv_if_eq (tgt := 75) hx hb dX8_gatherMembers_33 (by decide) (fun c_25777 => ?_) (fun c_25777 => ?_)
        · have B_25778 : bn 0 0 r_25776 := bn_w (bn_eq c_25777 (show bn 0 0 (0 : Int32) from bn_k (by decide))) (by decide)
          obtain ⟨x_25780, ex_25780⟩ : ∃ z : Int32, z = y7_2 + 1 := ⟨_, rfl⟩
          refine lv_iinc (v := x_25780) (lv' := [(2, .int x_25780), (0, .ref (ad 7 0)), (1, .int i1)]) hx hb dX8_gatherMembers_75 hl (k := 2) rfl (by rw [ex_25780]; rfl) (by decide) rfl (fun ls hl => ?_)
          refine lv_goto (tgt := 7) hx hb dX8_gatherMembers_78 (by decide) ?_
          exact ih7 _ (by rw [← hm7]; exact ms_up (m := 1) ex_25780 (show bn 1 1 (1 : Int32) from bn_k (by decide)) B_25775 (bn_w (bn_eq ex_25780 (bn_add B_25775 (show bn 1 1 (1 : Int32) from bn_k (by decide)) (by decide))) (by decide) : bn 0 14 x_25780) (by decide)) x_25780 _ _  _ _ _ I (bn_w (bn_eq ex_25780 (bn_add B_25775 (show bn 1 1 (1 : Int32) from bn_k (by decide)) (by decide))) (by decide)) rfl Y (lv_sub hl [1, 2, 0] rfl)
        · have B_25779 : bn 1 1 r_25776 := bn_w (bn_nel c_25777 er_25776 (show bn 0 0 (0 : Int32) from bn_k (by decide))) (by decide)
          refine lv_aload_n hx hb dX8_gatherMembers_36 rfl (lv_at hl 0 rfl) ?_
          refine pg_get S Y ok_X8 7 (by decide) kf8_50 (v := .int v_25747) p_ad_7_0 rfl dX8_gatherMembers_37 ?_
          refine lv_bipush (v := 14) hx hb dX8_gatherMembers_40 (by decide) ?_
          refine lv_icmp_ge (tgt := 75) hx hb dX8_gatherMembers_42 (by decide) (fun c_25781 => ?_) (fun c_25781 => ?_)
          · have B_25782 : bn 14 14 v_25747 := bn_w (bn_ler c_25781 (show bn 14 14 (14 : Int32) from bn_k (by decide)) b_25748) (by decide)
            obtain ⟨x_25784, ex_25784⟩ : ∃ z : Int32, z = y7_2 + 1 := ⟨_, rfl⟩
            refine lv_iinc (v := x_25784) (lv' := [(2, .int x_25784), (0, .ref (ad 7 0)), (1, .int i1)]) hx hb dX8_gatherMembers_75 hl (k := 2) rfl (by rw [ex_25784]; rfl) (by decide) rfl (fun ls hl => ?_)
            refine lv_goto (tgt := 7) hx hb dX8_gatherMembers_78 (by decide) ?_
            exact ih7 _ (by rw [← hm7]; exact ms_up (m := 1) ex_25784 (show bn 1 1 (1 : Int32) from bn_k (by decide)) B_25775 (bn_w (bn_eq ex_25784 (bn_add B_25775 (show bn 1 1 (1 : Int32) from bn_k (by decide)) (by decide))) (by decide) : bn 0 14 x_25784) (by decide)) x_25784 _ _  _ _ _ I (bn_w (bn_eq ex_25784 (bn_add B_25775 (show bn 1 1 (1 : Int32) from bn_k (by decide)) (by decide))) (by decide)) rfl Y (lv_sub hl [1, 2, 0] rfl)
          · have B_25783 : bn 0 13 v_25747 := bn_w (bn_gtr c_25781 (show bn 14 14 (14 : Int32) from bn_k (by decide)) b_25748) (by decide)
            refine lv_aload_n hx hb dX8_gatherMembers_45 rfl (lv_at hl 0 rfl) ?_
            refine pg_get S Y ok_X8 3 (by decide) kf8_9 (v := .ref (ad 56 0)) p_ad_7_0 rfl dX8_gatherMembers_46 ?_
            refine lv_aload_n hx hb dX8_gatherMembers_49 rfl (lv_at hl 0 rfl) ?_
            refine pg_get S Y ok_X8 7 (by decide) kf8_50 (v := .int v_25747) p_ad_7_0 rfl dX8_gatherMembers_50 ?_
            refine lv_iload_n hx hb dX8_gatherMembers_53 rfl (lv_at hl 2 rfl) ?_
            obtain ⟨g_25785, p_ad_56_0, o_25786⟩ := I.opi (k := 56) (j := 0) (by decide) rfl
            have p_ad_56_0 : pt L_7 f_7 (ad 56 0) (.inl (G.2 0, 14, .inl g_25785)) := p_ad_56_0
            refine pg_iast S Y p_ad_56_0 (vp_bn B_25783 (by decide)) dX8_gatherMembers_54 (fun f_25788 H locs ef_25788 Y => ?_)
            obtain ⟨g_25787, eg_25787⟩ : ∃ z, z = upd (g_25785) (v_25747 : Int32).toNatClampNeg y7_2 := ⟨_, rfl⟩
            rw [← eg_25787] at ef_25788
            have p_ad_7_0 := p_ad_7_0.up ef_25788 (I.ne (k := 7) (j := 0) (k' := 56) (j' := 0) (by decide) (by decide) (Or.inl (by decide)))
            have p_ad_1_0 := p_ad_1_0.up ef_25788 (I.ne (k := 1) (j := 0) (k' := 56) (j' := 0) (by decide) (by decide) (Or.inl (by decide)))
            have p_ad_10_0 := p_ad_10_0.up ef_25788 (I.ne (k := 10) (j := 0) (k' := 56) (j' := 0) (by decide) (by decide) (Or.inl (by decide)))
            have p_ad_56_0 := p_ad_56_0.me ef_25788
            have I := I.up (k := 56) (j := 0) (by decide) ef_25788 (okE_a (g := g_25787) trivial)
            refine lv_aload_n hx hb dX8_gatherMembers_55 rfl (lv_at hl 0 rfl) ?_
            refine pg_get S Y ok_X8 4 (by decide) kf8_15 (v := .ref (ad 57 0)) p_ad_7_0 rfl dX8_gatherMembers_56 ?_
            refine lv_aload_n hx hb dX8_gatherMembers_59 rfl (lv_at hl 0 rfl) ?_
            refine pg_get S Y ok_X8 7 (by decide) kf8_50 (v := .int v_25747) p_ad_7_0 rfl dX8_gatherMembers_60 ?_
            refine lv_iconst (v := 0) hx hb dX8_gatherMembers_63 (by decide) ?_
            obtain ⟨g_25789, p_ad_57_0, o_25790⟩ := I.opi (k := 57) (j := 0) (by decide) rfl
            have p_ad_57_0 : pt L_7 f_25788 (ad 57 0) (.inl (G.2 0, 14, .inl g_25789)) := p_ad_57_0
            refine pg_iast S Y p_ad_57_0 (vp_bn B_25783 (by decide)) dX8_gatherMembers_64 (fun f_25792 H locs ef_25792 Y => ?_)
            obtain ⟨g_25791, eg_25791⟩ : ∃ z, z = upd (g_25789) (v_25747 : Int32).toNatClampNeg 0 := ⟨_, rfl⟩
            rw [← eg_25791] at ef_25792
            have p_ad_7_0 := p_ad_7_0.up ef_25792 (I.ne (k := 7) (j := 0) (k' := 57) (j' := 0) (by decide) (by decide) (Or.inl (by decide)))
            have p_ad_1_0 := p_ad_1_0.up ef_25792 (I.ne (k := 1) (j := 0) (k' := 57) (j' := 0) (by decide) (by decide) (Or.inl (by decide)))
            have p_ad_10_0 := p_ad_10_0.up ef_25792 (I.ne (k := 10) (j := 0) (k' := 57) (j' := 0) (by decide) (by decide) (Or.inl (by decide)))
            have p_ad_56_0 := p_ad_56_0.up ef_25792 (I.ne (k := 56) (j := 0) (k' := 57) (j' := 0) (by decide) (by decide) (Or.inl (by decide)))
            have p_ad_57_0 := p_ad_57_0.me ef_25792
            have I := I.up (k := 57) (j := 0) (by decide) ef_25792 (okE_a (g := g_25791) trivial)
            refine lv_aload_n hx hb dX8_gatherMembers_65 rfl (lv_at hl 0 rfl) ?_
            refine lv_dup hx hb dX8_gatherMembers_66 rfl ?_
            refine pg_get S Y ok_X8 7 (by decide) kf8_50 (v := .int v_25747) p_ad_7_0 rfl dX8_gatherMembers_67 ?_
            refine lv_iconst (v := 1) hx hb dX8_gatherMembers_70 (by decide) ?_
            refine lv_iadd hx hb dX8_gatherMembers_71 ?_
            refine lv_topi (fun x_25793 ex_25793 => ?_)
            refine pg_put S Y ok_X8 7 (by decide) kf8_50 rfl (fs' := [.ref (ad 1 0), .ref (ad 3 0), .ref (ad 10 62), .ref (ad 56 0), .ref (ad 57 0), .ref (ad 58 0), .ref (ad 59 0), .int x_25793, .int v_25749, .int v_25751]) (v := .int x_25793) p_ad_7_0 rfl rfl rfl (Nat.le_of_ble_eq_true rfl) dX8_gatherMembers_72 (fun f_25794 H locs ef_25794 Y => ?_)
            have p_ad_1_0 := p_ad_1_0.up ef_25794 (I.ne (k := 1) (j := 0) (k' := 7) (j' := 0) (by decide) (by decide) (Or.inl (by decide)))
            have p_ad_10_0 := p_ad_10_0.up ef_25794 (I.ne (k := 10) (j := 0) (k' := 7) (j' := 0) (by decide) (by decide) (Or.inl (by decide)))
            have p_ad_56_0 := p_ad_56_0.up ef_25794 (I.ne (k := 56) (j := 0) (k' := 7) (j' := 0) (by decide) (by decide) (Or.inl (by decide)))
            have p_ad_57_0 := p_ad_57_0.up ef_25794 (I.ne (k := 57) (j := 0) (k' := 7) (j' := 0) (by decide) (by decide) (Or.inl (by decide)))
            have p_ad_7_0 := p_ad_7_0.me ef_25794
            have I := I.up (k := 7) (j := 0) (by decide) ef_25794 (okE_o (okFs_c okV_r (okFs_c okV_r (okFs_c okV_r (okFs_c okV_r (okFs_c okV_r (okFs_c okV_r (okFs_c okV_r (okFs_c (okV_i (bn_w (bn_eq ex_25793 (bn_add B_25783 (show bn 1 1 (1 : Int32) from bn_k (by decide)) (by decide))) (by decide))) (okFs_c (okV_p b_25750) (okFs_c (okV_i b_25752) okFs_n)))))))))))
            obtain ⟨x_25795, ex_25795⟩ : ∃ z : Int32, z = y7_2 + 1 := ⟨_, rfl⟩
            refine lv_iinc (v := x_25795) (lv' := [(2, .int x_25795), (0, .ref (ad 7 0)), (1, .int i1)]) hx hb dX8_gatherMembers_75 hl (k := 2) rfl (by rw [ex_25795]; rfl) (by decide) rfl (fun ls hl => ?_)
            refine lv_goto (tgt := 7) hx hb dX8_gatherMembers_78 (by decide) ?_
            exact ih7 _ (by rw [← hm7]; exact ms_up (m := 1) ex_25795 (show bn 1 1 (1 : Int32) from bn_k (by decide)) B_25775 (bn_w (bn_eq ex_25795 (bn_add B_25775 (show bn 1 1 (1 : Int32) from bn_k (by decide)) (by decide))) (by decide) : bn 0 14 x_25795) (by decide)) x_25795 _ _  _ _ _ I (bn_w (bn_eq ex_25795 (bn_add B_25775 (show bn 1 1 (1 : Int32) from bn_k (by decide)) (by decide))) (by decide)) rfl Y (lv_sub hl [1, 2, 0] rfl)
  refine lv_aload_n hx hb dX8_gatherMembers_0 rfl (lv_at hl 0 rfl) ?_
  refine lv_iconst (v := 0) hx hb dX8_gatherMembers_1 (by decide) ?_
  obtain ⟨v_25796, v_25798, v_25800, p_ad_7_0, b_25797, b_25799, b_25801⟩ := opnC_7 (j := 0) I (by decide)
  have p_ad_7_0 : pt L f (ad 7 0) (.inr (8, [.ref (ad 1 0), .ref (ad 3 0), .ref (ad 10 62), .ref (ad 56 0), .ref (ad 57 0), .ref (ad 58 0), .ref (ad 59 0), .int v_25796, .int v_25798, .int v_25800])) := p_ad_7_0
  refine pg_put S Y ok_X8 7 (by decide) kf8_50 rfl (fs' := [.ref (ad 1 0), .ref (ad 3 0), .ref (ad 10 62), .ref (ad 56 0), .ref (ad 57 0), .ref (ad 58 0), .ref (ad 59 0), .int 0, .int v_25798, .int v_25800]) (v := .int 0) p_ad_7_0 rfl rfl rfl (Nat.le_of_ble_eq_true rfl) dX8_gatherMembers_2 (fun f_25802 H locs ef_25802 Y => ?_)
  have p_ad_7_0 := p_ad_7_0.me ef_25802
  have I := I.up (k := 7) (j := 0) (by decide) ef_25802 (okE_o (okFs_c okV_r (okFs_c okV_r (okFs_c okV_r (okFs_c okV_r (okFs_c okV_r (okFs_c okV_r (okFs_c okV_r (okFs_c (okV_i (bn_w (show bn 0 0 (0 : Int32) from bn_k (by decide)) (by decide))) (okFs_c (okV_p b_25799) (okFs_c (okV_i b_25801) okFs_n)))))))))))
  refine lv_iconst (v := 0) hx hb dX8_gatherMembers_5 (by decide) ?_
  refine lv_istore_n (lv' := [(2, .int 0), (0, .ref (ad 7 0)), (1, .int i1)]) hx hb dX8_gatherMembers_6 rfl hl (by decide) rfl (fun ls hl => ?_)
  exact J_7 _ 0 _ _  _ _ _ I (bn_w (show bn 0 0 (0 : Int32) from bn_k (by decide)) (by decide)) rfl Y (lv_sub hl [1, 2, 0] rfl)
set_option maxHeartbeats 4000000 in
set_option maxRecDepth 100000 in
theorem x_X8_gatherFeelings {l : Launch} {G : GG}  {L : List Nat} {f : HF} {ad : Nat → Nat → Nat} {rs : RS} {tc w : Nat → Int × Int} {q : Nat → (Nat → Int32) → Prop} {i1 : Int32} (I : SH (spC rs ((0, 6) : Int × Int) tc w q) nnC G ad L f) (hW : WBp w 8) (hT : WBp tc 4) (hQ : QIp q) : PMv l yX8_gatherFeelings cX8_gatherFeelings 5 4 0 0 G [.ref (ad 7 0), .int i1] L f (fun L1 f1 => SH (spC rs ((0, 6) : Int × Int) tc w q) nnC G ad L1 f1) := by
  refine PMv.of (post := fun L1 f1 => SH (spC rs ((0, 6) : Int × Int) tc w q) nnC G ad L1 f1) (own := RX8) (by decide) rfl (Nat.le_of_ble_eq_true rfl) (fun sz p e s m args below meth c A ls hA1 hname S Y hl => ?_)
  have hx := S.hx
  have hb := S.hb
  have hl : lv_has ls 5 [(0, .ref (ad 7 0)), (1, .int i1)] := hl
  have J_29 : ∀ (n29 : Nat) (y29_3 : Int32) (L_29 : List Nat) (f_29 : HF) (H : Heap) (locs : List Loc) (ls : Array Slot), (SH (spC rs ((0, 6) : Int × Int) tc w q) nnC G ad L_29 f_29) → (bn 0 8 y29_3) → (((8 : Int) - y29_3.toInt).toNat = n29) → (DY G A s [] L_29 f_29 H locs) → (lv_has ls 5 [(0, .ref (ad 7 0)), (1, .int i1), (2, .ref (ad 20 0)), (3, .int y29_3)]) → W p l e (rmD 4 0 0) s m args below meth c H locs (0) (0) (MQ below (va_Qv (fun (u : List Nat × HF) => (fun L1 f1 => SH (spC rs ((0, 6) : Int × Int) tc w q) nnC G ad L1 f1) u.1 u.2) (fun u t => pOut G (va_A (va_pl L f) sz) u.1 u.2 t) (va_A (va_pl L f) sz)) args s 0 0 A) (F0 m 29 ls []) := by
    intro n29
    induction n29 using Nat.strongRecOn with
    | _ n29 ih29 =>
      intro y29_3 L_29 f_29 H locs ls I b_y29_3 hm29 Y hl
      have J_87 : ∀ (n87 : Nat) (y87_4 : Int32) (L_87 : List Nat) (f_87 : HF) (H : Heap) (locs : List Loc) (ls : Array Slot), (SH (spC rs ((0, 5) : Int × Int) tc w q) nnC G ad L_87 f_87) → (bn 0 14 y87_4) → (bn 0 7 y29_3) → (((14 : Int) - y87_4.toInt).toNat = n87) → (DY G A s [] L_87 f_87 H locs) → (lv_has ls 5 [(0, .ref (ad 7 0)), (1, .int i1), (2, .ref (ad 20 0)), (3, .int y29_3), (4, .int y87_4)]) → W p l e (rmD 4 0 0) s m args below meth c H locs (0) (0) (MQ below (va_Qv (fun (u : List Nat × HF) => (fun L1 f1 => SH (spC rs ((0, 6) : Int × Int) tc w q) nnC G ad L1 f1) u.1 u.2) (fun u t => pOut G (va_A (va_pl L f) sz) u.1 u.2 t) (va_A (va_pl L f) sz)) args s 0 0 A) (F0 m 87 ls []) := by
        intro n87
        induction n87 using Nat.strongRecOn with
        | _ n87 ih87 =>
          intro y87_4 L_87 f_87 H locs ls I b_y87_4 b87_y29_3 hm87 Y hl
          refine lv_iload hx hb dX8_gatherFeelings_87 (lv_at hl 4 rfl) ?_
          refine lv_aload_n hx hb dX8_gatherFeelings_89 rfl (lv_at hl 0 rfl) ?_
          obtain ⟨v_26573, v_26575, v_26577, p_ad_7_0, b_26574, b_26576, b_26578⟩ := opnC_7 (j := 0) I (by decide)
          have p_ad_7_0 : pt L_87 f_87 (ad 7 0) (.inr (8, [.ref (ad 1 0), .ref (ad 3 0), .ref (ad 10 62), .ref (ad 56 0), .ref (ad 57 0), .ref (ad 58 0), .ref (ad 59 0), .int v_26573, .int v_26575, .int v_26577])) := p_ad_7_0
          refine pg_get S Y ok_X8 7 (by decide) kf8_50 (v := .int v_26573) p_ad_7_0 rfl dX8_gatherFeelings_90 ?_
          refine lv_icmp_ge (tgt := 135) hx hb dX8_gatherFeelings_93 (by decide) (fun c_26579 => ?_) (fun c_26579 => ?_)
          · refine lv_aload_n hx hb dX8_gatherFeelings_135 rfl (lv_at hl 0 rfl) ?_
            refine lv_dup hx hb dX8_gatherFeelings_136 rfl ?_
            refine pg_get S Y ok_X8 8 (by decide) kf8_85 (v := .int v_26575) p_ad_7_0 rfl dX8_gatherFeelings_137 ?_
            refine lv_iconst (v := 1) hx hb dX8_gatherFeelings_140 (by decide) ?_
            refine lv_iadd hx hb dX8_gatherFeelings_141 ?_
            refine lv_topi (fun x_26582 ex_26582 => ?_)
            refine pg_put S Y ok_X8 8 (by decide) kf8_85 rfl (fs' := [.ref (ad 1 0), .ref (ad 3 0), .ref (ad 10 62), .ref (ad 56 0), .ref (ad 57 0), .ref (ad 58 0), .ref (ad 59 0), .int v_26573, .int x_26582, .int v_26577]) (v := .int x_26582) p_ad_7_0 rfl rfl rfl (Nat.le_of_ble_eq_true rfl) dX8_gatherFeelings_142 (fun f_26583 H locs ef_26583 Y => ?_)
            have p_ad_7_0 := p_ad_7_0.me ef_26583
            have I := I.upS (sp' := spC rs ((0, 6) : Int × Int) tc w q) (k := 7) (j := 0) (by decide) ef_26583 (okE_o (okFs_c okV_r (okFs_c okV_r (okFs_c okV_r (okFs_c okV_r (okFs_c okV_r (okFs_c okV_r (okFs_c okV_r (okFs_c (okV_i b_26574) (okFs_c (okV_p (bn_w (bn_eq ex_26582 (bn_add (bn_w (a' := 0) (b' := 5) b_26576 (by decide)) (show bn 1 1 (1 : Int32) from bn_k (by decide)) (by decide))) (by decide))) (okFs_c (okV_i b_26578) okFs_n))))))))))) fcC
            obtain ⟨x_26584, ex_26584⟩ : ∃ z : Int32, z = y29_3 + 1 := ⟨_, rfl⟩
            refine lv_iinc (v := x_26584) (lv' := [(3, .int x_26584), (0, .ref (ad 7 0)), (1, .int i1), (2, .ref (ad 20 0)), (4, .int y87_4)]) hx hb dX8_gatherFeelings_145 hl (k := 3) rfl (by rw [ex_26584]; rfl) (by decide) rfl (fun ls hl => ?_)
            refine lv_goto (tgt := 29) hx hb dX8_gatherFeelings_148 (by decide) ?_
            exact ih29 _ (by rw [← hm29]; exact ms_up (m := 1) ex_26584 (show bn 1 1 (1 : Int32) from bn_k (by decide)) b87_y29_3 (bn_w (bn_eq ex_26584 (bn_add b87_y29_3 (show bn 1 1 (1 : Int32) from bn_k (by decide)) (by decide))) (by decide) : bn 0 8 x_26584) (by decide)) x_26584 _ _  _ _ _ I (bn_w (bn_eq ex_26584 (bn_add b87_y29_3 (show bn 1 1 (1 : Int32) from bn_k (by decide)) (by decide))) (by decide)) rfl Y (lv_sub hl [1, 2, 3, 0] rfl)
          · have B_26580 : bn 1 14 v_26573 := bn_w (bn_gtl c_26579 b_26574 b_y87_4) (by decide)
            have B_26581 : bn 0 13 y87_4 := bn_w (bn_gtr c_26579 b_26574 b_y87_4) (by decide)
            refine lv_aload_n hx hb dX8_gatherFeelings_96 rfl (lv_at hl 0 rfl) ?_
            refine pg_get S Y ok_X8 5 (by decide) kf8_18 (v := .ref (ad 58 0)) p_ad_7_0 rfl dX8_gatherFeelings_97 ?_
            refine lv_aload_n hx hb dX8_gatherFeelings_100 rfl (lv_at hl 0 rfl) ?_
            refine pg_get S Y ok_X8 8 (by decide) kf8_85 (v := .int v_26575) p_ad_7_0 rfl dX8_gatherFeelings_101 ?_
            refine lv_bipush (v := 14) hx hb dX8_gatherFeelings_104 (by decide) ?_
            refine lv_imul hx hb dX8_gatherFeelings_106 ?_
            refine lv_topi (fun x_26585 ex_26585 => ?_)
            refine lv_iload hx hb dX8_gatherFeelings_107 (lv_at hl 4 rfl) ?_
            refine lv_iadd hx hb dX8_gatherFeelings_109 ?_
            refine lv_topi (fun x_26586 ex_26586 => ?_)
            refine lv_aload_n hx hb dX8_gatherFeelings_110 rfl (lv_at hl 0 rfl) ?_
            refine pg_get S Y ok_X8 1 (by decide) kf8_28 (v := .ref (ad 3 0)) p_ad_7_0 rfl dX8_gatherFeelings_111 ?_
            refine lv_aload_n hx hb dX8_gatherFeelings_114 rfl (lv_at hl 0 rfl) ?_
            refine pg_get S Y ok_X8 2 (by decide) kf8_32 (v := .ref (ad 10 62)) p_ad_7_0 rfl dX8_gatherFeelings_115 ?_
            refine lv_aload_n hx hb dX8_gatherFeelings_118 rfl (lv_at hl 0 rfl) ?_
            refine pg_get S Y ok_X8 3 (by decide) kf8_9 (v := .ref (ad 56 0)) p_ad_7_0 rfl dX8_gatherFeelings_119 ?_
            refine lv_iload hx hb dX8_gatherFeelings_122 (lv_at hl 4 rfl) ?_
            obtain ⟨g_26587, p_ad_56_0, o_26588⟩ := I.opi (k := 56) (j := 0) (by decide) rfl
            have p_ad_56_0 : pt L_87 f_87 (ad 56 0) (.inl (G.2 0, 14, .inl g_26587)) := p_ad_56_0
            obtain ⟨v_26589, ev_26589⟩ : ∃ z, z = g_26587 (y87_4 : Int32).toNatClampNeg := ⟨_, rfl⟩
            refine pg_iald S Y (v := v_26589) p_ad_56_0 (vp_bn B_26581 (by decide)) ev_26589.symm dX8_gatherFeelings_124 ?_
            refine cVi (As := [.ref (ad 10 62), .int v_26589]) (rest := [.int x_26586, .ref (ad 58 0)]) S Y (x_X3_painOf (l := l) (j := 62) I hW hT hQ (by decide)) cw_X3_painOf km8_100 (I.opo (k := 3) (j := 0) (by decide) rfl).choose_spec.1 ok_X3.1 rfl rfl ⟨Nat.le_of_ble_eq_true rfl, Nat.le_of_ble_eq_true rfl⟩ hl.1 rfl (Nat.le_of_ble_eq_true rfl) ⟨Nat.le_of_ble_eq_true rfl, Nat.le_of_ble_eq_true rfl⟩ dX8_gatherFeelings_125 (fun r_26592 L_26590 f_26591 H locs I Y => ?_)
            obtain ⟨g_26593, p_ad_58_0, o_26594⟩ := I.opi (k := 58) (j := 0) (by decide) rfl
            have p_ad_58_0 : pt L_26590 f_26591 (ad 58 0) (.inl (G.2 0, 84, .inl g_26593)) := p_ad_58_0
            refine pg_iast S Y p_ad_58_0 (vp_bn (bn_eq ex_26586 (bn_add (bn_eq ex_26585 (bn_mul (bn_w (a' := 0) (b' := 5) b_26576 (by decide)) (show bn 14 14 (14 : Int32) from bn_k (by decide)) (by decide))) B_26581 (by decide))) (by decide)) dX8_gatherFeelings_128 (fun f_26596 H locs ef_26596 Y => ?_)
            obtain ⟨g_26595, eg_26595⟩ : ∃ z, z = upd (g_26593) (x_26586 : Int32).toNatClampNeg r_26592 := ⟨_, rfl⟩
            rw [← eg_26595] at ef_26596
            have p_ad_58_0 := p_ad_58_0.me ef_26596
            have I := I.up (k := 58) (j := 0) (by decide) ef_26596 (okE_a (g := g_26595) trivial)
            obtain ⟨x_26597, ex_26597⟩ : ∃ z : Int32, z = y87_4 + 1 := ⟨_, rfl⟩
            refine lv_iinc (v := x_26597) (lv' := [(4, .int x_26597), (0, .ref (ad 7 0)), (1, .int i1), (2, .ref (ad 20 0)), (3, .int y29_3)]) hx hb dX8_gatherFeelings_129 hl (k := 4) rfl (by rw [ex_26597]; rfl) (by decide) rfl (fun ls hl => ?_)
            refine lv_goto (tgt := 87) hx hb dX8_gatherFeelings_132 (by decide) ?_
            exact ih87 _ (by rw [← hm87]; exact ms_up (m := 1) ex_26597 (show bn 1 1 (1 : Int32) from bn_k (by decide)) B_26581 (bn_w (bn_eq ex_26597 (bn_add B_26581 (show bn 1 1 (1 : Int32) from bn_k (by decide)) (by decide))) (by decide) : bn 0 14 x_26597) (by decide)) x_26597 _ _  _ _ _ I (bn_w (bn_eq ex_26597 (bn_add B_26581 (show bn 1 1 (1 : Int32) from bn_k (by decide)) (by decide))) (by decide)) (bn_w b87_y29_3 (by decide)) rfl Y (lv_sub hl [1, 2, 3, 4, 0] rfl)
      refine lv_iload_n hx hb dX8_gatherFeelings_29 rfl (lv_at hl 3 rfl) ?_
      refine lv_aload_n hx hb dX8_gatherFeelings_30 rfl (lv_at hl 2 rfl) ?_
      obtain ⟨v_26598, v_26600, p_ad_20_0, b_26599, b_26601⟩ := opnC_20 (j := 0) I (by decide)
      have p_ad_20_0 : pt L_29 f_29 (ad 20 0) (.inr (9, [.ref (ad 21 0), .int v_26598, .int v_26600])) := p_ad_20_0
      refine pg_getN S Y ok_X9 2 (by decide) kf8_88 (v := .int v_26600) p_ad_20_0 rfl dX8_gatherFeelings_31 ?_
      refine lv_icmp_ge (tgt := 151) hx hb dX8_gatherFeelings_34 (by decide) (fun c_26602 => ?_) (fun c_26602 => ?_)
      · exact prV (post := fun L1 f1 => SH (spC rs ((0, 6) : Int × Int) tc w q) nnC G ad L1 f1) S Y (by decide) (by decide) hA1 I dX8_gatherFeelings_151
      · have B_26603 : bn 1 8 v_26600 := bn_w (bn_gtl c_26602 (bn_w (a' := 0) (b' := 8) b_26601 (hW 0)) b_y29_3) (by decide)
        have B_26604 : bn 0 7 y29_3 := bn_w (bn_gtr c_26602 (bn_w (a' := 0) (b' := 8) b_26601 (hW 0)) b_y29_3) (by decide)
        refine lv_aload_n hx hb dX8_gatherFeelings_37 rfl (lv_at hl 2 rfl) ?_
        refine lv_iload_n hx hb dX8_gatherFeelings_38 rfl (lv_at hl 3 rfl) ?_
        refine lv_iconst (v := 0) hx hb dX8_gatherFeelings_39 (by decide) ?_
        refine cVp (As := [.int y29_3, .int 0]) (rest := []) S Y (x_X9_get (l := l) (j := 0) I hW hT hQ (by decide)) cw_X9_get km8_93 p_ad_20_0 ok_X9.1 rfl rfl ⟨Nat.le_of_ble_eq_true rfl, Nat.le_of_ble_eq_true rfl⟩ hl.1 rfl (Nat.le_of_ble_eq_true rfl) ⟨Nat.le_of_ble_eq_true rfl, Nat.le_of_ble_eq_true rfl⟩ dX8_gatherFeelings_40 (fun r_26605 H locs er_26605 Y => ?_)
        refine lv_iload_n hx hb dX8_gatherFeelings_43 rfl (lv_at hl 1 rfl) ?_
        refine lv_icmp_ne (tgt := 145) hx hb dX8_gatherFeelings_44 (by decide) (fun c_26606 => ?_) (fun c_26606 => ?_)
        · obtain ⟨x_26607, ex_26607⟩ : ∃ z : Int32, z = y29_3 + 1 := ⟨_, rfl⟩
          refine lv_iinc (v := x_26607) (lv' := [(3, .int x_26607), (0, .ref (ad 7 0)), (1, .int i1), (2, .ref (ad 20 0))]) hx hb dX8_gatherFeelings_145 hl (k := 3) rfl (by rw [ex_26607]; rfl) (by decide) rfl (fun ls hl => ?_)
          refine lv_goto (tgt := 29) hx hb dX8_gatherFeelings_148 (by decide) ?_
          exact ih29 _ (by rw [← hm29]; exact ms_up (m := 1) ex_26607 (show bn 1 1 (1 : Int32) from bn_k (by decide)) B_26604 (bn_w (bn_eq ex_26607 (bn_add B_26604 (show bn 1 1 (1 : Int32) from bn_k (by decide)) (by decide))) (by decide) : bn 0 8 x_26607) (by decide)) x_26607 _ _  _ _ _ I (bn_w (bn_eq ex_26607 (bn_add B_26604 (show bn 1 1 (1 : Int32) from bn_k (by decide)) (by decide))) (by decide)) rfl Y (lv_sub hl [1, 2, 3, 0] rfl)
        · refine lv_aload_n hx hb dX8_gatherFeelings_47 rfl (lv_at hl 0 rfl) ?_
          obtain ⟨v_26608, v_26610, v_26612, p_ad_7_0, b_26609, b_26611, b_26613⟩ := opnC_7 (j := 0) I (by decide)
          have p_ad_7_0 : pt L_29 f_29 (ad 7 0) (.inr (8, [.ref (ad 1 0), .ref (ad 3 0), .ref (ad 10 62), .ref (ad 56 0), .ref (ad 57 0), .ref (ad 58 0), .ref (ad 59 0), .int v_26608, .int v_26610, .int v_26612])) := p_ad_7_0
          refine pg_get S Y ok_X8 8 (by decide) kf8_85 (v := .int v_26610) p_ad_7_0 rfl dX8_gatherFeelings_48 ?_
          refine lv_bipush (v := 6) hx hb dX8_gatherFeelings_51 (by decide) ?_
          refine lv_icmp_ge (tgt := 145) hx hb dX8_gatherFeelings_53 (by decide) (fun c_26614 => ?_) (fun c_26614 => ?_)
          · have B_26615 : bn 6 6 v_26610 := bn_w (bn_ler c_26614 (show bn 6 6 (6 : Int32) from bn_k (by decide)) (bn_w (a' := 0) (b' := 6) b_26611 (by decide))) (by decide)
            obtain ⟨x_26617, ex_26617⟩ : ∃ z : Int32, z = y29_3 + 1 := ⟨_, rfl⟩
            refine lv_iinc (v := x_26617) (lv' := [(3, .int x_26617), (0, .ref (ad 7 0)), (1, .int i1), (2, .ref (ad 20 0))]) hx hb dX8_gatherFeelings_145 hl (k := 3) rfl (by rw [ex_26617]; rfl) (by decide) rfl (fun ls hl => ?_)
            refine lv_goto (tgt := 29) hx hb dX8_gatherFeelings_148 (by decide) ?_
            exact ih29 _ (by rw [← hm29]; exact ms_up (m := 1) ex_26617 (show bn 1 1 (1 : Int32) from bn_k (by decide)) B_26604 (bn_w (bn_eq ex_26617 (bn_add B_26604 (show bn 1 1 (1 : Int32) from bn_k (by decide)) (by decide))) (by decide) : bn 0 8 x_26617) (by decide)) x_26617 _ _  _ _ _ I (bn_w (bn_eq ex_26617 (bn_add B_26604 (show bn 1 1 (1 : Int32) from bn_k (by decide)) (by decide))) (by decide)) rfl Y (lv_sub hl [1, 2, 3, 0] rfl)
          · have B_26616 : bn 0 5 v_26610 := bn_w (bn_gtr c_26614 (show bn 6 6 (6 : Int32) from bn_k (by decide)) (bn_w (a' := 0) (b' := 6) b_26611 (by decide))) (by decide)
            have I := I.castS (sp' := spC rs ((0, 5) : Int × Int) tc w q) (k := 7) (j := 0) (by decide) p_ad_7_0 (okE_o (okFs_c okV_r (okFs_c okV_r (okFs_c okV_r (okFs_c okV_r (okFs_c okV_r (okFs_c okV_r (okFs_c okV_r (okFs_c (okV_i b_26609) (okFs_c (okV_p (bn_w B_26616 (by decide))) (okFs_c (okV_i b_26613) okFs_n))))))))))) fcC
            refine lv_aload_n hx hb dX8_gatherFeelings_56 rfl (lv_at hl 0 rfl) ?_
            refine pg_get S Y ok_X8 2 (by decide) kf8_32 (v := .ref (ad 10 62)) p_ad_7_0 rfl dX8_gatherFeelings_57 ?_
            refine lv_aload_n hx hb dX8_gatherFeelings_60 rfl (lv_at hl 2 rfl) ?_
            refine lv_iload_n hx hb dX8_gatherFeelings_61 rfl (lv_at hl 3 rfl) ?_
            refine lv_iconst (v := 1) hx hb dX8_gatherFeelings_62 (by decide) ?_
            refine cVp (As := [.int y29_3, .int 1]) (rest := [.ref (ad 10 62)]) S Y (x_X9_get (l := l) (j := 0) I hW hT hQ (by decide)) cw_X9_get km8_93 p_ad_20_0 ok_X9.1 rfl rfl ⟨Nat.le_of_ble_eq_true rfl, Nat.le_of_ble_eq_true rfl⟩ hl.1 rfl (Nat.le_of_ble_eq_true rfl) ⟨Nat.le_of_ble_eq_true rfl, Nat.le_of_ble_eq_true rfl⟩ dX8_gatherFeelings_63 (fun r_26618 H locs er_26618 Y => ?_)
            obtain ⟨v_26619, v_26621, v_26623, v_26625, v_26627, p_ad_10_62, b_26620, b_26622, b_26624, b_26626, b_26628⟩ := opnC_10 (j := 62) I (by decide)
            have p_ad_10_62 : pt L_29 f_29 (ad 10 62) (.inr (4, [.ref (ad 11 62), .ref (ad 12 62), .int v_26619, .int v_26621, .int v_26623, .int v_26625, .int v_26627])) := p_ad_10_62
            refine pg_putN S Y ok_X4 5 (by decide) kf8_97 rfl (fs' := [.ref (ad 11 62), .ref (ad 12 62), .int v_26619, .int v_26621, .int v_26623, .int r_26618, .int v_26627]) (v := .int r_26618) p_ad_10_62 rfl rfl rfl (Nat.le_of_ble_eq_true rfl) dX8_gatherFeelings_66 (fun f_26629 H locs ef_26629 Y => ?_)
            have p_ad_20_0 := p_ad_20_0.up ef_26629 (I.ne (k := 20) (j := 0) (k' := 10) (j' := 62) (by decide) (by decide) (Or.inl (by decide)))
            have p_ad_7_0 := p_ad_7_0.up ef_26629 (I.ne (k := 7) (j := 0) (k' := 10) (j' := 62) (by decide) (by decide) (Or.inl (by decide)))
            have p_ad_10_62 := p_ad_10_62.me ef_26629
            have I := I.up (k := 10) (j := 62) (by decide) ef_26629 (okE_o (okFs_c okV_r (okFs_c okV_r (okFs_c (okV_i b_26620) (okFs_c (okV_i b_26622) (okFs_c (okV_i b_26624) (okFs_c (okV_i (bn_w (bn_any r_26618) (by decide))) (okFs_c (okV_i b_26628) okFs_n))))))))
            refine lv_aload_n hx hb dX8_gatherFeelings_69 rfl (lv_at hl 0 rfl) ?_
            refine pg_get S Y ok_X8 6 (by decide) kf8_21 (v := .ref (ad 59 0)) p_ad_7_0 rfl dX8_gatherFeelings_70 ?_
            refine lv_aload_n hx hb dX8_gatherFeelings_73 rfl (lv_at hl 0 rfl) ?_
            refine pg_get S Y ok_X8 8 (by decide) kf8_85 (v := .int v_26610) p_ad_7_0 rfl dX8_gatherFeelings_74 ?_
            refine lv_aload_n hx hb dX8_gatherFeelings_77 rfl (lv_at hl 2 rfl) ?_
            refine lv_iload_n hx hb dX8_gatherFeelings_78 rfl (lv_at hl 3 rfl) ?_
            refine lv_iconst (v := 2) hx hb dX8_gatherFeelings_79 (by decide) ?_
            refine cVp (As := [.int y29_3, .int 2]) (rest := [.int v_26610, .ref (ad 59 0)]) S Y (x_X9_get (l := l) (j := 0) I hW hT hQ (by decide)) cw_X9_get km8_93 p_ad_20_0 ok_X9.1 rfl rfl ⟨Nat.le_of_ble_eq_true rfl, Nat.le_of_ble_eq_true rfl⟩ hl.1 rfl (Nat.le_of_ble_eq_true rfl) ⟨Nat.le_of_ble_eq_true rfl, Nat.le_of_ble_eq_true rfl⟩ dX8_gatherFeelings_80 (fun r_26630 H locs er_26630 Y => ?_)
            obtain ⟨g_26631, p_ad_59_0, o_26632⟩ := I.opi (k := 59) (j := 0) (by decide) rfl
            have p_ad_59_0 : pt L_29 f_26629 (ad 59 0) (.inl (G.2 0, 6, .inl g_26631)) := p_ad_59_0
            refine pg_iast S Y p_ad_59_0 (vp_bn B_26616 (by decide)) dX8_gatherFeelings_83 (fun f_26634 H locs ef_26634 Y => ?_)
            obtain ⟨g_26633, eg_26633⟩ : ∃ z, z = upd (g_26631) (v_26610 : Int32).toNatClampNeg r_26630 := ⟨_, rfl⟩
            rw [← eg_26633] at ef_26634
            have p_ad_20_0 := p_ad_20_0.up ef_26634 (I.ne (k := 20) (j := 0) (k' := 59) (j' := 0) (by decide) (by decide) (Or.inl (by decide)))
            have p_ad_7_0 := p_ad_7_0.up ef_26634 (I.ne (k := 7) (j := 0) (k' := 59) (j' := 0) (by decide) (by decide) (Or.inl (by decide)))
            have p_ad_10_62 := p_ad_10_62.up ef_26634 (I.ne (k := 10) (j := 62) (k' := 59) (j' := 0) (by decide) (by decide) (Or.inl (by decide)))
            have p_ad_59_0 := p_ad_59_0.me ef_26634
            have I := I.up (k := 59) (j := 0) (by decide) ef_26634 (okE_a (g := g_26633) trivial)
            refine lv_iconst (v := 0) hx hb dX8_gatherFeelings_84 (by decide) ?_
            refine lv_istore (lv' := [(4, .int 0), (0, .ref (ad 7 0)), (1, .int i1), (2, .ref (ad 20 0)), (3, .int y29_3)]) hx hb dX8_gatherFeelings_85 hl (by decide) rfl (fun ls hl => ?_)
            exact J_87 _ 0 _ _  _ _ _ I (bn_w (show bn 0 0 (0 : Int32) from bn_k (by decide)) (by decide)) (bn_w B_26604 (by decide)) rfl Y (lv_sub hl [1, 2, 3, 4, 0] rfl)
  refine lv_aload_n hx hb dX8_gatherFeelings_0 rfl (lv_at hl 0 rfl) ?_
  obtain ⟨v_26635, v_26637, v_26639, p_ad_7_0, b_26636, b_26638, b_26640⟩ := opnC_7 (j := 0) I (by decide)
  have p_ad_7_0 : pt L f (ad 7 0) (.inr (8, [.ref (ad 1 0), .ref (ad 3 0), .ref (ad 10 62), .ref (ad 56 0), .ref (ad 57 0), .ref (ad 58 0), .ref (ad 59 0), .int v_26635, .int v_26637, .int v_26639])) := p_ad_7_0
  refine pg_get S Y ok_X8 0 (by decide) kf8_24 (v := .ref (ad 1 0)) p_ad_7_0 rfl dX8_gatherFeelings_1 ?_
  obtain ⟨v_26641, v_26643, v_26645, v_26647, v_26649, p_ad_1_0, b_26642, b_26644, b_26646, b_26648, b_26650⟩ := opnC_1 (j := 0) I (by decide)
  have p_ad_1_0 : pt L f (ad 1 0) (.inr (10, [.ref (ad 40 0), .ref (ad 41 0), .ref (ad 42 0), .ref (ad 10 0), .ref (ad 43 0), .ref (ad 20 0), .ref (ad 20 1), .ref (ad 20 2), .ref (ad 20 3), .ref (ad 20 4), .int v_26641, .int v_26643, .int v_26645, .int v_26647, .int v_26649])) := p_ad_1_0
  refine pg_getN S Y ok_X10 5 (by decide) kf8_77 (v := .ref (ad 20 0)) p_ad_1_0 rfl dX8_gatherFeelings_4 ?_
  refine lv_astore_n (lv' := [(2, .ref (ad 20 0)), (0, .ref (ad 7 0)), (1, .int i1)]) hx hb dX8_gatherFeelings_7 rfl hl (by decide) rfl (fun ls hl => ?_)
  refine lv_aload_n hx hb dX8_gatherFeelings_8 rfl (lv_at hl 1 rfl) ?_
  refine pg_get S Y ok_X8 2 (by decide) kf8_32 (v := .ref (ad 10 62)) p_ad_7_0 rfl dX8_gatherFeelings_9 ?_
  refine lv_aload_n hx hb dX8_gatherFeelings_12 rfl (lv_at hl 1 rfl) ?_
  refine pg_get S Y ok_X8 0 (by decide) kf8_24 (v := .ref (ad 1 0)) p_ad_7_0 rfl dX8_gatherFeelings_13 ?_
  refine pg_getN S Y ok_X10 3 (by decide) kf8_63 (v := .ref (ad 10 0)) p_ad_1_0 rfl dX8_gatherFeelings_16 ?_
  refine cVv (As := [.ref (ad 10 0)]) (rest := []) S Y (x_X4_takeOver (l := l) (j := 62) (i := 0) I hW hT hQ (by decide) (by decide) (by omega)) cw_X4_takeOver km8_81 (I.opo (k := 10) (j := 62) (by decide) rfl).choose_spec.1 ok_X4.1 rfl rfl ⟨Nat.le_of_ble_eq_true rfl, Nat.le_of_ble_eq_true rfl⟩ hl.1 rfl (Nat.le_of_ble_eq_true rfl) ⟨Nat.le_of_ble_eq_true rfl, Nat.le_of_ble_eq_true rfl⟩ dX8_gatherFeelings_19 (fun L_26651 f_26652 H locs I Y => ?_)
  refine lv_aload_n hx hb dX8_gatherFeelings_22 rfl (lv_at hl 1 rfl) ?_
  refine lv_iconst (v := 0) hx hb dX8_gatherFeelings_23 (by decide) ?_
  obtain ⟨v_26653, v_26655, v_26657, p_ad_7_0, b_26654, b_26656, b_26658⟩ := opnC_7 (j := 0) I (by decide)
  have p_ad_7_0 : pt L_26651 f_26652 (ad 7 0) (.inr (8, [.ref (ad 1 0), .ref (ad 3 0), .ref (ad 10 62), .ref (ad 56 0), .ref (ad 57 0), .ref (ad 58 0), .ref (ad 59 0), .int v_26653, .int v_26655, .int v_26657])) := p_ad_7_0
  refine pg_put S Y ok_X8 8 (by decide) kf8_85 rfl (fs' := [.ref (ad 1 0), .ref (ad 3 0), .ref (ad 10 62), .ref (ad 56 0), .ref (ad 57 0), .ref (ad 58 0), .ref (ad 59 0), .int v_26653, .int 0, .int v_26657]) (v := .int 0) p_ad_7_0 rfl rfl rfl (Nat.le_of_ble_eq_true rfl) dX8_gatherFeelings_24 (fun f_26659 H locs ef_26659 Y => ?_)
  have p_ad_7_0 := p_ad_7_0.me ef_26659
  have I := I.upS (sp' := spC rs ((0, 6) : Int × Int) tc w q) (k := 7) (j := 0) (by decide) ef_26659 (okE_o (okFs_c okV_r (okFs_c okV_r (okFs_c okV_r (okFs_c okV_r (okFs_c okV_r (okFs_c okV_r (okFs_c okV_r (okFs_c (okV_i b_26654) (okFs_c (okV_p (bn_w (show bn 0 0 (0 : Int32) from bn_k (by decide)) (by decide))) (okFs_c (okV_i b_26658) okFs_n))))))))))) fcC
  refine lv_iconst (v := 0) hx hb dX8_gatherFeelings_27 (by decide) ?_
  refine lv_istore_n (lv' := [(3, .int 0), (2, .ref (ad 20 0)), (0, .ref (ad 7 0)), (1, .int i1)]) hx hb dX8_gatherFeelings_28 rfl hl (by decide) rfl (fun ls hl => ?_)
  exact J_29 _ 0 _ _  _ _ _ I (bn_w (show bn 0 0 (0 : Int32) from bn_k (by decide)) (by decide)) rfl Y (lv_sub hl [2, 3, 1, 0] rfl)
set_option maxHeartbeats 4000000 in
set_option maxRecDepth 100000 in
theorem x_X8_explain {l : Launch} {G : GG}  {L : List Nat} {f : HF} {ad : Nat → Nat → Nat} {rs : RS} {tc w : Nat → Int × Int} {q : Nat → (Nat → Int32) → Prop} {i1 i2 : Int32} (I : SH (spC rs ((0, 6) : Int × Int) tc w q) nnC G ad L f) (hW : WBp w 8) (hT : WBp tc 4) (hQ : QIp q) (b_i1 : bn 0 13 i1) : PMv l yX8_explain cX8_explain 4 0 0 0 G [.ref (ad 7 0), .int i1, .int i2] L f (fun L1 f1 => SH (spC rs ((0, 6) : Int × Int) tc w q) nnC G ad L1 f1) := by
  refine PMv.of (post := fun L1 f1 => SH (spC rs ((0, 6) : Int × Int) tc w q) nnC G ad L1 f1) (own := RX8) (by decide) rfl (Nat.le_of_ble_eq_true rfl) (fun sz p e s m args below meth c A ls hA1 hname S Y hl => ?_)
  have hx := S.hx
  have hb := S.hb
  have hl : lv_has ls 4 [(0, .ref (ad 7 0)), (1, .int i1), (2, .int i2)] := hl
  have J_2 : ∀ (n2 : Nat) (y2_3 : Int32) (L_2 : List Nat) (f_2 : HF) (H : Heap) (locs : List Loc) (ls : Array Slot), (SH (spC rs ((0, 6) : Int × Int) tc w q) nnC G ad L_2 f_2) → (bn 0 6 y2_3) → (((6 : Int) - y2_3.toInt).toNat = n2) → (DY G A s [] L_2 f_2 H locs) → (lv_has ls 4 [(0, .ref (ad 7 0)), (1, .int i1), (2, .int i2), (3, .int y2_3)]) → W p l e (rmD 0 0 0) s m args below meth c H locs (0) (0) (MQ below (va_Qv (fun (u : List Nat × HF) => (fun L1 f1 => SH (spC rs ((0, 6) : Int × Int) tc w q) nnC G ad L1 f1) u.1 u.2) (fun u t => pOut G (va_A (va_pl L f) sz) u.1 u.2 t) (va_A (va_pl L f) sz)) args s 0 0 A) (F0 m 2 ls []) := by
    intro n2
    induction n2 using Nat.strongRecOn with
    | _ n2 ih2 =>
      intro y2_3 L_2 f_2 H locs ls I b_y2_3 hm2 Y hl
      refine lv_iload_n hx hb dX8_explain_2 rfl (lv_at hl 3 rfl) ?_
      refine lv_aload_n hx hb dX8_explain_3 rfl (lv_at hl 0 rfl) ?_
      obtain ⟨v_26836, v_26838, v_26840, p_ad_7_0, b_26837, b_26839, b_26841⟩ := opnC_7 (j := 0) I (by decide)
      have p_ad_7_0 : pt L_2 f_2 (ad 7 0) (.inr (8, [.ref (ad 1 0), .ref (ad 3 0), .ref (ad 10 62), .ref (ad 56 0), .ref (ad 57 0), .ref (ad 58 0), .ref (ad 59 0), .int v_26836, .int v_26838, .int v_26840])) := p_ad_7_0
      refine pg_get S Y ok_X8 8 (by decide) kf8_85 (v := .int v_26838) p_ad_7_0 rfl dX8_explain_4 ?_
      refine lv_icmp_ge (tgt := 38) hx hb dX8_explain_7 (by decide) (fun c_26842 => ?_) (fun c_26842 => ?_)
      · exact prV (post := fun L1 f1 => SH (spC rs ((0, 6) : Int × Int) tc w q) nnC G ad L1 f1) S Y (by decide) (by decide) hA1 I dX8_explain_38
      · have B_26843 : bn 1 6 v_26838 := bn_w (bn_gtl c_26842 (bn_w (a' := 0) (b' := 6) b_26839 (by decide)) b_y2_3) (by decide)
        have B_26844 : bn 0 5 y2_3 := bn_w (bn_gtr c_26842 (bn_w (a' := 0) (b' := 6) b_26839 (by decide)) b_y2_3) (by decide)
        refine lv_aload_n hx hb dX8_explain_10 rfl (lv_at hl 0 rfl) ?_
        refine pg_get S Y ok_X8 6 (by decide) kf8_21 (v := .ref (ad 59 0)) p_ad_7_0 rfl dX8_explain_11 ?_
        refine lv_iload_n hx hb dX8_explain_14 rfl (lv_at hl 3 rfl) ?_
        refine lv_dup2_11 hx hb dX8_explain_15 rfl rfl ?_
        obtain ⟨g_26845, p_ad_59_0, o_26846⟩ := I.opi (k := 59) (j := 0) (by decide) rfl
        have p_ad_59_0 : pt L_2 f_2 (ad 59 0) (.inl (G.2 0, 6, .inl g_26845)) := p_ad_59_0
        obtain ⟨v_26847, ev_26847⟩ : ∃ z, z = g_26845 (y2_3 : Int32).toNatClampNeg := ⟨_, rfl⟩
        refine pg_iald S Y (v := v_26847) p_ad_59_0 (vp_bn B_26844 (by decide)) ev_26847.symm dX8_explain_16 ?_
        refine lv_iload_n hx hb dX8_explain_17 rfl (lv_at hl 2 rfl) ?_
        refine lv_aload_n hx hb dX8_explain_18 rfl (lv_at hl 0 rfl) ?_
        refine pg_get S Y ok_X8 5 (by decide) kf8_18 (v := .ref (ad 58 0)) p_ad_7_0 rfl dX8_explain_19 ?_
        refine lv_iload_n hx hb dX8_explain_22 rfl (lv_at hl 3 rfl) ?_
        refine lv_bipush (v := 14) hx hb dX8_explain_23 (by decide) ?_
        refine lv_imul hx hb dX8_explain_25 ?_
        refine lv_topi (fun x_26848 ex_26848 => ?_)
        refine lv_iload_n hx hb dX8_explain_26 rfl (lv_at hl 1 rfl) ?_
        refine lv_iadd hx hb dX8_explain_27 ?_
        refine lv_topi (fun x_26849 ex_26849 => ?_)
        obtain ⟨g_26850, p_ad_58_0, o_26851⟩ := I.opi (k := 58) (j := 0) (by decide) rfl
        have p_ad_58_0 : pt L_2 f_2 (ad 58 0) (.inl (G.2 0, 84, .inl g_26850)) := p_ad_58_0
        obtain ⟨v_26852, ev_26852⟩ : ∃ z, z = g_26850 (x_26849 : Int32).toNatClampNeg := ⟨_, rfl⟩
        refine pg_iald S Y (v := v_26852) p_ad_58_0 (vp_bn (bn_eq ex_26849 (bn_add (bn_eq ex_26848 (bn_mul B_26844 (show bn 14 14 (14 : Int32) from bn_k (by decide)) (by decide))) b_i1 (by decide))) (by decide)) ev_26852.symm dX8_explain_28 ?_
        refine lv_imul hx hb dX8_explain_29 ?_
        refine lv_topi (fun x_26853 ex_26853 => ?_)
        refine lv_isub hx hb dX8_explain_30 ?_
        refine lv_topi (fun x_26854 ex_26854 => ?_)
        refine pg_iast S Y p_ad_59_0 (vp_bn B_26844 (by decide)) dX8_explain_31 (fun f_26856 H locs ef_26856 Y => ?_)
        obtain ⟨g_26855, eg_26855⟩ : ∃ z, z = upd (g_26845) (y2_3 : Int32).toNatClampNeg x_26854 := ⟨_, rfl⟩
        rw [← eg_26855] at ef_26856
        have p_ad_7_0 := p_ad_7_0.up ef_26856 (I.ne (k := 7) (j := 0) (k' := 59) (j' := 0) (by decide) (by decide) (Or.inl (by decide)))
        have p_ad_58_0 := p_ad_58_0.up ef_26856 (I.ne (k := 58) (j := 0) (k' := 59) (j' := 0) (by decide) (by decide) (Or.inl (by decide)))
        have p_ad_59_0 := p_ad_59_0.me ef_26856
        have I := I.up (k := 59) (j := 0) (by decide) ef_26856 (okE_a (g := g_26855) trivial)
        obtain ⟨x_26857, ex_26857⟩ : ∃ z : Int32, z = y2_3 + 1 := ⟨_, rfl⟩
        refine lv_iinc (v := x_26857) (lv' := [(3, .int x_26857), (0, .ref (ad 7 0)), (1, .int i1), (2, .int i2)]) hx hb dX8_explain_32 hl (k := 3) rfl (by rw [ex_26857]; rfl) (by decide) rfl (fun ls hl => ?_)
        refine lv_goto (tgt := 2) hx hb dX8_explain_35 (by decide) ?_
        exact ih2 _ (by rw [← hm2]; exact ms_up (m := 1) ex_26857 (show bn 1 1 (1 : Int32) from bn_k (by decide)) B_26844 (bn_w (bn_eq ex_26857 (bn_add B_26844 (show bn 1 1 (1 : Int32) from bn_k (by decide)) (by decide))) (by decide) : bn 0 6 x_26857) (by decide)) x_26857 _ _  _ _ _ I (bn_w (bn_eq ex_26857 (bn_add B_26844 (show bn 1 1 (1 : Int32) from bn_k (by decide)) (by decide))) (by decide)) rfl Y (lv_sub hl [1, 2, 3, 0] rfl)
  refine lv_iconst (v := 0) hx hb dX8_explain_0 (by decide) ?_
  refine lv_istore_n (lv' := [(3, .int 0), (0, .ref (ad 7 0)), (1, .int i1), (2, .int i2)]) hx hb dX8_explain_1 rfl hl (by decide) rfl (fun ls hl => ?_)
  exact J_2 _ 0 _ _  _ _ _ I (bn_w (show bn 0 0 (0 : Int32) from bn_k (by decide)) (by decide)) rfl Y (lv_sub hl [1, 2, 3, 0] rfl)
set_option maxHeartbeats 4000000 in
set_option maxRecDepth 100000 in
theorem x_X8_countSet {l : Launch} {G : GG}  {L : List Nat} {f : HF} {ad : Nat → Nat → Nat} {rs : RS} {tc w : Nat → Int × Int} {q : Nat → (Nat → Int32) → Prop} {i1 : Int32} (I : SH (spC rs ((0, 6) : Int × Int) tc w q) nnC G ad L f) (hW : WBp w 8) (hT : WBp tc 4) (hQ : QIp q) : PMv l yX8_countSet cX8_countSet 3 0 0 0 G [.ref (ad 7 0), .int i1] L f (fun L1 f1 => SH (spC rs ((0, 6) : Int × Int) tc w q) nnC G ad L1 f1) := by
  refine PMv.of (post := fun L1 f1 => SH (spC rs ((0, 6) : Int × Int) tc w q) nnC G ad L1 f1) (own := RX8) (by decide) rfl (Nat.le_of_ble_eq_true rfl) (fun sz p e s m args below meth c A ls hA1 hname S Y hl => ?_)
  have hx := S.hx
  have hb := S.hb
  have hl : lv_has ls 3 [(0, .ref (ad 7 0)), (1, .int i1)] := hl
  have J_38 : ∀ (n38 : Nat) (y38_2 : Int32) (L_38 : List Nat) (f_38 : HF) (H : Heap) (locs : List Loc) (ls : Array Slot), (SH (spC rs ((0, 6) : Int × Int) tc w q) nnC G ad L_38 f_38) → (bn 0 14 y38_2) → (((14 : Int) - y38_2.toInt).toNat = n38) → (DY G A s [] L_38 f_38 H locs) → (lv_has ls 3 [(0, .ref (ad 7 0)), (1, .int i1), (2, .int y38_2)]) → W p l e (rmD 0 0 0) s m args below meth c H locs (0) (0) (MQ below (va_Qv (fun (u : List Nat × HF) => (fun L1 f1 => SH (spC rs ((0, 6) : Int × Int) tc w q) nnC G ad L1 f1) u.1 u.2) (fun u t => pOut G (va_A (va_pl L f) sz) u.1 u.2 t) (va_A (va_pl L f) sz)) args s 0 0 A) (F0 m 38 ls []) := by
    intro n38
    induction n38 using Nat.strongRecOn with
    | _ n38 ih38 =>
      intro y38_2 L_38 f_38 H locs ls I b_y38_2 hm38 Y hl
      refine lv_iload_n hx hb dX8_countSet_38 rfl (lv_at hl 2 rfl) ?_
      refine lv_aload_n hx hb dX8_countSet_39 rfl (lv_at hl 0 rfl) ?_
      obtain ⟨v_27246, v_27248, v_27250, p_ad_7_0, b_27247, b_27249, b_27251⟩ := opnC_7 (j := 0) I (by decide)
      have p_ad_7_0 : pt L_38 f_38 (ad 7 0) (.inr (8, [.ref (ad 1 0), .ref (ad 3 0), .ref (ad 10 62), .ref (ad 56 0), .ref (ad 57 0), .ref (ad 58 0), .ref (ad 59 0), .int v_27246, .int v_27248, .int v_27250])) := p_ad_7_0
      refine pg_get S Y ok_X8 7 (by decide) kf8_50 (v := .int v_27246) p_ad_7_0 rfl dX8_countSet_40 ?_
      refine lv_icmp_ge (tgt := 66) hx hb dX8_countSet_43 (by decide) (fun c_27252 => ?_) (fun c_27252 => ?_)
      · exact prV (post := fun L1 f1 => SH (spC rs ((0, 6) : Int × Int) tc w q) nnC G ad L1 f1) S Y (by decide) (by decide) hA1 I dX8_countSet_66
      · have B_27253 : bn 1 14 v_27246 := bn_w (bn_gtl c_27252 b_27247 b_y38_2) (by decide)
        have B_27254 : bn 0 13 y38_2 := bn_w (bn_gtr c_27252 b_27247 b_y38_2) (by decide)
        refine lv_aload_n hx hb dX8_countSet_46 rfl (lv_at hl 0 rfl) ?_
        refine pg_get S Y ok_X8 4 (by decide) kf8_15 (v := .ref (ad 57 0)) p_ad_7_0 rfl dX8_countSet_47 ?_
        refine lv_iload_n hx hb dX8_countSet_50 rfl (lv_at hl 2 rfl) ?_
        refine lv_dup2_11 hx hb dX8_countSet_51 rfl rfl ?_
        obtain ⟨g_27255, p_ad_57_0, o_27256⟩ := I.opi (k := 57) (j := 0) (by decide) rfl
        have p_ad_57_0 : pt L_38 f_38 (ad 57 0) (.inl (G.2 0, 14, .inl g_27255)) := p_ad_57_0
        obtain ⟨v_27257, ev_27257⟩ : ∃ z, z = g_27255 (y38_2 : Int32).toNatClampNeg := ⟨_, rfl⟩
        refine pg_iald S Y (v := v_27257) p_ad_57_0 (vp_bn B_27254 (by decide)) ev_27257.symm dX8_countSet_52 ?_
        refine lv_iload_n hx hb dX8_countSet_53 rfl (lv_at hl 1 rfl) ?_
        refine lv_iload_n hx hb dX8_countSet_54 rfl (lv_at hl 2 rfl) ?_
        refine lv_ishr hx hb dX8_countSet_55 ?_
        refine lv_topi (fun x_27258 ex_27258 => ?_)
        refine lv_iconst (v := 1) hx hb dX8_countSet_56 (by decide) ?_
        refine lv_iand hx hb dX8_countSet_57 ?_
        refine lv_topi (fun x_27259 ex_27259 => ?_)
        refine lv_iadd hx hb dX8_countSet_58 ?_
        refine lv_topi (fun x_27260 ex_27260 => ?_)
        refine pg_iast S Y p_ad_57_0 (vp_bn B_27254 (by decide)) dX8_countSet_59 (fun f_27262 H locs ef_27262 Y => ?_)
        obtain ⟨g_27261, eg_27261⟩ : ∃ z, z = upd (g_27255) (y38_2 : Int32).toNatClampNeg x_27260 := ⟨_, rfl⟩
        rw [← eg_27261] at ef_27262
        have p_ad_7_0 := p_ad_7_0.up ef_27262 (I.ne (k := 7) (j := 0) (k' := 57) (j' := 0) (by decide) (by decide) (Or.inl (by decide)))
        have p_ad_57_0 := p_ad_57_0.me ef_27262
        have I := I.up (k := 57) (j := 0) (by decide) ef_27262 (okE_a (g := g_27261) trivial)
        obtain ⟨x_27263, ex_27263⟩ : ∃ z : Int32, z = y38_2 + 1 := ⟨_, rfl⟩
        refine lv_iinc (v := x_27263) (lv' := [(2, .int x_27263), (0, .ref (ad 7 0)), (1, .int i1)]) hx hb dX8_countSet_60 hl (k := 2) rfl (by rw [ex_27263]; rfl) (by decide) rfl (fun ls hl => ?_)
        refine lv_goto (tgt := 38) hx hb dX8_countSet_63 (by decide) ?_
        exact ih38 _ (by rw [← hm38]; exact ms_up (m := 1) ex_27263 (show bn 1 1 (1 : Int32) from bn_k (by decide)) B_27254 (bn_w (bn_eq ex_27263 (bn_add B_27254 (show bn 1 1 (1 : Int32) from bn_k (by decide)) (by decide))) (by decide) : bn 0 14 x_27263) (by decide)) x_27263 _ _  _ _ _ I (bn_w (bn_eq ex_27263 (bn_add B_27254 (show bn 1 1 (1 : Int32) from bn_k (by decide)) (by decide))) (by decide)) rfl Y (lv_sub hl [1, 2, 0] rfl)
  have J_2 : ∀ (n2 : Nat) (y2_2 : Int32) (L_2 : List Nat) (f_2 : HF) (H : Heap) (locs : List Loc) (ls : Array Slot), (SH (spC rs ((0, 6) : Int × Int) tc w q) nnC G ad L_2 f_2) → (bn 0 6 y2_2) → (((6 : Int) - y2_2.toInt).toNat = n2) → (DY G A s [] L_2 f_2 H locs) → (lv_has ls 3 [(0, .ref (ad 7 0)), (1, .int i1), (2, .int y2_2)]) → W p l e (rmD 0 0 0) s m args below meth c H locs (0) (0) (MQ below (va_Qv (fun (u : List Nat × HF) => (fun L1 f1 => SH (spC rs ((0, 6) : Int × Int) tc w q) nnC G ad L1 f1) u.1 u.2) (fun u t => pOut G (va_A (va_pl L f) sz) u.1 u.2 t) (va_A (va_pl L f) sz)) args s 0 0 A) (F0 m 2 ls []) := by
    intro n2
    induction n2 using Nat.strongRecOn with
    | _ n2 ih2 =>
      intro y2_2 L_2 f_2 H locs ls I b_y2_2 hm2 Y hl
      refine lv_iload_n hx hb dX8_countSet_2 rfl (lv_at hl 2 rfl) ?_
      refine lv_aload_n hx hb dX8_countSet_3 rfl (lv_at hl 0 rfl) ?_
      obtain ⟨v_27264, v_27266, v_27268, p_ad_7_0, b_27265, b_27267, b_27269⟩ := opnC_7 (j := 0) I (by decide)
      have p_ad_7_0 : pt L_2 f_2 (ad 7 0) (.inr (8, [.ref (ad 1 0), .ref (ad 3 0), .ref (ad 10 62), .ref (ad 56 0), .ref (ad 57 0), .ref (ad 58 0), .ref (ad 59 0), .int v_27264, .int v_27266, .int v_27268])) := p_ad_7_0
      refine pg_get S Y ok_X8 8 (by decide) kf8_85 (v := .int v_27266) p_ad_7_0 rfl dX8_countSet_4 ?_
      refine lv_icmp_ge (tgt := 26) hx hb dX8_countSet_7 (by decide) (fun c_27270 => ?_) (fun c_27270 => ?_)
      · refine lv_aload_n hx hb dX8_countSet_26 rfl (lv_at hl 0 rfl) ?_
        refine lv_dup hx hb dX8_countSet_27 rfl ?_
        refine pg_get S Y ok_X8 9 (by decide) kf8_43 (v := .int v_27268) p_ad_7_0 rfl dX8_countSet_28 ?_
        refine lv_iconst (v := 1) hx hb dX8_countSet_31 (by decide) ?_
        refine lv_iadd hx hb dX8_countSet_32 ?_
        refine lv_topi (fun x_27273 ex_27273 => ?_)
        refine pg_put S Y ok_X8 9 (by decide) kf8_43 rfl (fs' := [.ref (ad 1 0), .ref (ad 3 0), .ref (ad 10 62), .ref (ad 56 0), .ref (ad 57 0), .ref (ad 58 0), .ref (ad 59 0), .int v_27264, .int v_27266, .int x_27273]) (v := .int x_27273) p_ad_7_0 rfl rfl rfl (Nat.le_of_ble_eq_true rfl) dX8_countSet_33 (fun f_27274 H locs ef_27274 Y => ?_)
        have p_ad_7_0 := p_ad_7_0.me ef_27274
        have I := I.up (k := 7) (j := 0) (by decide) ef_27274 (okE_o (okFs_c okV_r (okFs_c okV_r (okFs_c okV_r (okFs_c okV_r (okFs_c okV_r (okFs_c okV_r (okFs_c okV_r (okFs_c (okV_i b_27265) (okFs_c (okV_p b_27267) (okFs_c (okV_i (bn_w (bn_any x_27273) (by decide))) okFs_n)))))))))))
        refine lv_iconst (v := 0) hx hb dX8_countSet_36 (by decide) ?_
        refine lv_istore_n (lv' := [(2, .int 0), (0, .ref (ad 7 0)), (1, .int i1)]) hx hb dX8_countSet_37 rfl hl (by decide) rfl (fun ls hl => ?_)
        exact J_38 _ 0 _ _  _ _ _ I (bn_w (show bn 0 0 (0 : Int32) from bn_k (by decide)) (by decide)) rfl Y (lv_sub hl [1, 2, 0] rfl)
      · have B_27271 : bn 1 6 v_27266 := bn_w (bn_gtl c_27270 (bn_w (a' := 0) (b' := 6) b_27267 (by decide)) b_y2_2) (by decide)
        have B_27272 : bn 0 5 y2_2 := bn_w (bn_gtr c_27270 (bn_w (a' := 0) (b' := 6) b_27267 (by decide)) b_y2_2) (by decide)
        refine lv_aload_n hx hb dX8_countSet_10 rfl (lv_at hl 0 rfl) ?_
        refine pg_get S Y ok_X8 6 (by decide) kf8_21 (v := .ref (ad 59 0)) p_ad_7_0 rfl dX8_countSet_11 ?_
        refine lv_iload_n hx hb dX8_countSet_14 rfl (lv_at hl 2 rfl) ?_
        obtain ⟨g_27275, p_ad_59_0, o_27276⟩ := I.opi (k := 59) (j := 0) (by decide) rfl
        have p_ad_59_0 : pt L_2 f_2 (ad 59 0) (.inl (G.2 0, 6, .inl g_27275)) := p_ad_59_0
        obtain ⟨v_27277, ev_27277⟩ : ∃ z, z = g_27275 (y2_2 : Int32).toNatClampNeg := ⟨_, rfl⟩
        refine pg_iald S Y (v := v_27277) p_ad_59_0 (vp_bn B_27272 (by decide)) ev_27277.symm dX8_countSet_15 ?_
        refine lv_if_eq (tgt := 20) hx hb dX8_countSet_16 (by decide) (fun c_27278 => ?_) (fun c_27278 => ?_)
        · have B_27279 : bn 0 0 v_27277 := bn_w (bn_eq c_27278 (show bn 0 0 (0 : Int32) from bn_k (by decide))) (by decide)
          obtain ⟨x_27280, ex_27280⟩ : ∃ z : Int32, z = y2_2 + 1 := ⟨_, rfl⟩
          refine lv_iinc (v := x_27280) (lv' := [(2, .int x_27280), (0, .ref (ad 7 0)), (1, .int i1)]) hx hb dX8_countSet_20 hl (k := 2) rfl (by rw [ex_27280]; rfl) (by decide) rfl (fun ls hl => ?_)
          refine lv_goto (tgt := 2) hx hb dX8_countSet_23 (by decide) ?_
          exact ih2 _ (by rw [← hm2]; exact ms_up (m := 1) ex_27280 (show bn 1 1 (1 : Int32) from bn_k (by decide)) B_27272 (bn_w (bn_eq ex_27280 (bn_add B_27272 (show bn 1 1 (1 : Int32) from bn_k (by decide)) (by decide))) (by decide) : bn 0 6 x_27280) (by decide)) x_27280 _ _  _ _ _ I (bn_w (bn_eq ex_27280 (bn_add B_27272 (show bn 1 1 (1 : Int32) from bn_k (by decide)) (by decide))) (by decide)) rfl Y (lv_sub hl [1, 2, 0] rfl)
        · exact prV (post := fun L1 f1 => SH (spC rs ((0, 6) : Int × Int) tc w q) nnC G ad L1 f1) S Y (by decide) (by decide) hA1 I dX8_countSet_19
  refine lv_iconst (v := 0) hx hb dX8_countSet_0 (by decide) ?_
  refine lv_istore_n (lv' := [(2, .int 0), (0, .ref (ad 7 0)), (1, .int i1)]) hx hb dX8_countSet_1 rfl hl (by decide) rfl (fun ls hl => ?_)
  exact J_2 _ 0 _ _  _ _ _ I (bn_w (show bn 0 0 (0 : Int32) from bn_k (by decide)) (by decide)) rfl Y (lv_sub hl [1, 2, 0] rfl)
set_option maxHeartbeats 4000000 in
set_option maxRecDepth 100000 in
theorem x_X8_weigh {l : Launch} {G : GG}  {L : List Nat} {f : HF} {ad : Nat → Nat → Nat} {rs : RS} {tc w : Nat → Int × Int} {q : Nat → (Nat → Int32) → Prop} {i1 : Int32} (I : SH (spC rs ((0, 6) : Int × Int) tc w q) nnC G ad L f) (hW : WBp w 8) (hT : WBp tc 4) (hQ : QIp q) : PMv l yX8_weigh cX8_weigh 5 5 0 0 G [.ref (ad 7 0), .int i1] L f (fun L1 f1 => SH (spC rs ((0, 6) : Int × Int) tc w q) nnC G ad L1 f1) := by
  refine PMv.of (post := fun L1 f1 => SH (spC rs ((0, 6) : Int × Int) tc w q) nnC G ad L1 f1) (own := RX8) (by decide) rfl (Nat.le_of_ble_eq_true rfl) (fun sz p e s m args below meth c A ls hA1 hname S Y hl => ?_)
  have hx := S.hx
  have hb := S.hb
  have hl : lv_has ls 5 [(0, .ref (ad 7 0)), (1, .int i1)] := hl
  have J_24 : ∀ (n24 : Nat) (y24_2 y24_3 : Int32) (L_24 : List Nat) (f_24 : HF) (H : Heap) (locs : List Loc) (ls : Array Slot), (SH (spC rs ((0, 6) : Int × Int) tc w q) nnC G ad L_24 f_24) → (bn 1 16384 y24_3) → (((16384 : Int) - y24_3.toInt).toNat = n24) → (DY G A s [] L_24 f_24 H locs) → (lv_has ls 5 [(0, .ref (ad 7 0)), (1, .int i1), (2, .int y24_2), (3, .int y24_3)]) → W p l e (rmD 5 0 0) s m args below meth c H locs (0) (0) (MQ below (va_Qv (fun (u : List Nat × HF) => (fun L1 f1 => SH (spC rs ((0, 6) : Int × Int) tc w q) nnC G ad L1 f1) u.1 u.2) (fun u t => pOut G (va_A (va_pl L f) sz) u.1 u.2 t) (va_A (va_pl L f) sz)) args s 0 0 A) (F0 m 24 ls []) := by
    intro n24
    induction n24 using Nat.strongRecOn with
    | _ n24 ih24 =>
      intro y24_2 y24_3 L_24 f_24 H locs ls I b_y24_3 hm24 Y hl
      refine lv_iload_n hx hb dX8_weigh_24 rfl (lv_at hl 3 rfl) ?_
      refine lv_iconst (v := 1) hx hb dX8_weigh_25 (by decide) ?_
      refine lv_aload_n hx hb dX8_weigh_26 rfl (lv_at hl 0 rfl) ?_
      obtain ⟨v_28671, v_28673, v_28675, p_ad_7_0, b_28672, b_28674, b_28676⟩ := opnC_7 (j := 0) I (by decide)
      have p_ad_7_0 : pt L_24 f_24 (ad 7 0) (.inr (8, [.ref (ad 1 0), .ref (ad 3 0), .ref (ad 10 62), .ref (ad 56 0), .ref (ad 57 0), .ref (ad 58 0), .ref (ad 59 0), .int v_28671, .int v_28673, .int v_28675])) := p_ad_7_0
      refine pg_get S Y ok_X8 7 (by decide) kf8_50 (v := .int v_28671) p_ad_7_0 rfl dX8_weigh_27 ?_
      refine lv_ishl hx hb dX8_weigh_30 ?_
      refine lv_topi (fun x_28677 ex_28677 => ?_)
      refine lv_icmp_ge (tgt := 83) hx hb dX8_weigh_31 (by decide) (fun c_28678 => ?_) (fun c_28678 => ?_)
      · exact prV (post := fun L1 f1 => SH (spC rs ((0, 6) : Int × Int) tc w q) nnC G ad L1 f1) S Y (by decide) (by decide) hA1 I dX8_weigh_83
      · have B_28679 : bn 2 16384 x_28677 := bn_w (bn_gtl c_28678 (bn_eq ex_28677 (bn_shl (n := 14) (bn_w b_28672 (by decide) : bn 0 14 v_28671) (by decide) (by decide))) b_y24_3) (by decide)
        have B_28680 : bn 1 16383 y24_3 := bn_w (bn_gtr c_28678 (bn_eq ex_28677 (bn_shl (n := 14) (bn_w b_28672 (by decide) : bn 0 14 v_28671) (by decide) (by decide))) b_y24_3) (by decide)
        refine lv_iload_n hx hb dX8_weigh_34 rfl (lv_at hl 3 rfl) ?_
        refine lv_iload_n hx hb dX8_weigh_35 rfl (lv_at hl 3 rfl) ?_
        refine lv_ineg hx hb dX8_weigh_36 ?_
        refine lv_topi (fun x_28681 ex_28681 => ?_)
        refine lv_iand hx hb dX8_weigh_37 ?_
        refine lv_topi (fun x_28682 ex_28682 => ?_)
        refine lv_iconst (v := 1) hx hb dX8_weigh_38 (by decide) ?_
        refine lv_isub hx hb dX8_weigh_39 ?_
        refine lv_topi (fun x_28683 ex_28683 => ?_)
        refine cSp (As := [.int x_28683]) (rest := []) S Y (x_bitCount (l := l) ) cw_X106_bitCount_0f7a4 km8_53 rfl ⟨Nat.le_of_ble_eq_true rfl, Nat.le_of_ble_eq_true rfl⟩ hl.1 rfl (Nat.le_of_ble_eq_true rfl) ⟨Nat.le_of_ble_eq_true rfl, Nat.le_of_ble_eq_true rfl⟩ dX8_weigh_40 (fun r_28684 H locs er_28684 Y => ?_)
        have B_28685 : bn 0 13 r_28684 := bn_eq er_28684 (by rw [ex_28683, ex_28682, ex_28681]; exact bc_low (bn_w B_28680 (by decide)))
        refine lv_istore (lv' := [(4, .int r_28684), (0, .ref (ad 7 0)), (1, .int i1), (2, .int y24_2), (3, .int y24_3)]) hx hb dX8_weigh_43 hl (by decide) rfl (fun ls hl => ?_)
        refine lv_iload_n hx hb dX8_weigh_45 rfl (lv_at hl 3 rfl) ?_
        refine lv_iconst (v := 1) hx hb dX8_weigh_46 (by decide) ?_
        refine lv_iload hx hb dX8_weigh_47 (lv_at hl 0 rfl) ?_
        refine lv_ishl hx hb dX8_weigh_49 ?_
        refine lv_topi (fun x_28686 ex_28686 => ?_)
        refine lv_ixor hx hb dX8_weigh_50 ?_
        refine lv_topi (fun x_28687 ex_28687 => ?_)
        refine lv_istore_n (lv' := [(2, .int x_28687), (4, .int r_28684), (0, .ref (ad 7 0)), (1, .int i1), (3, .int y24_3)]) hx hb dX8_weigh_51 rfl hl (by decide) rfl (fun ls hl => ?_)
        refine lv_aload_n hx hb dX8_weigh_52 rfl (lv_at hl 2 rfl) ?_
        refine lv_iload hx hb dX8_weigh_53 (lv_at hl 1 rfl) ?_
        refine lv_iload_n hx hb dX8_weigh_55 rfl (lv_at hl 0 rfl) ?_
        refine lv_iload hx hb dX8_weigh_56 (lv_at hl 1 rfl) ?_
        refine lv_ishr hx hb dX8_weigh_58 ?_
        refine lv_topi (fun x_28688 ex_28688 => ?_)
        refine lv_iconst (v := 1) hx hb dX8_weigh_59 (by decide) ?_
        refine lv_iand hx hb dX8_weigh_60 ?_
        refine lv_topi (fun x_28689 ex_28689 => ?_)
        refine lv_if_eq (tgt := 68) hx hb dX8_weigh_61 (by decide) (fun c_28690 => ?_) (fun c_28690 => ?_)
        · have B_28691 : bn 0 0 x_28689 := bn_w (bn_eq c_28690 (show bn 0 0 (0 : Int32) from bn_k (by decide))) (by decide)
          refine lv_iconst (v := (-1)) hx hb dX8_weigh_68 (by decide) ?_
          refine cVv (As := [.int r_28684, .int (-1)]) (rest := []) S Y (x_X8_explain (l := l) I hW hT hQ (bn_w B_28685 (by decide))) cw_X8_explain km8_59 p_ad_7_0 ok_X8.1 rfl rfl ⟨Nat.le_of_ble_eq_true rfl, Nat.le_of_ble_eq_true rfl⟩ hl.1 rfl (Nat.le_of_ble_eq_true rfl) ⟨Nat.le_of_ble_eq_true rfl, Nat.le_of_ble_eq_true rfl⟩ dX8_weigh_69 (fun L_28692 f_28693 H locs I Y => ?_)
          refine lv_aload_n hx hb dX8_weigh_72 rfl (lv_at hl 2 rfl) ?_
          refine lv_iload_n hx hb dX8_weigh_73 rfl (lv_at hl 0 rfl) ?_
          refine cVv (As := [.int x_28687]) (rest := []) S Y (x_X8_countSet (l := l) I hW hT hQ) cw_X8_countSet km8_47 (I.opo (k := 7) (j := 0) (by decide) rfl).choose_spec.1 ok_X8.1 rfl rfl ⟨Nat.le_of_ble_eq_true rfl, Nat.le_of_ble_eq_true rfl⟩ hl.1 rfl (Nat.le_of_ble_eq_true rfl) ⟨Nat.le_of_ble_eq_true rfl, Nat.le_of_ble_eq_true rfl⟩ dX8_weigh_74 (fun L_28694 f_28695 H locs I Y => ?_)
          obtain ⟨x_28696, ex_28696⟩ : ∃ z : Int32, z = y24_3 + 1 := ⟨_, rfl⟩
          refine lv_iinc (v := x_28696) (lv' := [(3, .int x_28696), (2, .int x_28687), (4, .int r_28684), (0, .ref (ad 7 0)), (1, .int i1)]) hx hb dX8_weigh_77 hl (k := 4) rfl (by rw [ex_28696]; rfl) (by decide) rfl (fun ls hl => ?_)
          refine lv_goto (tgt := 24) hx hb dX8_weigh_80 (by decide) ?_
          exact ih24 _ (by rw [← hm24]; exact ms_up (m := 1) ex_28696 (show bn 1 1 (1 : Int32) from bn_k (by decide)) B_28680 (bn_w (bn_eq ex_28696 (bn_add B_28680 (show bn 1 1 (1 : Int32) from bn_k (by decide)) (by decide))) (by decide) : bn 1 16384 x_28696) (by decide)) x_28687 x_28696 _ _  _ _ _ I (bn_w (bn_eq ex_28696 (bn_add B_28680 (show bn 1 1 (1 : Int32) from bn_k (by decide)) (by decide))) (by decide)) rfl Y (lv_sub hl [3, 4, 1, 0] rfl)
        · refine lv_iconst (v := 1) hx hb dX8_weigh_64 (by decide) ?_
          refine lv_goto (tgt := 69) hx hb dX8_weigh_65 (by decide) ?_
          refine cVv (As := [.int r_28684, .int 1]) (rest := []) S Y (x_X8_explain (l := l) I hW hT hQ (bn_w B_28685 (by decide))) cw_X8_explain km8_59 p_ad_7_0 ok_X8.1 rfl rfl ⟨Nat.le_of_ble_eq_true rfl, Nat.le_of_ble_eq_true rfl⟩ hl.1 rfl (Nat.le_of_ble_eq_true rfl) ⟨Nat.le_of_ble_eq_true rfl, Nat.le_of_ble_eq_true rfl⟩ dX8_weigh_69 (fun L_28697 f_28698 H locs I Y => ?_)
          refine lv_aload_n hx hb dX8_weigh_72 rfl (lv_at hl 2 rfl) ?_
          refine lv_iload_n hx hb dX8_weigh_73 rfl (lv_at hl 0 rfl) ?_
          refine cVv (As := [.int x_28687]) (rest := []) S Y (x_X8_countSet (l := l) I hW hT hQ) cw_X8_countSet km8_47 (I.opo (k := 7) (j := 0) (by decide) rfl).choose_spec.1 ok_X8.1 rfl rfl ⟨Nat.le_of_ble_eq_true rfl, Nat.le_of_ble_eq_true rfl⟩ hl.1 rfl (Nat.le_of_ble_eq_true rfl) ⟨Nat.le_of_ble_eq_true rfl, Nat.le_of_ble_eq_true rfl⟩ dX8_weigh_74 (fun L_28699 f_28700 H locs I Y => ?_)
          obtain ⟨x_28701, ex_28701⟩ : ∃ z : Int32, z = y24_3 + 1 := ⟨_, rfl⟩
          refine lv_iinc (v := x_28701) (lv' := [(3, .int x_28701), (2, .int x_28687), (4, .int r_28684), (0, .ref (ad 7 0)), (1, .int i1)]) hx hb dX8_weigh_77 hl (k := 4) rfl (by rw [ex_28701]; rfl) (by decide) rfl (fun ls hl => ?_)
          refine lv_goto (tgt := 24) hx hb dX8_weigh_80 (by decide) ?_
          exact ih24 _ (by rw [← hm24]; exact ms_up (m := 1) ex_28701 (show bn 1 1 (1 : Int32) from bn_k (by decide)) B_28680 (bn_w (bn_eq ex_28701 (bn_add B_28680 (show bn 1 1 (1 : Int32) from bn_k (by decide)) (by decide))) (by decide) : bn 1 16384 x_28701) (by decide)) x_28687 x_28701 _ _  _ _ _ I (bn_w (bn_eq ex_28701 (bn_add B_28680 (show bn 1 1 (1 : Int32) from bn_k (by decide)) (by decide))) (by decide)) rfl Y (lv_sub hl [3, 4, 1, 0] rfl)
  refine lv_aload_n hx hb dX8_weigh_0 rfl (lv_at hl 0 rfl) ?_
  refine lv_iload_n hx hb dX8_weigh_1 rfl (lv_at hl 1 rfl) ?_
  refine cVv (As := [.int i1]) (rest := []) S Y (x_X8_gatherMembers (l := l) I hW hT hQ) cw_X8_gatherMembers km8_36 (I.opo (k := 7) (j := 0) (by decide) rfl).choose_spec.1 ok_X8.1 rfl rfl ⟨Nat.le_of_ble_eq_true rfl, Nat.le_of_ble_eq_true rfl⟩ hl.1 rfl (Nat.le_of_ble_eq_true rfl) ⟨Nat.le_of_ble_eq_true rfl, Nat.le_of_ble_eq_true rfl⟩ dX8_weigh_2 (fun L_28702 f_28703 H locs I Y => ?_)
  refine lv_aload_n hx hb dX8_weigh_5 rfl (lv_at hl 0 rfl) ?_
  refine lv_iload_n hx hb dX8_weigh_6 rfl (lv_at hl 1 rfl) ?_
  refine cVv (As := [.int i1]) (rest := []) S Y (x_X8_gatherFeelings (l := l) I hW hT hQ) cw_X8_gatherFeelings km8_40 (I.opo (k := 7) (j := 0) (by decide) rfl).choose_spec.1 ok_X8.1 rfl rfl ⟨Nat.le_of_ble_eq_true rfl, Nat.le_of_ble_eq_true rfl⟩ hl.1 rfl (Nat.le_of_ble_eq_true rfl) ⟨Nat.le_of_ble_eq_true rfl, Nat.le_of_ble_eq_true rfl⟩ dX8_weigh_7 (fun L_28704 f_28705 H locs I Y => ?_)
  refine lv_aload_n hx hb dX8_weigh_10 rfl (lv_at hl 0 rfl) ?_
  refine lv_iconst (v := 0) hx hb dX8_weigh_11 (by decide) ?_
  obtain ⟨v_28706, v_28708, v_28710, p_ad_7_0, b_28707, b_28709, b_28711⟩ := opnC_7 (j := 0) I (by decide)
  have p_ad_7_0 : pt L_28704 f_28705 (ad 7 0) (.inr (8, [.ref (ad 1 0), .ref (ad 3 0), .ref (ad 10 62), .ref (ad 56 0), .ref (ad 57 0), .ref (ad 58 0), .ref (ad 59 0), .int v_28706, .int v_28708, .int v_28710])) := p_ad_7_0
  refine pg_put S Y ok_X8 9 (by decide) kf8_43 rfl (fs' := [.ref (ad 1 0), .ref (ad 3 0), .ref (ad 10 62), .ref (ad 56 0), .ref (ad 57 0), .ref (ad 58 0), .ref (ad 59 0), .int v_28706, .int v_28708, .int 0]) (v := .int 0) p_ad_7_0 rfl rfl rfl (Nat.le_of_ble_eq_true rfl) dX8_weigh_12 (fun f_28712 H locs ef_28712 Y => ?_)
  have p_ad_7_0 := p_ad_7_0.me ef_28712
  have I := I.up (k := 7) (j := 0) (by decide) ef_28712 (okE_o (okFs_c okV_r (okFs_c okV_r (okFs_c okV_r (okFs_c okV_r (okFs_c okV_r (okFs_c okV_r (okFs_c okV_r (okFs_c (okV_i b_28707) (okFs_c (okV_p b_28709) (okFs_c (okV_i (bn_w (show bn 0 0 (0 : Int32) from bn_k (by decide)) (by decide))) okFs_n)))))))))))
  refine lv_iconst (v := 0) hx hb dX8_weigh_15 (by decide) ?_
  refine lv_istore_n (lv' := [(2, .int 0), (0, .ref (ad 7 0)), (1, .int i1)]) hx hb dX8_weigh_16 rfl hl (by decide) rfl (fun ls hl => ?_)
  refine lv_aload_n hx hb dX8_weigh_17 rfl (lv_at hl 1 rfl) ?_
  refine lv_iload_n hx hb dX8_weigh_18 rfl (lv_at hl 0 rfl) ?_
  refine cVv (As := [.int 0]) (rest := []) S Y (x_X8_countSet (l := l) I hW hT hQ) cw_X8_countSet km8_47 p_ad_7_0 ok_X8.1 rfl rfl ⟨Nat.le_of_ble_eq_true rfl, Nat.le_of_ble_eq_true rfl⟩ hl.1 rfl (Nat.le_of_ble_eq_true rfl) ⟨Nat.le_of_ble_eq_true rfl, Nat.le_of_ble_eq_true rfl⟩ dX8_weigh_19 (fun L_28713 f_28714 H locs I Y => ?_)
  refine lv_iconst (v := 1) hx hb dX8_weigh_22 (by decide) ?_
  refine lv_istore_n (lv' := [(3, .int 1), (2, .int 0), (0, .ref (ad 7 0)), (1, .int i1)]) hx hb dX8_weigh_23 rfl hl (by decide) rfl (fun ls hl => ?_)
  exact J_24 _ 0 1 _ _  _ _ _ I (bn_w (show bn 1 1 (1 : Int32) from bn_k (by decide)) (by decide)) rfl Y (lv_sub hl [2, 3, 1, 0] rfl)
set_option maxHeartbeats 4000000 in
set_option maxRecDepth 100000 in
theorem x_X8_sets {l : Launch} {G : GG}  {L : List Nat} {f : HF} {ad : Nat → Nat → Nat} {rs : RS} {tc w : Nat → Int × Int} {q : Nat → (Nat → Int32) → Prop} (I : SH (spC rs ((0, 6) : Int × Int) tc w q) nnC G ad L f) (hW : WBp w 8) (hT : WBp tc 4) (hQ : QIp q) : PMp l yX8_sets cX8_sets 1 .int 0 0 0 G [.ref (ad 7 0)] L f (fun r => True) := by
  refine PMi.of (post := fun r L1 f1 => (True) ∧ L1 = L ∧ f1 = f) (own := RX8) (by decide) rfl (Nat.le_of_ble_eq_true rfl) (fun sz p e s m args below meth c A ls hA1 hname S Y hl => ?_)
  have hx := S.hx
  have hb := S.hb
  have hl : lv_has ls 1 [(0, .ref (ad 7 0))] := hl
  refine lv_aload_n hx hb dX8_sets_0 rfl (lv_at hl 0 rfl) ?_
  obtain ⟨v_28727, v_28729, v_28731, p_ad_7_0, b_28728, b_28730, b_28732⟩ := opnC_7 (j := 0) I (by decide)
  have p_ad_7_0 : pt L f (ad 7 0) (.inr (8, [.ref (ad 1 0), .ref (ad 3 0), .ref (ad 10 62), .ref (ad 56 0), .ref (ad 57 0), .ref (ad 58 0), .ref (ad 59 0), .int v_28727, .int v_28729, .int v_28731])) := p_ad_7_0
  refine pg_get S Y ok_X8 9 (by decide) kf8_43 (v := .int v_28731) p_ad_7_0 rfl dX8_sets_1 ?_
  exact prI (post := fun r L1 f1 => (True) ∧ L1 = L ∧ f1 = f) S Y rfl (by decide) (by decide) hA1 ⟨trivial, rfl, rfl⟩ dX8_sets_4
set_option maxHeartbeats 4000000 in
set_option maxRecDepth 100000 in
theorem x_X8_heldByJust {l : Launch} {G : GG}  {L : List Nat} {f : HF} {ad : Nat → Nat → Nat} {rs : RS} {tc w : Nat → Int × Int} {q : Nat → (Nat → Int32) → Prop} {i1 : Int32} (I : SH (spC rs ((0, 6) : Int × Int) tc w q) nnC G ad L f) (hW : WBp w 8) (hT : WBp tc 4) (hQ : QIp q) : PMp l yX8_heldByJust cX8_heldByJust 4 .int 0 0 0 G [.ref (ad 7 0), .int i1] L f (fun r => True) := by
  refine PMi.of (post := fun r L1 f1 => (True) ∧ L1 = L ∧ f1 = f) (own := RX8) (by decide) rfl (Nat.le_of_ble_eq_true rfl) (fun sz p e s m args below meth c A ls hA1 hname S Y hl => ?_)
  have hx := S.hx
  have hb := S.hb
  have hl : lv_has ls 4 [(0, .ref (ad 7 0)), (1, .int i1)] := hl
  have J_4 : ∀ (n4 : Nat) (y4_2 y4_3 : Int32) (H : Heap) (locs : List Loc) (ls : Array Slot), (bn 0 14 y4_3) → (((14 : Int) - y4_3.toInt).toNat = n4) → (DY G A s [] L f H locs) → (lv_has ls 4 [(0, .ref (ad 7 0)), (1, .int i1), (2, .int y4_2), (3, .int y4_3)]) → W p l e (rmD 0 0 0) s m args below meth c H locs (0) (0) (MQ below (va_Qi (fun r (u : List Nat × HF) => (fun r L1 f1 => (True) ∧ L1 = L ∧ f1 = f) r u.1 u.2) (fun u t => pOut G (va_A (va_pl L f) sz) u.1 u.2 t) (va_A (va_pl L f) sz)) args s 0 0 A) (F0 m 4 ls []) := by
    intro n4
    induction n4 using Nat.strongRecOn with
    | _ n4 ih4 =>
      intro y4_2 y4_3 H locs ls b_y4_3 hm4 Y hl
      refine lv_iload_n hx hb dX8_heldByJust_4 rfl (lv_at hl 3 rfl) ?_
      refine lv_aload_n hx hb dX8_heldByJust_5 rfl (lv_at hl 0 rfl) ?_
      obtain ⟨v_29013, v_29015, v_29017, p_ad_7_0, b_29014, b_29016, b_29018⟩ := opnC_7 (j := 0) I (by decide)
      have p_ad_7_0 : pt L f (ad 7 0) (.inr (8, [.ref (ad 1 0), .ref (ad 3 0), .ref (ad 10 62), .ref (ad 56 0), .ref (ad 57 0), .ref (ad 58 0), .ref (ad 59 0), .int v_29013, .int v_29015, .int v_29017])) := p_ad_7_0
      refine pg_get S Y ok_X8 7 (by decide) kf8_50 (v := .int v_29013) p_ad_7_0 rfl dX8_heldByJust_6 ?_
      refine lv_icmp_ge (tgt := 39) hx hb dX8_heldByJust_9 (by decide) (fun c_29019 => ?_) (fun c_29019 => ?_)
      · refine lv_iload_n hx hb dX8_heldByJust_39 rfl (lv_at hl 2 rfl) ?_
        exact prI (post := fun r L1 f1 => (True) ∧ L1 = L ∧ f1 = f) S Y rfl (by decide) (by decide) hA1 ⟨trivial, rfl, rfl⟩ dX8_heldByJust_40
      · have B_29020 : bn 1 14 v_29013 := bn_w (bn_gtl c_29019 b_29014 b_y4_3) (by decide)
        have B_29021 : bn 0 13 y4_3 := bn_w (bn_gtr c_29019 b_29014 b_y4_3) (by decide)
        refine lv_aload_n hx hb dX8_heldByJust_12 rfl (lv_at hl 0 rfl) ?_
        refine pg_get S Y ok_X8 4 (by decide) kf8_15 (v := .ref (ad 57 0)) p_ad_7_0 rfl dX8_heldByJust_13 ?_
        refine lv_iload_n hx hb dX8_heldByJust_16 rfl (lv_at hl 3 rfl) ?_
        obtain ⟨g_29022, p_ad_57_0, o_29023⟩ := I.opi (k := 57) (j := 0) (by decide) rfl
        have p_ad_57_0 : pt L f (ad 57 0) (.inl (G.2 0, 14, .inl g_29022)) := p_ad_57_0
        obtain ⟨v_29024, ev_29024⟩ : ∃ z, z = g_29022 (y4_3 : Int32).toNatClampNeg := ⟨_, rfl⟩
        refine pg_iald S Y (v := v_29024) p_ad_57_0 (vp_bn B_29021 (by decide)) ev_29024.symm dX8_heldByJust_17 ?_
        refine lv_iload_n hx hb dX8_heldByJust_18 rfl (lv_at hl 1 rfl) ?_
        refine lv_icmp_ne (tgt := 33) hx hb dX8_heldByJust_19 (by decide) (fun c_29025 => ?_) (fun c_29025 => ?_)
        · obtain ⟨x_29026, ex_29026⟩ : ∃ z : Int32, z = y4_3 + 1 := ⟨_, rfl⟩
          refine lv_iinc (v := x_29026) (lv' := [(3, .int x_29026), (0, .ref (ad 7 0)), (1, .int i1), (2, .int y4_2)]) hx hb dX8_heldByJust_33 hl (k := 3) rfl (by rw [ex_29026]; rfl) (by decide) rfl (fun ls hl => ?_)
          refine lv_goto (tgt := 4) hx hb dX8_heldByJust_36 (by decide) ?_
          exact ih4 _ (by rw [← hm4]; exact ms_up (m := 1) ex_29026 (show bn 1 1 (1 : Int32) from bn_k (by decide)) B_29021 (bn_w (bn_eq ex_29026 (bn_add B_29021 (show bn 1 1 (1 : Int32) from bn_k (by decide)) (by decide))) (by decide) : bn 0 14 x_29026) (by decide)) y4_2 x_29026  _ _ _  (bn_w (bn_eq ex_29026 (bn_add B_29021 (show bn 1 1 (1 : Int32) from bn_k (by decide)) (by decide))) (by decide)) rfl Y (lv_sub hl [1, 2, 3, 0] rfl)
        · refine lv_iload_n hx hb dX8_heldByJust_22 rfl (lv_at hl 2 rfl) ?_
          refine lv_iconst (v := 1) hx hb dX8_heldByJust_23 (by decide) ?_
          refine lv_aload_n hx hb dX8_heldByJust_24 rfl (lv_at hl 0 rfl) ?_
          refine pg_get S Y ok_X8 3 (by decide) kf8_9 (v := .ref (ad 56 0)) p_ad_7_0 rfl dX8_heldByJust_25 ?_
          refine lv_iload_n hx hb dX8_heldByJust_28 rfl (lv_at hl 3 rfl) ?_
          obtain ⟨g_29027, p_ad_56_0, o_29028⟩ := I.opi (k := 56) (j := 0) (by decide) rfl
          have p_ad_56_0 : pt L f (ad 56 0) (.inl (G.2 0, 14, .inl g_29027)) := p_ad_56_0
          obtain ⟨v_29029, ev_29029⟩ : ∃ z, z = g_29027 (y4_3 : Int32).toNatClampNeg := ⟨_, rfl⟩
          refine pg_iald S Y (v := v_29029) p_ad_56_0 (vp_bn B_29021 (by decide)) ev_29029.symm dX8_heldByJust_29 ?_
          refine lv_ishl hx hb dX8_heldByJust_30 ?_
          refine lv_topi (fun x_29030 ex_29030 => ?_)
          refine lv_ior hx hb dX8_heldByJust_31 ?_
          refine lv_topi (fun x_29031 ex_29031 => ?_)
          refine lv_istore_n (lv' := [(2, .int x_29031), (0, .ref (ad 7 0)), (1, .int i1), (3, .int y4_3)]) hx hb dX8_heldByJust_32 rfl hl (by decide) rfl (fun ls hl => ?_)
          obtain ⟨x_29032, ex_29032⟩ : ∃ z : Int32, z = y4_3 + 1 := ⟨_, rfl⟩
          refine lv_iinc (v := x_29032) (lv' := [(3, .int x_29032), (2, .int x_29031), (0, .ref (ad 7 0)), (1, .int i1)]) hx hb dX8_heldByJust_33 hl (k := 3) rfl (by rw [ex_29032]; rfl) (by decide) rfl (fun ls hl => ?_)
          refine lv_goto (tgt := 4) hx hb dX8_heldByJust_36 (by decide) ?_
          exact ih4 _ (by rw [← hm4]; exact ms_up (m := 1) ex_29032 (show bn 1 1 (1 : Int32) from bn_k (by decide)) B_29021 (bn_w (bn_eq ex_29032 (bn_add B_29021 (show bn 1 1 (1 : Int32) from bn_k (by decide)) (by decide))) (by decide) : bn 0 14 x_29032) (by decide)) x_29031 x_29032  _ _ _  (bn_w (bn_eq ex_29032 (bn_add B_29021 (show bn 1 1 (1 : Int32) from bn_k (by decide)) (by decide))) (by decide)) rfl Y (lv_sub hl [2, 3, 1, 0] rfl)
  refine lv_iconst (v := 0) hx hb dX8_heldByJust_0 (by decide) ?_
  refine lv_istore_n (lv' := [(2, .int 0), (0, .ref (ad 7 0)), (1, .int i1)]) hx hb dX8_heldByJust_1 rfl hl (by decide) rfl (fun ls hl => ?_)
  refine lv_iconst (v := 0) hx hb dX8_heldByJust_2 (by decide) ?_
  refine lv_istore_n (lv' := [(3, .int 0), (2, .int 0), (0, .ref (ad 7 0)), (1, .int i1)]) hx hb dX8_heldByJust_3 rfl hl (by decide) rfl (fun ls hl => ?_)
  exact J_4 _ 0 0  _ _ _  (bn_w (show bn 0 0 (0 : Int32) from bn_k (by decide)) (by decide)) rfl Y (lv_sub hl [2, 3, 1, 0] rfl)
set_option maxHeartbeats 4000000 in
set_option maxRecDepth 100000 in
theorem x_X8_sureBroken {l : Launch} {G : GG}  {L : List Nat} {f : HF} {ad : Nat → Nat → Nat} {rs : RS} {tc w : Nat → Int × Int} {q : Nat → (Nat → Int32) → Prop} (I : SH (spC rs ((0, 6) : Int × Int) tc w q) nnC G ad L f) (hW : WBp w 8) (hT : WBp tc 4) (hQ : QIp q) : PMp l yX8_sureBroken cX8_sureBroken 1 .int 1 0 0 G [.ref (ad 7 0)] L f (fun r => True) := by
  refine PMi.of (post := fun r L1 f1 => (True) ∧ L1 = L ∧ f1 = f) (own := RX8) (by decide) rfl (Nat.le_of_ble_eq_true rfl) (fun sz p e s m args below meth c A ls hA1 hname S Y hl => ?_)
  have hx := S.hx
  have hb := S.hb
  have hl : lv_has ls 1 [(0, .ref (ad 7 0))] := hl
  refine lv_aload_n hx hb dX8_sureBroken_0 rfl (lv_at hl 0 rfl) ?_
  refine lv_aload_n hx hb dX8_sureBroken_1 rfl (lv_at hl 0 rfl) ?_
  obtain ⟨v_29047, v_29049, v_29051, p_ad_7_0, b_29048, b_29050, b_29052⟩ := opnC_7 (j := 0) I (by decide)
  have p_ad_7_0 : pt L f (ad 7 0) (.inr (8, [.ref (ad 1 0), .ref (ad 3 0), .ref (ad 10 62), .ref (ad 56 0), .ref (ad 57 0), .ref (ad 58 0), .ref (ad 59 0), .int v_29047, .int v_29049, .int v_29051])) := p_ad_7_0
  refine pg_get S Y ok_X8 9 (by decide) kf8_43 (v := .int v_29051) p_ad_7_0 rfl dX8_sureBroken_2 ?_
  refine cVp (As := [.int v_29051]) (rest := []) S Y (x_X8_heldByJust (l := l) I hW hT hQ) cw_X8_heldByJust km8_106 p_ad_7_0 ok_X8.1 rfl rfl ⟨Nat.le_of_ble_eq_true rfl, Nat.le_of_ble_eq_true rfl⟩ hl.1 rfl (Nat.le_of_ble_eq_true rfl) ⟨Nat.le_of_ble_eq_true rfl, Nat.le_of_ble_eq_true rfl⟩ dX8_sureBroken_5 (fun r_29053 H locs er_29053 Y => ?_)
  exact prI (post := fun r L1 f1 => (True) ∧ L1 = L ∧ f1 = f) S Y rfl (by decide) (by decide) hA1 ⟨trivial, rfl, rfl⟩ dX8_sureBroken_8
set_option maxHeartbeats 4000000 in
set_option maxRecDepth 100000 in
theorem x_X8_sureKept {l : Launch} {G : GG}  {L : List Nat} {f : HF} {ad : Nat → Nat → Nat} {rs : RS} {tc w : Nat → Int × Int} {q : Nat → (Nat → Int32) → Prop} (I : SH (spC rs ((0, 6) : Int × Int) tc w q) nnC G ad L f) (hW : WBp w 8) (hT : WBp tc 4) (hQ : QIp q) : PMp l yX8_sureKept cX8_sureKept 1 .int 1 0 0 G [.ref (ad 7 0)] L f (fun r => True) := by
  refine PMi.of (post := fun r L1 f1 => (True) ∧ L1 = L ∧ f1 = f) (own := RX8) (by decide) rfl (Nat.le_of_ble_eq_true rfl) (fun sz p e s m args below meth c A ls hA1 hname S Y hl => ?_)
  have hx := S.hx
  have hb := S.hb
  have hl : lv_has ls 1 [(0, .ref (ad 7 0))] := hl
  refine lv_aload_n hx hb dX8_sureKept_0 rfl (lv_at hl 0 rfl) ?_
  refine lv_iconst (v := 0) hx hb dX8_sureKept_1 (by decide) ?_
  refine cVp (As := [.int 0]) (rest := []) S Y (x_X8_heldByJust (l := l) I hW hT hQ) cw_X8_heldByJust km8_106 (I.opo (k := 7) (j := 0) (by decide) rfl).choose_spec.1 ok_X8.1 rfl rfl ⟨Nat.le_of_ble_eq_true rfl, Nat.le_of_ble_eq_true rfl⟩ hl.1 rfl (Nat.le_of_ble_eq_true rfl) ⟨Nat.le_of_ble_eq_true rfl, Nat.le_of_ble_eq_true rfl⟩ dX8_sureKept_2 (fun r_29056 H locs er_29056 Y => ?_)
  exact prI (post := fun r L1 f1 => (True) ∧ L1 = L ∧ f1 = f) S Y rfl (by decide) (by decide) hA1 ⟨trivial, rfl, rfl⟩ dX8_sureKept_5
set_option maxHeartbeats 4000000 in
set_option maxRecDepth 100000 in
theorem x_X8_commonMeasure {l : Launch} {G : GG}  {L : List Nat} {f : HF}  {i1 i2 : Int32}  : PMp l yX8_commonMeasure cX8_commonMeasure 6 .int 0 0 0 G [.int i1, .int i2] L f (fun r => True) := by
  refine PMi.of (post := fun r L1 f1 => (True) ∧ L1 = L ∧ f1 = f) (own := RX8) (by decide) rfl (Nat.le_of_ble_eq_true rfl) (fun sz p e s m args below meth c A ls hA1 hname S Y hl => ?_)
  have hx := S.hx
  have hb := S.hb
  have hl : lv_has ls 6 [(0, .int i1), (1, .int i2)] := hl
  have J_7 : ∀ (n7 : Nat) (y7_2 y7_3 y7_4 : Int32) (H : Heap) (locs : List Loc) (ls : Array Slot), (bn 0 300 y7_4) → (((300 : Int) - y7_4.toInt).toNat = n7) → (DY G A s [] L f H locs) → (lv_has ls 6 [(0, .int i1), (1, .int i2), (2, .int y7_2), (3, .int y7_3), (4, .int y7_4)]) → W p l e (rmD 0 0 0) s m args below meth c H locs (0) (0) (MQ below (va_Qi (fun r (u : List Nat × HF) => (fun r L1 f1 => (True) ∧ L1 = L ∧ f1 = f) r u.1 u.2) (fun u t => pOut G (va_A (va_pl L f) sz) u.1 u.2 t) (va_A (va_pl L f) sz)) args s 0 0 A) (F0 m 7 ls []) := by
    intro n7
    induction n7 using Nat.strongRecOn with
    | _ n7 ih7 =>
      intro y7_2 y7_3 y7_4 H locs ls b_y7_4 hm7 Y hl
      refine lv_iload hx hb dX8_commonMeasure_7 (lv_at hl 4 rfl) ?_
      refine lv_sipush (v := 300) hx hb dX8_commonMeasure_9 (by decide) ?_
      refine lv_icmp_ge (tgt := 35) hx hb dX8_commonMeasure_12 (by decide) (fun c_29219 => ?_) (fun c_29219 => ?_)
      · have B_29220 : bn 300 300 y7_4 := bn_w (bn_ler c_29219 (show bn 300 300 (300 : Int32) from bn_k (by decide)) b_y7_4) (by decide)
        refine lv_iload_n hx hb dX8_commonMeasure_35 rfl (lv_at hl 2 rfl) ?_
        exact prI (post := fun r L1 f1 => (True) ∧ L1 = L ∧ f1 = f) S Y rfl (by decide) (by decide) hA1 ⟨trivial, rfl, rfl⟩ dX8_commonMeasure_36
      · have B_29221 : bn 0 299 y7_4 := bn_w (bn_gtr c_29219 (show bn 300 300 (300 : Int32) from bn_k (by decide)) b_y7_4) (by decide)
        refine lv_iload_n hx hb dX8_commonMeasure_15 rfl (lv_at hl 3 rfl) ?_
        refine lv_if_eq (tgt := 35) hx hb dX8_commonMeasure_16 (by decide) (fun c_29222 => ?_) (fun c_29222 => ?_)
        · have B_29223 : bn 0 0 y7_3 := bn_w (bn_eq c_29222 (show bn 0 0 (0 : Int32) from bn_k (by decide))) (by decide)
          refine lv_iload_n hx hb dX8_commonMeasure_35 rfl (lv_at hl 2 rfl) ?_
          exact prI (post := fun r L1 f1 => (True) ∧ L1 = L ∧ f1 = f) S Y rfl (by decide) (by decide) hA1 ⟨trivial, rfl, rfl⟩ dX8_commonMeasure_36
        · refine lv_iload_n hx hb dX8_commonMeasure_19 rfl (lv_at hl 2 rfl) ?_
          refine lv_iload_n hx hb dX8_commonMeasure_20 rfl (lv_at hl 3 rfl) ?_
          refine lv_irem hx hb dX8_commonMeasure_21 c_29222 ?_
          refine lv_topi (fun x_29224 ex_29224 => ?_)
          refine lv_istore (lv' := [(5, .int x_29224), (0, .int i1), (1, .int i2), (2, .int y7_2), (3, .int y7_3), (4, .int y7_4)]) hx hb dX8_commonMeasure_22 hl (by decide) rfl (fun ls hl => ?_)
          refine lv_iload_n hx hb dX8_commonMeasure_24 rfl (lv_at hl 4 rfl) ?_
          refine lv_istore_n (lv' := [(2, .int y7_3), (5, .int x_29224), (0, .int i1), (1, .int i2), (3, .int y7_3), (4, .int y7_4)]) hx hb dX8_commonMeasure_25 rfl hl (by decide) rfl (fun ls hl => ?_)
          refine lv_iload hx hb dX8_commonMeasure_26 (lv_at hl 1 rfl) ?_
          refine lv_istore_n (lv' := [(3, .int x_29224), (2, .int y7_3), (5, .int x_29224), (0, .int i1), (1, .int i2), (4, .int y7_4)]) hx hb dX8_commonMeasure_28 rfl hl (by decide) rfl (fun ls hl => ?_)
          obtain ⟨x_29225, ex_29225⟩ : ∃ z : Int32, z = y7_4 + 1 := ⟨_, rfl⟩
          refine lv_iinc (v := x_29225) (lv' := [(4, .int x_29225), (3, .int x_29224), (2, .int y7_3), (5, .int x_29224), (0, .int i1), (1, .int i2)]) hx hb dX8_commonMeasure_29 hl (k := 5) rfl (by rw [ex_29225]; rfl) (by decide) rfl (fun ls hl => ?_)
          refine lv_goto (tgt := 7) hx hb dX8_commonMeasure_32 (by decide) ?_
          exact ih7 _ (by rw [← hm7]; exact ms_up (m := 1) ex_29225 (show bn 1 1 (1 : Int32) from bn_k (by decide)) B_29221 (bn_w (bn_eq ex_29225 (bn_add B_29221 (show bn 1 1 (1 : Int32) from bn_k (by decide)) (by decide))) (by decide) : bn 0 300 x_29225) (by decide)) y7_3 x_29224 x_29225  _ _ _  (bn_w (bn_eq ex_29225 (bn_add B_29221 (show bn 1 1 (1 : Int32) from bn_k (by decide)) (by decide))) (by decide)) rfl Y (lv_sub hl [4, 5, 2, 1, 0] rfl)
  refine lv_iload_n hx hb dX8_commonMeasure_0 rfl (lv_at hl 0 rfl) ?_
  refine lv_istore_n (lv' := [(2, .int i1), (0, .int i1), (1, .int i2)]) hx hb dX8_commonMeasure_1 rfl hl (by decide) rfl (fun ls hl => ?_)
  refine lv_iload_n hx hb dX8_commonMeasure_2 rfl (lv_at hl 2 rfl) ?_
  refine lv_istore_n (lv' := [(3, .int i2), (2, .int i1), (0, .int i1), (1, .int i2)]) hx hb dX8_commonMeasure_3 rfl hl (by decide) rfl (fun ls hl => ?_)
  refine lv_iconst (v := 0) hx hb dX8_commonMeasure_4 (by decide) ?_
  refine lv_istore (lv' := [(4, .int 0), (3, .int i2), (2, .int i1), (0, .int i1), (1, .int i2)]) hx hb dX8_commonMeasure_5 hl (by decide) rfl (fun ls hl => ?_)
  exact J_7 _ i1 i2 0  _ _ _  (bn_w (show bn 0 0 (0 : Int32) from bn_k (by decide)) (by decide)) rfl Y (lv_sub hl [3, 4, 2, 1, 0] rfl)
set_option maxHeartbeats 4000000 in
set_option maxRecDepth 100000 in
theorem x_X8_chance {l : Launch} {G : GG}  {L : List Nat} {f : HF} {ad : Nat → Nat → Nat} {rs : RS} {tc w : Nat → Int × Int} {q : Nat → (Nat → Int32) → Prop} {i1 i2 : Int32} (I : SH (spC rs ((0, 6) : Int × Int) tc w q) nnC G ad L f) (hW : WBp w 8) (hT : WBp tc 4) (hQ : QIp q) (b_i2 : bn 0 1 i2) : PMp l yX8_chance cX8_chance 5 .int 1 0 0 G [.ref (ad 7 0), .int i1, .int i2] L f (fun r => True) := by
  refine PMi.of (post := fun r L1 f1 => (True) ∧ L1 = L ∧ f1 = f) (own := RX8) (by decide) rfl (Nat.le_of_ble_eq_true rfl) (fun sz p e s m args below meth c A ls hA1 hname S Y hl => ?_)
  have hx := S.hx
  have hb := S.hb
  have hl : lv_has ls 5 [(0, .ref (ad 7 0)), (1, .int i1), (2, .int i2)] := hl
  have J_5 : ∀ (n5 : Nat) (y5_3 y5_4 : Int32) (H : Heap) (locs : List Loc) (ls : Array Slot), (bn 0 14 y5_4) → (((14 : Int) - y5_4.toInt).toNat = n5) → (DY G A s [] L f H locs) → (lv_has ls 5 [(0, .ref (ad 7 0)), (1, .int i1), (2, .int i2), (3, .int y5_3), (4, .int y5_4)]) → W p l e (rmD 1 0 0) s m args below meth c H locs (0) (0) (MQ below (va_Qi (fun r (u : List Nat × HF) => (fun r L1 f1 => (True) ∧ L1 = L ∧ f1 = f) r u.1 u.2) (fun u t => pOut G (va_A (va_pl L f) sz) u.1 u.2 t) (va_A (va_pl L f) sz)) args s 0 0 A) (F0 m 5 ls []) := by
    intro n5
    induction n5 using Nat.strongRecOn with
    | _ n5 ih5 =>
      intro y5_3 y5_4 H locs ls b_y5_4 hm5 Y hl
      refine lv_iload hx hb dX8_chance_5 (lv_at hl 4 rfl) ?_
      refine lv_aload_n hx hb dX8_chance_7 rfl (lv_at hl 0 rfl) ?_
      obtain ⟨v_29632, v_29634, v_29636, p_ad_7_0, b_29633, b_29635, b_29637⟩ := opnC_7 (j := 0) I (by decide)
      have p_ad_7_0 : pt L f (ad 7 0) (.inr (8, [.ref (ad 1 0), .ref (ad 3 0), .ref (ad 10 62), .ref (ad 56 0), .ref (ad 57 0), .ref (ad 58 0), .ref (ad 59 0), .int v_29632, .int v_29634, .int v_29636])) := p_ad_7_0
      refine pg_get S Y ok_X8 7 (by decide) kf8_50 (v := .int v_29632) p_ad_7_0 rfl dX8_chance_8 ?_
      refine lv_icmp_ge (tgt := 39) hx hb dX8_chance_11 (by decide) (fun c_29638 => ?_) (fun c_29638 => ?_)
      · refine lv_iload_n hx hb dX8_chance_39 rfl (lv_at hl 3 rfl) ?_
        refine lv_aload_n hx hb dX8_chance_40 rfl (lv_at hl 0 rfl) ?_
        refine pg_get S Y ok_X8 9 (by decide) kf8_43 (v := .int v_29636) p_ad_7_0 rfl dX8_chance_41 ?_
        refine cSp (As := [.int y5_3, .int v_29636]) (rest := []) S Y (x_X8_commonMeasure (l := l) ) cw_X8_commonMeasure km8_109 rfl ⟨Nat.le_of_ble_eq_true rfl, Nat.le_of_ble_eq_true rfl⟩ hl.1 rfl (Nat.le_of_ble_eq_true rfl) ⟨Nat.le_of_ble_eq_true rfl, Nat.le_of_ble_eq_true rfl⟩ dX8_chance_44 (fun r_29641 H locs er_29641 Y => ?_)
        refine lv_istore (lv' := [(4, .int r_29641), (0, .ref (ad 7 0)), (1, .int i1), (2, .int i2), (3, .int y5_3)]) hx hb dX8_chance_47 hl (by decide) rfl (fun ls hl => ?_)
        refine lv_iload hx hb dX8_chance_49 (lv_at hl 0 rfl) ?_
        refine lv_if_ne (tgt := 64) hx hb dX8_chance_51 (by decide) (fun c_29642 => ?_) (fun c_29642 => ?_)
        · refine lv_iload_n hx hb dX8_chance_64 rfl (lv_at hl 3 rfl) ?_
          refine lv_if_eq (tgt := 78) hx hb dX8_chance_65 (by decide) (fun c_29644 => ?_) (fun c_29644 => ?_)
          · have B_29645 : bn 0 0 i2 := bn_w (bn_eq c_29644 (show bn 0 0 (0 : Int32) from bn_k (by decide))) (by decide)
            refine lv_iload_n hx hb dX8_chance_78 rfl (lv_at hl 4 rfl) ?_
            refine lv_iload hx hb dX8_chance_79 (lv_at hl 0 rfl) ?_
            refine lv_idiv hx hb dX8_chance_81 c_29642 ?_
            refine lv_topi (fun x_29647 ex_29647 => ?_)
            exact prI (post := fun r L1 f1 => (True) ∧ L1 = L ∧ f1 = f) S Y rfl (by decide) (by decide) hA1 ⟨trivial, rfl, rfl⟩ dX8_chance_82
          · have B_29646 : bn 1 1 i2 := bn_w (bn_nel c_29644 b_i2 (show bn 0 0 (0 : Int32) from bn_k (by decide))) (by decide)
            refine lv_aload_n hx hb dX8_chance_68 rfl (lv_at hl 1 rfl) ?_
            refine pg_get S Y ok_X8 9 (by decide) kf8_43 (v := .int v_29636) p_ad_7_0 rfl dX8_chance_69 ?_
            refine lv_iload hx hb dX8_chance_72 (lv_at hl 0 rfl) ?_
            refine lv_idiv hx hb dX8_chance_74 c_29642 ?_
            refine lv_topi (fun x_29648 ex_29648 => ?_)
            refine lv_goto (tgt := 82) hx hb dX8_chance_75 (by decide) ?_
            exact prI (post := fun r L1 f1 => (True) ∧ L1 = L ∧ f1 = f) S Y rfl (by decide) (by decide) hA1 ⟨trivial, rfl, rfl⟩ dX8_chance_82
        · have B_29643 : bn 0 0 r_29641 := bn_w (bn_eq c_29642 (show bn 0 0 (0 : Int32) from bn_k (by decide))) (by decide)
          refine lv_iload_n hx hb dX8_chance_54 rfl (lv_at hl 3 rfl) ?_
          refine lv_if_eq (tgt := 62) hx hb dX8_chance_55 (by decide) (fun c_29649 => ?_) (fun c_29649 => ?_)
          · have B_29650 : bn 0 0 i2 := bn_w (bn_eq c_29649 (show bn 0 0 (0 : Int32) from bn_k (by decide))) (by decide)
            refine lv_iconst (v := 0) hx hb dX8_chance_62 (by decide) ?_
            exact prI (post := fun r L1 f1 => (True) ∧ L1 = L ∧ f1 = f) S Y rfl (by decide) (by decide) hA1 ⟨trivial, rfl, rfl⟩ dX8_chance_63
          · have B_29651 : bn 1 1 i2 := bn_w (bn_nel c_29649 b_i2 (show bn 0 0 (0 : Int32) from bn_k (by decide))) (by decide)
            refine lv_iconst (v := 1) hx hb dX8_chance_58 (by decide) ?_
            refine lv_goto (tgt := 63) hx hb dX8_chance_59 (by decide) ?_
            exact prI (post := fun r L1 f1 => (True) ∧ L1 = L ∧ f1 = f) S Y rfl (by decide) (by decide) hA1 ⟨trivial, rfl, rfl⟩ dX8_chance_63
      · have B_29639 : bn 1 14 v_29632 := bn_w (bn_gtl c_29638 b_29633 b_y5_4) (by decide)
        have B_29640 : bn 0 13 y5_4 := bn_w (bn_gtr c_29638 b_29633 b_y5_4) (by decide)
        refine lv_aload_n hx hb dX8_chance_14 rfl (lv_at hl 0 rfl) ?_
        refine pg_get S Y ok_X8 3 (by decide) kf8_9 (v := .ref (ad 56 0)) p_ad_7_0 rfl dX8_chance_15 ?_
        refine lv_iload hx hb dX8_chance_18 (lv_at hl 4 rfl) ?_
        obtain ⟨g_29652, p_ad_56_0, o_29653⟩ := I.opi (k := 56) (j := 0) (by decide) rfl
        have p_ad_56_0 : pt L f (ad 56 0) (.inl (G.2 0, 14, .inl g_29652)) := p_ad_56_0
        obtain ⟨v_29654, ev_29654⟩ : ∃ z, z = g_29652 (y5_4 : Int32).toNatClampNeg := ⟨_, rfl⟩
        refine pg_iald S Y (v := v_29654) p_ad_56_0 (vp_bn B_29640 (by decide)) ev_29654.symm dX8_chance_20 ?_
        refine lv_iload_n hx hb dX8_chance_21 rfl (lv_at hl 1 rfl) ?_
        refine lv_icmp_ne (tgt := 33) hx hb dX8_chance_22 (by decide) (fun c_29655 => ?_) (fun c_29655 => ?_)
        · obtain ⟨x_29656, ex_29656⟩ : ∃ z : Int32, z = y5_4 + 1 := ⟨_, rfl⟩
          refine lv_iinc (v := x_29656) (lv' := [(4, .int x_29656), (0, .ref (ad 7 0)), (1, .int i1), (2, .int i2), (3, .int y5_3)]) hx hb dX8_chance_33 hl (k := 4) rfl (by rw [ex_29656]; rfl) (by decide) rfl (fun ls hl => ?_)
          refine lv_goto (tgt := 5) hx hb dX8_chance_36 (by decide) ?_
          exact ih5 _ (by rw [← hm5]; exact ms_up (m := 1) ex_29656 (show bn 1 1 (1 : Int32) from bn_k (by decide)) B_29640 (bn_w (bn_eq ex_29656 (bn_add B_29640 (show bn 1 1 (1 : Int32) from bn_k (by decide)) (by decide))) (by decide) : bn 0 14 x_29656) (by decide)) y5_3 x_29656  _ _ _  (bn_w (bn_eq ex_29656 (bn_add B_29640 (show bn 1 1 (1 : Int32) from bn_k (by decide)) (by decide))) (by decide)) rfl Y (lv_sub hl [1, 2, 3, 4, 0] rfl)
        · refine lv_aload_n hx hb dX8_chance_25 rfl (lv_at hl 0 rfl) ?_
          refine pg_get S Y ok_X8 4 (by decide) kf8_15 (v := .ref (ad 57 0)) p_ad_7_0 rfl dX8_chance_26 ?_
          refine lv_iload hx hb dX8_chance_29 (lv_at hl 4 rfl) ?_
          obtain ⟨g_29657, p_ad_57_0, o_29658⟩ := I.opi (k := 57) (j := 0) (by decide) rfl
          have p_ad_57_0 : pt L f (ad 57 0) (.inl (G.2 0, 14, .inl g_29657)) := p_ad_57_0
          obtain ⟨v_29659, ev_29659⟩ : ∃ z, z = g_29657 (y5_4 : Int32).toNatClampNeg := ⟨_, rfl⟩
          refine pg_iald S Y (v := v_29659) p_ad_57_0 (vp_bn B_29640 (by decide)) ev_29659.symm dX8_chance_31 ?_
          refine lv_istore_n (lv' := [(3, .int v_29659), (0, .ref (ad 7 0)), (1, .int i1), (2, .int i2), (4, .int y5_4)]) hx hb dX8_chance_32 rfl hl (by decide) rfl (fun ls hl => ?_)
          obtain ⟨x_29660, ex_29660⟩ : ∃ z : Int32, z = y5_4 + 1 := ⟨_, rfl⟩
          refine lv_iinc (v := x_29660) (lv' := [(4, .int x_29660), (3, .int v_29659), (0, .ref (ad 7 0)), (1, .int i1), (2, .int i2)]) hx hb dX8_chance_33 hl (k := 4) rfl (by rw [ex_29660]; rfl) (by decide) rfl (fun ls hl => ?_)
          refine lv_goto (tgt := 5) hx hb dX8_chance_36 (by decide) ?_
          exact ih5 _ (by rw [← hm5]; exact ms_up (m := 1) ex_29660 (show bn 1 1 (1 : Int32) from bn_k (by decide)) B_29640 (bn_w (bn_eq ex_29660 (bn_add B_29640 (show bn 1 1 (1 : Int32) from bn_k (by decide)) (by decide))) (by decide) : bn 0 14 x_29660) (by decide)) v_29659 x_29660  _ _ _  (bn_w (bn_eq ex_29660 (bn_add B_29640 (show bn 1 1 (1 : Int32) from bn_k (by decide)) (by decide))) (by decide)) rfl Y (lv_sub hl [2, 3, 4, 1, 0] rfl)
  refine lv_iconst (v := 0) hx hb dX8_chance_0 (by decide) ?_
  refine lv_istore_n (lv' := [(3, .int 0), (0, .ref (ad 7 0)), (1, .int i1), (2, .int i2)]) hx hb dX8_chance_1 rfl hl (by decide) rfl (fun ls hl => ?_)
  refine lv_iconst (v := 0) hx hb dX8_chance_2 (by decide) ?_
  refine lv_istore (lv' := [(4, .int 0), (3, .int 0), (0, .ref (ad 7 0)), (1, .int i1), (2, .int i2)]) hx hb dX8_chance_3 hl (by decide) rfl (fun ls hl => ?_)
  exact J_5 _ 0 0  _ _ _  (bn_w (show bn 0 0 (0 : Int32) from bn_k (by decide)) (by decide)) rfl Y (lv_sub hl [2, 3, 4, 1, 0] rfl)
set_option maxHeartbeats 4000000 in
set_option maxRecDepth 100000 in
theorem x_X8_mostTelling {l : Launch} {G : GG}  {L : List Nat} {f : HF} {ad : Nat → Nat → Nat} {rs : RS} {tc w : Nat → Int × Int} {q : Nat → (Nat → Int32) → Prop} (I : SH (spC rs ((0, 6) : Int × Int) tc w q) nnC G ad L f) (hW : WBp w 8) (hT : WBp tc 4) (hQ : QIp q) : PMp l yX8_mostTelling cX8_mostTelling 6 .int 1 0 0 G [.ref (ad 7 0)] L f (fun r => True) := by
  refine PMi.of (post := fun r L1 f1 => (True) ∧ L1 = L ∧ f1 = f) (own := RX8) (by decide) rfl (Nat.le_of_ble_eq_true rfl) (fun sz p e s m args below meth c A ls hA1 hname S Y hl => ?_)
  have hx := S.hx
  have hb := S.hb
  have hl : lv_has ls 6 [(0, .ref (ad 7 0))] := hl
  have J_6 : ∀ (n6 : Nat) (y6_1 y6_2 y6_3 : Int32) (H : Heap) (locs : List Loc) (ls : Array Slot), (bn 0 14 y6_3) → (((14 : Int) - y6_3.toInt).toNat = n6) → (DY G A s [] L f H locs) → (lv_has ls 6 [(0, .ref (ad 7 0)), (1, .int y6_1), (2, .int y6_2), (3, .int y6_3)]) → W p l e (rmD 1 0 0) s m args below meth c H locs (0) (0) (MQ below (va_Qi (fun r (u : List Nat × HF) => (fun r L1 f1 => (True) ∧ L1 = L ∧ f1 = f) r u.1 u.2) (fun u t => pOut G (va_A (va_pl L f) sz) u.1 u.2 t) (va_A (va_pl L f) sz)) args s 0 0 A) (F0 m 6 ls []) := by
    intro n6
    induction n6 using Nat.strongRecOn with
    | _ n6 ih6 =>
      intro y6_1 y6_2 y6_3 H locs ls b_y6_3 hm6 Y hl
      have J_87 : ∀ (y87_1 y87_2 y87_4 y87_5 : Int32) (H : Heap) (locs : List Loc) (ls : Array Slot), (bn 0 1 y87_5) → (bn 0 13 y6_3) → (DY G A s [] L f H locs) → (lv_has ls 6 [(0, .ref (ad 7 0)), (1, .int y87_1), (2, .int y87_2), (3, .int y6_3), (4, .int y87_4), (5, .int y87_5)]) → W p l e (rmD 1 0 0) s m args below meth c H locs (0) (0) (MQ below (va_Qi (fun r (u : List Nat × HF) => (fun r L1 f1 => (True) ∧ L1 = L ∧ f1 = f) r u.1 u.2) (fun u t => pOut G (va_A (va_pl L f) sz) u.1 u.2 t) (va_A (va_pl L f) sz)) args s 0 0 A) (F0 m 87 ls []) := by
        intro y87_1 y87_2 y87_4 y87_5 H locs ls b_y87_5 b87_y6_3 Y hl
        obtain ⟨x_30226, ex_30226⟩ : ∃ z : Int32, z = y6_3 + 1 := ⟨_, rfl⟩
        refine lv_iinc (v := x_30226) (lv' := [(3, .int x_30226), (0, .ref (ad 7 0)), (1, .int y87_1), (2, .int y87_2), (4, .int y87_4), (5, .int y87_5)]) hx hb dX8_mostTelling_87 hl (k := 3) rfl (by rw [ex_30226]; rfl) (by decide) rfl (fun ls hl => ?_)
        refine lv_goto (tgt := 6) hx hb dX8_mostTelling_90 (by decide) ?_
        exact ih6 _ (by rw [← hm6]; exact ms_up (m := 1) ex_30226 (show bn 1 1 (1 : Int32) from bn_k (by decide)) b87_y6_3 (bn_w (bn_eq ex_30226 (bn_add b87_y6_3 (show bn 1 1 (1 : Int32) from bn_k (by decide)) (by decide))) (by decide) : bn 0 14 x_30226) (by decide)) y87_1 y87_2 x_30226  _ _ _  (bn_w (bn_eq ex_30226 (bn_add b87_y6_3 (show bn 1 1 (1 : Int32) from bn_k (by decide)) (by decide))) (by decide)) rfl Y (lv_sub hl [1, 2, 3, 0] rfl)
      have J_77 : ∀ (y77_4 y77_5 : Int32) (H : Heap) (locs : List Loc) (ls : Array Slot), (bn 1 1 y77_5) → (bn 0 13 y6_3) → (DY G A s [] L f H locs) → (lv_has ls 6 [(0, .ref (ad 7 0)), (1, .int y6_1), (2, .int y6_2), (3, .int y6_3), (4, .int y77_4), (5, .int y77_5)]) → W p l e (rmD 1 0 0) s m args below meth c H locs (0) (0) (MQ below (va_Qi (fun r (u : List Nat × HF) => (fun r L1 f1 => (True) ∧ L1 = L ∧ f1 = f) r u.1 u.2) (fun u t => pOut G (va_A (va_pl L f) sz) u.1 u.2 t) (va_A (va_pl L f) sz)) args s 0 0 A) (F0 m 77 ls []) := by
        intro y77_4 y77_5 H locs ls b_y77_5 b77_y6_3 Y hl
        refine lv_aload_n hx hb dX8_mostTelling_77 rfl (lv_at hl 0 rfl) ?_
        obtain ⟨v_30227, v_30229, v_30231, p_ad_7_0, b_30228, b_30230, b_30232⟩ := opnC_7 (j := 0) I (by decide)
        have p_ad_7_0 : pt L f (ad 7 0) (.inr (8, [.ref (ad 1 0), .ref (ad 3 0), .ref (ad 10 62), .ref (ad 56 0), .ref (ad 57 0), .ref (ad 58 0), .ref (ad 59 0), .int v_30227, .int v_30229, .int v_30231])) := p_ad_7_0
        refine pg_get S Y ok_X8 3 (by decide) kf8_9 (v := .ref (ad 56 0)) p_ad_7_0 rfl dX8_mostTelling_78 ?_
        refine lv_iload_n hx hb dX8_mostTelling_81 rfl (lv_at hl 3 rfl) ?_
        obtain ⟨g_30233, p_ad_56_0, o_30234⟩ := I.opi (k := 56) (j := 0) (by decide) rfl
        have p_ad_56_0 : pt L f (ad 56 0) (.inl (G.2 0, 14, .inl g_30233)) := p_ad_56_0
        obtain ⟨v_30235, ev_30235⟩ : ∃ z, z = g_30233 (y6_3 : Int32).toNatClampNeg := ⟨_, rfl⟩
        refine pg_iald S Y (v := v_30235) p_ad_56_0 (vp_bn b77_y6_3 (by decide)) ev_30235.symm dX8_mostTelling_82 ?_
        refine lv_istore_n (lv' := [(1, .int v_30235), (0, .ref (ad 7 0)), (2, .int y6_2), (3, .int y6_3), (4, .int y77_4), (5, .int y77_5)]) hx hb dX8_mostTelling_83 rfl hl (by decide) rfl (fun ls hl => ?_)
        refine lv_iload hx hb dX8_mostTelling_84 (lv_at hl 4 rfl) ?_
        refine lv_istore_n (lv' := [(2, .int y77_4), (1, .int v_30235), (0, .ref (ad 7 0)), (3, .int y6_3), (4, .int y77_4), (5, .int y77_5)]) hx hb dX8_mostTelling_86 rfl hl (by decide) rfl (fun ls hl => ?_)
        exact J_87 v_30235 y77_4 y77_4 y77_5  _ _ _  (bn_w b_y77_5 (by decide)) (bn_w b77_y6_3 (by decide)) Y (lv_sub hl [2, 1, 0, 3, 4, 5] rfl)
      have J_59 : ∀ (y59_4 y59_s0 : Int32) (H : Heap) (locs : List Loc) (ls : Array Slot), (bn 0 1 y59_s0) → (bn 0 13 y6_3) → (DY G A s [] L f H locs) → (lv_has ls 6 [(0, .ref (ad 7 0)), (1, .int y6_1), (2, .int y6_2), (3, .int y6_3), (4, .int y59_4)]) → W p l e (rmD 1 0 0) s m args below meth c H locs (0) (0) (MQ below (va_Qi (fun r (u : List Nat × HF) => (fun r L1 f1 => (True) ∧ L1 = L ∧ f1 = f) r u.1 u.2) (fun u t => pOut G (va_A (va_pl L f) sz) u.1 u.2 t) (va_A (va_pl L f) sz)) args s 0 0 A) (F0 m 59 ls [.int y59_s0]) := by
        intro y59_4 y59_s0 H locs ls b_y59_s0 b59_y6_3 Y hl
        refine lv_istore (lv' := [(5, .int y59_s0), (0, .ref (ad 7 0)), (1, .int y6_1), (2, .int y6_2), (3, .int y6_3), (4, .int y59_4)]) hx hb dX8_mostTelling_59 hl (by decide) rfl (fun ls hl => ?_)
        refine lv_iload hx hb dX8_mostTelling_61 (lv_at hl 0 rfl) ?_
        refine lv_if_eq (tgt := 87) hx hb dX8_mostTelling_63 (by decide) (fun c_30236 => ?_) (fun c_30236 => ?_)
        · have B_30237 : bn 0 0 y59_s0 := bn_w (bn_eq c_30236 (show bn 0 0 (0 : Int32) from bn_k (by decide))) (by decide)
          exact J_87 y6_1 y6_2 y59_4 y59_s0  _ _ _  (bn_w B_30237 (by decide)) (bn_w b59_y6_3 (by decide)) Y (lv_sub hl [1, 2, 3, 4, 5, 0] rfl)
        · have B_30238 : bn 1 1 y59_s0 := bn_w (bn_nel c_30236 b_y59_s0 (show bn 0 0 (0 : Int32) from bn_k (by decide))) (by decide)
          refine lv_iload_n hx hb dX8_mostTelling_66 rfl (lv_at hl 2 rfl) ?_
          refine lv_iconst (v := (-1)) hx hb dX8_mostTelling_67 (by decide) ?_
          refine lv_icmp_eq (tgt := 77) hx hb dX8_mostTelling_68 (by decide) (fun c_30239 => ?_) (fun c_30239 => ?_)
          · have B_30240 : bn (-1) (-1) y6_1 := bn_w (bn_eq c_30239 (show bn (-1) (-1) ((-1) : Int32) from bn_k (by decide))) (by decide)
            exact J_77 y59_4 y59_s0  _ _ _  (bn_w B_30238 (by decide)) (bn_w b59_y6_3 (by decide)) Y (lv_sub hl [1, 2, 3, 4, 5, 0] rfl)
          · refine lv_iload hx hb dX8_mostTelling_71 (lv_at hl 5 rfl) ?_
            refine lv_iload_n hx hb dX8_mostTelling_73 rfl (lv_at hl 3 rfl) ?_
            refine lv_icmp_ge (tgt := 87) hx hb dX8_mostTelling_74 (by decide) (fun c_30241 => ?_) (fun c_30241 => ?_)
            · exact J_87 y6_1 y6_2 y59_4 y59_s0  _ _ _  (bn_w B_30238 (by decide)) (bn_w b59_y6_3 (by decide)) Y (lv_sub hl [1, 2, 3, 4, 5, 0] rfl)
            · have B_30242 : bn (-2147483647) 2147483647 y6_2 := bn_w (bn_gtl c_30241 (bn_any y6_2) (bn_any y59_4)) (by decide)
              have B_30243 : bn (-2147483648) 2147483646 y59_4 := bn_w (bn_gtr c_30241 (bn_any y6_2) (bn_any y59_4)) (by decide)
              exact J_77 y59_4 y59_s0  _ _ _  (bn_w B_30238 (by decide)) (bn_w b59_y6_3 (by decide)) Y (lv_sub hl [1, 2, 3, 4, 5, 0] rfl)
      have J_58 : ∀ (y58_4 : Int32) (H : Heap) (locs : List Loc) (ls : Array Slot), (bn 0 13 y6_3) → (DY G A s [] L f H locs) → (lv_has ls 6 [(0, .ref (ad 7 0)), (1, .int y6_1), (2, .int y6_2), (3, .int y6_3), (4, .int y58_4)]) → W p l e (rmD 1 0 0) s m args below meth c H locs (0) (0) (MQ below (va_Qi (fun r (u : List Nat × HF) => (fun r L1 f1 => (True) ∧ L1 = L ∧ f1 = f) r u.1 u.2) (fun u t => pOut G (va_A (va_pl L f) sz) u.1 u.2 t) (va_A (va_pl L f) sz)) args s 0 0 A) (F0 m 58 ls []) := by
        intro y58_4 H locs ls b58_y6_3 Y hl
        refine lv_iconst (v := 0) hx hb dX8_mostTelling_58 (by decide) ?_
        exact J_59 y58_4 0  _ _ _  (bn_w (show bn 0 0 (0 : Int32) from bn_k (by decide)) (by decide)) (bn_w b58_y6_3 (by decide)) Y (lv_sub hl [0, 1, 2, 3, 4] rfl)
      refine lv_iload_n hx hb dX8_mostTelling_6 rfl (lv_at hl 3 rfl) ?_
      refine lv_aload_n hx hb dX8_mostTelling_7 rfl (lv_at hl 0 rfl) ?_
      obtain ⟨v_30244, v_30246, v_30248, p_ad_7_0, b_30245, b_30247, b_30249⟩ := opnC_7 (j := 0) I (by decide)
      have p_ad_7_0 : pt L f (ad 7 0) (.inr (8, [.ref (ad 1 0), .ref (ad 3 0), .ref (ad 10 62), .ref (ad 56 0), .ref (ad 57 0), .ref (ad 58 0), .ref (ad 59 0), .int v_30244, .int v_30246, .int v_30248])) := p_ad_7_0
      refine pg_get S Y ok_X8 7 (by decide) kf8_50 (v := .int v_30244) p_ad_7_0 rfl dX8_mostTelling_8 ?_
      refine lv_icmp_ge (tgt := 93) hx hb dX8_mostTelling_11 (by decide) (fun c_30250 => ?_) (fun c_30250 => ?_)
      · refine lv_iload_n hx hb dX8_mostTelling_93 rfl (lv_at hl 1 rfl) ?_
        exact prI (post := fun r L1 f1 => (True) ∧ L1 = L ∧ f1 = f) S Y rfl (by decide) (by decide) hA1 ⟨trivial, rfl, rfl⟩ dX8_mostTelling_94
      · have B_30251 : bn 1 14 v_30244 := bn_w (bn_gtl c_30250 b_30245 b_y6_3) (by decide)
        have B_30252 : bn 0 13 y6_3 := bn_w (bn_gtr c_30250 b_30245 b_y6_3) (by decide)
        refine lv_iconst (v := 2) hx hb dX8_mostTelling_14 (by decide) ?_
        refine lv_aload_n hx hb dX8_mostTelling_15 rfl (lv_at hl 0 rfl) ?_
        refine pg_get S Y ok_X8 4 (by decide) kf8_15 (v := .ref (ad 57 0)) p_ad_7_0 rfl dX8_mostTelling_16 ?_
        refine lv_iload_n hx hb dX8_mostTelling_19 rfl (lv_at hl 3 rfl) ?_
        obtain ⟨g_30253, p_ad_57_0, o_30254⟩ := I.opi (k := 57) (j := 0) (by decide) rfl
        have p_ad_57_0 : pt L f (ad 57 0) (.inl (G.2 0, 14, .inl g_30253)) := p_ad_57_0
        obtain ⟨v_30255, ev_30255⟩ : ∃ z, z = g_30253 (y6_3 : Int32).toNatClampNeg := ⟨_, rfl⟩
        refine pg_iald S Y (v := v_30255) p_ad_57_0 (vp_bn B_30252 (by decide)) ev_30255.symm dX8_mostTelling_20 ?_
        refine lv_imul hx hb dX8_mostTelling_21 ?_
        refine lv_topi (fun x_30256 ex_30256 => ?_)
        refine lv_aload_n hx hb dX8_mostTelling_22 rfl (lv_at hl 0 rfl) ?_
        refine pg_get S Y ok_X8 9 (by decide) kf8_43 (v := .int v_30248) p_ad_7_0 rfl dX8_mostTelling_23 ?_
        refine lv_isub hx hb dX8_mostTelling_26 ?_
        refine lv_topi (fun x_30257 ex_30257 => ?_)
        refine va_mabs hx hb (S.ml.trans hl.1.symm) S.ow (S.w km8_112) (S.w kMs_abs) (S.w kMi) (S.w kMc_abs) (Nat.le_of_ble_eq_true rfl) (Nat.le_of_ble_eq_true rfl) (by decide) (by decide) dX8_mostTelling_27 ?_
        refine lv_topi (fun x_30258 ex_30258 => ?_)
        refine lv_istore (lv' := [(4, .int x_30258), (0, .ref (ad 7 0)), (1, .int y6_1), (2, .int y6_2), (3, .int y6_3)]) hx hb dX8_mostTelling_30 hl (by decide) rfl (fun ls hl => ?_)
        refine lv_aload_n hx hb dX8_mostTelling_32 rfl (lv_at hl 1 rfl) ?_
        refine pg_get S Y ok_X8 4 (by decide) kf8_15 (v := .ref (ad 57 0)) p_ad_7_0 rfl dX8_mostTelling_33 ?_
        refine lv_iload_n hx hb dX8_mostTelling_36 rfl (lv_at hl 4 rfl) ?_
        obtain ⟨v_30259, ev_30259⟩ : ∃ z, z = g_30253 (y6_3 : Int32).toNatClampNeg := ⟨_, rfl⟩
        refine pg_iald S Y (v := v_30259) p_ad_57_0 (vp_bn B_30252 (by decide)) ev_30259.symm dX8_mostTelling_37 ?_
        refine lv_if_le (tgt := 58) hx hb dX8_mostTelling_38 (by decide) (fun c_30260 => ?_) (fun c_30260 => ?_)
        · have B_30261 : bn (-2147483648) 0 v_30259 := bn_w (bn_lel c_30260 (bn_any v_30259) (show bn 0 0 (0 : Int32) from bn_k (by decide))) (by decide)
          exact J_58 x_30258  _ _ _  (bn_w B_30252 (by decide)) Y (lv_sub hl [1, 2, 3, 4, 0] rfl)
        · have B_30262 : bn 1 2147483647 v_30259 := bn_w (bn_gtl c_30260 (bn_any v_30259) (show bn 0 0 (0 : Int32) from bn_k (by decide))) (by decide)
          refine lv_aload_n hx hb dX8_mostTelling_41 rfl (lv_at hl 1 rfl) ?_
          refine pg_get S Y ok_X8 4 (by decide) kf8_15 (v := .ref (ad 57 0)) p_ad_7_0 rfl dX8_mostTelling_42 ?_
          refine lv_iload_n hx hb dX8_mostTelling_45 rfl (lv_at hl 4 rfl) ?_
          obtain ⟨v_30263, ev_30263⟩ : ∃ z, z = g_30253 (y6_3 : Int32).toNatClampNeg := ⟨_, rfl⟩
          refine pg_iald S Y (v := v_30263) p_ad_57_0 (vp_bn B_30252 (by decide)) ev_30263.symm dX8_mostTelling_46 ?_
          refine lv_aload_n hx hb dX8_mostTelling_47 rfl (lv_at hl 1 rfl) ?_
          refine pg_get S Y ok_X8 9 (by decide) kf8_43 (v := .int v_30248) p_ad_7_0 rfl dX8_mostTelling_48 ?_
          refine lv_icmp_ge (tgt := 58) hx hb dX8_mostTelling_51 (by decide) (fun c_30264 => ?_) (fun c_30264 => ?_)
          · exact J_58 x_30258  _ _ _  (bn_w B_30252 (by decide)) Y (lv_sub hl [1, 2, 3, 4, 0] rfl)
          · have B_30265 : bn (-2147483647) 2147483647 v_30248 := bn_w (bn_gtl c_30264 (bn_any v_30248) (bn_any v_30263)) (by decide)
            have B_30266 : bn (-2147483648) 2147483646 v_30263 := bn_w (bn_gtr c_30264 (bn_any v_30248) (bn_any v_30263)) (by decide)
            refine lv_iconst (v := 1) hx hb dX8_mostTelling_54 (by decide) ?_
            refine lv_goto (tgt := 59) hx hb dX8_mostTelling_55 (by decide) ?_
            exact J_59 x_30258 1  _ _ _  (bn_w (show bn 1 1 (1 : Int32) from bn_k (by decide)) (by decide)) (bn_w B_30252 (by decide)) Y (lv_sub hl [1, 2, 3, 4, 0] rfl)
  refine lv_iconst (v := (-1)) hx hb dX8_mostTelling_0 (by decide) ?_
  refine lv_istore_n (lv' := [(1, .int (-1)), (0, .ref (ad 7 0))]) hx hb dX8_mostTelling_1 rfl hl (by decide) rfl (fun ls hl => ?_)
  refine lv_iconst (v := 0) hx hb dX8_mostTelling_2 (by decide) ?_
  refine lv_istore_n (lv' := [(2, .int 0), (1, .int (-1)), (0, .ref (ad 7 0))]) hx hb dX8_mostTelling_3 rfl hl (by decide) rfl (fun ls hl => ?_)
  refine lv_iconst (v := 0) hx hb dX8_mostTelling_4 (by decide) ?_
  refine lv_istore_n (lv' := [(3, .int 0), (2, .int 0), (1, .int (-1)), (0, .ref (ad 7 0))]) hx hb dX8_mostTelling_5 rfl hl (by decide) rfl (fun ls hl => ?_)
  exact J_6 _ (-1) 0 0  _ _ _  (bn_w (show bn 0 0 (0 : Int32) from bn_k (by decide)) (by decide)) rfl Y (lv_sub hl [3, 2, 1, 0] rfl)
