theorem dX6_mayBeIn_0 : decode cX6_mayBeIn 0 = .ok (.aload_n 0, 1) := by decide +kernel
theorem dX6_mayBeIn_1 : decode cX6_mayBeIn 1 = .ok (.getfield 9, 3) := by decide +kernel
theorem ok_X6 : clOK 6 RX6 TX6 2 tyX6 := ⟨rfl, fun w h => ⟨(show ∀ w ∈ u_ws RX6 TX6 2, w ∈ lw_tbl by decide +kernel) w h, (show ∀ w ∈ u_ws RX6 TX6 2, gw w = true by decide +kernel) w h⟩, tyX6_ok, nmX6⟩
theorem kf6_9 : inW (Cond.fieldLink RX6 9 "KneeOaths$Rings" "world" "LKneeOaths$World;") := ⟨List.mem_of_getElem? (i := 404) (by decide +kernel), by decide +kernel⟩
theorem dX6_mayBeIn_4 : decode cX6_mayBeIn 4 = .ok (.getfield 15, 3) := by decide +kernel
theorem kf6_15 : inW (Cond.fieldLinkNest RX6 15 "KneeOaths$World" "now" "LKneeOaths$Ledger;" "KneeOaths") := ⟨List.mem_of_getElem? (i := 265) (by decide +kernel), by decide +kernel⟩
theorem dX6_mayBeIn_7 : decode cX6_mayBeIn 7 = .ok (.astore_n 2, 1) := by decide +kernel
theorem dX6_mayBeIn_8 : decode cX6_mayBeIn 8 = .ok (.aload_n 2, 1) := by decide +kernel
theorem dX6_mayBeIn_9 : decode cX6_mayBeIn 9 = .ok (.iload_n 1, 1) := by decide +kernel
theorem dX6_mayBeIn_10 : decode cX6_mayBeIn 10 = .ok (.invokevirtual 21, 3) := by decide +kernel
theorem cw_X4_legible : CWv yX4_legible cX4_legible 2 (some .boolean) 1 := ⟨⟨⟨List.mem_of_getElem? (i := 125) (by decide +kernel), by decide +kernel⟩, ⟨List.mem_of_getElem? (i := 1057) (by decide +kernel), by decide +kernel⟩, by decide +kernel⟩, ⟨List.mem_of_getElem? (i := 1055) (by decide +kernel), by decide +kernel⟩, ⟨List.mem_of_getElem? (i := 1056) (by decide +kernel), by decide +kernel⟩⟩
theorem km6_21 : inW (Cond.methodLink RX6 21 yX4_legible) := ⟨List.mem_of_getElem? (i := 1054) (by decide +kernel), by decide +kernel⟩
theorem dX6_mayBeIn_13 : decode cX6_mayBeIn 13 = .ok (.ifCond .eq 26, 3) := by decide +kernel
theorem dX6_mayBeIn_39 : decode cX6_mayBeIn 39 = .ok (.iconst 0, 1) := by decide +kernel
theorem dX6_mayBeIn_40 : decode cX6_mayBeIn 40 = .ok (.ireturn, 1) := by decide +kernel
theorem dX6_mayBeIn_16 : decode cX6_mayBeIn 16 = .ok (.aload_n 2, 1) := by decide +kernel
theorem dX6_mayBeIn_17 : decode cX6_mayBeIn 17 = .ok (.iload_n 1, 1) := by decide +kernel
theorem dX6_mayBeIn_18 : decode cX6_mayBeIn 18 = .ok (.iconst 4, 1) := by decide +kernel
theorem dX6_mayBeIn_19 : decode cX6_mayBeIn 19 = .ok (.invokevirtual 27, 3) := by decide +kernel
theorem km6_27 : inW (Cond.methodLink RX6 27 yX4_get) := ⟨List.mem_of_getElem? (i := 1045) (by decide +kernel), by decide +kernel⟩
theorem dX6_mayBeIn_22 : decode cX6_mayBeIn 22 = .ok (.ifCond .ne 17, 3) := by decide +kernel
theorem dX6_mayBeIn_25 : decode cX6_mayBeIn 25 = .ok (.aload_n 2, 1) := by decide +kernel
theorem dX6_mayBeIn_26 : decode cX6_mayBeIn 26 = .ok (.iload_n 1, 1) := by decide +kernel
theorem dX6_mayBeIn_27 : decode cX6_mayBeIn 27 = .ok (.iconst 2, 1) := by decide +kernel
theorem dX6_mayBeIn_28 : decode cX6_mayBeIn 28 = .ok (.invokevirtual 27, 3) := by decide +kernel
theorem dX6_mayBeIn_31 : decode cX6_mayBeIn 31 = .ok (.iconst 1, 1) := by decide +kernel
theorem dX6_mayBeIn_32 : decode cX6_mayBeIn 32 = .ok (.if_icmp .ne 7, 3) := by decide +kernel
theorem dX6_mayBeIn_35 : decode cX6_mayBeIn 35 = .ok (.iconst 1, 1) := by decide +kernel
theorem dX6_mayBeIn_36 : decode cX6_mayBeIn 36 = .ok (.goto 4, 3) := by decide +kernel
theorem dX6_sworn_0 : decode cX6_sworn 0 = .ok (.iconst 0, 1) := by decide +kernel
theorem dX6_sworn_1 : decode cX6_sworn 1 = .ok (.istore_n 3, 1) := by decide +kernel
theorem dX6_sworn_2 : decode cX6_sworn 2 = .ok (.iload_n 3, 1) := by decide +kernel
theorem dX6_sworn_3 : decode cX6_sworn 3 = .ok (.aload_n 0, 1) := by decide +kernel
theorem dX6_sworn_4 : decode cX6_sworn 4 = .ok (.getfield 9, 3) := by decide +kernel
theorem dX6_sworn_7 : decode cX6_sworn 7 = .ok (.getfield 15, 3) := by decide +kernel
theorem dX6_sworn_10 : decode cX6_sworn 10 = .ok (.getfield 31, 3) := by decide +kernel
theorem kf6_31 : inW (Cond.fieldLinkNest RX6 31 "KneeOaths$Ledger" "oathCount" "I" "KneeOaths") := ⟨List.mem_of_getElem? (i := 163) (by decide +kernel), by decide +kernel⟩
theorem dX6_sworn_13 : decode cX6_sworn 13 = .ok (.if_icmp .ge 43, 3) := by decide +kernel
theorem dX6_sworn_56 : decode cX6_sworn 56 = .ok (.iconst (-1), 1) := by decide +kernel
theorem dX6_sworn_57 : decode cX6_sworn 57 = .ok (.ireturn, 1) := by decide +kernel
theorem dX6_sworn_16 : decode cX6_sworn 16 = .ok (.iload_n 1, 1) := by decide +kernel
theorem dX6_sworn_17 : decode cX6_sworn 17 = .ok (.iload_n 3, 1) := by decide +kernel
theorem dX6_sworn_18 : decode cX6_sworn 18 = .ok (.ishr, 1) := by decide +kernel
theorem dX6_sworn_19 : decode cX6_sworn 19 = .ok (.iconst 1, 1) := by decide +kernel
theorem dX6_sworn_20 : decode cX6_sworn 20 = .ok (.iand, 1) := by decide +kernel
theorem dX6_sworn_21 : decode cX6_sworn 21 = .ok (.ifCond .eq 29, 3) := by decide +kernel
theorem dX6_sworn_50 : decode cX6_sworn 50 = .ok (.iinc 3 1, 3) := by decide +kernel
theorem dX6_sworn_53 : decode cX6_sworn 53 = .ok (.goto (-51), 3) := by decide +kernel
theorem dX6_sworn_24 : decode cX6_sworn 24 = .ok (.aload_n 0, 1) := by decide +kernel
theorem dX6_sworn_25 : decode cX6_sworn 25 = .ok (.getfield 9, 3) := by decide +kernel
theorem dX6_sworn_28 : decode cX6_sworn 28 = .ok (.getfield 15, 3) := by decide +kernel
theorem dX6_sworn_31 : decode cX6_sworn 31 = .ok (.iload_n 3, 1) := by decide +kernel
theorem dX6_sworn_32 : decode cX6_sworn 32 = .ok (.iconst 0, 1) := by decide +kernel
theorem dX6_sworn_33 : decode cX6_sworn 33 = .ok (.invokevirtual 27, 3) := by decide +kernel
theorem dX6_sworn_36 : decode cX6_sworn 36 = .ok (.iload_n 2, 1) := by decide +kernel
theorem dX6_sworn_37 : decode cX6_sworn 37 = .ok (.if_icmp .ne 13, 3) := by decide +kernel
theorem dX6_sworn_40 : decode cX6_sworn 40 = .ok (.aload_n 0, 1) := by decide +kernel
theorem dX6_sworn_41 : decode cX6_sworn 41 = .ok (.iload_n 3, 1) := by decide +kernel
theorem dX6_sworn_42 : decode cX6_sworn 42 = .ok (.invokevirtual 44, 3) := by decide +kernel
theorem cw_X6_mayBeIn : CWv yX6_mayBeIn cX6_mayBeIn 3 (some .boolean) 1 := ⟨⟨⟨List.mem_of_getElem? (i := 132) (by decide +kernel), by decide +kernel⟩, ⟨List.mem_of_getElem? (i := 1053) (by decide +kernel), by decide +kernel⟩, by decide +kernel⟩, ⟨List.mem_of_getElem? (i := 1052) (by decide +kernel), by decide +kernel⟩, ⟨List.mem_of_getElem? (i := 34) (by decide +kernel), by decide +kernel⟩⟩
theorem km6_44 : inW (Cond.methodLink RX6 44 yX6_mayBeIn) := ⟨List.mem_of_getElem? (i := 1050) (by decide +kernel), by decide +kernel⟩
theorem dX6_sworn_45 : decode cX6_sworn 45 = .ok (.ifCond .eq 5, 3) := by decide +kernel
theorem dX6_sworn_48 : decode cX6_sworn 48 = .ok (.iload_n 3, 1) := by decide +kernel
theorem dX6_sworn_49 : decode cX6_sworn 49 = .ok (.ireturn, 1) := by decide +kernel
theorem dX6_isRing_0 : decode cX6_isRing 0 = .ok (.iload_n 1, 1) := by decide +kernel
theorem dX6_isRing_1 : decode cX6_isRing 1 = .ok (.ifCond .le 19, 3) := by decide +kernel
theorem dX6_isRing_20 : decode cX6_isRing 20 = .ok (.iconst 0, 1) := by decide +kernel
theorem dX6_isRing_21 : decode cX6_isRing 21 = .ok (.ireturn, 1) := by decide +kernel
theorem dX6_isRing_4 : decode cX6_isRing 4 = .ok (.iload_n 1, 1) := by decide +kernel
theorem dX6_isRing_5 : decode cX6_isRing 5 = .ok (.iconst 1, 1) := by decide +kernel
theorem dX6_isRing_6 : decode cX6_isRing 6 = .ok (.aload_n 0, 1) := by decide +kernel
theorem dX6_isRing_7 : decode cX6_isRing 7 = .ok (.getfield 9, 3) := by decide +kernel
theorem dX6_isRing_10 : decode cX6_isRing 10 = .ok (.getfield 15, 3) := by decide +kernel
theorem dX6_isRing_13 : decode cX6_isRing 13 = .ok (.getfield 31, 3) := by decide +kernel
theorem dX6_isRing_16 : decode cX6_isRing 16 = .ok (.ishl, 1) := by decide +kernel
theorem dX6_isRing_17 : decode cX6_isRing 17 = .ok (.if_icmp .lt 5, 3) := by decide +kernel
theorem dX6_isRing_22 : decode cX6_isRing 22 = .ok (.aload_n 0, 1) := by decide +kernel
theorem dX6_isRing_23 : decode cX6_isRing 23 = .ok (.getfield 9, 3) := by decide +kernel
theorem dX6_isRing_26 : decode cX6_isRing 26 = .ok (.getfield 15, 3) := by decide +kernel
theorem dX6_isRing_29 : decode cX6_isRing 29 = .ok (.iload_n 1, 1) := by decide +kernel
theorem dX6_isRing_30 : decode cX6_isRing 30 = .ok (.iload_n 1, 1) := by decide +kernel
theorem dX6_isRing_31 : decode cX6_isRing 31 = .ok (.ineg, 1) := by decide +kernel
theorem dX6_isRing_32 : decode cX6_isRing 32 = .ok (.iand, 1) := by decide +kernel
theorem dX6_isRing_33 : decode cX6_isRing 33 = .ok (.iconst 1, 1) := by decide +kernel
theorem dX6_isRing_34 : decode cX6_isRing 34 = .ok (.isub, 1) := by decide +kernel
theorem dX6_isRing_35 : decode cX6_isRing 35 = .ok (.invokestatic 35, 3) := by decide +kernel
theorem cw_X106_bitCount_0f7a4 : CWs yJ6_bitCount_0f7a4 cJ6_bitCount_0f7a4 1 (some .int) 1 := ⟨⟨⟨List.mem_of_getElem? (i := 144) (by decide +kernel), by decide +kernel⟩, ⟨List.mem_of_getElem? (i := 1041) (by decide +kernel), by decide +kernel⟩, by decide +kernel⟩, ⟨List.mem_of_getElem? (i := 1040) (by decide +kernel), by decide +kernel⟩⟩
theorem km6_35 : inW (Cond.methodLink RX6 35 yJ6_bitCount_0f7a4) := ⟨List.mem_of_getElem? (i := 1039) (by decide +kernel), by decide +kernel⟩
theorem dX6_isRing_38 : decode cX6_isRing 38 = .ok (.iconst 0, 1) := by decide +kernel
theorem dX6_isRing_39 : decode cX6_isRing 39 = .ok (.invokevirtual 27, 3) := by decide +kernel
theorem dX6_isRing_42 : decode cX6_isRing 42 = .ok (.istore_n 2, 1) := by decide +kernel
theorem dX6_isRing_43 : decode cX6_isRing 43 = .ok (.iload_n 2, 1) := by decide +kernel
theorem dX6_isRing_44 : decode cX6_isRing 44 = .ok (.istore_n 3, 1) := by decide +kernel
theorem dX6_isRing_45 : decode cX6_isRing 45 = .ok (.iconst 0, 1) := by decide +kernel
theorem dX6_isRing_46 : decode cX6_isRing 46 = .ok (.istore 4, 2) := by decide +kernel
theorem dX6_isRing_48 : decode cX6_isRing 48 = .ok (.iload_n 1, 1) := by decide +kernel
theorem dX6_isRing_49 : decode cX6_isRing 49 = .ok (.istore 5, 2) := by decide +kernel
theorem dX6_isRing_51 : decode cX6_isRing 51 = .ok (.iconst 0, 1) := by decide +kernel
theorem dX6_isRing_52 : decode cX6_isRing 52 = .ok (.istore 6, 2) := by decide +kernel
theorem dX6_isRing_54 : decode cX6_isRing 54 = .ok (.iload 6, 2) := by decide +kernel
theorem dX6_isRing_56 : decode cX6_isRing 56 = .ok (.bipush 14, 2) := by decide +kernel
theorem dX6_isRing_58 : decode cX6_isRing 58 = .ok (.if_icmp .ge 73, 3) := by decide +kernel
theorem dX6_isRing_61 : decode cX6_isRing 61 = .ok (.iload 5, 2) := by decide +kernel
theorem dX6_isRing_63 : decode cX6_isRing 63 = .ok (.ifCond .eq 68, 3) := by decide +kernel
theorem dX6_isRing_66 : decode cX6_isRing 66 = .ok (.aload_n 0, 1) := by decide +kernel
theorem dX6_isRing_67 : decode cX6_isRing 67 = .ok (.iload 5, 2) := by decide +kernel
theorem dX6_isRing_69 : decode cX6_isRing 69 = .ok (.iload_n 3, 1) := by decide +kernel
theorem dX6_isRing_70 : decode cX6_isRing 70 = .ok (.invokevirtual 41, 3) := by decide +kernel
theorem cw_X6_sworn : CWv yX6_sworn cX6_sworn 4 (some .int) 2 := ⟨⟨⟨List.mem_of_getElem? (i := 132) (by decide +kernel), by decide +kernel⟩, ⟨List.mem_of_getElem? (i := 1049) (by decide +kernel), by decide +kernel⟩, by decide +kernel⟩, ⟨List.mem_of_getElem? (i := 1048) (by decide +kernel), by decide +kernel⟩, ⟨List.mem_of_getElem? (i := 33) (by decide +kernel), by decide +kernel⟩⟩
theorem km6_41 : inW (Cond.methodLink RX6 41 yX6_sworn) := ⟨List.mem_of_getElem? (i := 1046) (by decide +kernel), by decide +kernel⟩
theorem dX6_isRing_73 : decode cX6_isRing 73 = .ok (.istore 7, 2) := by decide +kernel
theorem dX6_isRing_75 : decode cX6_isRing 75 = .ok (.iload 7, 2) := by decide +kernel
theorem dX6_isRing_77 : decode cX6_isRing 77 = .ok (.iconst (-1), 1) := by decide +kernel
theorem dX6_isRing_78 : decode cX6_isRing 78 = .ok (.if_icmp .eq 12, 3) := by decide +kernel
theorem dX6_isRing_90 : decode cX6_isRing 90 = .ok (.iconst 0, 1) := by decide +kernel
theorem dX6_isRing_91 : decode cX6_isRing 91 = .ok (.ireturn, 1) := by decide +kernel
theorem dX6_isRing_81 : decode cX6_isRing 81 = .ok (.iload 4, 2) := by decide +kernel
theorem dX6_isRing_83 : decode cX6_isRing 83 = .ok (.iload_n 3, 1) := by decide +kernel
theorem dX6_isRing_84 : decode cX6_isRing 84 = .ok (.ishr, 1) := by decide +kernel
theorem dX6_isRing_85 : decode cX6_isRing 85 = .ok (.iconst 1, 1) := by decide +kernel
theorem dX6_isRing_86 : decode cX6_isRing 86 = .ok (.iand, 1) := by decide +kernel
theorem dX6_isRing_87 : decode cX6_isRing 87 = .ok (.ifCond .eq 5, 3) := by decide +kernel
theorem dX6_isRing_92 : decode cX6_isRing 92 = .ok (.iload 4, 2) := by decide +kernel
theorem dX6_isRing_94 : decode cX6_isRing 94 = .ok (.iconst 1, 1) := by decide +kernel
theorem dX6_isRing_95 : decode cX6_isRing 95 = .ok (.iload_n 3, 1) := by decide +kernel
theorem dX6_isRing_96 : decode cX6_isRing 96 = .ok (.ishl, 1) := by decide +kernel
theorem dX6_isRing_97 : decode cX6_isRing 97 = .ok (.ior, 1) := by decide +kernel
theorem dX6_isRing_98 : decode cX6_isRing 98 = .ok (.istore 4, 2) := by decide +kernel
theorem dX6_isRing_100 : decode cX6_isRing 100 = .ok (.iload 5, 2) := by decide +kernel
theorem dX6_isRing_102 : decode cX6_isRing 102 = .ok (.iconst 1, 1) := by decide +kernel
theorem dX6_isRing_103 : decode cX6_isRing 103 = .ok (.iload 7, 2) := by decide +kernel
theorem dX6_isRing_105 : decode cX6_isRing 105 = .ok (.ishl, 1) := by decide +kernel
theorem dX6_isRing_106 : decode cX6_isRing 106 = .ok (.iconst (-1), 1) := by decide +kernel
theorem dX6_isRing_107 : decode cX6_isRing 107 = .ok (.ixor, 1) := by decide +kernel
theorem dX6_isRing_108 : decode cX6_isRing 108 = .ok (.iand, 1) := by decide +kernel
theorem dX6_isRing_109 : decode cX6_isRing 109 = .ok (.istore 5, 2) := by decide +kernel
theorem dX6_isRing_111 : decode cX6_isRing 111 = .ok (.aload_n 0, 1) := by decide +kernel
theorem dX6_isRing_112 : decode cX6_isRing 112 = .ok (.getfield 9, 3) := by decide +kernel
theorem dX6_isRing_115 : decode cX6_isRing 115 = .ok (.getfield 15, 3) := by decide +kernel
theorem dX6_isRing_118 : decode cX6_isRing 118 = .ok (.iload 7, 2) := by decide +kernel
theorem dX6_isRing_120 : decode cX6_isRing 120 = .ok (.iconst 1, 1) := by decide +kernel
theorem dX6_isRing_121 : decode cX6_isRing 121 = .ok (.invokevirtual 27, 3) := by decide +kernel
theorem dX6_isRing_124 : decode cX6_isRing 124 = .ok (.istore_n 3, 1) := by decide +kernel
theorem dX6_isRing_125 : decode cX6_isRing 125 = .ok (.iinc 6 1, 3) := by decide +kernel
theorem dX6_isRing_128 : decode cX6_isRing 128 = .ok (.goto (-74), 3) := by decide +kernel
theorem dX6_isRing_131 : decode cX6_isRing 131 = .ok (.iload 5, 2) := by decide +kernel
theorem dX6_isRing_133 : decode cX6_isRing 133 = .ok (.ifCond .ne 12, 3) := by decide +kernel
theorem dX6_isRing_136 : decode cX6_isRing 136 = .ok (.iload_n 3, 1) := by decide +kernel
theorem dX6_isRing_137 : decode cX6_isRing 137 = .ok (.iload_n 2, 1) := by decide +kernel
theorem dX6_isRing_138 : decode cX6_isRing 138 = .ok (.if_icmp .ne 7, 3) := by decide +kernel
theorem dX6_isRing_145 : decode cX6_isRing 145 = .ok (.iconst 0, 1) := by decide +kernel
theorem dX6_isRing_146 : decode cX6_isRing 146 = .ok (.ireturn, 1) := by decide +kernel
theorem dX6_isRing_141 : decode cX6_isRing 141 = .ok (.iconst 1, 1) := by decide +kernel
theorem dX6_isRing_142 : decode cX6_isRing 142 = .ok (.goto 4, 3) := by decide +kernel
theorem dX6_keepBetter_0 : decode cX6_keepBetter 0 = .ok (.aload_n 0, 1) := by decide +kernel
theorem dX6_keepBetter_1 : decode cX6_keepBetter 1 = .ok (.getfield 47, 3) := by decide +kernel
theorem kf6_47 : inW (Cond.fieldLink RX6 47 "KneeOaths$Rings" "best" "I") := ⟨List.mem_of_getElem? (i := 405) (by decide +kernel), by decide +kernel⟩
theorem dX6_keepBetter_4 : decode cX6_keepBetter 4 = .ok (.invokestatic 35, 3) := by decide +kernel
theorem dX6_keepBetter_7 : decode cX6_keepBetter 7 = .ok (.iload_n 1, 1) := by decide +kernel
theorem dX6_keepBetter_8 : decode cX6_keepBetter 8 = .ok (.invokestatic 35, 3) := by decide +kernel
theorem dX6_keepBetter_11 : decode cX6_keepBetter 11 = .ok (.isub, 1) := by decide +kernel
theorem dX6_keepBetter_12 : decode cX6_keepBetter 12 = .ok (.istore_n 2, 1) := by decide +kernel
theorem dX6_keepBetter_13 : decode cX6_keepBetter 13 = .ok (.aload_n 0, 1) := by decide +kernel
theorem dX6_keepBetter_14 : decode cX6_keepBetter 14 = .ok (.getfield 47, 3) := by decide +kernel
theorem dX6_keepBetter_17 : decode cX6_keepBetter 17 = .ok (.ifCond .eq 19, 3) := by decide +kernel
theorem dX6_keepBetter_36 : decode cX6_keepBetter 36 = .ok (.aload_n 0, 1) := by decide +kernel
theorem dX6_keepBetter_37 : decode cX6_keepBetter 37 = .ok (.iload_n 1, 1) := by decide +kernel
theorem dX6_keepBetter_38 : decode cX6_keepBetter 38 = .ok (.putfield 47, 3) := by decide +kernel
theorem dX6_keepBetter_41 : decode cX6_keepBetter 41 = .ok (.return_, 1) := by decide +kernel
theorem dX6_keepBetter_20 : decode cX6_keepBetter 20 = .ok (.iload_n 2, 1) := by decide +kernel
theorem dX6_keepBetter_21 : decode cX6_keepBetter 21 = .ok (.ifCond .gt 15, 3) := by decide +kernel
theorem dX6_keepBetter_24 : decode cX6_keepBetter 24 = .ok (.iload_n 2, 1) := by decide +kernel
theorem dX6_keepBetter_25 : decode cX6_keepBetter 25 = .ok (.ifCond .ne 16, 3) := by decide +kernel
theorem dX6_keepBetter_28 : decode cX6_keepBetter 28 = .ok (.iload_n 1, 1) := by decide +kernel
theorem dX6_keepBetter_29 : decode cX6_keepBetter 29 = .ok (.aload_n 0, 1) := by decide +kernel
theorem dX6_keepBetter_30 : decode cX6_keepBetter 30 = .ok (.getfield 47, 3) := by decide +kernel
theorem dX6_keepBetter_33 : decode cX6_keepBetter 33 = .ok (.if_icmp .ge 8, 3) := by decide +kernel
set_option maxHeartbeats 4000000 in
set_option maxRecDepth 100000 in
theorem x_X6_mayBeIn {l : Launch} {G : GG}  {L : List Nat} {f : HF} {ad : Nat → Nat → Nat} {rs : RS} {fc : Int × Int} {tc w : Nat → Int × Int} {q : Nat → (Nat → Int32) → Prop} {i1 : Int32} (I : SH (spC rs fc tc w q) nnC G ad L f) (hW : WBp w 8) (hT : WBp tc 4) (hQ : QIp q) : PMi l yX6_mayBeIn cX6_mayBeIn 3 .boolean 3 0 0 G [.ref (ad 4 0), .int i1] L f (fun r L1 f1 => bn 0 1 r ∧ SH (spC rs fc tc w q) nnC G ad L1 f1) := by
  refine PMi.of (post := fun r L1 f1 => bn 0 1 r ∧ SH (spC rs fc tc w q) nnC G ad L1 f1) (own := RX6) (by decide) rfl (Nat.le_of_ble_eq_true rfl) (fun sz p e s m args below meth c A ls hA1 hname S Y hl => ?_)
  have hx := S.hx
  have hb := S.hb
  have hl : lv_has ls 3 [(0, .ref (ad 4 0)), (1, .int i1)] := hl
  refine lv_aload_n hx hb dX6_mayBeIn_0 rfl (lv_at hl 0 rfl) ?_
  obtain ⟨v_13466, p_ad_4_0, b_13467⟩ := opnC_4 (j := 0) I (by decide)
  have p_ad_4_0 : pt L f (ad 4 0) (.inr (6, [.ref (ad 1 0), .int v_13466])) := p_ad_4_0
  refine pg_get S Y ok_X6 0 (by decide) kf6_9 (v := .ref (ad 1 0)) p_ad_4_0 rfl dX6_mayBeIn_1 ?_
  obtain ⟨v_13468, v_13470, v_13472, v_13474, v_13476, p_ad_1_0, b_13469, b_13471, b_13473, b_13475, b_13477⟩ := opnC_1 (j := 0) I (by decide)
  have p_ad_1_0 : pt L f (ad 1 0) (.inr (10, [.ref (ad 40 0), .ref (ad 41 0), .ref (ad 42 0), .ref (ad 10 0), .ref (ad 43 0), .ref (ad 20 0), .ref (ad 20 1), .ref (ad 20 2), .ref (ad 20 3), .ref (ad 20 4), .int v_13468, .int v_13470, .int v_13472, .int v_13474, .int v_13476])) := p_ad_1_0
  refine pg_getN S Y ok_X10 3 (by decide) kf6_15 (v := .ref (ad 10 0)) p_ad_1_0 rfl dX6_mayBeIn_4 ?_
  refine lv_astore_n (lv' := [(2, .ref (ad 10 0)), (0, .ref (ad 4 0)), (1, .int i1)]) hx hb dX6_mayBeIn_7 rfl hl (by decide) rfl (fun ls hl => ?_)
  refine lv_aload_n hx hb dX6_mayBeIn_8 rfl (lv_at hl 0 rfl) ?_
  refine lv_iload_n hx hb dX6_mayBeIn_9 rfl (lv_at hl 2 rfl) ?_
  refine cVp (As := [.int i1]) (rest := []) S Y (x_X4_legible (l := l) (j := 0) I hW hT hQ (by decide)) cw_X4_legible km6_21 (I.opo (k := 10) (j := 0) (by decide) rfl).choose_spec.1 ok_X4.1 rfl rfl ⟨Nat.le_of_ble_eq_true rfl, Nat.le_of_ble_eq_true rfl⟩ hl.1 rfl (Nat.le_of_ble_eq_true rfl) ⟨Nat.le_of_ble_eq_true rfl, Nat.le_of_ble_eq_true rfl⟩ dX6_mayBeIn_10 (fun r_13478 H locs er_13478 Y => ?_)
  refine lv_if_eq (tgt := 39) hx hb dX6_mayBeIn_13 (by decide) (fun c_13479 => ?_) (fun c_13479 => ?_)
  · have B_13480 : bn 0 0 r_13478 := bn_w (bn_eq c_13479 (show bn 0 0 (0 : Int32) from bn_k (by decide))) (by decide)
    refine lv_iconst (v := 0) hx hb dX6_mayBeIn_39 (by decide) ?_
    exact prI (post := fun r L1 f1 => bn 0 1 r ∧ SH (spC rs fc tc w q) nnC G ad L1 f1) S Y rfl (by decide) (by decide) hA1 ⟨bn_w (show bn 0 0 (0 : Int32) from bn_k (by decide)) (by decide), I⟩ dX6_mayBeIn_40
  · have B_13481 : bn 1 1 r_13478 := bn_w (bn_nel c_13479 er_13478 (show bn 0 0 (0 : Int32) from bn_k (by decide))) (by decide)
    refine lv_aload_n hx hb dX6_mayBeIn_16 rfl (lv_at hl 0 rfl) ?_
    refine lv_iload_n hx hb dX6_mayBeIn_17 rfl (lv_at hl 2 rfl) ?_
    refine lv_iconst (v := 4) hx hb dX6_mayBeIn_18 (by decide) ?_
    refine cVp (As := [.int i1, .int 4]) (rest := []) S Y (x_X4_get (l := l) (j := 0) I hW hT hQ (by decide)) cw_X4_get km6_27 (I.opo (k := 10) (j := 0) (by decide) rfl).choose_spec.1 ok_X4.1 rfl rfl ⟨Nat.le_of_ble_eq_true rfl, Nat.le_of_ble_eq_true rfl⟩ hl.1 rfl (Nat.le_of_ble_eq_true rfl) ⟨Nat.le_of_ble_eq_true rfl, Nat.le_of_ble_eq_true rfl⟩ dX6_mayBeIn_19 (fun r_13482 H locs er_13482 Y => ?_)
    refine lv_if_ne (tgt := 39) hx hb dX6_mayBeIn_22 (by decide) (fun c_13483 => ?_) (fun c_13483 => ?_)
    · refine lv_iconst (v := 0) hx hb dX6_mayBeIn_39 (by decide) ?_
      exact prI (post := fun r L1 f1 => bn 0 1 r ∧ SH (spC rs fc tc w q) nnC G ad L1 f1) S Y rfl (by decide) (by decide) hA1 ⟨bn_w (show bn 0 0 (0 : Int32) from bn_k (by decide)) (by decide), I⟩ dX6_mayBeIn_40
    · have B_13484 : bn 0 0 r_13482 := bn_w (bn_eq c_13483 (show bn 0 0 (0 : Int32) from bn_k (by decide))) (by decide)
      refine lv_aload_n hx hb dX6_mayBeIn_25 rfl (lv_at hl 0 rfl) ?_
      refine lv_iload_n hx hb dX6_mayBeIn_26 rfl (lv_at hl 2 rfl) ?_
      refine lv_iconst (v := 2) hx hb dX6_mayBeIn_27 (by decide) ?_
      refine cVp (As := [.int i1, .int 2]) (rest := []) S Y (x_X4_get (l := l) (j := 0) I hW hT hQ (by decide)) cw_X4_get km6_27 (I.opo (k := 10) (j := 0) (by decide) rfl).choose_spec.1 ok_X4.1 rfl rfl ⟨Nat.le_of_ble_eq_true rfl, Nat.le_of_ble_eq_true rfl⟩ hl.1 rfl (Nat.le_of_ble_eq_true rfl) ⟨Nat.le_of_ble_eq_true rfl, Nat.le_of_ble_eq_true rfl⟩ dX6_mayBeIn_28 (fun r_13485 H locs er_13485 Y => ?_)
      refine lv_iconst (v := 1) hx hb dX6_mayBeIn_31 (by decide) ?_
      refine lv_icmp_ne (tgt := 39) hx hb dX6_mayBeIn_32 (by decide) (fun c_13486 => ?_) (fun c_13486 => ?_)
      · refine lv_iconst (v := 0) hx hb dX6_mayBeIn_39 (by decide) ?_
        exact prI (post := fun r L1 f1 => bn 0 1 r ∧ SH (spC rs fc tc w q) nnC G ad L1 f1) S Y rfl (by decide) (by decide) hA1 ⟨bn_w (show bn 0 0 (0 : Int32) from bn_k (by decide)) (by decide), I⟩ dX6_mayBeIn_40
      · have B_13487 : bn 1 1 r_13485 := bn_w (bn_eq c_13486 (show bn 1 1 (1 : Int32) from bn_k (by decide))) (by decide)
        refine lv_iconst (v := 1) hx hb dX6_mayBeIn_35 (by decide) ?_
        refine lv_goto (tgt := 40) hx hb dX6_mayBeIn_36 (by decide) ?_
        exact prI (post := fun r L1 f1 => bn 0 1 r ∧ SH (spC rs fc tc w q) nnC G ad L1 f1) S Y rfl (by decide) (by decide) hA1 ⟨bn_w (show bn 1 1 (1 : Int32) from bn_k (by decide)) (by decide), I⟩ dX6_mayBeIn_40
set_option maxHeartbeats 4000000 in
set_option maxRecDepth 100000 in
theorem x_X6_sworn {l : Launch} {G : GG}  {L : List Nat} {f : HF} {ad : Nat → Nat → Nat} {rs : RS} {fc : Int × Int} {tc w : Nat → Int × Int} {q : Nat → (Nat → Int32) → Prop} {i1 i2 : Int32} (I : SH (spC rs fc tc w q) nnC G ad L f) (hW : WBp w 8) (hT : WBp tc 4) (hQ : QIp q) : PMi l yX6_sworn cX6_sworn 4 .int 4 0 0 G [.ref (ad 4 0), .int i1, .int i2] L f (fun r L1 f1 => SH (spC rs fc tc w q) nnC G ad L1 f1) := by
  refine PMi.of (post := fun r L1 f1 => SH (spC rs fc tc w q) nnC G ad L1 f1) (own := RX6) (by decide) rfl (Nat.le_of_ble_eq_true rfl) (fun sz p e s m args below meth c A ls hA1 hname S Y hl => ?_)
  have hx := S.hx
  have hb := S.hb
  have hl : lv_has ls 4 [(0, .ref (ad 4 0)), (1, .int i1), (2, .int i2)] := hl
  have J_2 : ∀ (n2 : Nat) (y2_3 : Int32) (L_2 : List Nat) (f_2 : HF) (H : Heap) (locs : List Loc) (ls : Array Slot), (SH (spC rs fc tc w q) nnC G ad L_2 f_2) → (bn 0 14 y2_3) → (((14 : Int) - y2_3.toInt).toNat = n2) → (DY G A s [] L_2 f_2 H locs) → (lv_has ls 4 [(0, .ref (ad 4 0)), (1, .int i1), (2, .int i2), (3, .int y2_3)]) → W p l e (rmD 4 0 0) s m args below meth c H locs (0) (0) (MQ below (va_Qi (fun r (u : List Nat × HF) => (fun r L1 f1 => SH (spC rs fc tc w q) nnC G ad L1 f1) r u.1 u.2) (fun u t => pOut G (va_A (va_pl L f) sz) u.1 u.2 t) (va_A (va_pl L f) sz)) args s 0 0 A) (F0 m 2 ls []) := by
    intro n2
    induction n2 using Nat.strongRecOn with
    | _ n2 ih2 =>
      intro y2_3 L_2 f_2 H locs ls I b_y2_3 hm2 Y hl
      refine lv_iload_n hx hb dX6_sworn_2 rfl (lv_at hl 3 rfl) ?_
      refine lv_aload_n hx hb dX6_sworn_3 rfl (lv_at hl 0 rfl) ?_
      obtain ⟨v_14048, p_ad_4_0, b_14049⟩ := opnC_4 (j := 0) I (by decide)
      have p_ad_4_0 : pt L_2 f_2 (ad 4 0) (.inr (6, [.ref (ad 1 0), .int v_14048])) := p_ad_4_0
      refine pg_get S Y ok_X6 0 (by decide) kf6_9 (v := .ref (ad 1 0)) p_ad_4_0 rfl dX6_sworn_4 ?_
      obtain ⟨v_14050, v_14052, v_14054, v_14056, v_14058, p_ad_1_0, b_14051, b_14053, b_14055, b_14057, b_14059⟩ := opnC_1 (j := 0) I (by decide)
      have p_ad_1_0 : pt L_2 f_2 (ad 1 0) (.inr (10, [.ref (ad 40 0), .ref (ad 41 0), .ref (ad 42 0), .ref (ad 10 0), .ref (ad 43 0), .ref (ad 20 0), .ref (ad 20 1), .ref (ad 20 2), .ref (ad 20 3), .ref (ad 20 4), .int v_14050, .int v_14052, .int v_14054, .int v_14056, .int v_14058])) := p_ad_1_0
      refine pg_getN S Y ok_X10 3 (by decide) kf6_15 (v := .ref (ad 10 0)) p_ad_1_0 rfl dX6_sworn_7 ?_
      obtain ⟨v_14060, v_14062, v_14064, v_14066, v_14068, p_ad_10_0, b_14061, b_14063, b_14065, b_14067, b_14069⟩ := opnC_10 (j := 0) I (by decide)
      have p_ad_10_0 : pt L_2 f_2 (ad 10 0) (.inr (4, [.ref (ad 11 0), .ref (ad 12 0), .int v_14060, .int v_14062, .int v_14064, .int v_14066, .int v_14068])) := p_ad_10_0
      refine pg_getN S Y ok_X4 2 (by decide) kf6_31 (v := .int v_14060) p_ad_10_0 rfl dX6_sworn_10 ?_
      refine lv_icmp_ge (tgt := 56) hx hb dX6_sworn_13 (by decide) (fun c_14070 => ?_) (fun c_14070 => ?_)
      · refine lv_iconst (v := (-1)) hx hb dX6_sworn_56 (by decide) ?_
        exact prI (post := fun r L1 f1 => SH (spC rs fc tc w q) nnC G ad L1 f1) S Y rfl (by decide) (by decide) hA1 I dX6_sworn_57
      · have B_14071 : bn 1 14 v_14060 := bn_w (bn_gtl c_14070 b_14061 b_y2_3) (by decide)
        have B_14072 : bn 0 13 y2_3 := bn_w (bn_gtr c_14070 b_14061 b_y2_3) (by decide)
        refine lv_iload_n hx hb dX6_sworn_16 rfl (lv_at hl 1 rfl) ?_
        refine lv_iload_n hx hb dX6_sworn_17 rfl (lv_at hl 3 rfl) ?_
        refine lv_ishr hx hb dX6_sworn_18 ?_
        refine lv_topi (fun x_14073 ex_14073 => ?_)
        refine lv_iconst (v := 1) hx hb dX6_sworn_19 (by decide) ?_
        refine lv_iand hx hb dX6_sworn_20 ?_
        refine lv_topi (fun x_14074 ex_14074 => ?_)
        refine lv_if_eq (tgt := 50) hx hb dX6_sworn_21 (by decide) (fun c_14075 => ?_) (fun c_14075 => ?_)
        · have B_14076 : bn 0 0 x_14074 := bn_w (bn_eq c_14075 (show bn 0 0 (0 : Int32) from bn_k (by decide))) (by decide)
          obtain ⟨x_14077, ex_14077⟩ : ∃ z : Int32, z = y2_3 + 1 := ⟨_, rfl⟩
          refine lv_iinc (v := x_14077) (lv' := [(3, .int x_14077), (0, .ref (ad 4 0)), (1, .int i1), (2, .int i2)]) hx hb dX6_sworn_50 hl (k := 3) rfl (by rw [ex_14077]; rfl) (by decide) rfl (fun ls hl => ?_)
          refine lv_goto (tgt := 2) hx hb dX6_sworn_53 (by decide) ?_
          exact ih2 _ (by rw [← hm2]; exact ms_up (m := 1) ex_14077 (show bn 1 1 (1 : Int32) from bn_k (by decide)) B_14072 (bn_w (bn_eq ex_14077 (bn_add B_14072 (show bn 1 1 (1 : Int32) from bn_k (by decide)) (by decide))) (by decide) : bn 0 14 x_14077) (by decide)) x_14077 _ _  _ _ _ I (bn_w (bn_eq ex_14077 (bn_add B_14072 (show bn 1 1 (1 : Int32) from bn_k (by decide)) (by decide))) (by decide)) rfl Y (lv_sub hl [1, 2, 3, 0] rfl)
        · refine lv_aload_n hx hb dX6_sworn_24 rfl (lv_at hl 0 rfl) ?_
          refine pg_get S Y ok_X6 0 (by decide) kf6_9 (v := .ref (ad 1 0)) p_ad_4_0 rfl dX6_sworn_25 ?_
          refine pg_getN S Y ok_X10 3 (by decide) kf6_15 (v := .ref (ad 10 0)) p_ad_1_0 rfl dX6_sworn_28 ?_
          refine lv_iload_n hx hb dX6_sworn_31 rfl (lv_at hl 3 rfl) ?_
          refine lv_iconst (v := 0) hx hb dX6_sworn_32 (by decide) ?_
          refine cVp (As := [.int y2_3, .int 0]) (rest := []) S Y (x_X4_get (l := l) (j := 0) I hW hT hQ (by decide)) cw_X4_get km6_27 p_ad_10_0 ok_X4.1 rfl rfl ⟨Nat.le_of_ble_eq_true rfl, Nat.le_of_ble_eq_true rfl⟩ hl.1 rfl (Nat.le_of_ble_eq_true rfl) ⟨Nat.le_of_ble_eq_true rfl, Nat.le_of_ble_eq_true rfl⟩ dX6_sworn_33 (fun r_14078 H locs er_14078 Y => ?_)
          refine lv_iload_n hx hb dX6_sworn_36 rfl (lv_at hl 2 rfl) ?_
          refine lv_icmp_ne (tgt := 50) hx hb dX6_sworn_37 (by decide) (fun c_14079 => ?_) (fun c_14079 => ?_)
          · obtain ⟨x_14080, ex_14080⟩ : ∃ z : Int32, z = y2_3 + 1 := ⟨_, rfl⟩
            refine lv_iinc (v := x_14080) (lv' := [(3, .int x_14080), (0, .ref (ad 4 0)), (1, .int i1), (2, .int i2)]) hx hb dX6_sworn_50 hl (k := 3) rfl (by rw [ex_14080]; rfl) (by decide) rfl (fun ls hl => ?_)
            refine lv_goto (tgt := 2) hx hb dX6_sworn_53 (by decide) ?_
            exact ih2 _ (by rw [← hm2]; exact ms_up (m := 1) ex_14080 (show bn 1 1 (1 : Int32) from bn_k (by decide)) B_14072 (bn_w (bn_eq ex_14080 (bn_add B_14072 (show bn 1 1 (1 : Int32) from bn_k (by decide)) (by decide))) (by decide) : bn 0 14 x_14080) (by decide)) x_14080 _ _  _ _ _ I (bn_w (bn_eq ex_14080 (bn_add B_14072 (show bn 1 1 (1 : Int32) from bn_k (by decide)) (by decide))) (by decide)) rfl Y (lv_sub hl [1, 2, 3, 0] rfl)
          · refine lv_aload_n hx hb dX6_sworn_40 rfl (lv_at hl 0 rfl) ?_
            refine lv_iload_n hx hb dX6_sworn_41 rfl (lv_at hl 3 rfl) ?_
            refine cVi (As := [.int y2_3]) (rest := []) S Y (x_X6_mayBeIn (l := l) I hW hT hQ) cw_X6_mayBeIn km6_44 p_ad_4_0 ok_X6.1 rfl rfl ⟨Nat.le_of_ble_eq_true rfl, Nat.le_of_ble_eq_true rfl⟩ hl.1 rfl (Nat.le_of_ble_eq_true rfl) ⟨Nat.le_of_ble_eq_true rfl, Nat.le_of_ble_eq_true rfl⟩ dX6_sworn_42 (fun r_14083 L_14081 f_14082 H locs hr_14083 Y => ?_)
            obtain ⟨er_14083, I⟩ := hr_14083
            refine lv_if_eq (tgt := 50) hx hb dX6_sworn_45 (by decide) (fun c_14084 => ?_) (fun c_14084 => ?_)
            · have B_14085 : bn 0 0 r_14083 := bn_w (bn_eq c_14084 (show bn 0 0 (0 : Int32) from bn_k (by decide))) (by decide)
              obtain ⟨x_14087, ex_14087⟩ : ∃ z : Int32, z = y2_3 + 1 := ⟨_, rfl⟩
              refine lv_iinc (v := x_14087) (lv' := [(3, .int x_14087), (0, .ref (ad 4 0)), (1, .int i1), (2, .int i2)]) hx hb dX6_sworn_50 hl (k := 3) rfl (by rw [ex_14087]; rfl) (by decide) rfl (fun ls hl => ?_)
              refine lv_goto (tgt := 2) hx hb dX6_sworn_53 (by decide) ?_
              exact ih2 _ (by rw [← hm2]; exact ms_up (m := 1) ex_14087 (show bn 1 1 (1 : Int32) from bn_k (by decide)) B_14072 (bn_w (bn_eq ex_14087 (bn_add B_14072 (show bn 1 1 (1 : Int32) from bn_k (by decide)) (by decide))) (by decide) : bn 0 14 x_14087) (by decide)) x_14087 _ _  _ _ _ I (bn_w (bn_eq ex_14087 (bn_add B_14072 (show bn 1 1 (1 : Int32) from bn_k (by decide)) (by decide))) (by decide)) rfl Y (lv_sub hl [1, 2, 3, 0] rfl)
            · have B_14086 : bn 1 1 r_14083 := bn_w (bn_nel c_14084 er_14083 (show bn 0 0 (0 : Int32) from bn_k (by decide))) (by decide)
              refine lv_iload_n hx hb dX6_sworn_48 rfl (lv_at hl 3 rfl) ?_
              exact prI (post := fun r L1 f1 => SH (spC rs fc tc w q) nnC G ad L1 f1) S Y rfl (by decide) (by decide) hA1 I dX6_sworn_49
  refine lv_iconst (v := 0) hx hb dX6_sworn_0 (by decide) ?_
  refine lv_istore_n (lv' := [(3, .int 0), (0, .ref (ad 4 0)), (1, .int i1), (2, .int i2)]) hx hb dX6_sworn_1 rfl hl (by decide) rfl (fun ls hl => ?_)
  exact J_2 _ 0 _ _  _ _ _ I (bn_w (show bn 0 0 (0 : Int32) from bn_k (by decide)) (by decide)) rfl Y (lv_sub hl [1, 2, 3, 0] rfl)
set_option maxHeartbeats 4000000 in
set_option maxRecDepth 100000 in
theorem x_X6_isRing {l : Launch} {G : GG}  {L : List Nat} {f : HF} {ad : Nat → Nat → Nat} {rs : RS} {fc : Int × Int} {tc w : Nat → Int × Int} {q : Nat → (Nat → Int32) → Prop} {i1 : Int32} (I : SH (spC rs fc tc w q) nnC G ad L f) (hW : WBp w 8) (hT : WBp tc 4) (hQ : QIp q) : PMi l yX6_isRing cX6_isRing 8 .boolean 5 0 0 G [.ref (ad 4 0), .int i1] L f (fun r L1 f1 => bn 0 1 r ∧ SH (spC rs fc tc w q) nnC G ad L1 f1) := by
  refine PMi.of (post := fun r L1 f1 => bn 0 1 r ∧ SH (spC rs fc tc w q) nnC G ad L1 f1) (own := RX6) (by decide) rfl (Nat.le_of_ble_eq_true rfl) (fun sz p e s m args below meth c A ls hA1 hname S Y hl => ?_)
  have hx := S.hx
  have hb := S.hb
  have hl : lv_has ls 8 [(0, .ref (ad 4 0)), (1, .int i1)] := hl
  have J_54 : ∀ (n54 : Nat) (y54_2 y54_3 y54_4 y54_5 y54_6 : Int32) (L_54 : List Nat) (f_54 : HF) (H : Heap) (locs : List Loc) (ls : Array Slot), (SH (spC rs fc tc w q) nnC G ad L_54 f_54) → (bn 0 14 y54_6) → (bn 1 16383 i1) → (((14 : Int) - y54_6.toInt).toNat = n54) → (DY G A s [] L_54 f_54 H locs) → (lv_has ls 8 [(0, .ref (ad 4 0)), (1, .int i1), (2, .int y54_2), (3, .int y54_3), (4, .int y54_4), (5, .int y54_5), (6, .int y54_6)]) → W p l e (rmD 5 0 0) s m args below meth c H locs (0) (0) (MQ below (va_Qi (fun r (u : List Nat × HF) => (fun r L1 f1 => bn 0 1 r ∧ SH (spC rs fc tc w q) nnC G ad L1 f1) r u.1 u.2) (fun u t => pOut G (va_A (va_pl L f) sz) u.1 u.2 t) (va_A (va_pl L f) sz)) args s 0 0 A) (F0 m 54 ls []) := by
    intro n54
    induction n54 using Nat.strongRecOn with
    | _ n54 ih54 =>
      intro y54_2 y54_3 y54_4 y54_5 y54_6 L_54 f_54 H locs ls I b_y54_6 b54_i1 hm54 Y hl
      refine lv_iload hx hb dX6_isRing_54 (lv_at hl 6 rfl) ?_
      refine lv_bipush (v := 14) hx hb dX6_isRing_56 (by decide) ?_
      refine lv_icmp_ge (tgt := 131) hx hb dX6_isRing_58 (by decide) (fun c_14599 => ?_) (fun c_14599 => ?_)
      · have B_14600 : bn 14 14 y54_6 := bn_w (bn_ler c_14599 (show bn 14 14 (14 : Int32) from bn_k (by decide)) b_y54_6) (by decide)
        refine lv_iload hx hb dX6_isRing_131 (lv_at hl 5 rfl) ?_
        refine lv_if_ne (tgt := 145) hx hb dX6_isRing_133 (by decide) (fun c_14602 => ?_) (fun c_14602 => ?_)
        · refine lv_iconst (v := 0) hx hb dX6_isRing_145 (by decide) ?_
          exact prI (post := fun r L1 f1 => bn 0 1 r ∧ SH (spC rs fc tc w q) nnC G ad L1 f1) S Y rfl (by decide) (by decide) hA1 ⟨bn_w (show bn 0 0 (0 : Int32) from bn_k (by decide)) (by decide), I⟩ dX6_isRing_146
        · have B_14603 : bn 0 0 y54_5 := bn_w (bn_eq c_14602 (show bn 0 0 (0 : Int32) from bn_k (by decide))) (by decide)
          refine lv_iload_n hx hb dX6_isRing_136 rfl (lv_at hl 3 rfl) ?_
          refine lv_iload_n hx hb dX6_isRing_137 rfl (lv_at hl 2 rfl) ?_
          refine lv_icmp_ne (tgt := 145) hx hb dX6_isRing_138 (by decide) (fun c_14604 => ?_) (fun c_14604 => ?_)
          · refine lv_iconst (v := 0) hx hb dX6_isRing_145 (by decide) ?_
            exact prI (post := fun r L1 f1 => bn 0 1 r ∧ SH (spC rs fc tc w q) nnC G ad L1 f1) S Y rfl (by decide) (by decide) hA1 ⟨bn_w (show bn 0 0 (0 : Int32) from bn_k (by decide)) (by decide), I⟩ dX6_isRing_146
          · refine lv_iconst (v := 1) hx hb dX6_isRing_141 (by decide) ?_
            refine lv_goto (tgt := 146) hx hb dX6_isRing_142 (by decide) ?_
            exact prI (post := fun r L1 f1 => bn 0 1 r ∧ SH (spC rs fc tc w q) nnC G ad L1 f1) S Y rfl (by decide) (by decide) hA1 ⟨bn_w (show bn 1 1 (1 : Int32) from bn_k (by decide)) (by decide), I⟩ dX6_isRing_146
      · have B_14601 : bn 0 13 y54_6 := bn_w (bn_gtr c_14599 (show bn 14 14 (14 : Int32) from bn_k (by decide)) b_y54_6) (by decide)
        refine lv_iload hx hb dX6_isRing_61 (lv_at hl 5 rfl) ?_
        refine lv_if_eq (tgt := 131) hx hb dX6_isRing_63 (by decide) (fun c_14605 => ?_) (fun c_14605 => ?_)
        · have B_14606 : bn 0 0 y54_5 := bn_w (bn_eq c_14605 (show bn 0 0 (0 : Int32) from bn_k (by decide))) (by decide)
          refine lv_iload hx hb dX6_isRing_131 (lv_at hl 5 rfl) ?_
          refine lv_if_ne (tgt := 145) hx hb dX6_isRing_133 (by decide) (fun h => absurd c_14605 h) (fun _ => ?_)
          refine lv_iload_n hx hb dX6_isRing_136 rfl (lv_at hl 3 rfl) ?_
          refine lv_iload_n hx hb dX6_isRing_137 rfl (lv_at hl 2 rfl) ?_
          refine lv_icmp_ne (tgt := 145) hx hb dX6_isRing_138 (by decide) (fun c_14607 => ?_) (fun c_14607 => ?_)
          · refine lv_iconst (v := 0) hx hb dX6_isRing_145 (by decide) ?_
            exact prI (post := fun r L1 f1 => bn 0 1 r ∧ SH (spC rs fc tc w q) nnC G ad L1 f1) S Y rfl (by decide) (by decide) hA1 ⟨bn_w (show bn 0 0 (0 : Int32) from bn_k (by decide)) (by decide), I⟩ dX6_isRing_146
          · refine lv_iconst (v := 1) hx hb dX6_isRing_141 (by decide) ?_
            refine lv_goto (tgt := 146) hx hb dX6_isRing_142 (by decide) ?_
            exact prI (post := fun r L1 f1 => bn 0 1 r ∧ SH (spC rs fc tc w q) nnC G ad L1 f1) S Y rfl (by decide) (by decide) hA1 ⟨bn_w (show bn 1 1 (1 : Int32) from bn_k (by decide)) (by decide), I⟩ dX6_isRing_146
        · refine lv_aload_n hx hb dX6_isRing_66 rfl (lv_at hl 0 rfl) ?_
          refine lv_iload hx hb dX6_isRing_67 (lv_at hl 5 rfl) ?_
          refine lv_iload_n hx hb dX6_isRing_69 rfl (lv_at hl 3 rfl) ?_
          refine cVi (As := [.int y54_5, .int y54_3]) (rest := []) S Y (x_X6_sworn (l := l) I hW hT hQ) cw_X6_sworn km6_41 (I.opo (k := 4) (j := 0) (by decide) rfl).choose_spec.1 ok_X6.1 rfl rfl ⟨Nat.le_of_ble_eq_true rfl, Nat.le_of_ble_eq_true rfl⟩ hl.1 rfl (Nat.le_of_ble_eq_true rfl) ⟨Nat.le_of_ble_eq_true rfl, Nat.le_of_ble_eq_true rfl⟩ dX6_isRing_70 (fun r_14610 L_14608 f_14609 H locs I Y => ?_)
          refine lv_istore (lv' := [(7, .int r_14610), (0, .ref (ad 4 0)), (1, .int i1), (2, .int y54_2), (3, .int y54_3), (4, .int y54_4), (5, .int y54_5), (6, .int y54_6)]) hx hb dX6_isRing_73 hl (by decide) rfl (fun ls hl => ?_)
          refine lv_iload hx hb dX6_isRing_75 (lv_at hl 0 rfl) ?_
          refine lv_iconst (v := (-1)) hx hb dX6_isRing_77 (by decide) ?_
          refine lv_icmp_eq (tgt := 90) hx hb dX6_isRing_78 (by decide) (fun c_14611 => ?_) (fun c_14611 => ?_)
          · have B_14612 : bn (-1) (-1) r_14610 := bn_w (bn_eq c_14611 (show bn (-1) (-1) ((-1) : Int32) from bn_k (by decide))) (by decide)
            refine lv_iconst (v := 0) hx hb dX6_isRing_90 (by decide) ?_
            exact prI (post := fun r L1 f1 => bn 0 1 r ∧ SH (spC rs fc tc w q) nnC G ad L1 f1) S Y rfl (by decide) (by decide) hA1 ⟨bn_w (show bn 0 0 (0 : Int32) from bn_k (by decide)) (by decide), I⟩ dX6_isRing_91
          · refine lv_iload hx hb dX6_isRing_81 (lv_at hl 5 rfl) ?_
            refine lv_iload_n hx hb dX6_isRing_83 rfl (lv_at hl 4 rfl) ?_
            refine lv_ishr hx hb dX6_isRing_84 ?_
            refine lv_topi (fun x_14613 ex_14613 => ?_)
            refine lv_iconst (v := 1) hx hb dX6_isRing_85 (by decide) ?_
            refine lv_iand hx hb dX6_isRing_86 ?_
            refine lv_topi (fun x_14614 ex_14614 => ?_)
            refine lv_if_eq (tgt := 92) hx hb dX6_isRing_87 (by decide) (fun c_14615 => ?_) (fun c_14615 => ?_)
            · have B_14616 : bn 0 0 x_14614 := bn_w (bn_eq c_14615 (show bn 0 0 (0 : Int32) from bn_k (by decide))) (by decide)
              refine lv_iload hx hb dX6_isRing_92 (lv_at hl 5 rfl) ?_
              refine lv_iconst (v := 1) hx hb dX6_isRing_94 (by decide) ?_
              refine lv_iload_n hx hb dX6_isRing_95 rfl (lv_at hl 4 rfl) ?_
              refine lv_ishl hx hb dX6_isRing_96 ?_
              refine lv_topi (fun x_14617 ex_14617 => ?_)
              refine lv_ior hx hb dX6_isRing_97 ?_
              refine lv_topi (fun x_14618 ex_14618 => ?_)
              refine lv_istore (lv' := [(4, .int x_14618), (7, .int r_14610), (0, .ref (ad 4 0)), (1, .int i1), (2, .int y54_2), (3, .int y54_3), (5, .int y54_5), (6, .int y54_6)]) hx hb dX6_isRing_98 hl (by decide) rfl (fun ls hl => ?_)
              refine lv_iload hx hb dX6_isRing_100 (lv_at hl 6 rfl) ?_
              refine lv_iconst (v := 1) hx hb dX6_isRing_102 (by decide) ?_
              refine lv_iload hx hb dX6_isRing_103 (lv_at hl 1 rfl) ?_
              refine lv_ishl hx hb dX6_isRing_105 ?_
              refine lv_topi (fun x_14619 ex_14619 => ?_)
              refine lv_iconst (v := (-1)) hx hb dX6_isRing_106 (by decide) ?_
              refine lv_ixor hx hb dX6_isRing_107 ?_
              refine lv_topi (fun x_14620 ex_14620 => ?_)
              refine lv_iand hx hb dX6_isRing_108 ?_
              refine lv_topi (fun x_14621 ex_14621 => ?_)
              refine lv_istore (lv' := [(5, .int x_14621), (4, .int x_14618), (7, .int r_14610), (0, .ref (ad 4 0)), (1, .int i1), (2, .int y54_2), (3, .int y54_3), (6, .int y54_6)]) hx hb dX6_isRing_109 hl (by decide) rfl (fun ls hl => ?_)
              refine lv_aload_n hx hb dX6_isRing_111 rfl (lv_at hl 3 rfl) ?_
              obtain ⟨v_14622, p_ad_4_0, b_14623⟩ := opnC_4 (j := 0) I (by decide)
              have p_ad_4_0 : pt L_14608 f_14609 (ad 4 0) (.inr (6, [.ref (ad 1 0), .int v_14622])) := p_ad_4_0
              refine pg_get S Y ok_X6 0 (by decide) kf6_9 (v := .ref (ad 1 0)) p_ad_4_0 rfl dX6_isRing_112 ?_
              obtain ⟨v_14624, v_14626, v_14628, v_14630, v_14632, p_ad_1_0, b_14625, b_14627, b_14629, b_14631, b_14633⟩ := opnC_1 (j := 0) I (by decide)
              have p_ad_1_0 : pt L_14608 f_14609 (ad 1 0) (.inr (10, [.ref (ad 40 0), .ref (ad 41 0), .ref (ad 42 0), .ref (ad 10 0), .ref (ad 43 0), .ref (ad 20 0), .ref (ad 20 1), .ref (ad 20 2), .ref (ad 20 3), .ref (ad 20 4), .int v_14624, .int v_14626, .int v_14628, .int v_14630, .int v_14632])) := p_ad_1_0
              refine pg_getN S Y ok_X10 3 (by decide) kf6_15 (v := .ref (ad 10 0)) p_ad_1_0 rfl dX6_isRing_115 ?_
              refine lv_iload hx hb dX6_isRing_118 (lv_at hl 2 rfl) ?_
              refine lv_iconst (v := 1) hx hb dX6_isRing_120 (by decide) ?_
              refine cVp (As := [.int r_14610, .int 1]) (rest := []) S Y (x_X4_get (l := l) (j := 0) I hW hT hQ (by decide)) cw_X4_get km6_27 (I.opo (k := 10) (j := 0) (by decide) rfl).choose_spec.1 ok_X4.1 rfl rfl ⟨Nat.le_of_ble_eq_true rfl, Nat.le_of_ble_eq_true rfl⟩ hl.1 rfl (Nat.le_of_ble_eq_true rfl) ⟨Nat.le_of_ble_eq_true rfl, Nat.le_of_ble_eq_true rfl⟩ dX6_isRing_121 (fun r_14634 H locs er_14634 Y => ?_)
              refine lv_istore_n (lv' := [(3, .int r_14634), (5, .int x_14621), (4, .int x_14618), (7, .int r_14610), (0, .ref (ad 4 0)), (1, .int i1), (2, .int y54_2), (6, .int y54_6)]) hx hb dX6_isRing_124 rfl hl (by decide) rfl (fun ls hl => ?_)
              obtain ⟨x_14635, ex_14635⟩ : ∃ z : Int32, z = y54_6 + 1 := ⟨_, rfl⟩
              refine lv_iinc (v := x_14635) (lv' := [(6, .int x_14635), (3, .int r_14634), (5, .int x_14621), (4, .int x_14618), (7, .int r_14610), (0, .ref (ad 4 0)), (1, .int i1), (2, .int y54_2)]) hx hb dX6_isRing_125 hl (k := 7) rfl (by rw [ex_14635]; rfl) (by decide) rfl (fun ls hl => ?_)
              refine lv_goto (tgt := 54) hx hb dX6_isRing_128 (by decide) ?_
              exact ih54 _ (by rw [← hm54]; exact ms_up (m := 1) ex_14635 (show bn 1 1 (1 : Int32) from bn_k (by decide)) B_14601 (bn_w (bn_eq ex_14635 (bn_add B_14601 (show bn 1 1 (1 : Int32) from bn_k (by decide)) (by decide))) (by decide) : bn 0 14 x_14635) (by decide)) y54_2 r_14634 x_14618 x_14621 x_14635 _ _  _ _ _ I (bn_w (bn_eq ex_14635 (bn_add B_14601 (show bn 1 1 (1 : Int32) from bn_k (by decide)) (by decide))) (by decide)) (bn_w b54_i1 (by decide)) rfl Y (lv_sub hl [5, 6, 7, 1, 3, 2, 0] rfl)
            · refine lv_iconst (v := 0) hx hb dX6_isRing_90 (by decide) ?_
              exact prI (post := fun r L1 f1 => bn 0 1 r ∧ SH (spC rs fc tc w q) nnC G ad L1 f1) S Y rfl (by decide) (by decide) hA1 ⟨bn_w (show bn 0 0 (0 : Int32) from bn_k (by decide)) (by decide), I⟩ dX6_isRing_91
  refine lv_iload_n hx hb dX6_isRing_0 rfl (lv_at hl 1 rfl) ?_
  refine lv_if_le (tgt := 20) hx hb dX6_isRing_1 (by decide) (fun c_14636 => ?_) (fun c_14636 => ?_)
  · have B_14637 : bn (-2147483648) 0 i1 := bn_w (bn_lel c_14636 (bn_any i1) (show bn 0 0 (0 : Int32) from bn_k (by decide))) (by decide)
    refine lv_iconst (v := 0) hx hb dX6_isRing_20 (by decide) ?_
    exact prI (post := fun r L1 f1 => bn 0 1 r ∧ SH (spC rs fc tc w q) nnC G ad L1 f1) S Y rfl (by decide) (by decide) hA1 ⟨bn_w (show bn 0 0 (0 : Int32) from bn_k (by decide)) (by decide), I⟩ dX6_isRing_21
  · have B_14638 : bn 1 2147483647 i1 := bn_w (bn_gtl c_14636 (bn_any i1) (show bn 0 0 (0 : Int32) from bn_k (by decide))) (by decide)
    refine lv_iload_n hx hb dX6_isRing_4 rfl (lv_at hl 1 rfl) ?_
    refine lv_iconst (v := 1) hx hb dX6_isRing_5 (by decide) ?_
    refine lv_aload_n hx hb dX6_isRing_6 rfl (lv_at hl 0 rfl) ?_
    obtain ⟨v_14639, p_ad_4_0, b_14640⟩ := opnC_4 (j := 0) I (by decide)
    have p_ad_4_0 : pt L f (ad 4 0) (.inr (6, [.ref (ad 1 0), .int v_14639])) := p_ad_4_0
    refine pg_get S Y ok_X6 0 (by decide) kf6_9 (v := .ref (ad 1 0)) p_ad_4_0 rfl dX6_isRing_7 ?_
    obtain ⟨v_14641, v_14643, v_14645, v_14647, v_14649, p_ad_1_0, b_14642, b_14644, b_14646, b_14648, b_14650⟩ := opnC_1 (j := 0) I (by decide)
    have p_ad_1_0 : pt L f (ad 1 0) (.inr (10, [.ref (ad 40 0), .ref (ad 41 0), .ref (ad 42 0), .ref (ad 10 0), .ref (ad 43 0), .ref (ad 20 0), .ref (ad 20 1), .ref (ad 20 2), .ref (ad 20 3), .ref (ad 20 4), .int v_14641, .int v_14643, .int v_14645, .int v_14647, .int v_14649])) := p_ad_1_0
    refine pg_getN S Y ok_X10 3 (by decide) kf6_15 (v := .ref (ad 10 0)) p_ad_1_0 rfl dX6_isRing_10 ?_
    obtain ⟨v_14651, v_14653, v_14655, v_14657, v_14659, p_ad_10_0, b_14652, b_14654, b_14656, b_14658, b_14660⟩ := opnC_10 (j := 0) I (by decide)
    have p_ad_10_0 : pt L f (ad 10 0) (.inr (4, [.ref (ad 11 0), .ref (ad 12 0), .int v_14651, .int v_14653, .int v_14655, .int v_14657, .int v_14659])) := p_ad_10_0
    refine pg_getN S Y ok_X4 2 (by decide) kf6_31 (v := .int v_14651) p_ad_10_0 rfl dX6_isRing_13 ?_
    refine lv_ishl hx hb dX6_isRing_16 ?_
    refine lv_topi (fun x_14661 ex_14661 => ?_)
    refine lv_icmp_lt (tgt := 22) hx hb dX6_isRing_17 (by decide) (fun c_14662 => ?_) (fun c_14662 => ?_)
    · have B_14663 : bn 1 16383 i1 := bn_w (bn_ltl c_14662 B_14638 (bn_eq ex_14661 (bn_shl (n := 14) (bn_w b_14652 (by decide) : bn 0 14 v_14651) (by decide) (by decide)))) (by decide)
      have B_14664 : bn 2 16384 x_14661 := bn_w (bn_ltr c_14662 B_14638 (bn_eq ex_14661 (bn_shl (n := 14) (bn_w b_14652 (by decide) : bn 0 14 v_14651) (by decide) (by decide)))) (by decide)
      refine lv_aload_n hx hb dX6_isRing_22 rfl (lv_at hl 0 rfl) ?_
      refine pg_get S Y ok_X6 0 (by decide) kf6_9 (v := .ref (ad 1 0)) p_ad_4_0 rfl dX6_isRing_23 ?_
      refine pg_getN S Y ok_X10 3 (by decide) kf6_15 (v := .ref (ad 10 0)) p_ad_1_0 rfl dX6_isRing_26 ?_
      refine lv_iload_n hx hb dX6_isRing_29 rfl (lv_at hl 1 rfl) ?_
      refine lv_iload_n hx hb dX6_isRing_30 rfl (lv_at hl 1 rfl) ?_
      refine lv_ineg hx hb dX6_isRing_31 ?_
      refine lv_topi (fun x_14665 ex_14665 => ?_)
      refine lv_iand hx hb dX6_isRing_32 ?_
      refine lv_topi (fun x_14666 ex_14666 => ?_)
      refine lv_iconst (v := 1) hx hb dX6_isRing_33 (by decide) ?_
      refine lv_isub hx hb dX6_isRing_34 ?_
      refine lv_topi (fun x_14667 ex_14667 => ?_)
      refine cSp (As := [.int x_14667]) (rest := [.ref (ad 10 0)]) S Y (x_bitCount (l := l) ) cw_X106_bitCount_0f7a4 km6_35 rfl ⟨Nat.le_of_ble_eq_true rfl, Nat.le_of_ble_eq_true rfl⟩ hl.1 rfl (Nat.le_of_ble_eq_true rfl) ⟨Nat.le_of_ble_eq_true rfl, Nat.le_of_ble_eq_true rfl⟩ dX6_isRing_35 (fun r_14668 H locs er_14668 Y => ?_)
      refine lv_iconst (v := 0) hx hb dX6_isRing_38 (by decide) ?_
      refine cVp (As := [.int r_14668, .int 0]) (rest := []) S Y (x_X4_get (l := l) (j := 0) I hW hT hQ (by decide)) cw_X4_get km6_27 p_ad_10_0 ok_X4.1 rfl rfl ⟨Nat.le_of_ble_eq_true rfl, Nat.le_of_ble_eq_true rfl⟩ hl.1 rfl (Nat.le_of_ble_eq_true rfl) ⟨Nat.le_of_ble_eq_true rfl, Nat.le_of_ble_eq_true rfl⟩ dX6_isRing_39 (fun r_14669 H locs er_14669 Y => ?_)
      refine lv_istore_n (lv' := [(2, .int r_14669), (0, .ref (ad 4 0)), (1, .int i1)]) hx hb dX6_isRing_42 rfl hl (by decide) rfl (fun ls hl => ?_)
      refine lv_iload_n hx hb dX6_isRing_43 rfl (lv_at hl 0 rfl) ?_
      refine lv_istore_n (lv' := [(3, .int r_14669), (2, .int r_14669), (0, .ref (ad 4 0)), (1, .int i1)]) hx hb dX6_isRing_44 rfl hl (by decide) rfl (fun ls hl => ?_)
      refine lv_iconst (v := 0) hx hb dX6_isRing_45 (by decide) ?_
      refine lv_istore (lv' := [(4, .int 0), (3, .int r_14669), (2, .int r_14669), (0, .ref (ad 4 0)), (1, .int i1)]) hx hb dX6_isRing_46 hl (by decide) rfl (fun ls hl => ?_)
      refine lv_iload_n hx hb dX6_isRing_48 rfl (lv_at hl 4 rfl) ?_
      refine lv_istore (lv' := [(5, .int i1), (4, .int 0), (3, .int r_14669), (2, .int r_14669), (0, .ref (ad 4 0)), (1, .int i1)]) hx hb dX6_isRing_49 hl (by decide) rfl (fun ls hl => ?_)
      refine lv_iconst (v := 0) hx hb dX6_isRing_51 (by decide) ?_
      refine lv_istore (lv' := [(6, .int 0), (5, .int i1), (4, .int 0), (3, .int r_14669), (2, .int r_14669), (0, .ref (ad 4 0)), (1, .int i1)]) hx hb dX6_isRing_52 hl (by decide) rfl (fun ls hl => ?_)
      exact J_54 _ r_14669 r_14669 0 i1 0 _ _  _ _ _ I (bn_w (show bn 0 0 (0 : Int32) from bn_k (by decide)) (by decide)) (bn_w B_14663 (by decide)) rfl Y (lv_sub hl [5, 6, 4, 3, 2, 1, 0] rfl)
    · refine lv_iconst (v := 0) hx hb dX6_isRing_20 (by decide) ?_
      exact prI (post := fun r L1 f1 => bn 0 1 r ∧ SH (spC rs fc tc w q) nnC G ad L1 f1) S Y rfl (by decide) (by decide) hA1 ⟨bn_w (show bn 0 0 (0 : Int32) from bn_k (by decide)) (by decide), I⟩ dX6_isRing_21
set_option maxHeartbeats 4000000 in
set_option maxRecDepth 100000 in
theorem x_X6_keepBetter {l : Launch} {G : GG}  {L : List Nat} {f : HF} {ad : Nat → Nat → Nat} {rs : RS} {fc : Int × Int} {tc w : Nat → Int × Int} {q : Nat → (Nat → Int32) → Prop} {i1 : Int32} (I : SH (spC rs fc tc w q) nnC G ad L f) (hW : WBp w 8) (hT : WBp tc 4) (hQ : QIp q) : PMv l yX6_keepBetter cX6_keepBetter 3 1 0 0 G [.ref (ad 4 0), .int i1] L f (fun L1 f1 => SH (spC rs fc tc w q) nnC G ad L1 f1) := by
  refine PMv.of (post := fun L1 f1 => SH (spC rs fc tc w q) nnC G ad L1 f1) (own := RX6) (by decide) rfl (Nat.le_of_ble_eq_true rfl) (fun sz p e s m args below meth c A ls hA1 hname S Y hl => ?_)
  have hx := S.hx
  have hb := S.hb
  have hl : lv_has ls 3 [(0, .ref (ad 4 0)), (1, .int i1)] := hl
  refine lv_aload_n hx hb dX6_keepBetter_0 rfl (lv_at hl 0 rfl) ?_
  obtain ⟨v_14708, p_ad_4_0, b_14709⟩ := opnC_4 (j := 0) I (by decide)
  have p_ad_4_0 : pt L f (ad 4 0) (.inr (6, [.ref (ad 1 0), .int v_14708])) := p_ad_4_0
  refine pg_get S Y ok_X6 1 (by decide) kf6_47 (v := .int v_14708) p_ad_4_0 rfl dX6_keepBetter_1 ?_
  refine cSp (As := [.int v_14708]) (rest := []) S Y (x_bitCount (l := l) ) cw_X106_bitCount_0f7a4 km6_35 rfl ⟨Nat.le_of_ble_eq_true rfl, Nat.le_of_ble_eq_true rfl⟩ hl.1 rfl (Nat.le_of_ble_eq_true rfl) ⟨Nat.le_of_ble_eq_true rfl, Nat.le_of_ble_eq_true rfl⟩ dX6_keepBetter_4 (fun r_14710 H locs er_14710 Y => ?_)
  refine lv_iload_n hx hb dX6_keepBetter_7 rfl (lv_at hl 1 rfl) ?_
  refine cSp (As := [.int i1]) (rest := [.int r_14710]) S Y (x_bitCount (l := l) ) cw_X106_bitCount_0f7a4 km6_35 rfl ⟨Nat.le_of_ble_eq_true rfl, Nat.le_of_ble_eq_true rfl⟩ hl.1 rfl (Nat.le_of_ble_eq_true rfl) ⟨Nat.le_of_ble_eq_true rfl, Nat.le_of_ble_eq_true rfl⟩ dX6_keepBetter_8 (fun r_14711 H locs er_14711 Y => ?_)
  refine lv_isub hx hb dX6_keepBetter_11 ?_
  refine lv_topi (fun x_14712 ex_14712 => ?_)
  refine lv_istore_n (lv' := [(2, .int x_14712), (0, .ref (ad 4 0)), (1, .int i1)]) hx hb dX6_keepBetter_12 rfl hl (by decide) rfl (fun ls hl => ?_)
  refine lv_aload_n hx hb dX6_keepBetter_13 rfl (lv_at hl 1 rfl) ?_
  refine pg_get S Y ok_X6 1 (by decide) kf6_47 (v := .int v_14708) p_ad_4_0 rfl dX6_keepBetter_14 ?_
  refine lv_if_eq (tgt := 36) hx hb dX6_keepBetter_17 (by decide) (fun c_14713 => ?_) (fun c_14713 => ?_)
  · have B_14714 : bn 0 0 v_14708 := bn_w (bn_eq c_14713 (show bn 0 0 (0 : Int32) from bn_k (by decide))) (by decide)
    refine lv_aload_n hx hb dX6_keepBetter_36 rfl (lv_at hl 1 rfl) ?_
    refine lv_iload_n hx hb dX6_keepBetter_37 rfl (lv_at hl 2 rfl) ?_
    refine pg_put S Y ok_X6 1 (by decide) kf6_47 rfl (fs' := [.ref (ad 1 0), .int i1]) (v := .int i1) p_ad_4_0 rfl rfl rfl (Nat.le_of_ble_eq_true rfl) dX6_keepBetter_38 (fun f_14715 H locs ef_14715 Y => ?_)
    have p_ad_4_0 := p_ad_4_0.me ef_14715
    have I := I.up (k := 4) (j := 0) (by decide) ef_14715 (okE_o (okFs_c okV_r (okFs_c (okV_i (bn_w (bn_any i1) (by decide))) okFs_n)))
    exact prV (post := fun L1 f1 => SH (spC rs fc tc w q) nnC G ad L1 f1) S Y (by decide) (by decide) hA1 I dX6_keepBetter_41
  · refine lv_iload_n hx hb dX6_keepBetter_20 rfl (lv_at hl 0 rfl) ?_
    refine lv_if_gt (tgt := 36) hx hb dX6_keepBetter_21 (by decide) (fun c_14716 => ?_) (fun c_14716 => ?_)
    · have B_14717 : bn 1 2147483647 x_14712 := bn_w (bn_ltr c_14716 (show bn 0 0 (0 : Int32) from bn_k (by decide)) (bn_any x_14712)) (by decide)
      refine lv_aload_n hx hb dX6_keepBetter_36 rfl (lv_at hl 1 rfl) ?_
      refine lv_iload_n hx hb dX6_keepBetter_37 rfl (lv_at hl 2 rfl) ?_
      refine pg_put S Y ok_X6 1 (by decide) kf6_47 rfl (fs' := [.ref (ad 1 0), .int i1]) (v := .int i1) p_ad_4_0 rfl rfl rfl (Nat.le_of_ble_eq_true rfl) dX6_keepBetter_38 (fun f_14719 H locs ef_14719 Y => ?_)
      have p_ad_4_0 := p_ad_4_0.me ef_14719
      have I := I.up (k := 4) (j := 0) (by decide) ef_14719 (okE_o (okFs_c okV_r (okFs_c (okV_i (bn_w (bn_any i1) (by decide))) okFs_n)))
      exact prV (post := fun L1 f1 => SH (spC rs fc tc w q) nnC G ad L1 f1) S Y (by decide) (by decide) hA1 I dX6_keepBetter_41
    · have B_14718 : bn (-2147483648) 0 x_14712 := bn_w (bn_ger c_14716 (show bn 0 0 (0 : Int32) from bn_k (by decide)) (bn_any x_14712)) (by decide)
      refine lv_iload_n hx hb dX6_keepBetter_24 rfl (lv_at hl 0 rfl) ?_
      refine lv_if_ne (tgt := 41) hx hb dX6_keepBetter_25 (by decide) (fun c_14720 => ?_) (fun c_14720 => ?_)
      · have B_14721 : bn (-2147483648) (-1) x_14712 := bn_w (bn_neu c_14720 B_14718 (show bn 0 0 (0 : Int32) from bn_k (by decide))) (by decide)
        exact prV (post := fun L1 f1 => SH (spC rs fc tc w q) nnC G ad L1 f1) S Y (by decide) (by decide) hA1 I dX6_keepBetter_41
      · have B_14722 : bn 0 0 x_14712 := bn_w (bn_eq c_14720 (show bn 0 0 (0 : Int32) from bn_k (by decide))) (by decide)
        refine lv_iload_n hx hb dX6_keepBetter_28 rfl (lv_at hl 2 rfl) ?_
        refine lv_aload_n hx hb dX6_keepBetter_29 rfl (lv_at hl 1 rfl) ?_
        refine pg_get S Y ok_X6 1 (by decide) kf6_47 (v := .int v_14708) p_ad_4_0 rfl dX6_keepBetter_30 ?_
        refine lv_icmp_ge (tgt := 41) hx hb dX6_keepBetter_33 (by decide) (fun c_14723 => ?_) (fun c_14723 => ?_)
        · exact prV (post := fun L1 f1 => SH (spC rs fc tc w q) nnC G ad L1 f1) S Y (by decide) (by decide) hA1 I dX6_keepBetter_41
        · have B_14724 : bn (-2147483647) 2147483647 v_14708 := bn_w (bn_gtl c_14723 (bn_any v_14708) (bn_any i1)) (by decide)
          have B_14725 : bn (-2147483648) 2147483646 i1 := bn_w (bn_gtr c_14723 (bn_any v_14708) (bn_any i1)) (by decide)
          refine lv_aload_n hx hb dX6_keepBetter_36 rfl (lv_at hl 1 rfl) ?_
          refine lv_iload_n hx hb dX6_keepBetter_37 rfl (lv_at hl 2 rfl) ?_
          refine pg_put S Y ok_X6 1 (by decide) kf6_47 rfl (fs' := [.ref (ad 1 0), .int i1]) (v := .int i1) p_ad_4_0 rfl rfl rfl (Nat.le_of_ble_eq_true rfl) dX6_keepBetter_38 (fun f_14726 H locs ef_14726 Y => ?_)
          have p_ad_4_0 := p_ad_4_0.me ef_14726
          have I := I.up (k := 4) (j := 0) (by decide) ef_14726 (okE_o (okFs_c okV_r (okFs_c (okV_i (bn_w B_14725 (by decide))) okFs_n)))
          exact prV (post := fun L1 f1 => SH (spC rs fc tc w q) nnC G ad L1 f1) S Y (by decide) (by decide) hA1 I dX6_keepBetter_41
