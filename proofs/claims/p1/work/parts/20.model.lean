theorem dX12_bits_0 : decode cX12_bits 0 = .ok (.iconst 0, 1) := by decide +kernel
theorem dX12_bits_1 : decode cX12_bits 1 = .ok (.istore_n 1, 1) := by decide +kernel
theorem dX12_bits_2 : decode cX12_bits 2 = .ok (.iload_n 0, 1) := by decide +kernel
theorem dX12_bits_3 : decode cX12_bits 3 = .ok (.istore_n 2, 1) := by decide +kernel
theorem dX12_bits_4 : decode cX12_bits 4 = .ok (.iload_n 2, 1) := by decide +kernel
theorem dX12_bits_5 : decode cX12_bits 5 = .ok (.ifCond .eq 15, 3) := by decide +kernel
theorem dX12_bits_20 : decode cX12_bits 20 = .ok (.iload_n 1, 1) := by decide +kernel
theorem dX12_bits_21 : decode cX12_bits 21 = .ok (.ireturn, 1) := by decide +kernel
theorem dX12_isOne_0 : decode cX12_isOne 0 = .ok (.iload_n 1, 1) := by decide +kernel
theorem dX12_isOne_1 : decode cX12_isOne 1 = .ok (.iconst 0, 1) := by decide +kernel
theorem dX12_isOne_2 : decode cX12_isOne 2 = .ok (.aload_n 0, 1) := by decide +kernel
theorem dX12_isOne_3 : decode cX12_isOne 3 = .ok (.getfield 7, 3) := by decide +kernel
theorem ok_X12 : clOK 12 RX12 TX12 32 tyX12 := ⟨rfl, fun w h => ⟨(show ∀ w ∈ u_ws RX12 TX12 32, w ∈ lw_tbl by decide +kernel) w h, (show ∀ w ∈ u_ws RX12 TX12 32, gw w = true by decide +kernel) w h⟩, tyX12_ok, nmX12⟩
theorem kf12_7 : inW (Cond.fieldLink RX12 7 "KneeOathsModel" "a" "[I") := ⟨List.mem_of_getElem? (i := 1498) (by decide +kernel), by decide +kernel⟩
theorem dX12_isOne_6 : decode cX12_isOne 6 = .ok (.iconst 0, 1) := by decide +kernel
theorem dX12_isOne_7 : decode cX12_isOne 7 = .ok (.iaload, 1) := by decide +kernel
theorem dX12_isOne_8 : decode cX12_isOne 8 = .ok (.iconst 1, 1) := by decide +kernel
theorem dX12_isOne_9 : decode cX12_isOne 9 = .ok (.isub, 1) := by decide +kernel
theorem dX12_isOne_10 : decode cX12_isOne 10 = .ok (.invokestatic 69, 3) := by decide +kernel
theorem cw_X12_isIn : CWs yX12_isIn cX12_isIn 3 (some .boolean) 3 := ⟨⟨⟨List.mem_of_getElem? (i := 137) (by decide +kernel), by decide +kernel⟩, ⟨List.mem_of_getElem? (i := 1603) (by decide +kernel), by decide +kernel⟩, by decide +kernel⟩, ⟨List.mem_of_getElem? (i := 1602) (by decide +kernel), by decide +kernel⟩⟩
theorem km12_69 : inW (Cond.methodLink RX12 69 yX12_isIn) := ⟨List.mem_of_getElem? (i := 1601) (by decide +kernel), by decide +kernel⟩
theorem dX12_isOne_13 : decode cX12_isOne 13 = .ok (.ireturn, 1) := by decide +kernel
theorem dX12_isOath_0 : decode cX12_isOath 0 = .ok (.iload_n 1, 1) := by decide +kernel
theorem dX12_isOath_1 : decode cX12_isOath 1 = .ok (.iconst 0, 1) := by decide +kernel
theorem dX12_isOath_2 : decode cX12_isOath 2 = .ok (.aload_n 0, 1) := by decide +kernel
theorem dX12_isOath_3 : decode cX12_isOath 3 = .ok (.getfield 7, 3) := by decide +kernel
theorem dX12_isOath_6 : decode cX12_isOath 6 = .ok (.bipush 13, 2) := by decide +kernel
theorem dX12_isOath_8 : decode cX12_isOath 8 = .ok (.iaload, 1) := by decide +kernel
theorem dX12_isOath_9 : decode cX12_isOath 9 = .ok (.iconst 1, 1) := by decide +kernel
theorem dX12_isOath_10 : decode cX12_isOath 10 = .ok (.isub, 1) := by decide +kernel
theorem dX12_isOath_11 : decode cX12_isOath 11 = .ok (.invokestatic 69, 3) := by decide +kernel
theorem dX12_isOath_14 : decode cX12_isOath 14 = .ok (.ireturn, 1) := by decide +kernel
theorem dX12_legibleOn_0 : decode cX12_legibleOn 0 = .ok (.iconst 0, 1) := by decide +kernel
theorem dX12_legibleOn_1 : decode cX12_legibleOn 1 = .ok (.istore_n 2, 1) := by decide +kernel
theorem dX12_legibleOn_2 : decode cX12_legibleOn 2 = .ok (.iconst 0, 1) := by decide +kernel
theorem dX12_legibleOn_3 : decode cX12_legibleOn 3 = .ok (.istore_n 3, 1) := by decide +kernel
theorem dX12_legibleOn_4 : decode cX12_legibleOn 4 = .ok (.iload_n 3, 1) := by decide +kernel
theorem dX12_legibleOn_5 : decode cX12_legibleOn 5 = .ok (.aload_n 0, 1) := by decide +kernel
theorem dX12_legibleOn_6 : decode cX12_legibleOn 6 = .ok (.getfield 7, 3) := by decide +kernel
theorem dX12_legibleOn_9 : decode cX12_legibleOn 9 = .ok (.bipush 13, 2) := by decide +kernel
theorem dX12_legibleOn_11 : decode cX12_legibleOn 11 = .ok (.iaload, 1) := by decide +kernel
theorem dX12_legibleOn_12 : decode cX12_legibleOn 12 = .ok (.if_icmp .ge 37, 3) := by decide +kernel
theorem dX12_legibleOn_49 : decode cX12_legibleOn 49 = .ok (.iload_n 2, 1) := by decide +kernel
theorem dX12_legibleOn_50 : decode cX12_legibleOn 50 = .ok (.ireturn, 1) := by decide +kernel
theorem dX12_legible_0 : decode cX12_legible 0 = .ok (.iconst 0, 1) := by decide +kernel
theorem dX12_legible_1 : decode cX12_legible 1 = .ok (.istore_n 1, 1) := by decide +kernel
theorem dX12_legible_2 : decode cX12_legible 2 = .ok (.iconst 0, 1) := by decide +kernel
theorem dX12_legible_3 : decode cX12_legible 3 = .ok (.istore_n 2, 1) := by decide +kernel
theorem dX12_legible_4 : decode cX12_legible 4 = .ok (.iload_n 2, 1) := by decide +kernel
theorem dX12_legible_5 : decode cX12_legible 5 = .ok (.aload_n 0, 1) := by decide +kernel
theorem dX12_legible_6 : decode cX12_legible 6 = .ok (.getfield 7, 3) := by decide +kernel
theorem dX12_legible_9 : decode cX12_legible 9 = .ok (.bipush 13, 2) := by decide +kernel
theorem dX12_legible_11 : decode cX12_legible 11 = .ok (.iaload, 1) := by decide +kernel
theorem dX12_legible_12 : decode cX12_legible 12 = .ok (.if_icmp .ge 27, 3) := by decide +kernel
theorem dX12_legible_39 : decode cX12_legible 39 = .ok (.iload_n 1, 1) := by decide +kernel
theorem dX12_legible_40 : decode cX12_legible 40 = .ok (.ireturn, 1) := by decide +kernel
theorem dX12_keptOnes_0 : decode cX12_keptOnes 0 = .ok (.iconst 0, 1) := by decide +kernel
theorem dX12_keptOnes_1 : decode cX12_keptOnes 1 = .ok (.istore_n 1, 1) := by decide +kernel
theorem dX12_keptOnes_2 : decode cX12_keptOnes 2 = .ok (.iconst 0, 1) := by decide +kernel
theorem dX12_keptOnes_3 : decode cX12_keptOnes 3 = .ok (.istore_n 2, 1) := by decide +kernel
theorem dX12_keptOnes_4 : decode cX12_keptOnes 4 = .ok (.iload_n 2, 1) := by decide +kernel
theorem dX12_keptOnes_5 : decode cX12_keptOnes 5 = .ok (.aload_n 0, 1) := by decide +kernel
theorem dX12_keptOnes_6 : decode cX12_keptOnes 6 = .ok (.getfield 7, 3) := by decide +kernel
theorem dX12_keptOnes_9 : decode cX12_keptOnes 9 = .ok (.bipush 13, 2) := by decide +kernel
theorem dX12_keptOnes_11 : decode cX12_keptOnes 11 = .ok (.iaload, 1) := by decide +kernel
theorem dX12_keptOnes_12 : decode cX12_keptOnes 12 = .ok (.if_icmp .ge 28, 3) := by decide +kernel
theorem dX12_keptOnes_40 : decode cX12_keptOnes 40 = .ok (.iload_n 1, 1) := by decide +kernel
theorem dX12_keptOnes_41 : decode cX12_keptOnes 41 = .ok (.ireturn, 1) := by decide +kernel
theorem dX12_isAtPeace_0 : decode cX12_isAtPeace 0 = .ok (.iconst 0, 1) := by decide +kernel
theorem dX12_isAtPeace_1 : decode cX12_isAtPeace 1 = .ok (.istore_n 2, 1) := by decide +kernel
theorem dX12_isAtPeace_2 : decode cX12_isAtPeace 2 = .ok (.iload_n 2, 1) := by decide +kernel
theorem dX12_isAtPeace_3 : decode cX12_isAtPeace 3 = .ok (.aload_n 0, 1) := by decide +kernel
theorem dX12_isAtPeace_4 : decode cX12_isAtPeace 4 = .ok (.getfield 7, 3) := by decide +kernel
theorem dX12_isAtPeace_7 : decode cX12_isAtPeace 7 = .ok (.iconst 5, 1) := by decide +kernel
theorem dX12_isAtPeace_8 : decode cX12_isAtPeace 8 = .ok (.iaload, 1) := by decide +kernel
theorem dX12_isAtPeace_9 : decode cX12_isAtPeace 9 = .ok (.if_icmp .ge 51, 3) := by decide +kernel
theorem dX12_isAtPeace_60 : decode cX12_isAtPeace 60 = .ok (.iconst 1, 1) := by decide +kernel
theorem dX12_isAtPeace_61 : decode cX12_isAtPeace 61 = .ok (.ireturn, 1) := by decide +kernel
theorem dX12_shown_0 : decode cX12_shown 0 = .ok (.aload_n 0, 1) := by decide +kernel
theorem dX12_shown_1 : decode cX12_shown 1 = .ok (.getfield 7, 3) := by decide +kernel
theorem dX12_shown_4 : decode cX12_shown 4 = .ok (.bipush 14, 2) := by decide +kernel
theorem dX12_shown_6 : decode cX12_shown 6 = .ok (.iaload, 1) := by decide +kernel
theorem dX12_shown_7 : decode cX12_shown 7 = .ok (.bipush 30, 2) := by decide +kernel
theorem dX12_shown_9 : decode cX12_shown 9 = .ok (.if_icmp .ge 13, 3) := by decide +kernel
theorem dX12_shown_12 : decode cX12_shown 12 = .ok (.aload_n 0, 1) := by decide +kernel
theorem dX12_shown_13 : decode cX12_shown 13 = .ok (.getfield 7, 3) := by decide +kernel
theorem dX12_shown_16 : decode cX12_shown 16 = .ok (.bipush 14, 2) := by decide +kernel
theorem dX12_shown_18 : decode cX12_shown 18 = .ok (.iaload, 1) := by decide +kernel
theorem dX12_shown_19 : decode cX12_shown 19 = .ok (.goto 5, 3) := by decide +kernel
theorem dX12_shown_24 : decode cX12_shown 24 = .ok (.ireturn, 1) := by decide +kernel
theorem dX12_workOf_0 : decode cX12_workOf 0 = .ok (.iconst 0, 1) := by decide +kernel
theorem dX12_workOf_1 : decode cX12_workOf 1 = .ok (.istore_n 2, 1) := by decide +kernel
theorem dX12_workOf_2 : decode cX12_workOf 2 = .ok (.iconst 0, 1) := by decide +kernel
theorem dX12_workOf_3 : decode cX12_workOf 3 = .ok (.istore_n 3, 1) := by decide +kernel
theorem dX12_workOf_4 : decode cX12_workOf 4 = .ok (.iload_n 3, 1) := by decide +kernel
theorem dX12_workOf_5 : decode cX12_workOf 5 = .ok (.aload_n 0, 1) := by decide +kernel
theorem dX12_workOf_6 : decode cX12_workOf 6 = .ok (.getfield 7, 3) := by decide +kernel
theorem dX12_workOf_9 : decode cX12_workOf 9 = .ok (.bipush 6, 2) := by decide +kernel
theorem dX12_workOf_11 : decode cX12_workOf 11 = .ok (.iaload, 1) := by decide +kernel
theorem dX12_workOf_12 : decode cX12_workOf 12 = .ok (.if_icmp .ge 36, 3) := by decide +kernel
theorem dX12_workOf_48 : decode cX12_workOf 48 = .ok (.iload_n 2, 1) := by decide +kernel
theorem dX12_workOf_49 : decode cX12_workOf 49 = .ok (.ireturn, 1) := by decide +kernel
theorem dX12_ownOf_0 : decode cX12_ownOf 0 = .ok (.iconst 0, 1) := by decide +kernel
theorem dX12_ownOf_1 : decode cX12_ownOf 1 = .ok (.istore_n 2, 1) := by decide +kernel
theorem dX12_ownOf_2 : decode cX12_ownOf 2 = .ok (.iconst 0, 1) := by decide +kernel
theorem dX12_ownOf_3 : decode cX12_ownOf 3 = .ok (.istore_n 3, 1) := by decide +kernel
theorem dX12_ownOf_4 : decode cX12_ownOf 4 = .ok (.iload_n 3, 1) := by decide +kernel
theorem dX12_ownOf_5 : decode cX12_ownOf 5 = .ok (.aload_n 0, 1) := by decide +kernel
theorem dX12_ownOf_6 : decode cX12_ownOf 6 = .ok (.getfield 7, 3) := by decide +kernel
theorem dX12_ownOf_9 : decode cX12_ownOf 9 = .ok (.bipush 13, 2) := by decide +kernel
theorem dX12_ownOf_11 : decode cX12_ownOf 11 = .ok (.iaload, 1) := by decide +kernel
theorem dX12_ownOf_12 : decode cX12_ownOf 12 = .ok (.if_icmp .ge 47, 3) := by decide +kernel
theorem dX12_ownOf_59 : decode cX12_ownOf 59 = .ok (.iload_n 2, 1) := by decide +kernel
theorem dX12_ownOf_60 : decode cX12_ownOf 60 = .ok (.ireturn, 1) := by decide +kernel
theorem dX12_canSwear_0 : decode cX12_canSwear 0 = .ok (.aload_n 0, 1) := by decide +kernel
theorem dX12_canSwear_1 : decode cX12_canSwear 1 = .ok (.iload_n 1, 1) := by decide +kernel
theorem dX12_canSwear_2 : decode cX12_canSwear 2 = .ok (.invokevirtual 323, 3) := by decide +kernel
theorem cw_X12_isOne : CWv yX12_isOne cX12_isOne 2 (some .boolean) 1 := ⟨⟨⟨List.mem_of_getElem? (i := 137) (by decide +kernel), by decide +kernel⟩, ⟨List.mem_of_getElem? (i := 1788) (by decide +kernel), by decide +kernel⟩, by decide +kernel⟩, ⟨List.mem_of_getElem? (i := 1787) (by decide +kernel), by decide +kernel⟩, ⟨List.mem_of_getElem? (i := 79) (by decide +kernel), by decide +kernel⟩⟩
theorem km12_323 : inW (Cond.methodLink RX12 323 yX12_isOne) := ⟨List.mem_of_getElem? (i := 1785) (by decide +kernel), by decide +kernel⟩
theorem dX12_canSwear_5 : decode cX12_canSwear 5 = .ok (.ifCond .eq 32, 3) := by decide +kernel
theorem dX12_canSwear_37 : decode cX12_canSwear 37 = .ok (.iconst 0, 1) := by decide +kernel
theorem dX12_canSwear_38 : decode cX12_canSwear 38 = .ok (.ireturn, 1) := by decide +kernel
theorem dX12_one_0 : decode cX12_one 0 = .ok (.iload_n 1, 1) := by decide +kernel
theorem dX12_one_1 : decode cX12_one 1 = .ok (.iconst 0, 1) := by decide +kernel
theorem dX12_one_2 : decode cX12_one 2 = .ok (.bipush 9, 2) := by decide +kernel
theorem dX12_one_4 : decode cX12_one 4 = .ok (.invokestatic 69, 3) := by decide +kernel
theorem dX12_one_7 : decode cX12_one 7 = .ok (.ifCond .eq 24, 3) := by decide +kernel
theorem dX12_one_31 : decode cX12_one 31 = .ok (.iconst (-1), 1) := by decide +kernel
theorem dX12_one_32 : decode cX12_one 32 = .ok (.ireturn, 1) := by decide +kernel
theorem dX12_one_10 : decode cX12_one 10 = .ok (.iload_n 2, 1) := by decide +kernel
theorem dX12_one_11 : decode cX12_one 11 = .ok (.iconst 0, 1) := by decide +kernel
theorem dX12_one_12 : decode cX12_one 12 = .ok (.bipush 99, 2) := by decide +kernel
theorem dX12_one_14 : decode cX12_one 14 = .ok (.invokestatic 69, 3) := by decide +kernel
theorem dX12_one_17 : decode cX12_one 17 = .ok (.ifCond .eq 14, 3) := by decide +kernel
theorem dX12_one_20 : decode cX12_one 20 = .ok (.aload_n 0, 1) := by decide +kernel
theorem dX12_one_21 : decode cX12_one 21 = .ok (.getfield 7, 3) := by decide +kernel
theorem dX12_one_24 : decode cX12_one 24 = .ok (.iconst 0, 1) := by decide +kernel
theorem dX12_one_25 : decode cX12_one 25 = .ok (.iaload, 1) := by decide +kernel
theorem dX12_one_26 : decode cX12_one 26 = .ok (.bipush 6, 2) := by decide +kernel
theorem dX12_one_28 : decode cX12_one 28 = .ok (.if_icmp .ne 5, 3) := by decide +kernel
theorem dX12_one_33 : decode cX12_one 33 = .ok (.aload_n 0, 1) := by decide +kernel
theorem dX12_one_34 : decode cX12_one 34 = .ok (.getfield 7, 3) := by decide +kernel
theorem dX12_one_37 : decode cX12_one 37 = .ok (.bipush 114, 2) := by decide +kernel
theorem dX12_one_39 : decode cX12_one 39 = .ok (.iconst 2, 1) := by decide +kernel
theorem dX12_one_40 : decode cX12_one 40 = .ok (.aload_n 0, 1) := by decide +kernel
theorem dX12_one_41 : decode cX12_one 41 = .ok (.getfield 7, 3) := by decide +kernel
theorem dX12_one_44 : decode cX12_one 44 = .ok (.iconst 0, 1) := by decide +kernel
theorem dX12_one_45 : decode cX12_one 45 = .ok (.iaload, 1) := by decide +kernel
theorem dX12_one_46 : decode cX12_one 46 = .ok (.imul, 1) := by decide +kernel
theorem dX12_one_47 : decode cX12_one 47 = .ok (.iadd, 1) := by decide +kernel
theorem dX12_one_48 : decode cX12_one 48 = .ok (.iload_n 1, 1) := by decide +kernel
theorem dX12_one_49 : decode cX12_one 49 = .ok (.iastore, 1) := by decide +kernel
theorem dX12_one_50 : decode cX12_one 50 = .ok (.aload_n 0, 1) := by decide +kernel
theorem dX12_one_51 : decode cX12_one 51 = .ok (.getfield 7, 3) := by decide +kernel
theorem dX12_one_54 : decode cX12_one 54 = .ok (.bipush 114, 2) := by decide +kernel
theorem dX12_one_56 : decode cX12_one 56 = .ok (.iconst 2, 1) := by decide +kernel
theorem dX12_one_57 : decode cX12_one 57 = .ok (.aload_n 0, 1) := by decide +kernel
theorem dX12_one_58 : decode cX12_one 58 = .ok (.getfield 7, 3) := by decide +kernel
theorem dX12_one_61 : decode cX12_one 61 = .ok (.iconst 0, 1) := by decide +kernel
theorem dX12_one_62 : decode cX12_one 62 = .ok (.iaload, 1) := by decide +kernel
theorem dX12_one_63 : decode cX12_one 63 = .ok (.imul, 1) := by decide +kernel
theorem dX12_one_64 : decode cX12_one 64 = .ok (.iadd, 1) := by decide +kernel
theorem dX12_one_65 : decode cX12_one 65 = .ok (.iconst 1, 1) := by decide +kernel
theorem dX12_one_66 : decode cX12_one 66 = .ok (.iadd, 1) := by decide +kernel
theorem dX12_one_67 : decode cX12_one 67 = .ok (.iload_n 2, 1) := by decide +kernel
theorem dX12_one_68 : decode cX12_one 68 = .ok (.iastore, 1) := by decide +kernel
theorem dX12_one_69 : decode cX12_one 69 = .ok (.aload_n 0, 1) := by decide +kernel
theorem dX12_one_70 : decode cX12_one 70 = .ok (.getfield 7, 3) := by decide +kernel
theorem dX12_one_73 : decode cX12_one 73 = .ok (.iconst 0, 1) := by decide +kernel
theorem dX12_one_74 : decode cX12_one 74 = .ok (.dup2, 1) := by decide +kernel
theorem dX12_one_75 : decode cX12_one 75 = .ok (.iaload, 1) := by decide +kernel
theorem dX12_one_76 : decode cX12_one 76 = .ok (.iconst 1, 1) := by decide +kernel
theorem dX12_one_77 : decode cX12_one 77 = .ok (.iadd, 1) := by decide +kernel
theorem dX12_one_78 : decode cX12_one 78 = .ok (.iastore, 1) := by decide +kernel
theorem dX12_one_79 : decode cX12_one 79 = .ok (.aload_n 0, 1) := by decide +kernel
theorem dX12_one_80 : decode cX12_one 80 = .ok (.getfield 7, 3) := by decide +kernel
theorem dX12_one_83 : decode cX12_one 83 = .ok (.iconst 0, 1) := by decide +kernel
theorem dX12_one_84 : decode cX12_one 84 = .ok (.iaload, 1) := by decide +kernel
theorem dX12_one_85 : decode cX12_one 85 = .ok (.iconst 1, 1) := by decide +kernel
theorem dX12_one_86 : decode cX12_one 86 = .ok (.isub, 1) := by decide +kernel
theorem dX12_one_87 : decode cX12_one 87 = .ok (.ireturn, 1) := by decide +kernel
theorem dX12_four_0 : decode cX12_four 0 = .ok (.bipush 24, 2) := by decide +kernel
theorem dX12_four_2 : decode cX12_four 2 = .ok (.istore_n 2, 1) := by decide +kernel
theorem dX12_four_3 : decode cX12_four 3 = .ok (.iload_n 2, 1) := by decide +kernel
theorem dX12_four_4 : decode cX12_four 4 = .ok (.ifCond .lt 35, 3) := by decide +kernel
theorem dX12_four_7 : decode cX12_four 7 = .ok (.aload_n 0, 1) := by decide +kernel
theorem dX12_four_8 : decode cX12_four 8 = .ok (.getfield 19, 3) := by decide +kernel
theorem kf12_19 : inW (Cond.fieldLink RX12 19 "KneeOathsModel" "tape" "[I") := ⟨List.mem_of_getElem? (i := 1501) (by decide +kernel), by decide +kernel⟩
theorem dX12_four_11 : decode cX12_four 11 = .ok (.aload_n 0, 1) := by decide +kernel
theorem dX12_four_12 : decode cX12_four 12 = .ok (.getfield 81, 3) := by decide +kernel
theorem kf12_81 : inW (Cond.fieldLink RX12 81 "KneeOathsModel" "taped" "I") := ⟨List.mem_of_getElem? (i := 1502) (by decide +kernel), by decide +kernel⟩
theorem dX12_four_15 : decode cX12_four 15 = .ok (.iload_n 1, 1) := by decide +kernel
theorem dX12_four_16 : decode cX12_four 16 = .ok (.iload_n 2, 1) := by decide +kernel
theorem dX12_four_17 : decode cX12_four 17 = .ok (.ishr, 1) := by decide +kernel
theorem dX12_four_18 : decode cX12_four 18 = .ok (.sipush 255, 3) := by decide +kernel
theorem dX12_four_21 : decode cX12_four 21 = .ok (.iand, 1) := by decide +kernel
theorem dX12_four_22 : decode cX12_four 22 = .ok (.iastore, 1) := by decide +kernel
theorem dX12_four_23 : decode cX12_four 23 = .ok (.aload_n 0, 1) := by decide +kernel
theorem dX12_four_24 : decode cX12_four 24 = .ok (.dup, 1) := by decide +kernel
theorem dX12_four_25 : decode cX12_four 25 = .ok (.getfield 81, 3) := by decide +kernel
theorem dX12_four_28 : decode cX12_four 28 = .ok (.iconst 1, 1) := by decide +kernel
theorem dX12_four_29 : decode cX12_four 29 = .ok (.iadd, 1) := by decide +kernel
theorem dX12_four_30 : decode cX12_four 30 = .ok (.putfield 81, 3) := by decide +kernel
theorem dX12_four_33 : decode cX12_four 33 = .ok (.iinc 2 (-8), 3) := by decide +kernel
theorem dX12_four_36 : decode cX12_four 36 = .ok (.goto (-33), 3) := by decide +kernel
theorem dX12_four_39 : decode cX12_four 39 = .ok (.return_, 1) := by decide +kernel
theorem dX12_feed_0 : decode cX12_feed 0 = .ok (.aload_n 0, 1) := by decide +kernel
theorem dX12_feed_1 : decode cX12_feed 1 = .ok (.getfield 81, 3) := by decide +kernel
theorem dX12_feed_4 : decode cX12_feed 4 = .ok (.bipush 20, 2) := by decide +kernel
theorem dX12_feed_6 : decode cX12_feed 6 = .ok (.iadd, 1) := by decide +kernel
theorem dX12_feed_7 : decode cX12_feed 7 = .ok (.sipush 300, 3) := by decide +kernel
theorem dX12_feed_10 : decode cX12_feed 10 = .ok (.if_icmp .le 5, 3) := by decide +kernel
theorem dX12_feed_15 : decode cX12_feed 15 = .ok (.aload_n 0, 1) := by decide +kernel
theorem dX12_feed_16 : decode cX12_feed 16 = .ok (.iload_n 1, 1) := by decide +kernel
theorem dX12_feed_17 : decode cX12_feed 17 = .ok (.invokevirtual 84, 3) := by decide +kernel
theorem cw_X12_four : CWv yX12_four cX12_four 3 none 1 := ⟨⟨⟨List.mem_of_getElem? (i := 137) (by decide +kernel), by decide +kernel⟩, ⟨List.mem_of_getElem? (i := 1611) (by decide +kernel), by decide +kernel⟩, by decide +kernel⟩, ⟨List.mem_of_getElem? (i := 1610) (by decide +kernel), by decide +kernel⟩, ⟨List.mem_of_getElem? (i := 48) (by decide +kernel), by decide +kernel⟩⟩
theorem km12_84 : inW (Cond.methodLink RX12 84 yX12_four) := ⟨List.mem_of_getElem? (i := 1608) (by decide +kernel), by decide +kernel⟩
theorem dX12_feed_20 : decode cX12_feed 20 = .ok (.aload_n 0, 1) := by decide +kernel
theorem dX12_feed_21 : decode cX12_feed 21 = .ok (.iload_n 2, 1) := by decide +kernel
theorem dX12_feed_22 : decode cX12_feed 22 = .ok (.invokevirtual 84, 3) := by decide +kernel
theorem dX12_feed_25 : decode cX12_feed 25 = .ok (.aload_n 0, 1) := by decide +kernel
theorem dX12_feed_26 : decode cX12_feed 26 = .ok (.iload_n 3, 1) := by decide +kernel
theorem dX12_feed_27 : decode cX12_feed 27 = .ok (.invokevirtual 84, 3) := by decide +kernel
theorem dX12_feed_30 : decode cX12_feed 30 = .ok (.aload_n 0, 1) := by decide +kernel
theorem dX12_feed_31 : decode cX12_feed 31 = .ok (.iload 4, 2) := by decide +kernel
theorem dX12_feed_33 : decode cX12_feed 33 = .ok (.invokevirtual 84, 3) := by decide +kernel
theorem dX12_feed_36 : decode cX12_feed 36 = .ok (.aload_n 0, 1) := by decide +kernel
theorem dX12_feed_37 : decode cX12_feed 37 = .ok (.iload 5, 2) := by decide +kernel
theorem dX12_feed_39 : decode cX12_feed 39 = .ok (.invokevirtual 84, 3) := by decide +kernel
theorem dX12_feed_42 : decode cX12_feed 42 = .ok (.aload_n 0, 1) := by decide +kernel
theorem dX12_feed_43 : decode cX12_feed 43 = .ok (.getfield 81, 3) := by decide +kernel
theorem dX12_feed_46 : decode cX12_feed 46 = .ok (.ireturn, 1) := by decide +kernel
theorem dX12_end_0 : decode cX12_end 0 = .ok (.iload_n 1, 1) := by decide +kernel
theorem dX12_end_1 : decode cX12_end 1 = .ok (.iconst 0, 1) := by decide +kernel
theorem dX12_end_2 : decode cX12_end 2 = .ok (.aload_n 0, 1) := by decide +kernel
theorem dX12_end_3 : decode cX12_end 3 = .ok (.getfield 81, 3) := by decide +kernel
theorem dX12_end_6 : decode cX12_end 6 = .ok (.invokestatic 69, 3) := by decide +kernel
theorem dX12_end_9 : decode cX12_end 9 = .ok (.ifCond .ne 5, 3) := by decide +kernel
theorem dX12_end_14 : decode cX12_end 14 = .ok (.aload_n 0, 1) := by decide +kernel
theorem dX12_end_15 : decode cX12_end 15 = .ok (.iload_n 1, 1) := by decide +kernel
theorem dX12_end_16 : decode cX12_end 16 = .ok (.putfield 81, 3) := by decide +kernel
theorem dX12_end_19 : decode cX12_end 19 = .ok (.iload_n 1, 1) := by decide +kernel
theorem dX12_end_20 : decode cX12_end 20 = .ok (.ireturn, 1) := by decide +kernel
theorem dX12_end_12 : decode cX12_end 12 = .ok (.iconst (-1), 1) := by decide +kernel
theorem dX12_end_13 : decode cX12_end 13 = .ok (.ireturn, 1) := by decide +kernel
theorem dX12_byteAt_0 : decode cX12_byteAt 0 = .ok (.iload_n 1, 1) := by decide +kernel
theorem dX12_byteAt_1 : decode cX12_byteAt 1 = .ok (.aload_n 0, 1) := by decide +kernel
theorem dX12_byteAt_2 : decode cX12_byteAt 2 = .ok (.getfield 81, 3) := by decide +kernel
theorem dX12_byteAt_5 : decode cX12_byteAt 5 = .ok (.if_icmp .ge 12, 3) := by decide +kernel
theorem dX12_byteAt_17 : decode cX12_byteAt 17 = .ok (.iconst (-1), 1) := by decide +kernel
theorem dX12_byteAt_18 : decode cX12_byteAt 18 = .ok (.ireturn, 1) := by decide +kernel
theorem dX12_nextToken_0 : decode cX12_nextToken 0 = .ok (.aload_n 0, 1) := by decide +kernel
theorem dX12_nextToken_1 : decode cX12_nextToken 1 = .ok (.aload_n 0, 1) := by decide +kernel
theorem dX12_nextToken_2 : decode cX12_nextToken 2 = .ok (.getfield 88, 3) := by decide +kernel
theorem kf12_88 : inW (Cond.fieldLink RX12 88 "KneeOathsModel" "at" "I") := ⟨List.mem_of_getElem? (i := 1505) (by decide +kernel), by decide +kernel⟩
theorem dX12_nextToken_5 : decode cX12_nextToken 5 = .ok (.invokevirtual 91, 3) := by decide +kernel
theorem cw_X12_byteAt : CWv yX12_byteAt cX12_byteAt 2 (some .int) 1 := ⟨⟨⟨List.mem_of_getElem? (i := 137) (by decide +kernel), by decide +kernel⟩, ⟨List.mem_of_getElem? (i := 1631) (by decide +kernel), by decide +kernel⟩, by decide +kernel⟩, ⟨List.mem_of_getElem? (i := 1630) (by decide +kernel), by decide +kernel⟩, ⟨List.mem_of_getElem? (i := 51) (by decide +kernel), by decide +kernel⟩⟩
theorem km12_91 : inW (Cond.methodLink RX12 91 yX12_byteAt) := ⟨List.mem_of_getElem? (i := 1628) (by decide +kernel), by decide +kernel⟩
theorem dX12_nextToken_8 : decode cX12_nextToken 8 = .ok (.bipush 32, 2) := by decide +kernel
theorem dX12_nextToken_10 : decode cX12_nextToken 10 = .ok (.if_icmp .eq 16, 3) := by decide +kernel
theorem dX12_nextToken_13 : decode cX12_nextToken 13 = .ok (.aload_n 0, 1) := by decide +kernel
theorem dX12_nextToken_14 : decode cX12_nextToken 14 = .ok (.aload_n 0, 1) := by decide +kernel
theorem dX12_nextToken_15 : decode cX12_nextToken 15 = .ok (.getfield 88, 3) := by decide +kernel
theorem dX12_nextToken_18 : decode cX12_nextToken 18 = .ok (.invokevirtual 91, 3) := by decide +kernel
theorem dX12_nextToken_21 : decode cX12_nextToken 21 = .ok (.bipush 10, 2) := by decide +kernel
theorem dX12_nextToken_23 : decode cX12_nextToken 23 = .ok (.if_icmp .ne 16, 3) := by decide +kernel
theorem dX12_nextToken_39 : decode cX12_nextToken 39 = .ok (.aload_n 0, 1) := by decide +kernel
theorem dX12_nextToken_40 : decode cX12_nextToken 40 = .ok (.aload_n 0, 1) := by decide +kernel
theorem dX12_nextToken_41 : decode cX12_nextToken 41 = .ok (.getfield 88, 3) := by decide +kernel
theorem dX12_nextToken_44 : decode cX12_nextToken 44 = .ok (.putfield 95, 3) := by decide +kernel
theorem kf12_95 : inW (Cond.fieldLink RX12 95 "KneeOathsModel" "place" "I") := ⟨List.mem_of_getElem? (i := 1506) (by decide +kernel), by decide +kernel⟩
theorem dX12_nextToken_47 : decode cX12_nextToken 47 = .ok (.aload_n 0, 1) := by decide +kernel
theorem dX12_nextToken_48 : decode cX12_nextToken 48 = .ok (.aload_n 0, 1) := by decide +kernel
theorem dX12_nextToken_49 : decode cX12_nextToken 49 = .ok (.getfield 88, 3) := by decide +kernel
theorem dX12_nextToken_52 : decode cX12_nextToken 52 = .ok (.invokevirtual 91, 3) := by decide +kernel
theorem dX12_nextToken_55 : decode cX12_nextToken 55 = .ok (.istore_n 1, 1) := by decide +kernel
theorem dX12_nextToken_56 : decode cX12_nextToken 56 = .ok (.iload_n 1, 1) := by decide +kernel
theorem dX12_nextToken_57 : decode cX12_nextToken 57 = .ok (.ifCond .ge 11, 3) := by decide +kernel
theorem dX12_nextToken_60 : decode cX12_nextToken 60 = .ok (.aload_n 0, 1) := by decide +kernel
theorem dX12_nextToken_61 : decode cX12_nextToken 61 = .ok (.iconst 0, 1) := by decide +kernel
theorem dX12_nextToken_62 : decode cX12_nextToken 62 = .ok (.putfield 98, 3) := by decide +kernel
theorem kf12_98 : inW (Cond.fieldLink RX12 98 "KneeOathsModel" "token" "I") := ⟨List.mem_of_getElem? (i := 1507) (by decide +kernel), by decide +kernel⟩
theorem dX12_nextToken_65 : decode cX12_nextToken 65 = .ok (.goto 245, 3) := by decide +kernel
theorem dX12_nextToken_310 : decode cX12_nextToken 310 = .ok (.return_, 1) := by decide +kernel
theorem dX12_readText_0 : decode cX12_readText 0 = .ok (.aload_n 0, 1) := by decide +kernel
theorem dX12_readText_1 : decode cX12_readText 1 = .ok (.sipush 729, 3) := by decide +kernel
theorem dX12_readText_4 : decode cX12_readText 4 = .ok (.aload_n 0, 1) := by decide +kernel
theorem dX12_readText_5 : decode cX12_readText 5 = .ok (.getfield 7, 3) := by decide +kernel
theorem dX12_readText_8 : decode cX12_readText 8 = .ok (.iconst 1, 1) := by decide +kernel
theorem dX12_readText_9 : decode cX12_readText 9 = .ok (.iaload, 1) := by decide +kernel
theorem dX12_readText_10 : decode cX12_readText 10 = .ok (.imul, 1) := by decide +kernel
theorem dX12_readText_11 : decode cX12_readText 11 = .ok (.putfield 136, 3) := by decide +kernel
theorem kf12_136 : inW (Cond.fieldLink RX12 136 "KneeOathsModel" "text0" "I") := ⟨List.mem_of_getElem? (i := 1510) (by decide +kernel), by decide +kernel⟩
theorem dX12_readText_14 : decode cX12_readText 14 = .ok (.aload_n 0, 1) := by decide +kernel
theorem dX12_readText_15 : decode cX12_readText 15 = .ok (.getfield 16, 3) := by decide +kernel
theorem kf12_16 : inW (Cond.fieldLink RX12 16 "KneeOathsModel" "texts" "[I") := ⟨List.mem_of_getElem? (i := 1500) (by decide +kernel), by decide +kernel⟩
theorem dX12_readText_18 : decode cX12_readText 18 = .ok (.aload_n 0, 1) := by decide +kernel
theorem dX12_readText_19 : decode cX12_readText 19 = .ok (.getfield 136, 3) := by decide +kernel
theorem dX12_readText_22 : decode cX12_readText 22 = .ok (.iconst 0, 1) := by decide +kernel
theorem dX12_readText_23 : decode cX12_readText 23 = .ok (.iastore, 1) := by decide +kernel
theorem dX12_readText_24 : decode cX12_readText 24 = .ok (.aload_n 0, 1) := by decide +kernel
theorem dX12_readText_25 : decode cX12_readText 25 = .ok (.iconst 0, 1) := by decide +kernel
theorem dX12_readText_26 : decode cX12_readText 26 = .ok (.putfield 139, 3) := by decide +kernel
theorem kf12_139 : inW (Cond.fieldLink RX12 139 "KneeOathsModel" "written" "I") := ⟨List.mem_of_getElem? (i := 1511) (by decide +kernel), by decide +kernel⟩
theorem dX12_readText_29 : decode cX12_readText 29 = .ok (.aload_n 0, 1) := by decide +kernel
theorem dX12_readText_30 : decode cX12_readText 30 = .ok (.iconst 0, 1) := by decide +kernel
theorem dX12_readText_31 : decode cX12_readText 31 = .ok (.putfield 241, 3) := by decide +kernel
theorem kf12_241 : inW (Cond.fieldLink RX12 241 "KneeOathsModel" "once" "I") := ⟨List.mem_of_getElem? (i := 1519) (by decide +kernel), by decide +kernel⟩
theorem dX12_readText_34 : decode cX12_readText 34 = .ok (.aload_n 0, 1) := by decide +kernel
theorem dX12_readText_35 : decode cX12_readText 35 = .ok (.iconst 0, 1) := by decide +kernel
theorem dX12_readText_36 : decode cX12_readText 36 = .ok (.putfield 88, 3) := by decide +kernel
theorem dX12_readText_39 : decode cX12_readText 39 = .ok (.aload_n 0, 1) := by decide +kernel
theorem dX12_readText_40 : decode cX12_readText 40 = .ok (.invokevirtual 166, 3) := by decide +kernel
theorem cw_X12_nextToken : CWv yX12_nextToken cX12_nextToken 2 none 0 := ⟨⟨⟨List.mem_of_getElem? (i := 137) (by decide +kernel), by decide +kernel⟩, ⟨List.mem_of_getElem? (i := 1627) (by decide +kernel), by decide +kernel⟩, by decide +kernel⟩, ⟨List.mem_of_getElem? (i := 1626) (by decide +kernel), by decide +kernel⟩, ⟨List.mem_of_getElem? (i := 50) (by decide +kernel), by decide +kernel⟩⟩
theorem km12_166 : inW (Cond.methodLink RX12 166 yX12_nextToken) := ⟨List.mem_of_getElem? (i := 1624) (by decide +kernel), by decide +kernel⟩
theorem dX12_readText_43 : decode cX12_readText 43 = .ok (.aload_n 0, 1) := by decide +kernel
theorem dX12_readText_44 : decode cX12_readText 44 = .ok (.getfield 98, 3) := by decide +kernel
theorem dX12_readText_47 : decode cX12_readText 47 = .ok (.ifCond .eq 17, 3) := by decide +kernel
theorem dX12_readText_64 : decode cX12_readText 64 = .ok (.iconst 0, 1) := by decide +kernel
theorem dX12_readText_65 : decode cX12_readText 65 = .ok (.ireturn, 1) := by decide +kernel
theorem dX12_text_0 : decode cX12_text 0 = .ok (.aload_n 0, 1) := by decide +kernel
theorem dX12_text_1 : decode cX12_text 1 = .ok (.getfield 7, 3) := by decide +kernel
theorem dX12_text_4 : decode cX12_text 4 = .ok (.iconst 1, 1) := by decide +kernel
theorem dX12_text_5 : decode cX12_text 5 = .ok (.iaload, 1) := by decide +kernel
theorem dX12_text_6 : decode cX12_text 6 = .ok (.iconst 4, 1) := by decide +kernel
theorem dX12_text_7 : decode cX12_text 7 = .ok (.if_icmp .ne 5, 3) := by decide +kernel
theorem dX12_text_12 : decode cX12_text 12 = .ok (.aload_n 0, 1) := by decide +kernel
theorem dX12_text_13 : decode cX12_text 13 = .ok (.aload_n 0, 1) := by decide +kernel
theorem dX12_text_14 : decode cX12_text 14 = .ok (.invokevirtual 254, 3) := by decide +kernel
theorem cw_X12_readText : CWv yX12_readText cX12_readText 2 (some .int) 0 := ⟨⟨⟨List.mem_of_getElem? (i := 137) (by decide +kernel), by decide +kernel⟩, ⟨List.mem_of_getElem? (i := 1623) (by decide +kernel), by decide +kernel⟩, by decide +kernel⟩, ⟨List.mem_of_getElem? (i := 1622) (by decide +kernel), by decide +kernel⟩, ⟨List.mem_of_getElem? (i := 49) (by decide +kernel), by decide +kernel⟩⟩
theorem km12_254 : inW (Cond.methodLink RX12 254 yX12_readText) := ⟨List.mem_of_getElem? (i := 1620) (by decide +kernel), by decide +kernel⟩
theorem dX12_text_17 : decode cX12_text 17 = .ok (.putfield 22, 3) := by decide +kernel
theorem kf12_22 : inW (Cond.fieldLink RX12 22 "KneeOathsModel" "fault" "I") := ⟨List.mem_of_getElem? (i := 1503) (by decide +kernel), by decide +kernel⟩
theorem dX12_text_20 : decode cX12_text 20 = .ok (.aload_n 0, 1) := by decide +kernel
theorem dX12_text_21 : decode cX12_text 21 = .ok (.aload_n 0, 1) := by decide +kernel
theorem dX12_text_22 : decode cX12_text 22 = .ok (.getfield 22, 3) := by decide +kernel
theorem dX12_text_25 : decode cX12_text 25 = .ok (.ifCond .ne 7, 3) := by decide +kernel
theorem dX12_text_28 : decode cX12_text 28 = .ok (.iconst (-1), 1) := by decide +kernel
theorem dX12_text_29 : decode cX12_text 29 = .ok (.goto 7, 3) := by decide +kernel
theorem dX12_text_36 : decode cX12_text 36 = .ok (.putfield 26, 3) := by decide +kernel
theorem kf12_26 : inW (Cond.fieldLink RX12 26 "KneeOathsModel" "faultPlace" "I") := ⟨List.mem_of_getElem? (i := 1504) (by decide +kernel), by decide +kernel⟩
theorem dX12_text_39 : decode cX12_text 39 = .ok (.aload_n 0, 1) := by decide +kernel
theorem dX12_text_40 : decode cX12_text 40 = .ok (.iconst 0, 1) := by decide +kernel
theorem dX12_text_41 : decode cX12_text 41 = .ok (.putfield 81, 3) := by decide +kernel
theorem dX12_text_44 : decode cX12_text 44 = .ok (.aload_n 0, 1) := by decide +kernel
theorem dX12_text_45 : decode cX12_text 45 = .ok (.getfield 22, 3) := by decide +kernel
theorem dX12_text_48 : decode cX12_text 48 = .ok (.ifCond .eq 5, 3) := by decide +kernel
theorem dX12_text_53 : decode cX12_text 53 = .ok (.aload_n 0, 1) := by decide +kernel
theorem dX12_text_54 : decode cX12_text 54 = .ok (.getfield 7, 3) := by decide +kernel
theorem dX12_text_57 : decode cX12_text 57 = .ok (.iconst 1, 1) := by decide +kernel
theorem dX12_text_58 : decode cX12_text 58 = .ok (.dup2, 1) := by decide +kernel
theorem dX12_text_59 : decode cX12_text 59 = .ok (.iaload, 1) := by decide +kernel
theorem dX12_text_60 : decode cX12_text 60 = .ok (.iconst 1, 1) := by decide +kernel
theorem dX12_text_61 : decode cX12_text 61 = .ok (.iadd, 1) := by decide +kernel
theorem dX12_text_62 : decode cX12_text 62 = .ok (.iastore, 1) := by decide +kernel
theorem dX12_text_63 : decode cX12_text 63 = .ok (.aload_n 0, 1) := by decide +kernel
theorem dX12_text_64 : decode cX12_text 64 = .ok (.getfield 7, 3) := by decide +kernel
theorem dX12_text_67 : decode cX12_text 67 = .ok (.iconst 1, 1) := by decide +kernel
theorem dX12_text_68 : decode cX12_text 68 = .ok (.iaload, 1) := by decide +kernel
theorem dX12_text_69 : decode cX12_text 69 = .ok (.iconst 1, 1) := by decide +kernel
theorem dX12_text_70 : decode cX12_text 70 = .ok (.isub, 1) := by decide +kernel
theorem dX12_text_71 : decode cX12_text 71 = .ok (.ireturn, 1) := by decide +kernel
theorem dX12_fault_0 : decode cX12_fault 0 = .ok (.iload_n 1, 1) := by decide +kernel
theorem dX12_fault_1 : decode cX12_fault 1 = .ok (.ifCond .ne 10, 3) := by decide +kernel
theorem dX12_fault_11 : decode cX12_fault 11 = .ok (.iload_n 1, 1) := by decide +kernel
theorem dX12_fault_12 : decode cX12_fault 12 = .ok (.iconst 1, 1) := by decide +kernel
theorem dX12_fault_13 : decode cX12_fault 13 = .ok (.if_icmp .ne 10, 3) := by decide +kernel
theorem dX12_fault_23 : decode cX12_fault 23 = .ok (.iconst (-1), 1) := by decide +kernel
theorem dX12_fault_24 : decode cX12_fault 24 = .ok (.ireturn, 1) := by decide +kernel
theorem dX12_fault_16 : decode cX12_fault 16 = .ok (.aload_n 0, 1) := by decide +kernel
theorem dX12_fault_17 : decode cX12_fault 17 = .ok (.getfield 26, 3) := by decide +kernel
theorem dX12_fault_20 : decode cX12_fault 20 = .ok (.goto 4, 3) := by decide +kernel
theorem dX12_fault_4 : decode cX12_fault 4 = .ok (.aload_n 0, 1) := by decide +kernel
theorem dX12_fault_5 : decode cX12_fault 5 = .ok (.getfield 22, 3) := by decide +kernel
theorem dX12_fault_8 : decode cX12_fault 8 = .ok (.goto 16, 3) := by decide +kernel
theorem dX12_by_0 : decode cX12_by 0 = .ok (.iload_n 1, 1) := by decide +kernel
theorem dX12_by_1 : decode cX12_by 1 = .ok (.iconst (-1), 1) := by decide +kernel
theorem dX12_by_2 : decode cX12_by 2 = .ok (.aload_n 0, 1) := by decide +kernel
theorem dX12_by_3 : decode cX12_by 3 = .ok (.getfield 7, 3) := by decide +kernel
theorem dX12_by_6 : decode cX12_by 6 = .ok (.iconst 1, 1) := by decide +kernel
theorem dX12_by_7 : decode cX12_by 7 = .ok (.iaload, 1) := by decide +kernel
theorem dX12_by_8 : decode cX12_by 8 = .ok (.iconst 1, 1) := by decide +kernel
theorem dX12_by_9 : decode cX12_by 9 = .ok (.isub, 1) := by decide +kernel
theorem dX12_by_10 : decode cX12_by 10 = .ok (.invokestatic 69, 3) := by decide +kernel
theorem dX12_by_13 : decode cX12_by 13 = .ok (.ifCond .ne 5, 3) := by decide +kernel
theorem dX12_by_18 : decode cX12_by 18 = .ok (.aload_n 0, 1) := by decide +kernel
theorem dX12_by_19 : decode cX12_by 19 = .ok (.getfield 7, 3) := by decide +kernel
theorem dX12_by_22 : decode cX12_by 22 = .ok (.iconst 2, 1) := by decide +kernel
theorem dX12_by_23 : decode cX12_by 23 = .ok (.iload_n 1, 1) := by decide +kernel
theorem dX12_by_24 : decode cX12_by 24 = .ok (.iastore, 1) := by decide +kernel
theorem dX12_by_25 : decode cX12_by 25 = .ok (.iconst 1, 1) := by decide +kernel
theorem dX12_by_26 : decode cX12_by 26 = .ok (.ireturn, 1) := by decide +kernel
theorem dX12_by_16 : decode cX12_by 16 = .ok (.iconst 0, 1) := by decide +kernel
theorem dX12_by_17 : decode cX12_by 17 = .ok (.ireturn, 1) := by decide +kernel
theorem dX12_swear_0 : decode cX12_swear 0 = .ok (.iload_n 3, 1) := by decide +kernel
theorem dX12_swear_1 : decode cX12_swear 1 = .ok (.iconst 0, 1) := by decide +kernel
theorem dX12_swear_2 : decode cX12_swear 2 = .ok (.iconst 1, 1) := by decide +kernel
theorem dX12_swear_3 : decode cX12_swear 3 = .ok (.invokestatic 69, 3) := by decide +kernel
theorem dX12_swear_6 : decode cX12_swear 6 = .ok (.ifCond .eq 23, 3) := by decide +kernel
theorem dX12_swear_29 : decode cX12_swear 29 = .ok (.iconst (-1), 1) := by decide +kernel
theorem dX12_swear_30 : decode cX12_swear 30 = .ok (.ireturn, 1) := by decide +kernel
theorem dX12_swear_9 : decode cX12_swear 9 = .ok (.iload 4, 2) := by decide +kernel
theorem dX12_swear_11 : decode cX12_swear 11 = .ok (.iconst 1, 1) := by decide +kernel
theorem dX12_swear_12 : decode cX12_swear 12 = .ok (.bipush 9, 2) := by decide +kernel
theorem dX12_swear_14 : decode cX12_swear 14 = .ok (.invokestatic 69, 3) := by decide +kernel
theorem dX12_swear_17 : decode cX12_swear 17 = .ok (.ifCond .eq 12, 3) := by decide +kernel
theorem dX12_swear_20 : decode cX12_swear 20 = .ok (.aload_n 0, 1) := by decide +kernel
theorem dX12_swear_21 : decode cX12_swear 21 = .ok (.iload_n 1, 1) := by decide +kernel
theorem dX12_swear_22 : decode cX12_swear 22 = .ok (.iload_n 2, 1) := by decide +kernel
theorem dX12_swear_23 : decode cX12_swear 23 = .ok (.invokevirtual 330, 3) := by decide +kernel
theorem cw_X12_canSwear : CWv yX12_canSwear cX12_canSwear 3 (some .boolean) 2 := ⟨⟨⟨List.mem_of_getElem? (i := 137) (by decide +kernel), by decide +kernel⟩, ⟨List.mem_of_getElem? (i := 1784) (by decide +kernel), by decide +kernel⟩, by decide +kernel⟩, ⟨List.mem_of_getElem? (i := 1783) (by decide +kernel), by decide +kernel⟩, ⟨List.mem_of_getElem? (i := 78) (by decide +kernel), by decide +kernel⟩⟩
theorem km12_330 : inW (Cond.methodLink RX12 330 yX12_canSwear) := ⟨List.mem_of_getElem? (i := 1781) (by decide +kernel), by decide +kernel⟩
theorem dX12_swear_26 : decode cX12_swear 26 = .ok (.ifCond .ne 5, 3) := by decide +kernel
theorem dX12_breaks_0 : decode cX12_breaks 0 = .ok (.aload_n 0, 1) := by decide +kernel
theorem dX12_breaks_1 : decode cX12_breaks 1 = .ok (.iload_n 1, 1) := by decide +kernel
theorem dX12_breaks_2 : decode cX12_breaks 2 = .ok (.invokevirtual 339, 3) := by decide +kernel
theorem cw_X12_isOath : CWv yX12_isOath cX12_isOath 2 (some .boolean) 1 := ⟨⟨⟨List.mem_of_getElem? (i := 137) (by decide +kernel), by decide +kernel⟩, ⟨List.mem_of_getElem? (i := 1808) (by decide +kernel), by decide +kernel⟩, by decide +kernel⟩, ⟨List.mem_of_getElem? (i := 1807) (by decide +kernel), by decide +kernel⟩, ⟨List.mem_of_getElem? (i := 83) (by decide +kernel), by decide +kernel⟩⟩
theorem km12_339 : inW (Cond.methodLink RX12 339 yX12_isOath) := ⟨List.mem_of_getElem? (i := 1805) (by decide +kernel), by decide +kernel⟩
theorem dX12_breaks_5 : decode cX12_breaks 5 = .ok (.ifCond .eq 12, 3) := by decide +kernel
theorem dX12_breaks_17 : decode cX12_breaks 17 = .ok (.iconst 0, 1) := by decide +kernel
theorem dX12_breaks_18 : decode cX12_breaks 18 = .ok (.ireturn, 1) := by decide +kernel
theorem dX12_release_0 : decode cX12_release 0 = .ok (.aload_n 0, 1) := by decide +kernel
theorem dX12_release_1 : decode cX12_release 1 = .ok (.iload_n 1, 1) := by decide +kernel
theorem dX12_release_2 : decode cX12_release 2 = .ok (.invokevirtual 339, 3) := by decide +kernel
theorem dX12_release_5 : decode cX12_release 5 = .ok (.ifCond .eq 13, 3) := by decide +kernel
theorem dX12_release_18 : decode cX12_release 18 = .ok (.iconst 0, 1) := by decide +kernel
theorem dX12_release_19 : decode cX12_release 19 = .ok (.ireturn, 1) := by decide +kernel
theorem dX12_kneel_0 : decode cX12_kneel 0 = .ok (.aload_n 0, 1) := by decide +kernel
theorem dX12_kneel_1 : decode cX12_kneel 1 = .ok (.iload_n 1, 1) := by decide +kernel
theorem dX12_kneel_2 : decode cX12_kneel 2 = .ok (.invokevirtual 323, 3) := by decide +kernel
theorem dX12_kneel_5 : decode cX12_kneel 5 = .ok (.ifCond .ne 5, 3) := by decide +kernel
theorem dX12_kneel_8 : decode cX12_kneel 8 = .ok (.iconst (-1), 1) := by decide +kernel
theorem dX12_kneel_9 : decode cX12_kneel 9 = .ok (.ireturn, 1) := by decide +kernel
theorem dX12_skate_0 : decode cX12_skate 0 = .ok (.aload_n 0, 1) := by decide +kernel
theorem dX12_skate_1 : decode cX12_skate 1 = .ok (.iload_n 1, 1) := by decide +kernel
theorem dX12_skate_2 : decode cX12_skate 2 = .ok (.invokevirtual 323, 3) := by decide +kernel
theorem dX12_skate_5 : decode cX12_skate 5 = .ok (.ifCond .eq 12, 3) := by decide +kernel
theorem dX12_skate_17 : decode cX12_skate 17 = .ok (.iconst (-1), 1) := by decide +kernel
theorem dX12_skate_18 : decode cX12_skate 18 = .ok (.ireturn, 1) := by decide +kernel
theorem dX12_undo_0 : decode cX12_undo 0 = .ok (.aload_n 0, 1) := by decide +kernel
theorem dX12_undo_1 : decode cX12_undo 1 = .ok (.getfield 7, 3) := by decide +kernel
theorem dX12_undo_4 : decode cX12_undo 4 = .ok (.iconst 3, 1) := by decide +kernel
theorem dX12_undo_5 : decode cX12_undo 5 = .ok (.iaload, 1) := by decide +kernel
theorem dX12_undo_6 : decode cX12_undo 6 = .ok (.ifCond .ne 5, 3) := by decide +kernel
theorem dX12_undo_9 : decode cX12_undo 9 = .ok (.iconst (-1), 1) := by decide +kernel
theorem dX12_undo_10 : decode cX12_undo 10 = .ok (.ireturn, 1) := by decide +kernel
theorem dX12_of_0 : decode cX12_of 0 = .ok (.aload_n 0, 1) := by decide +kernel
theorem dX12_of_1 : decode cX12_of 1 = .ok (.iload_n 1, 1) := by decide +kernel
theorem dX12_of_2 : decode cX12_of 2 = .ok (.invokevirtual 323, 3) := by decide +kernel
theorem dX12_of_5 : decode cX12_of 5 = .ok (.ifCond .ne 7, 3) := by decide +kernel
theorem dX12_of_8 : decode cX12_of 8 = .ok (.sipush (-1000), 3) := by decide +kernel
theorem dX12_of_11 : decode cX12_of 11 = .ok (.ireturn, 1) := by decide +kernel
theorem dX12_ofOath_0 : decode cX12_ofOath 0 = .ok (.aload_n 0, 1) := by decide +kernel
theorem dX12_ofOath_1 : decode cX12_ofOath 1 = .ok (.iload_n 1, 1) := by decide +kernel
theorem dX12_ofOath_2 : decode cX12_ofOath 2 = .ok (.invokevirtual 339, 3) := by decide +kernel
theorem dX12_ofOath_5 : decode cX12_ofOath 5 = .ok (.ifCond .eq 13, 3) := by decide +kernel
theorem dX12_ofOath_18 : decode cX12_ofOath 18 = .ok (.iconst (-1), 1) := by decide +kernel
theorem dX12_ofOath_19 : decode cX12_ofOath 19 = .ok (.ireturn, 1) := by decide +kernel
theorem dX12_firstAche_0 : decode cX12_firstAche 0 = .ok (.aload_n 0, 1) := by decide +kernel
theorem dX12_firstAche_1 : decode cX12_firstAche 1 = .ok (.iload_n 1, 1) := by decide +kernel
theorem dX12_firstAche_2 : decode cX12_firstAche 2 = .ok (.invokevirtual 323, 3) := by decide +kernel
theorem dX12_firstAche_5 : decode cX12_firstAche 5 = .ok (.ifCond .ne 5, 3) := by decide +kernel
theorem dX12_firstAche_8 : decode cX12_firstAche 8 = .ok (.iconst (-1), 1) := by decide +kernel
theorem dX12_firstAche_9 : decode cX12_firstAche 9 = .ok (.ireturn, 1) := by decide +kernel
theorem dX12_fades_0 : decode cX12_fades 0 = .ok (.aload_n 0, 1) := by decide +kernel
theorem dX12_fades_1 : decode cX12_fades 1 = .ok (.iload_n 1, 1) := by decide +kernel
theorem dX12_fades_2 : decode cX12_fades 2 = .ok (.invokevirtual 339, 3) := by decide +kernel
theorem dX12_fades_5 : decode cX12_fades 5 = .ok (.ifCond .eq 21, 3) := by decide +kernel
theorem dX12_fades_26 : decode cX12_fades 26 = .ok (.iconst (-1), 1) := by decide +kernel
theorem dX12_fades_27 : decode cX12_fades 27 = .ok (.ireturn, 1) := by decide +kernel
theorem dX12_breaches_0 : decode cX12_breaches 0 = .ok (.aload_n 0, 1) := by decide +kernel
theorem dX12_breaches_1 : decode cX12_breaches 1 = .ok (.iload_n 1, 1) := by decide +kernel
theorem dX12_breaches_2 : decode cX12_breaches 2 = .ok (.invokevirtual 323, 3) := by decide +kernel
theorem dX12_breaches_5 : decode cX12_breaches 5 = .ok (.ifCond .eq 12, 3) := by decide +kernel
theorem dX12_breaches_17 : decode cX12_breaches 17 = .ok (.iconst (-1), 1) := by decide +kernel
theorem dX12_breaches_18 : decode cX12_breaches 18 = .ok (.ireturn, 1) := by decide +kernel
theorem dX12_odds_0 : decode cX12_odds 0 = .ok (.aload_n 0, 1) := by decide +kernel
theorem dX12_odds_1 : decode cX12_odds 1 = .ok (.iload_n 1, 1) := by decide +kernel
theorem dX12_odds_2 : decode cX12_odds 2 = .ok (.invokevirtual 339, 3) := by decide +kernel
theorem dX12_odds_5 : decode cX12_odds 5 = .ok (.ifCond .eq 11, 3) := by decide +kernel
theorem dX12_odds_16 : decode cX12_odds 16 = .ok (.iconst (-1), 1) := by decide +kernel
theorem dX12_odds_17 : decode cX12_odds 17 = .ok (.ireturn, 1) := by decide +kernel
theorem dX12_nextAsked_0 : decode cX12_nextAsked 0 = .ok (.aload_n 0, 1) := by decide +kernel
theorem dX12_nextAsked_1 : decode cX12_nextAsked 1 = .ok (.iload_n 1, 1) := by decide +kernel
theorem dX12_nextAsked_2 : decode cX12_nextAsked 2 = .ok (.invokevirtual 323, 3) := by decide +kernel
theorem dX12_nextAsked_5 : decode cX12_nextAsked 5 = .ok (.ifCond .ne 5, 3) := by decide +kernel
theorem dX12_nextAsked_8 : decode cX12_nextAsked 8 = .ok (.iconst (-1), 1) := by decide +kernel
theorem dX12_nextAsked_9 : decode cX12_nextAsked 9 = .ok (.ireturn, 1) := by decide +kernel
theorem dX12_leastReleased_0 : decode cX12_leastReleased 0 = .ok (.aload_n 0, 1) := by decide +kernel
theorem dX12_leastReleased_1 : decode cX12_leastReleased 1 = .ok (.invokevirtual 422, 3) := by decide +kernel
theorem cw_X12_keptOnes : CWv yX12_keptOnes cX12_keptOnes 3 (some .int) 0 := ⟨⟨⟨List.mem_of_getElem? (i := 137) (by decide +kernel), by decide +kernel⟩, ⟨List.mem_of_getElem? (i := 2070) (by decide +kernel), by decide +kernel⟩, by decide +kernel⟩, ⟨List.mem_of_getElem? (i := 2069) (by decide +kernel), by decide +kernel⟩, ⟨List.mem_of_getElem? (i := 115) (by decide +kernel), by decide +kernel⟩⟩
theorem km12_422 : inW (Cond.methodLink RX12 422 yX12_keptOnes) := ⟨List.mem_of_getElem? (i := 2067) (by decide +kernel), by decide +kernel⟩
theorem dX12_leastReleased_4 : decode cX12_leastReleased 4 = .ok (.istore_n 1, 1) := by decide +kernel
theorem dX12_leastReleased_5 : decode cX12_leastReleased 5 = .ok (.iload_n 1, 1) := by decide +kernel
theorem dX12_leastReleased_6 : decode cX12_leastReleased 6 = .ok (.istore_n 2, 1) := by decide +kernel
theorem dX12_leastReleased_7 : decode cX12_leastReleased 7 = .ok (.iload_n 1, 1) := by decide +kernel
theorem dX12_leastReleased_8 : decode cX12_leastReleased 8 = .ok (.istore_n 3, 1) := by decide +kernel
theorem dX12_leastReleased_9 : decode cX12_leastReleased 9 = .ok (.iload_n 3, 1) := by decide +kernel
theorem dX12_leastReleased_10 : decode cX12_leastReleased 10 = .ok (.ifCond .lt 42, 3) := by decide +kernel
theorem dX12_leastReleased_13 : decode cX12_leastReleased 13 = .ok (.iload_n 3, 1) := by decide +kernel
theorem dX12_leastReleased_14 : decode cX12_leastReleased 14 = .ok (.iload_n 1, 1) := by decide +kernel
theorem dX12_leastReleased_15 : decode cX12_leastReleased 15 = .ok (.iconst (-1), 1) := by decide +kernel
theorem dX12_leastReleased_16 : decode cX12_leastReleased 16 = .ok (.ixor, 1) := by decide +kernel
theorem dX12_leastReleased_17 : decode cX12_leastReleased 17 = .ok (.iand, 1) := by decide +kernel
theorem dX12_leastReleased_18 : decode cX12_leastReleased 18 = .ok (.ifCond .ne 28, 3) := by decide +kernel
theorem dX12_leastReleased_21 : decode cX12_leastReleased 21 = .ok (.iload_n 3, 1) := by decide +kernel
theorem dX12_leastReleased_22 : decode cX12_leastReleased 22 = .ok (.invokestatic 268, 3) := by decide +kernel
theorem cw_X12_bits : CWs yX12_bits cX12_bits 3 (some .int) 1 := ⟨⟨⟨List.mem_of_getElem? (i := 137) (by decide +kernel), by decide +kernel⟩, ⟨List.mem_of_getElem? (i := 1867) (by decide +kernel), by decide +kernel⟩, by decide +kernel⟩, ⟨List.mem_of_getElem? (i := 1866) (by decide +kernel), by decide +kernel⟩⟩
theorem km12_268 : inW (Cond.methodLink RX12 268 yX12_bits) := ⟨List.mem_of_getElem? (i := 1865) (by decide +kernel), by decide +kernel⟩
theorem dX12_leastReleased_25 : decode cX12_leastReleased 25 = .ok (.iload_n 2, 1) := by decide +kernel
theorem dX12_leastReleased_26 : decode cX12_leastReleased 26 = .ok (.invokestatic 268, 3) := by decide +kernel
theorem dX12_leastReleased_29 : decode cX12_leastReleased 29 = .ok (.if_icmp .gt 17, 3) := by decide +kernel
theorem dX12_leastReleased_32 : decode cX12_leastReleased 32 = .ok (.aload_n 0, 1) := by decide +kernel
theorem dX12_leastReleased_33 : decode cX12_leastReleased 33 = .ok (.iload_n 1, 1) := by decide +kernel
theorem dX12_leastReleased_34 : decode cX12_leastReleased 34 = .ok (.iload_n 3, 1) := by decide +kernel
theorem dX12_leastReleased_35 : decode cX12_leastReleased 35 = .ok (.iconst (-1), 1) := by decide +kernel
theorem dX12_leastReleased_36 : decode cX12_leastReleased 36 = .ok (.ixor, 1) := by decide +kernel
theorem dX12_leastReleased_37 : decode cX12_leastReleased 37 = .ok (.iand, 1) := by decide +kernel
theorem dX12_leastReleased_38 : decode cX12_leastReleased 38 = .ok (.invokevirtual 425, 3) := by decide +kernel
theorem cw_X12_isAtPeace : CWv yX12_isAtPeace cX12_isAtPeace 3 (some .boolean) 1 := ⟨⟨⟨List.mem_of_getElem? (i := 137) (by decide +kernel), by decide +kernel⟩, ⟨List.mem_of_getElem? (i := 2074) (by decide +kernel), by decide +kernel⟩, by decide +kernel⟩, ⟨List.mem_of_getElem? (i := 2073) (by decide +kernel), by decide +kernel⟩, ⟨List.mem_of_getElem? (i := 116) (by decide +kernel), by decide +kernel⟩⟩
theorem km12_425 : inW (Cond.methodLink RX12 425 yX12_isAtPeace) := ⟨List.mem_of_getElem? (i := 2071) (by decide +kernel), by decide +kernel⟩
theorem dX12_leastReleased_41 : decode cX12_leastReleased 41 = .ok (.ifCond .eq 5, 3) := by decide +kernel
theorem dX12_leastReleased_44 : decode cX12_leastReleased 44 = .ok (.iload_n 3, 1) := by decide +kernel
theorem dX12_leastReleased_45 : decode cX12_leastReleased 45 = .ok (.istore_n 2, 1) := by decide +kernel
theorem dX12_leastReleased_46 : decode cX12_leastReleased 46 = .ok (.iinc 3 (-1), 3) := by decide +kernel
theorem dX12_leastReleased_49 : decode cX12_leastReleased 49 = .ok (.goto (-40), 3) := by decide +kernel
theorem dX12_leastReleased_52 : decode cX12_leastReleased 52 = .ok (.iload_n 2, 1) := by decide +kernel
theorem dX12_leastReleased_53 : decode cX12_leastReleased 53 = .ok (.ireturn, 1) := by decide +kernel
theorem dX12_forged_0 : decode cX12_forged 0 = .ok (.aload_n 0, 1) := by decide +kernel
theorem dX12_forged_1 : decode cX12_forged 1 = .ok (.iload_n 1, 1) := by decide +kernel
theorem dX12_forged_2 : decode cX12_forged 2 = .ok (.invokevirtual 323, 3) := by decide +kernel
theorem dX12_forged_5 : decode cX12_forged 5 = .ok (.ifCond .eq 22, 3) := by decide +kernel
theorem dX12_forged_27 : decode cX12_forged 27 = .ok (.sipush (-1000), 3) := by decide +kernel
theorem dX12_forged_30 : decode cX12_forged 30 = .ok (.ireturn, 1) := by decide +kernel
theorem dX12_whom_0 : decode cX12_whom 0 = .ok (.aload_n 0, 1) := by decide +kernel
theorem dX12_whom_1 : decode cX12_whom 1 = .ok (.iload_n 1, 1) := by decide +kernel
theorem dX12_whom_2 : decode cX12_whom 2 = .ok (.invokevirtual 323, 3) := by decide +kernel
theorem dX12_whom_5 : decode cX12_whom 5 = .ok (.ifCond .ne 5, 3) := by decide +kernel
theorem dX12_whom_8 : decode cX12_whom 8 = .ok (.iconst (-1), 1) := by decide +kernel
theorem dX12_whom_9 : decode cX12_whom 9 = .ok (.ireturn, 1) := by decide +kernel
theorem dX12_ring_0 : decode cX12_ring 0 = .ok (.iconst 0, 1) := by decide +kernel
theorem dX12_ring_1 : decode cX12_ring 1 = .ok (.istore_n 1, 1) := by decide +kernel
theorem dX12_ring_2 : decode cX12_ring 2 = .ok (.iconst 0, 1) := by decide +kernel
theorem dX12_ring_3 : decode cX12_ring 3 = .ok (.istore_n 2, 1) := by decide +kernel
theorem dX12_ring_4 : decode cX12_ring 4 = .ok (.iconst 0, 1) := by decide +kernel
theorem dX12_ring_5 : decode cX12_ring 5 = .ok (.istore_n 3, 1) := by decide +kernel
theorem dX12_ring_6 : decode cX12_ring 6 = .ok (.iload_n 3, 1) := by decide +kernel
theorem dX12_ring_7 : decode cX12_ring 7 = .ok (.aload_n 0, 1) := by decide +kernel
theorem dX12_ring_8 : decode cX12_ring 8 = .ok (.getfield 7, 3) := by decide +kernel
theorem dX12_ring_11 : decode cX12_ring 11 = .ok (.bipush 13, 2) := by decide +kernel
theorem dX12_ring_13 : decode cX12_ring 13 = .ok (.iaload, 1) := by decide +kernel
theorem dX12_ring_14 : decode cX12_ring 14 = .ok (.if_icmp .ge 27, 3) := by decide +kernel
theorem dX12_ring_41 : decode cX12_ring 41 = .ok (.iconst 1, 1) := by decide +kernel
theorem dX12_ring_42 : decode cX12_ring 42 = .ok (.istore_n 3, 1) := by decide +kernel
theorem dX12_ring_43 : decode cX12_ring 43 = .ok (.iload_n 3, 1) := by decide +kernel
theorem dX12_ring_44 : decode cX12_ring 44 = .ok (.iload_n 2, 1) := by decide +kernel
theorem dX12_ring_45 : decode cX12_ring 45 = .ok (.if_icmp .gt 54, 3) := by decide +kernel
theorem dX12_ring_99 : decode cX12_ring 99 = .ok (.iload_n 1, 1) := by decide +kernel
theorem dX12_ring_100 : decode cX12_ring 100 = .ok (.ireturn, 1) := by decide +kernel
theorem dX12_known_0 : decode cX12_known 0 = .ok (.aload_n 0, 1) := by decide +kernel
theorem dX12_known_1 : decode cX12_known 1 = .ok (.iload_n 1, 1) := by decide +kernel
theorem dX12_known_2 : decode cX12_known 2 = .ok (.invokevirtual 323, 3) := by decide +kernel
theorem dX12_known_5 : decode cX12_known 5 = .ok (.ifCond .eq 11, 3) := by decide +kernel
theorem dX12_known_16 : decode cX12_known 16 = .ok (.iconst (-1), 1) := by decide +kernel
theorem dX12_known_17 : decode cX12_known 17 = .ok (.ireturn, 1) := by decide +kernel
theorem dX12_copy__0 : decode cX12_copy_ 0 = .ok (.aload_n 0, 1) := by decide +kernel
theorem dX12_copy__1 : decode cX12_copy_ 1 = .ok (.iload_n 1, 1) := by decide +kernel
theorem dX12_copy__2 : decode cX12_copy_ 2 = .ok (.invokevirtual 339, 3) := by decide +kernel
theorem dX12_copy__5 : decode cX12_copy_ 5 = .ok (.ifCond .eq 34, 3) := by decide +kernel
theorem dX12_copy__39 : decode cX12_copy_ 39 = .ok (.ldc_w 408, 3) := by decide +kernel
theorem kk12_408 : inW (Cond.constant RX12 408 (-100000)) := ⟨List.mem_of_getElem? (i := 2030) (by decide +kernel), by decide +kernel⟩
theorem dX12_copy__42 : decode cX12_copy_ 42 = .ok (.ireturn, 1) := by decide +kernel
theorem dX12_whose_0 : decode cX12_whose 0 = .ok (.iconst 0, 1) := by decide +kernel
theorem dX12_whose_1 : decode cX12_whose 1 = .ok (.istore_n 1, 1) := by decide +kernel
theorem dX12_whose_2 : decode cX12_whose 2 = .ok (.iconst 0, 1) := by decide +kernel
theorem dX12_whose_3 : decode cX12_whose 3 = .ok (.istore_n 2, 1) := by decide +kernel
theorem dX12_whose_4 : decode cX12_whose 4 = .ok (.iload_n 2, 1) := by decide +kernel
theorem dX12_whose_5 : decode cX12_whose 5 = .ok (.aload_n 0, 1) := by decide +kernel
theorem dX12_whose_6 : decode cX12_whose 6 = .ok (.getfield 7, 3) := by decide +kernel
theorem dX12_whose_9 : decode cX12_whose 9 = .ok (.iconst 1, 1) := by decide +kernel
theorem dX12_whose_10 : decode cX12_whose 10 = .ok (.iaload, 1) := by decide +kernel
theorem dX12_whose_11 : decode cX12_whose 11 = .ok (.if_icmp .ge 112, 3) := by decide +kernel
theorem dX12_whose_123 : decode cX12_whose 123 = .ok (.iload_n 1, 1) := by decide +kernel
theorem dX12_whose_124 : decode cX12_whose 124 = .ok (.ireturn, 1) := by decide +kernel
theorem dX12_mostSworn_0 : decode cX12_mostSworn 0 = .ok (.iconst (-1), 1) := by decide +kernel
theorem dX12_mostSworn_1 : decode cX12_mostSworn 1 = .ok (.istore_n 1, 1) := by decide +kernel
theorem dX12_mostSworn_2 : decode cX12_mostSworn 2 = .ok (.iconst 0, 1) := by decide +kernel
theorem dX12_mostSworn_3 : decode cX12_mostSworn 3 = .ok (.istore_n 2, 1) := by decide +kernel
theorem dX12_mostSworn_4 : decode cX12_mostSworn 4 = .ok (.iconst 0, 1) := by decide +kernel
theorem dX12_mostSworn_5 : decode cX12_mostSworn 5 = .ok (.istore_n 3, 1) := by decide +kernel
theorem dX12_mostSworn_6 : decode cX12_mostSworn 6 = .ok (.iload_n 3, 1) := by decide +kernel
theorem dX12_mostSworn_7 : decode cX12_mostSworn 7 = .ok (.aload_n 0, 1) := by decide +kernel
theorem dX12_mostSworn_8 : decode cX12_mostSworn 8 = .ok (.getfield 7, 3) := by decide +kernel
theorem dX12_mostSworn_11 : decode cX12_mostSworn 11 = .ok (.iconst 0, 1) := by decide +kernel
theorem dX12_mostSworn_12 : decode cX12_mostSworn 12 = .ok (.iaload, 1) := by decide +kernel
theorem dX12_mostSworn_13 : decode cX12_mostSworn 13 = .ok (.if_icmp .ge 77, 3) := by decide +kernel
theorem dX12_mostSworn_90 : decode cX12_mostSworn 90 = .ok (.iload_n 1, 1) := by decide +kernel
theorem dX12_mostSworn_91 : decode cX12_mostSworn 91 = .ok (.ireturn, 1) := by decide +kernel
theorem dX12_faithful_0 : decode cX12_faithful 0 = .ok (.iconst 1, 1) := by decide +kernel
theorem dX12_faithful_1 : decode cX12_faithful 1 = .ok (.aload_n 0, 1) := by decide +kernel
theorem dX12_faithful_2 : decode cX12_faithful 2 = .ok (.getfield 7, 3) := by decide +kernel
theorem dX12_faithful_5 : decode cX12_faithful 5 = .ok (.iconst 0, 1) := by decide +kernel
theorem dX12_faithful_6 : decode cX12_faithful 6 = .ok (.iaload, 1) := by decide +kernel
theorem dX12_faithful_7 : decode cX12_faithful 7 = .ok (.ishl, 1) := by decide +kernel
theorem dX12_faithful_8 : decode cX12_faithful 8 = .ok (.iconst 1, 1) := by decide +kernel
theorem dX12_faithful_9 : decode cX12_faithful 9 = .ok (.isub, 1) := by decide +kernel
theorem dX12_faithful_10 : decode cX12_faithful 10 = .ok (.istore_n 1, 1) := by decide +kernel
theorem dX12_faithful_11 : decode cX12_faithful 11 = .ok (.iconst 0, 1) := by decide +kernel
theorem dX12_faithful_12 : decode cX12_faithful 12 = .ok (.istore_n 2, 1) := by decide +kernel
theorem dX12_faithful_13 : decode cX12_faithful 13 = .ok (.iload_n 2, 1) := by decide +kernel
theorem dX12_faithful_14 : decode cX12_faithful 14 = .ok (.aload_n 0, 1) := by decide +kernel
theorem dX12_faithful_15 : decode cX12_faithful 15 = .ok (.getfield 7, 3) := by decide +kernel
theorem dX12_faithful_18 : decode cX12_faithful 18 = .ok (.bipush 13, 2) := by decide +kernel
theorem dX12_faithful_20 : decode cX12_faithful 20 = .ok (.iaload, 1) := by decide +kernel
theorem dX12_faithful_21 : decode cX12_faithful 21 = .ok (.if_icmp .ge 32, 3) := by decide +kernel
theorem dX12_faithful_53 : decode cX12_faithful 53 = .ok (.iload_n 1, 1) := by decide +kernel
theorem dX12_faithful_54 : decode cX12_faithful 54 = .ok (.ireturn, 1) := by decide +kernel
theorem dX12_worstDay_0 : decode cX12_worstDay 0 = .ok (.iconst (-1), 1) := by decide +kernel
theorem dX12_worstDay_1 : decode cX12_worstDay 1 = .ok (.istore_n 1, 1) := by decide +kernel
theorem dX12_worstDay_2 : decode cX12_worstDay 2 = .ok (.iconst 0, 1) := by decide +kernel
theorem dX12_worstDay_3 : decode cX12_worstDay 3 = .ok (.istore_n 2, 1) := by decide +kernel
theorem dX12_worstDay_4 : decode cX12_worstDay 4 = .ok (.iload_n 2, 1) := by decide +kernel
theorem dX12_worstDay_5 : decode cX12_worstDay 5 = .ok (.aload_n 0, 1) := by decide +kernel
theorem dX12_worstDay_6 : decode cX12_worstDay 6 = .ok (.invokevirtual 393, 3) := by decide +kernel
theorem cw_X12_shown : CWv yX12_shown cX12_shown 1 (some .int) 0 := ⟨⟨⟨List.mem_of_getElem? (i := 137) (by decide +kernel), by decide +kernel⟩, ⟨List.mem_of_getElem? (i := 1981) (by decide +kernel), by decide +kernel⟩, by decide +kernel⟩, ⟨List.mem_of_getElem? (i := 1980) (by decide +kernel), by decide +kernel⟩, ⟨List.mem_of_getElem? (i := 108) (by decide +kernel), by decide +kernel⟩⟩
theorem km12_393 : inW (Cond.methodLink RX12 393 yX12_shown) := ⟨List.mem_of_getElem? (i := 1978) (by decide +kernel), by decide +kernel⟩
theorem dX12_worstDay_9 : decode cX12_worstDay 9 = .ok (.if_icmp .ge 31, 3) := by decide +kernel
theorem dX12_worstDay_40 : decode cX12_worstDay 40 = .ok (.iload_n 1, 1) := by decide +kernel
theorem dX12_worstDay_41 : decode cX12_worstDay 41 = .ok (.iconst (-1), 1) := by decide +kernel
theorem dX12_worstDay_42 : decode cX12_worstDay 42 = .ok (.if_icmp .ne 7, 3) := by decide +kernel
theorem dX12_worstDay_45 : decode cX12_worstDay 45 = .ok (.iconst (-1), 1) := by decide +kernel
theorem dX12_worstDay_46 : decode cX12_worstDay 46 = .ok (.goto 9, 3) := by decide +kernel
theorem dX12_worstDay_55 : decode cX12_worstDay 55 = .ok (.ireturn, 1) := by decide +kernel
theorem dX12_strike_0 : decode cX12_strike 0 = .ok (.iload_n 1, 1) := by decide +kernel
theorem dX12_strike_1 : decode cX12_strike 1 = .ok (.iconst 1, 1) := by decide +kernel
theorem dX12_strike_2 : decode cX12_strike 2 = .ok (.iconst 1, 1) := by decide +kernel
theorem dX12_strike_3 : decode cX12_strike 3 = .ok (.aload_n 0, 1) := by decide +kernel
theorem dX12_strike_4 : decode cX12_strike 4 = .ok (.getfield 7, 3) := by decide +kernel
theorem dX12_strike_7 : decode cX12_strike 7 = .ok (.bipush 13, 2) := by decide +kernel
theorem dX12_strike_9 : decode cX12_strike 9 = .ok (.iaload, 1) := by decide +kernel
theorem dX12_strike_10 : decode cX12_strike 10 = .ok (.ishl, 1) := by decide +kernel
theorem dX12_strike_11 : decode cX12_strike 11 = .ok (.iconst 1, 1) := by decide +kernel
theorem dX12_strike_12 : decode cX12_strike 12 = .ok (.isub, 1) := by decide +kernel
theorem dX12_strike_13 : decode cX12_strike 13 = .ok (.invokestatic 69, 3) := by decide +kernel
theorem dX12_strike_16 : decode cX12_strike 16 = .ok (.ifCond .eq 11, 3) := by decide +kernel
theorem dX12_strike_27 : decode cX12_strike 27 = .ok (.iconst (-1), 1) := by decide +kernel
theorem dX12_strike_28 : decode cX12_strike 28 = .ok (.ireturn, 1) := by decide +kernel
theorem dX12_played_0 : decode cX12_played 0 = .ok (.iload_n 1, 1) := by decide +kernel
theorem dX12_played_1 : decode cX12_played 1 = .ok (.iconst 0, 1) := by decide +kernel
theorem dX12_played_2 : decode cX12_played 2 = .ok (.aload_n 0, 1) := by decide +kernel
theorem dX12_played_3 : decode cX12_played 3 = .ok (.getfield 7, 3) := by decide +kernel
theorem dX12_played_6 : decode cX12_played 6 = .ok (.iconst 1, 1) := by decide +kernel
theorem dX12_played_7 : decode cX12_played 7 = .ok (.iaload, 1) := by decide +kernel
theorem dX12_played_8 : decode cX12_played 8 = .ok (.iconst 1, 1) := by decide +kernel
theorem dX12_played_9 : decode cX12_played 9 = .ok (.isub, 1) := by decide +kernel
theorem dX12_played_10 : decode cX12_played 10 = .ok (.invokestatic 69, 3) := by decide +kernel
theorem dX12_played_13 : decode cX12_played 13 = .ok (.ifCond .ne 6, 3) := by decide +kernel
theorem dX12_played_16 : decode cX12_played 16 = .ok (.bipush (-2), 2) := by decide +kernel
theorem dX12_played_18 : decode cX12_played 18 = .ok (.ireturn, 1) := by decide +kernel
theorem dX12_years_0 : decode cX12_years 0 = .ok (.iload_n 1, 1) := by decide +kernel
theorem dX12_years_1 : decode cX12_years 1 = .ok (.iconst 0, 1) := by decide +kernel
theorem dX12_years_2 : decode cX12_years 2 = .ok (.sipush 9999, 3) := by decide +kernel
theorem dX12_years_5 : decode cX12_years 5 = .ok (.invokestatic 69, 3) := by decide +kernel
theorem dX12_years_8 : decode cX12_years 8 = .ok (.ifCond .eq 22, 3) := by decide +kernel
theorem dX12_years_30 : decode cX12_years 30 = .ok (.iconst (-1), 1) := by decide +kernel
theorem dX12_years_31 : decode cX12_years 31 = .ok (.ireturn, 1) := by decide +kernel
theorem dX12_years_11 : decode cX12_years 11 = .ok (.iload_n 2, 1) := by decide +kernel
theorem dX12_years_12 : decode cX12_years 12 = .ok (.iconst 1, 1) := by decide +kernel
theorem dX12_years_13 : decode cX12_years 13 = .ok (.bipush 40, 2) := by decide +kernel
theorem dX12_years_15 : decode cX12_years 15 = .ok (.invokestatic 69, 3) := by decide +kernel
theorem dX12_years_18 : decode cX12_years 18 = .ok (.ifCond .eq 12, 3) := by decide +kernel
theorem dX12_years_21 : decode cX12_years 21 = .ok (.aload_n 0, 1) := by decide +kernel
theorem dX12_years_22 : decode cX12_years 22 = .ok (.getfield 7, 3) := by decide +kernel
theorem dX12_years_25 : decode cX12_years 25 = .ok (.iconst 0, 1) := by decide +kernel
theorem dX12_years_26 : decode cX12_years 26 = .ok (.iaload, 1) := by decide +kernel
theorem dX12_years_27 : decode cX12_years 27 = .ok (.ifCond .ne 5, 3) := by decide +kernel
theorem dX12_book_0 : decode cX12_book 0 = .ok (.iload_n 1, 1) := by decide +kernel
theorem dX12_book_1 : decode cX12_book 1 = .ok (.iconst (-1), 1) := by decide +kernel
theorem dX12_book_2 : decode cX12_book 2 = .ok (.if_icmp .ne 8, 3) := by decide +kernel
theorem dX12_book_10 : decode cX12_book 10 = .ok (.iload_n 1, 1) := by decide +kernel
theorem dX12_book_11 : decode cX12_book 11 = .ok (.iconst 0, 1) := by decide +kernel
theorem dX12_book_12 : decode cX12_book 12 = .ok (.aload_n 0, 1) := by decide +kernel
theorem dX12_book_13 : decode cX12_book 13 = .ok (.invokevirtual 393, 3) := by decide +kernel
theorem dX12_book_16 : decode cX12_book 16 = .ok (.iconst 1, 1) := by decide +kernel
theorem dX12_book_17 : decode cX12_book 17 = .ok (.isub, 1) := by decide +kernel
theorem dX12_book_18 : decode cX12_book 18 = .ok (.invokestatic 69, 3) := by decide +kernel
theorem dX12_book_21 : decode cX12_book 21 = .ok (.ifCond .eq 21, 3) := by decide +kernel
theorem dX12_book_42 : decode cX12_book 42 = .ok (.bipush (-2), 2) := by decide +kernel
theorem dX12_book_44 : decode cX12_book 44 = .ok (.ireturn, 1) := by decide +kernel
theorem dX12_book_5 : decode cX12_book 5 = .ok (.aload_n 0, 1) := by decide +kernel
theorem dX12_book_6 : decode cX12_book 6 = .ok (.invokevirtual 393, 3) := by decide +kernel
theorem dX12_book_9 : decode cX12_book 9 = .ok (.ireturn, 1) := by decide +kernel
theorem dX12_ached_0 : decode cX12_ached 0 = .ok (.iload_n 1, 1) := by decide +kernel
theorem dX12_ached_1 : decode cX12_ached 1 = .ok (.iconst (-1), 1) := by decide +kernel
theorem dX12_ached_2 : decode cX12_ached 2 = .ok (.if_icmp .eq 14, 3) := by decide +kernel
theorem dX12_ached_16 : decode cX12_ached 16 = .ok (.iconst 0, 1) := by decide +kernel
theorem dX12_ached_17 : decode cX12_ached 17 = .ok (.istore_n 2, 1) := by decide +kernel
theorem dX12_ached_18 : decode cX12_ached 18 = .ok (.iconst 0, 1) := by decide +kernel
theorem dX12_ached_19 : decode cX12_ached 19 = .ok (.istore_n 3, 1) := by decide +kernel
theorem dX12_ached_20 : decode cX12_ached 20 = .ok (.iload_n 3, 1) := by decide +kernel
theorem dX12_ached_21 : decode cX12_ached 21 = .ok (.aload_n 0, 1) := by decide +kernel
theorem dX12_ached_22 : decode cX12_ached 22 = .ok (.invokevirtual 393, 3) := by decide +kernel
theorem dX12_ached_25 : decode cX12_ached 25 = .ok (.if_icmp .ge 37, 3) := by decide +kernel
theorem dX12_ached_62 : decode cX12_ached 62 = .ok (.iload_n 2, 1) := by decide +kernel
theorem dX12_ached_63 : decode cX12_ached 63 = .ok (.ireturn, 1) := by decide +kernel
theorem dX12_ached_5 : decode cX12_ached 5 = .ok (.aload_n 0, 1) := by decide +kernel
theorem dX12_ached_6 : decode cX12_ached 6 = .ok (.iload_n 1, 1) := by decide +kernel
theorem dX12_ached_7 : decode cX12_ached 7 = .ok (.invokevirtual 323, 3) := by decide +kernel
theorem dX12_ached_10 : decode cX12_ached 10 = .ok (.ifCond .ne 6, 3) := by decide +kernel
theorem dX12_ached_13 : decode cX12_ached 13 = .ok (.bipush (-2), 2) := by decide +kernel
theorem dX12_ached_15 : decode cX12_ached 15 = .ok (.ireturn, 1) := by decide +kernel
theorem dX12_felt_0 : decode cX12_felt 0 = .ok (.iload_n 1, 1) := by decide +kernel
theorem dX12_felt_1 : decode cX12_felt 1 = .ok (.iconst (-1), 1) := by decide +kernel
theorem dX12_felt_2 : decode cX12_felt 2 = .ok (.if_icmp .ne 12, 3) := by decide +kernel
theorem dX12_felt_14 : decode cX12_felt 14 = .ok (.aload_n 0, 1) := by decide +kernel
theorem dX12_felt_15 : decode cX12_felt 15 = .ok (.iload_n 1, 1) := by decide +kernel
theorem dX12_felt_16 : decode cX12_felt 16 = .ok (.invokevirtual 323, 3) := by decide +kernel
theorem dX12_felt_19 : decode cX12_felt 19 = .ok (.ifCond .eq 35, 3) := by decide +kernel
theorem dX12_felt_54 : decode cX12_felt 54 = .ok (.bipush (-2), 2) := by decide +kernel
theorem dX12_felt_56 : decode cX12_felt 56 = .ok (.ireturn, 1) := by decide +kernel
theorem dX12_felt_5 : decode cX12_felt 5 = .ok (.aload_n 0, 1) := by decide +kernel
theorem dX12_felt_6 : decode cX12_felt 6 = .ok (.getfield 7, 3) := by decide +kernel
theorem dX12_felt_9 : decode cX12_felt 9 = .ok (.iconst 4, 1) := by decide +kernel
theorem dX12_felt_10 : decode cX12_felt 10 = .ok (.iconst 0, 1) := by decide +kernel
theorem dX12_felt_11 : decode cX12_felt 11 = .ok (.iastore, 1) := by decide +kernel
theorem dX12_felt_12 : decode cX12_felt 12 = .ok (.iconst 0, 1) := by decide +kernel
theorem dX12_felt_13 : decode cX12_felt 13 = .ok (.ireturn, 1) := by decide +kernel
theorem dX12_clash_0 : decode cX12_clash 0 = .ok (.iload_n 1, 1) := by decide +kernel
theorem dX12_clash_1 : decode cX12_clash 1 = .ok (.iconst (-1), 1) := by decide +kernel
theorem dX12_clash_2 : decode cX12_clash 2 = .ok (.if_icmp .ne 12, 3) := by decide +kernel
theorem dX12_clash_14 : decode cX12_clash 14 = .ok (.aload_n 0, 1) := by decide +kernel
theorem dX12_clash_15 : decode cX12_clash 15 = .ok (.iload_n 1, 1) := by decide +kernel
theorem dX12_clash_16 : decode cX12_clash 16 = .ok (.invokevirtual 339, 3) := by decide +kernel
theorem dX12_clash_19 : decode cX12_clash 19 = .ok (.ifCond .eq 27, 3) := by decide +kernel
theorem dX12_clash_46 : decode cX12_clash 46 = .ok (.bipush (-2), 2) := by decide +kernel
theorem dX12_clash_48 : decode cX12_clash 48 = .ok (.ireturn, 1) := by decide +kernel
theorem dX12_clash_5 : decode cX12_clash 5 = .ok (.aload_n 0, 1) := by decide +kernel
theorem dX12_clash_6 : decode cX12_clash 6 = .ok (.getfield 7, 3) := by decide +kernel
theorem dX12_clash_9 : decode cX12_clash 9 = .ok (.iconst 5, 1) := by decide +kernel
theorem dX12_clash_10 : decode cX12_clash 10 = .ok (.iconst 0, 1) := by decide +kernel
theorem dX12_clash_11 : decode cX12_clash 11 = .ok (.iastore, 1) := by decide +kernel
theorem dX12_clash_12 : decode cX12_clash 12 = .ok (.iconst 0, 1) := by decide +kernel
theorem dX12_clash_13 : decode cX12_clash 13 = .ok (.ireturn, 1) := by decide +kernel
theorem dX12_saw_0 : decode cX12_saw 0 = .ok (.iload_n 1, 1) := by decide +kernel
theorem dX12_saw_1 : decode cX12_saw 1 = .ok (.iconst (-1), 1) := by decide +kernel
theorem dX12_saw_2 : decode cX12_saw 2 = .ok (.if_icmp .ne 13, 3) := by decide +kernel
theorem dX12_saw_15 : decode cX12_saw 15 = .ok (.aload_n 0, 1) := by decide +kernel
theorem dX12_saw_16 : decode cX12_saw 16 = .ok (.iload_n 1, 1) := by decide +kernel
theorem dX12_saw_17 : decode cX12_saw 17 = .ok (.invokevirtual 323, 3) := by decide +kernel
theorem dX12_saw_20 : decode cX12_saw 20 = .ok (.ifCond .eq 28, 3) := by decide +kernel
theorem dX12_saw_48 : decode cX12_saw 48 = .ok (.bipush (-2), 2) := by decide +kernel
theorem dX12_saw_50 : decode cX12_saw 50 = .ok (.ireturn, 1) := by decide +kernel
theorem dX12_saw_5 : decode cX12_saw 5 = .ok (.aload_n 0, 1) := by decide +kernel
theorem dX12_saw_6 : decode cX12_saw 6 = .ok (.getfield 7, 3) := by decide +kernel
theorem dX12_saw_9 : decode cX12_saw 9 = .ok (.bipush 7, 2) := by decide +kernel
theorem dX12_saw_11 : decode cX12_saw 11 = .ok (.iconst 0, 1) := by decide +kernel
theorem dX12_saw_12 : decode cX12_saw 12 = .ok (.iastore, 1) := by decide +kernel
theorem dX12_saw_13 : decode cX12_saw 13 = .ok (.iconst 0, 1) := by decide +kernel
theorem dX12_saw_14 : decode cX12_saw 14 = .ok (.ireturn, 1) := by decide +kernel
theorem dX12_worn_0 : decode cX12_worn 0 = .ok (.iload_n 1, 1) := by decide +kernel
theorem dX12_worn_1 : decode cX12_worn 1 = .ok (.iconst (-1), 1) := by decide +kernel
theorem dX12_worn_2 : decode cX12_worn 2 = .ok (.if_icmp .ne 13, 3) := by decide +kernel
theorem dX12_worn_15 : decode cX12_worn 15 = .ok (.aload_n 0, 1) := by decide +kernel
theorem dX12_worn_16 : decode cX12_worn 16 = .ok (.iload_n 1, 1) := by decide +kernel
theorem dX12_worn_17 : decode cX12_worn 17 = .ok (.invokevirtual 339, 3) := by decide +kernel
theorem dX12_worn_20 : decode cX12_worn 20 = .ok (.ifCond .eq 25, 3) := by decide +kernel
theorem dX12_worn_45 : decode cX12_worn 45 = .ok (.bipush (-2), 2) := by decide +kernel
theorem dX12_worn_47 : decode cX12_worn 47 = .ok (.ireturn, 1) := by decide +kernel
theorem dX12_worn_5 : decode cX12_worn 5 = .ok (.aload_n 0, 1) := by decide +kernel
theorem dX12_worn_6 : decode cX12_worn 6 = .ok (.getfield 7, 3) := by decide +kernel
theorem dX12_worn_9 : decode cX12_worn 9 = .ok (.bipush 8, 2) := by decide +kernel
theorem dX12_worn_11 : decode cX12_worn 11 = .ok (.iconst 0, 1) := by decide +kernel
theorem dX12_worn_12 : decode cX12_worn 12 = .ok (.iastore, 1) := by decide +kernel
theorem dX12_worn_13 : decode cX12_worn 13 = .ok (.iconst 0, 1) := by decide +kernel
theorem dX12_worn_14 : decode cX12_worn 14 = .ok (.ireturn, 1) := by decide +kernel
theorem dX12_word_0 : decode cX12_word 0 = .ok (.iload_n 1, 1) := by decide +kernel
theorem dX12_word_1 : decode cX12_word 1 = .ok (.iconst (-1), 1) := by decide +kernel
theorem dX12_word_2 : decode cX12_word 2 = .ok (.if_icmp .ne 13, 3) := by decide +kernel
theorem dX12_word_15 : decode cX12_word 15 = .ok (.iload_n 1, 1) := by decide +kernel
theorem dX12_word_16 : decode cX12_word 16 = .ok (.iconst 1, 1) := by decide +kernel
theorem dX12_word_17 : decode cX12_word 17 = .ok (.bipush 99, 2) := by decide +kernel
theorem dX12_word_19 : decode cX12_word 19 = .ok (.invokestatic 69, 3) := by decide +kernel
theorem dX12_word_22 : decode cX12_word 22 = .ok (.ifCond .eq 26, 3) := by decide +kernel
theorem dX12_word_48 : decode cX12_word 48 = .ok (.bipush (-2), 2) := by decide +kernel
theorem dX12_word_50 : decode cX12_word 50 = .ok (.ireturn, 1) := by decide +kernel
theorem dX12_word_25 : decode cX12_word 25 = .ok (.iload_n 2, 1) := by decide +kernel
theorem dX12_word_26 : decode cX12_word 26 = .ok (.iconst 0, 1) := by decide +kernel
theorem dX12_word_27 : decode cX12_word 27 = .ok (.sipush 999, 3) := by decide +kernel
theorem dX12_word_30 : decode cX12_word 30 = .ok (.invokestatic 69, 3) := by decide +kernel
theorem dX12_word_33 : decode cX12_word 33 = .ok (.ifCond .eq 15, 3) := by decide +kernel
theorem dX12_word_36 : decode cX12_word 36 = .ok (.aload_n 0, 1) := by decide +kernel
theorem dX12_word_37 : decode cX12_word 37 = .ok (.getfield 7, 3) := by decide +kernel
theorem dX12_word_40 : decode cX12_word 40 = .ok (.bipush 6, 2) := by decide +kernel
theorem dX12_word_42 : decode cX12_word 42 = .ok (.iaload, 1) := by decide +kernel
theorem dX12_word_43 : decode cX12_word 43 = .ok (.bipush 8, 2) := by decide +kernel
theorem dX12_word_45 : decode cX12_word 45 = .ok (.if_icmp .ne 6, 3) := by decide +kernel
theorem dX12_word_51 : decode cX12_word 51 = .ok (.aload_n 0, 1) := by decide +kernel
theorem dX12_word_52 : decode cX12_word 52 = .ok (.getfield 7, 3) := by decide +kernel
theorem dX12_word_55 : decode cX12_word 55 = .ok (.sipush 160, 3) := by decide +kernel
theorem dX12_word_58 : decode cX12_word 58 = .ok (.iconst 2, 1) := by decide +kernel
theorem dX12_word_59 : decode cX12_word 59 = .ok (.aload_n 0, 1) := by decide +kernel
theorem dX12_word_60 : decode cX12_word 60 = .ok (.getfield 7, 3) := by decide +kernel
theorem dX12_word_63 : decode cX12_word 63 = .ok (.bipush 6, 2) := by decide +kernel
theorem dX12_word_65 : decode cX12_word 65 = .ok (.iaload, 1) := by decide +kernel
theorem dX12_word_66 : decode cX12_word 66 = .ok (.imul, 1) := by decide +kernel
theorem dX12_word_67 : decode cX12_word 67 = .ok (.iadd, 1) := by decide +kernel
theorem dX12_word_68 : decode cX12_word 68 = .ok (.iload_n 1, 1) := by decide +kernel
theorem dX12_word_69 : decode cX12_word 69 = .ok (.iastore, 1) := by decide +kernel
theorem dX12_word_70 : decode cX12_word 70 = .ok (.aload_n 0, 1) := by decide +kernel
theorem dX12_word_71 : decode cX12_word 71 = .ok (.getfield 7, 3) := by decide +kernel
theorem dX12_word_74 : decode cX12_word 74 = .ok (.sipush 160, 3) := by decide +kernel
theorem dX12_word_77 : decode cX12_word 77 = .ok (.iconst 2, 1) := by decide +kernel
theorem dX12_word_78 : decode cX12_word 78 = .ok (.aload_n 0, 1) := by decide +kernel
theorem dX12_word_79 : decode cX12_word 79 = .ok (.getfield 7, 3) := by decide +kernel
theorem dX12_word_82 : decode cX12_word 82 = .ok (.bipush 6, 2) := by decide +kernel
theorem dX12_word_84 : decode cX12_word 84 = .ok (.iaload, 1) := by decide +kernel
theorem dX12_word_85 : decode cX12_word 85 = .ok (.imul, 1) := by decide +kernel
theorem dX12_word_86 : decode cX12_word 86 = .ok (.iadd, 1) := by decide +kernel
theorem dX12_word_87 : decode cX12_word 87 = .ok (.iconst 1, 1) := by decide +kernel
theorem dX12_word_88 : decode cX12_word 88 = .ok (.iadd, 1) := by decide +kernel
theorem dX12_word_89 : decode cX12_word 89 = .ok (.iload_n 2, 1) := by decide +kernel
theorem dX12_word_90 : decode cX12_word 90 = .ok (.iastore, 1) := by decide +kernel
theorem dX12_word_91 : decode cX12_word 91 = .ok (.aload_n 0, 1) := by decide +kernel
theorem dX12_word_92 : decode cX12_word 92 = .ok (.getfield 7, 3) := by decide +kernel
theorem dX12_word_95 : decode cX12_word 95 = .ok (.bipush 6, 2) := by decide +kernel
theorem dX12_word_97 : decode cX12_word 97 = .ok (.dup2, 1) := by decide +kernel
theorem dX12_word_98 : decode cX12_word 98 = .ok (.iaload, 1) := by decide +kernel
theorem dX12_word_99 : decode cX12_word 99 = .ok (.iconst 1, 1) := by decide +kernel
theorem dX12_word_100 : decode cX12_word 100 = .ok (.iadd, 1) := by decide +kernel
theorem dX12_word_101 : decode cX12_word 101 = .ok (.iastore, 1) := by decide +kernel
theorem dX12_word_102 : decode cX12_word 102 = .ok (.aload_n 0, 1) := by decide +kernel
theorem dX12_word_103 : decode cX12_word 103 = .ok (.getfield 7, 3) := by decide +kernel
theorem dX12_word_106 : decode cX12_word 106 = .ok (.bipush 6, 2) := by decide +kernel
theorem dX12_word_108 : decode cX12_word 108 = .ok (.iaload, 1) := by decide +kernel
theorem dX12_word_109 : decode cX12_word 109 = .ok (.ireturn, 1) := by decide +kernel
theorem dX12_word_5 : decode cX12_word 5 = .ok (.aload_n 0, 1) := by decide +kernel
theorem dX12_word_6 : decode cX12_word 6 = .ok (.getfield 7, 3) := by decide +kernel
theorem dX12_word_9 : decode cX12_word 9 = .ok (.bipush 6, 2) := by decide +kernel
theorem dX12_word_11 : decode cX12_word 11 = .ok (.iconst 0, 1) := by decide +kernel
theorem dX12_word_12 : decode cX12_word 12 = .ok (.iastore, 1) := by decide +kernel
theorem dX12_word_13 : decode cX12_word 13 = .ok (.iconst 0, 1) := by decide +kernel
theorem dX12_word_14 : decode cX12_word 14 = .ok (.ireturn, 1) := by decide +kernel
theorem dX12_inTime_0 : decode cX12_inTime 0 = .ok (.iload_n 1, 1) := by decide +kernel
theorem dX12_inTime_1 : decode cX12_inTime 1 = .ok (.iconst 0, 1) := by decide +kernel
theorem dX12_inTime_2 : decode cX12_inTime 2 = .ok (.iconst 2, 1) := by decide +kernel
theorem dX12_inTime_3 : decode cX12_inTime 3 = .ok (.invokestatic 69, 3) := by decide +kernel
theorem dX12_inTime_6 : decode cX12_inTime 6 = .ok (.ifCond .ne 5, 3) := by decide +kernel
theorem dX12_inTime_11 : decode cX12_inTime 11 = .ok (.iconst 0, 1) := by decide +kernel
theorem dX12_inTime_12 : decode cX12_inTime 12 = .ok (.istore_n 2, 1) := by decide +kernel
theorem dX12_inTime_13 : decode cX12_inTime 13 = .ok (.iconst 1, 1) := by decide +kernel
theorem dX12_inTime_14 : decode cX12_inTime 14 = .ok (.istore_n 3, 1) := by decide +kernel
theorem dX12_inTime_15 : decode cX12_inTime 15 = .ok (.iload_n 3, 1) := by decide +kernel
theorem dX12_inTime_16 : decode cX12_inTime 16 = .ok (.iconst 1, 1) := by decide +kernel
theorem dX12_inTime_17 : decode cX12_inTime 17 = .ok (.aload_n 0, 1) := by decide +kernel
theorem dX12_inTime_18 : decode cX12_inTime 18 = .ok (.getfield 7, 3) := by decide +kernel
theorem dX12_inTime_21 : decode cX12_inTime 21 = .ok (.bipush 6, 2) := by decide +kernel
theorem dX12_inTime_23 : decode cX12_inTime 23 = .ok (.iaload, 1) := by decide +kernel
theorem dX12_inTime_24 : decode cX12_inTime 24 = .ok (.ishl, 1) := by decide +kernel
theorem dX12_inTime_25 : decode cX12_inTime 25 = .ok (.if_icmp .ge 30, 3) := by decide +kernel
theorem dX12_inTime_55 : decode cX12_inTime 55 = .ok (.iload_n 1, 1) := by decide +kernel
theorem dX12_inTime_56 : decode cX12_inTime 56 = .ok (.ifCond .ne 10, 3) := by decide +kernel
theorem dX12_inTime_66 : decode cX12_inTime 66 = .ok (.iload_n 1, 1) := by decide +kernel
theorem dX12_inTime_67 : decode cX12_inTime 67 = .ok (.iconst 1, 1) := by decide +kernel
theorem dX12_inTime_68 : decode cX12_inTime 68 = .ok (.if_icmp .ne 7, 3) := by decide +kernel
theorem dX12_inTime_75 : decode cX12_inTime 75 = .ok (.aload_n 0, 1) := by decide +kernel
theorem dX12_inTime_76 : decode cX12_inTime 76 = .ok (.iload_n 2, 1) := by decide +kernel
theorem dX12_inTime_77 : decode cX12_inTime 77 = .ok (.invokevirtual 431, 3) := by decide +kernel
theorem cw_X12_workOf : CWv yX12_workOf cX12_workOf 4 (some .int) 1 := ⟨⟨⟨List.mem_of_getElem? (i := 137) (by decide +kernel), by decide +kernel⟩, ⟨List.mem_of_getElem? (i := 2094) (by decide +kernel), by decide +kernel⟩, by decide +kernel⟩, ⟨List.mem_of_getElem? (i := 2093) (by decide +kernel), by decide +kernel⟩, ⟨List.mem_of_getElem? (i := 118) (by decide +kernel), by decide +kernel⟩⟩
theorem km12_431 : inW (Cond.methodLink RX12 431 yX12_workOf) := ⟨List.mem_of_getElem? (i := 2091) (by decide +kernel), by decide +kernel⟩
theorem dX12_inTime_80 : decode cX12_inTime 80 = .ok (.ireturn, 1) := by decide +kernel
theorem dX12_inTime_71 : decode cX12_inTime 71 = .ok (.iload_n 2, 1) := by decide +kernel
theorem dX12_inTime_72 : decode cX12_inTime 72 = .ok (.goto 8, 3) := by decide +kernel
theorem dX12_inTime_59 : decode cX12_inTime 59 = .ok (.iload_n 2, 1) := by decide +kernel
theorem dX12_inTime_60 : decode cX12_inTime 60 = .ok (.invokestatic 268, 3) := by decide +kernel
theorem dX12_inTime_63 : decode cX12_inTime 63 = .ok (.goto 17, 3) := by decide +kernel
theorem dX12_inTime_9 : decode cX12_inTime 9 = .ok (.iconst (-1), 1) := by decide +kernel
theorem dX12_inTime_10 : decode cX12_inTime 10 = .ok (.ireturn, 1) := by decide +kernel
theorem dX12_fewest_0 : decode cX12_fewest 0 = .ok (.iconst 1, 1) := by decide +kernel
theorem dX12_fewest_1 : decode cX12_fewest 1 = .ok (.aload_n 0, 1) := by decide +kernel
theorem dX12_fewest_2 : decode cX12_fewest 2 = .ok (.getfield 7, 3) := by decide +kernel
theorem dX12_fewest_5 : decode cX12_fewest 5 = .ok (.iconst 0, 1) := by decide +kernel
theorem dX12_fewest_6 : decode cX12_fewest 6 = .ok (.iaload, 1) := by decide +kernel
theorem dX12_fewest_7 : decode cX12_fewest 7 = .ok (.ishl, 1) := by decide +kernel
theorem dX12_fewest_8 : decode cX12_fewest 8 = .ok (.iconst 1, 1) := by decide +kernel
theorem dX12_fewest_9 : decode cX12_fewest 9 = .ok (.isub, 1) := by decide +kernel
theorem dX12_fewest_10 : decode cX12_fewest 10 = .ok (.istore_n 1, 1) := by decide +kernel
theorem dX12_fewest_11 : decode cX12_fewest 11 = .ok (.iload_n 1, 1) := by decide +kernel
theorem dX12_fewest_12 : decode cX12_fewest 12 = .ok (.istore_n 2, 1) := by decide +kernel
theorem dX12_fewest_13 : decode cX12_fewest 13 = .ok (.iload_n 2, 1) := by decide +kernel
theorem dX12_fewest_14 : decode cX12_fewest 14 = .ok (.ifCond .lt 75, 3) := by decide +kernel
theorem dX12_fewest_17 : decode cX12_fewest 17 = .ok (.iconst 0, 1) := by decide +kernel
theorem dX12_fewest_18 : decode cX12_fewest 18 = .ok (.istore_n 3, 1) := by decide +kernel
theorem dX12_fewest_19 : decode cX12_fewest 19 = .ok (.iconst 0, 1) := by decide +kernel
theorem dX12_fewest_20 : decode cX12_fewest 20 = .ok (.istore 4, 2) := by decide +kernel
theorem dX12_fewest_22 : decode cX12_fewest 22 = .ok (.iload 4, 2) := by decide +kernel
theorem dX12_fewest_24 : decode cX12_fewest 24 = .ok (.aload_n 0, 1) := by decide +kernel
theorem dX12_fewest_25 : decode cX12_fewest 25 = .ok (.getfield 7, 3) := by decide +kernel
theorem dX12_fewest_28 : decode cX12_fewest 28 = .ok (.iconst 0, 1) := by decide +kernel
theorem dX12_fewest_29 : decode cX12_fewest 29 = .ok (.iaload, 1) := by decide +kernel
theorem dX12_fewest_30 : decode cX12_fewest 30 = .ok (.if_icmp .ge 32, 3) := by decide +kernel
theorem dX12_fewest_62 : decode cX12_fewest 62 = .ok (.iload_n 3, 1) := by decide +kernel
theorem dX12_fewest_63 : decode cX12_fewest 63 = .ok (.aload_n 0, 1) := by decide +kernel
theorem dX12_fewest_64 : decode cX12_fewest 64 = .ok (.invokevirtual 440, 3) := by decide +kernel
theorem cw_X12_legible : CWv yX12_legible cX12_legible 3 (some .int) 0 := ⟨⟨⟨List.mem_of_getElem? (i := 137) (by decide +kernel), by decide +kernel⟩, ⟨List.mem_of_getElem? (i := 2130) (by decide +kernel), by decide +kernel⟩, by decide +kernel⟩, ⟨List.mem_of_getElem? (i := 2129) (by decide +kernel), by decide +kernel⟩, ⟨List.mem_of_getElem? (i := 122) (by decide +kernel), by decide +kernel⟩⟩
theorem km12_440 : inW (Cond.methodLink RX12 440 yX12_legible) := ⟨List.mem_of_getElem? (i := 2127) (by decide +kernel), by decide +kernel⟩
theorem dX12_fewest_67 : decode cX12_fewest 67 = .ok (.if_icmp .ne 16, 3) := by decide +kernel
theorem dX12_fewest_70 : decode cX12_fewest 70 = .ok (.iload_n 2, 1) := by decide +kernel
theorem dX12_fewest_71 : decode cX12_fewest 71 = .ok (.invokestatic 268, 3) := by decide +kernel
theorem dX12_fewest_74 : decode cX12_fewest 74 = .ok (.iload_n 1, 1) := by decide +kernel
theorem dX12_fewest_75 : decode cX12_fewest 75 = .ok (.invokestatic 268, 3) := by decide +kernel
theorem dX12_fewest_78 : decode cX12_fewest 78 = .ok (.if_icmp .gt 5, 3) := by decide +kernel
theorem dX12_fewest_81 : decode cX12_fewest 81 = .ok (.iload_n 2, 1) := by decide +kernel
theorem dX12_fewest_82 : decode cX12_fewest 82 = .ok (.istore_n 1, 1) := by decide +kernel
theorem dX12_fewest_83 : decode cX12_fewest 83 = .ok (.iinc 2 (-1), 3) := by decide +kernel
theorem dX12_fewest_86 : decode cX12_fewest 86 = .ok (.goto (-73), 3) := by decide +kernel
theorem dX12_fewest_89 : decode cX12_fewest 89 = .ok (.iload_n 1, 1) := by decide +kernel
theorem dX12_fewest_90 : decode cX12_fewest 90 = .ok (.ireturn, 1) := by decide +kernel
theorem dX12_allSeen_0 : decode cX12_allSeen 0 = .ok (.iconst 0, 1) := by decide +kernel
theorem dX12_allSeen_1 : decode cX12_allSeen 1 = .ok (.istore_n 1, 1) := by decide +kernel
theorem dX12_allSeen_2 : decode cX12_allSeen 2 = .ok (.iload_n 1, 1) := by decide +kernel
theorem dX12_allSeen_3 : decode cX12_allSeen 3 = .ok (.aload_n 0, 1) := by decide +kernel
theorem dX12_allSeen_4 : decode cX12_allSeen 4 = .ok (.getfield 7, 3) := by decide +kernel
theorem dX12_allSeen_7 : decode cX12_allSeen 7 = .ok (.iconst 0, 1) := by decide +kernel
theorem dX12_allSeen_8 : decode cX12_allSeen 8 = .ok (.iaload, 1) := by decide +kernel
theorem dX12_allSeen_9 : decode cX12_allSeen 9 = .ok (.if_icmp .ge 20, 3) := by decide +kernel
theorem dX12_allSeen_29 : decode cX12_allSeen 29 = .ok (.aload_n 0, 1) := by decide +kernel
theorem dX12_allSeen_30 : decode cX12_allSeen 30 = .ok (.invokevirtual 443, 3) := by decide +kernel
theorem cw_X12_fewest : CWv yX12_fewest cX12_fewest 5 (some .int) 0 := ⟨⟨⟨List.mem_of_getElem? (i := 137) (by decide +kernel), by decide +kernel⟩, ⟨List.mem_of_getElem? (i := 2126) (by decide +kernel), by decide +kernel⟩, by decide +kernel⟩, ⟨List.mem_of_getElem? (i := 2125) (by decide +kernel), by decide +kernel⟩, ⟨List.mem_of_getElem? (i := 121) (by decide +kernel), by decide +kernel⟩⟩
theorem km12_443 : inW (Cond.methodLink RX12 443 yX12_fewest) := ⟨List.mem_of_getElem? (i := 2123) (by decide +kernel), by decide +kernel⟩
theorem dX12_allSeen_33 : decode cX12_allSeen 33 = .ok (.ireturn, 1) := by decide +kernel
theorem dX12_together_0 : decode cX12_together 0 = .ok (.iconst 0, 1) := by decide +kernel
theorem dX12_together_1 : decode cX12_together 1 = .ok (.istore_n 1, 1) := by decide +kernel
theorem dX12_together_2 : decode cX12_together 2 = .ok (.iload_n 1, 1) := by decide +kernel
theorem dX12_together_3 : decode cX12_together 3 = .ok (.aload_n 0, 1) := by decide +kernel
theorem dX12_together_4 : decode cX12_together 4 = .ok (.getfield 7, 3) := by decide +kernel
theorem dX12_together_7 : decode cX12_together 7 = .ok (.iconst 0, 1) := by decide +kernel
theorem dX12_together_8 : decode cX12_together 8 = .ok (.iaload, 1) := by decide +kernel
theorem dX12_together_9 : decode cX12_together 9 = .ok (.if_icmp .ge 20, 3) := by decide +kernel
theorem dX12_together_29 : decode cX12_together 29 = .ok (.aload_n 0, 1) := by decide +kernel
theorem dX12_together_30 : decode cX12_together 30 = .ok (.invokevirtual 443, 3) := by decide +kernel
theorem dX12_together_33 : decode cX12_together 33 = .ok (.ireturn, 1) := by decide +kernel
theorem dX12_is_0 : decode cX12_is 0 = .ok (.iload_n 1, 1) := by decide +kernel
theorem dX12_is_1 : decode cX12_is 1 = .ok (.iconst 0, 1) := by decide +kernel
theorem dX12_is_2 : decode cX12_is 2 = .ok (.iconst 3, 1) := by decide +kernel
theorem dX12_is_3 : decode cX12_is 3 = .ok (.invokestatic 69, 3) := by decide +kernel
theorem dX12_is_6 : decode cX12_is 6 = .ok (.ifCond .eq 15, 3) := by decide +kernel
theorem dX12_is_21 : decode cX12_is 21 = .ok (.bipush (-2), 2) := by decide +kernel
theorem dX12_is_23 : decode cX12_is 23 = .ok (.ireturn, 1) := by decide +kernel
theorem dX12_is_9 : decode cX12_is 9 = .ok (.aload_n 0, 1) := by decide +kernel
theorem dX12_is_10 : decode cX12_is 10 = .ok (.getfield 7, 3) := by decide +kernel
theorem dX12_is_13 : decode cX12_is 13 = .ok (.bipush 10, 2) := by decide +kernel
theorem dX12_is_15 : decode cX12_is 15 = .ok (.iload_n 1, 1) := by decide +kernel
theorem dX12_is_16 : decode cX12_is 16 = .ok (.iadd, 1) := by decide +kernel
theorem dX12_is_17 : decode cX12_is 17 = .ok (.iaload, 1) := by decide +kernel
theorem dX12_is_18 : decode cX12_is 18 = .ok (.goto 5, 3) := by decide +kernel
theorem dX12_about_0 : decode cX12_about 0 = .ok (.iload_n 1, 1) := by decide +kernel
theorem dX12_about_1 : decode cX12_about 1 = .ok (.iconst 0, 1) := by decide +kernel
theorem dX12_about_2 : decode cX12_about 2 = .ok (.bipush 8, 2) := by decide +kernel
theorem dX12_about_4 : decode cX12_about 4 = .ok (.invokestatic 69, 3) := by decide +kernel
theorem dX12_about_7 : decode cX12_about 7 = .ok (.ifCond .eq 12, 3) := by decide +kernel
theorem dX12_about_19 : decode cX12_about 19 = .ok (.iload_n 1, 1) := by decide +kernel
theorem dX12_about_20 : decode cX12_about 20 = .ok (.bipush 9, 2) := by decide +kernel
theorem dX12_about_22 : decode cX12_about 22 = .ok (.if_icmp .ne 10, 3) := by decide +kernel
theorem dX12_about_32 : decode cX12_about 32 = .ok (.bipush (-2), 2) := by decide +kernel
theorem dX12_about_34 : decode cX12_about 34 = .ok (.ireturn, 1) := by decide +kernel
theorem dX12_about_25 : decode cX12_about 25 = .ok (.aload_n 0, 1) := by decide +kernel
theorem dX12_about_26 : decode cX12_about 26 = .ok (.getfield 81, 3) := by decide +kernel
theorem dX12_about_29 : decode cX12_about 29 = .ok (.goto 5, 3) := by decide +kernel
theorem dX12_about_10 : decode cX12_about 10 = .ok (.aload_n 0, 1) := by decide +kernel
theorem dX12_about_11 : decode cX12_about 11 = .ok (.getfield 7, 3) := by decide +kernel
theorem dX12_about_14 : decode cX12_about 14 = .ok (.iload_n 1, 1) := by decide +kernel
theorem dX12_about_15 : decode cX12_about 15 = .ok (.iaload, 1) := by decide +kernel
theorem dX12_about_16 : decode cX12_about 16 = .ok (.goto 18, 3) := by decide +kernel
def a0 : Nat → Int32 := fun k => if k = 12 then 137 else if k = 2 then -1 else 0
theorem wi_is {q : Int32} (h : ¬ wi q 0 3 = 0) : q = 0 ∨ q = 1 ∨ q = 2 ∨ q = 3 := by
  rcases sw_0_3 q with h1 | h1 | h1 | h1 | h1
  · exact Or.inl h1
  · exact Or.inr (Or.inl h1)
  · exact Or.inr (Or.inr (Or.inl h1))
  · exact Or.inr (Or.inr (Or.inr h1))
  · refine absurd ?_ h
    unfold wi
    rcases h1 with h1 | h1
    · rw [if_pos (Int32.lt_iff_toInt_lt.mpr h1)]
    · rw [if_pos (show (3 : Int32) < q from Int32.lt_iff_toInt_lt.mpr h1)]
      split <;> rfl
theorem isF_out {q : Int32} (h : wi q 0 3 = 0) : isF q = -2 := by
  rcases sw_0_3 q with h1 | h1 | h1 | h1 | h1
  · rw [h1] at h; exact absurd h (by decide)
  · rw [h1] at h; exact absurd h (by decide)
  · rw [h1] at h; exact absurd h (by decide)
  · rw [h1] at h; exact absurd h (by decide)
  · have key : ∀ j : Int32, 0 ≤ j.toInt → j.toInt ≤ 3 → ¬ q = j := fun j h2 h3 z => by rw [z] at h1; omega
    unfold isF
    simp [key 0 (by decide) (by decide), key 1 (by decide) (by decide), key 2 (by decide) (by decide), key 3 (by decide) (by decide)]
theorem wi_ab {q : Int32} (h : ¬ wi q 0 8 = 0) : q = 0 ∨ q = 1 ∨ q = 2 ∨ q = 3 ∨ q = 4 ∨ q = 5 ∨ q = 6 ∨ q = 7 ∨ q = 8 := by
  rcases sw_0_9 q with h1 | h1 | h1 | h1 | h1 | h1 | h1 | h1 | h1 | h1 | h1
  · simp [h1]
  · simp [h1]
  · simp [h1]
  · simp [h1]
  · simp [h1]
  · simp [h1]
  · simp [h1]
  · simp [h1]
  · simp [h1]
  · rw [h1] at h; exact absurd (by decide) h
  · refine absurd ?_ h
    unfold wi
    rcases h1 with h1 | h1
    · rw [if_pos (Int32.lt_iff_toInt_lt.mpr h1)]
    · rw [if_pos (show (8 : Int32) < q from Int32.lt_iff_toInt_lt.mpr (by rw [show (8 : Int32).toInt = 8 from rfl]; omega))]
      split <;> rfl
theorem about_out {q : Int32} (h : wi q 0 8 = 0) (h9 : ¬ q = 9) : aboutF q = -2 := by
  rcases sw_0_9 q with h1 | h1 | h1 | h1 | h1 | h1 | h1 | h1 | h1 | h1 | h1
  · rw [h1] at h; exact absurd h (by decide)
  · rw [h1] at h; exact absurd h (by decide)
  · rw [h1] at h; exact absurd h (by decide)
  · rw [h1] at h; exact absurd h (by decide)
  · rw [h1] at h; exact absurd h (by decide)
  · rw [h1] at h; exact absurd h (by decide)
  · rw [h1] at h; exact absurd h (by decide)
  · rw [h1] at h; exact absurd h (by decide)
  · rw [h1] at h; exact absurd h (by decide)
  · exact absurd h1 h9
  · have key : ∀ j : Int32, 0 ≤ j.toInt → j.toInt ≤ 9 → ¬ q = j := fun j h2 h3 z => by rw [z] at h1; omega
    unfold aboutF
    simp [key 0 (by decide) (by decide), key 1 (by decide) (by decide), key 2 (by decide) (by decide), key 3 (by decide) (by decide), key 4 (by decide) (by decide), key 5 (by decide) (by decide), key 6 (by decide) (by decide), key 7 (by decide) (by decide), key 8 (by decide) (by decide), key 9 (by decide) (by decide)]
set_option maxHeartbeats 4000000 in
set_option maxRecDepth 100000 in
theorem c_X12_bits {l : Launch} {G : GG} {L : List Nat} {f : HF}     : PMp l yX12_bits cX12_bits 3 .int 0 0 0 G [.int 0] L f (fun r => r = 0) := by
  refine PMi.of (post := fun r L1 f1 => (r = 0) ∧ L1 = L ∧ f1 = f) (own := RX12) (by decide) rfl (Nat.le_of_ble_eq_true rfl) (fun sz p e s m args below meth c A ls hA1 hname S Y hl => ?_)
  have hx := S.hx
  have hb := S.hb
  have hl : lv_has ls 3 [(0, .int 0)] := hl
  refine lv_iconst (v := 0) hx hb dX12_bits_0 (by decide) ?_
  refine lv_istore_n (lv' := [(1, .int 0), (0, .int 0)]) hx hb dX12_bits_1 rfl hl (by decide) rfl (fun ls hl => ?_)
  refine lv_iload_n hx hb dX12_bits_2 rfl (lv_at hl 1 rfl) ?_
  refine lv_istore_n (lv' := [(2, .int 0), (1, .int 0), (0, .int 0)]) hx hb dX12_bits_3 rfl hl (by decide) rfl (fun ls hl => ?_)
  refine lv_iload_n hx hb dX12_bits_4 rfl (lv_at hl 0 rfl) ?_
  refine lv_if_eq (tgt := 20) hx hb dX12_bits_5 (by decide) (fun _ => ?_) (fun h => absurd (by decide) h)
  refine lv_iload_n hx hb dX12_bits_20 rfl (lv_at hl 1 rfl) ?_
  exact prI (post := fun r L1 f1 => (r = 0) ∧ L1 = L ∧ f1 = f) S Y rfl (by decide) (by decide) hA1 ⟨rfl, rfl, rfl⟩ dX12_bits_21
set_option maxHeartbeats 4000000 in
set_option maxRecDepth 100000 in
theorem c_X12_isOne {l : Launch} {G : GG} {L : List Nat} {f : HF} {h a im te tp pi co na vl tr ac as_ su wi_ se : Nat} {o : Int32}  (p_h : pt L f h (.inr (12, [.ref a, .ref im, .ref te, .ref tp, .int 0, .int (-1), .int (-1), .int 0, .int 0, .int 0, .int 0, .long 0, .int 0, .int 0, .int 0, .ref pi, .ref co, .int 0, .int 0, .int 0, .int 0, .int 0, .ref na, .ref vl, .ref tr, .int 1, .ref ac, .ref as_, .ref su, .ref wi_, .int 0, .ref se]))) (p_a : pt L f a (.inl (G.2 0, 10568, .inl a0)))  : PMp l yX12_isOne cX12_isOne 2 .boolean 1 0 0 G [.ref h, .int o] L f (fun r => r = 0) := by
  refine PMi.of (post := fun r L1 f1 => (r = 0) ∧ L1 = L ∧ f1 = f) (own := RX12) (by decide) rfl (Nat.le_of_ble_eq_true rfl) (fun sz p e s m args below meth c A ls hA1 hname S Y hl => ?_)
  have hx := S.hx
  have hb := S.hb
  have hl : lv_has ls 2 [(0, .ref h), (1, .int o)] := hl
  refine lv_iload_n hx hb dX12_isOne_0 rfl (lv_at hl 1 rfl) ?_
  refine lv_iconst (v := 0) hx hb dX12_isOne_1 (by decide) ?_
  refine lv_aload_n hx hb dX12_isOne_2 rfl (lv_at hl 0 rfl) ?_
  refine pg_get S Y ok_X12 0 (by decide) kf12_7 (v := .ref a) p_h rfl dX12_isOne_3 ?_
  refine lv_iconst (v := 0) hx hb dX12_isOne_6 (by decide) ?_
  refine pg_iald S Y (v := 0) p_a (by unfold vp_in; decide) (by decide) dX12_isOne_7 ?_
  refine lv_iconst (v := 1) hx hb dX12_isOne_8 (by decide) ?_
  refine lv_isub hx hb dX12_isOne_9 ?_
  refine lv_fold (z := (-1)) (by decide) ?_
  refine cSp (As := [.int o, .int 0, .int (-1)]) (rest := []) S Y (c_X12_isIn (l := l)) cw_X12_isIn km12_69 rfl ⟨Nat.le_of_ble_eq_true rfl, Nat.le_of_ble_eq_true rfl⟩ hl.1 rfl (Nat.le_of_ble_eq_true rfl) ⟨Nat.le_of_ble_eq_true rfl, Nat.le_of_ble_eq_true rfl⟩ dX12_isOne_10 (fun r_905 H locs er_905 Y => ?_)
  refine lv_fold (z := (wi o 0 (-1))) er_905 ?_
  exact prI (post := fun r L1 f1 => (r = 0) ∧ L1 = L ∧ f1 = f) S Y (by rw [wi_m1]; rfl) (by decide) (by decide) hA1 ⟨wi_m1 o, rfl, rfl⟩ dX12_isOne_13
set_option maxHeartbeats 4000000 in
set_option maxRecDepth 100000 in
theorem c_X12_isOath {l : Launch} {G : GG} {L : List Nat} {f : HF} {h a im te tp pi co na vl tr ac as_ su wi_ se : Nat} {o : Int32}  (p_h : pt L f h (.inr (12, [.ref a, .ref im, .ref te, .ref tp, .int 0, .int (-1), .int (-1), .int 0, .int 0, .int 0, .int 0, .long 0, .int 0, .int 0, .int 0, .ref pi, .ref co, .int 0, .int 0, .int 0, .int 0, .int 0, .ref na, .ref vl, .ref tr, .int 1, .ref ac, .ref as_, .ref su, .ref wi_, .int 0, .ref se]))) (p_a : pt L f a (.inl (G.2 0, 10568, .inl a0)))  : PMp l yX12_isOath cX12_isOath 2 .boolean 1 0 0 G [.ref h, .int o] L f (fun r => r = 0) := by
  refine PMi.of (post := fun r L1 f1 => (r = 0) ∧ L1 = L ∧ f1 = f) (own := RX12) (by decide) rfl (Nat.le_of_ble_eq_true rfl) (fun sz p e s m args below meth c A ls hA1 hname S Y hl => ?_)
  have hx := S.hx
  have hb := S.hb
  have hl : lv_has ls 2 [(0, .ref h), (1, .int o)] := hl
  refine lv_iload_n hx hb dX12_isOath_0 rfl (lv_at hl 1 rfl) ?_
  refine lv_iconst (v := 0) hx hb dX12_isOath_1 (by decide) ?_
  refine lv_aload_n hx hb dX12_isOath_2 rfl (lv_at hl 0 rfl) ?_
  refine pg_get S Y ok_X12 0 (by decide) kf12_7 (v := .ref a) p_h rfl dX12_isOath_3 ?_
  refine lv_bipush (v := 13) hx hb dX12_isOath_6 (by decide) ?_
  refine pg_iald S Y (v := 0) p_a (by unfold vp_in; decide) (by decide) dX12_isOath_8 ?_
  refine lv_iconst (v := 1) hx hb dX12_isOath_9 (by decide) ?_
  refine lv_isub hx hb dX12_isOath_10 ?_
  refine lv_fold (z := (-1)) (by decide) ?_
  refine cSp (As := [.int o, .int 0, .int (-1)]) (rest := []) S Y (c_X12_isIn (l := l)) cw_X12_isIn km12_69 rfl ⟨Nat.le_of_ble_eq_true rfl, Nat.le_of_ble_eq_true rfl⟩ hl.1 rfl (Nat.le_of_ble_eq_true rfl) ⟨Nat.le_of_ble_eq_true rfl, Nat.le_of_ble_eq_true rfl⟩ dX12_isOath_11 (fun r_906 H locs er_906 Y => ?_)
  refine lv_fold (z := (wi o 0 (-1))) er_906 ?_
  exact prI (post := fun r L1 f1 => (r = 0) ∧ L1 = L ∧ f1 = f) S Y (by rw [wi_m1]; rfl) (by decide) (by decide) hA1 ⟨wi_m1 o, rfl, rfl⟩ dX12_isOath_14
set_option maxHeartbeats 4000000 in
set_option maxRecDepth 100000 in
theorem c_X12_legibleOn {l : Launch} {G : GG} {L : List Nat} {f : HF} {h a im te tp pi co na vl tr ac as_ su wi_ se : Nat} {o : Int32}  (p_h : pt L f h (.inr (12, [.ref a, .ref im, .ref te, .ref tp, .int 0, .int (-1), .int (-1), .int 0, .int 0, .int 0, .int 0, .long 0, .int 0, .int 0, .int 0, .ref pi, .ref co, .int 0, .int 0, .int 0, .int 0, .int 0, .ref na, .ref vl, .ref tr, .int 1, .ref ac, .ref as_, .ref su, .ref wi_, .int 0, .ref se]))) (p_a : pt L f a (.inl (G.2 0, 10568, .inl a0)))  : PMp l yX12_legibleOn cX12_legibleOn 4 .int 0 0 0 G [.ref h, .int o] L f (fun r => r = 0) := by
  refine PMi.of (post := fun r L1 f1 => (r = 0) ∧ L1 = L ∧ f1 = f) (own := RX12) (by decide) rfl (Nat.le_of_ble_eq_true rfl) (fun sz p e s m args below meth c A ls hA1 hname S Y hl => ?_)
  have hx := S.hx
  have hb := S.hb
  have hl : lv_has ls 4 [(0, .ref h), (1, .int o)] := hl
  refine lv_iconst (v := 0) hx hb dX12_legibleOn_0 (by decide) ?_
  refine lv_istore_n (lv' := [(2, .int 0), (0, .ref h), (1, .int o)]) hx hb dX12_legibleOn_1 rfl hl (by decide) rfl (fun ls hl => ?_)
  refine lv_iconst (v := 0) hx hb dX12_legibleOn_2 (by decide) ?_
  refine lv_istore_n (lv' := [(3, .int 0), (2, .int 0), (0, .ref h), (1, .int o)]) hx hb dX12_legibleOn_3 rfl hl (by decide) rfl (fun ls hl => ?_)
  refine lv_iload_n hx hb dX12_legibleOn_4 rfl (lv_at hl 0 rfl) ?_
  refine lv_aload_n hx hb dX12_legibleOn_5 rfl (lv_at hl 2 rfl) ?_
  refine pg_get S Y ok_X12 0 (by decide) kf12_7 (v := .ref a) p_h rfl dX12_legibleOn_6 ?_
  refine lv_bipush (v := 13) hx hb dX12_legibleOn_9 (by decide) ?_
  refine pg_iald S Y (v := 0) p_a (by unfold vp_in; decide) (by decide) dX12_legibleOn_11 ?_
  refine lv_icmp_ge (tgt := 49) hx hb dX12_legibleOn_12 (by decide) (fun _ => ?_) (fun h => absurd (by decide) h)
  refine lv_iload_n hx hb dX12_legibleOn_49 rfl (lv_at hl 1 rfl) ?_
  exact prI (post := fun r L1 f1 => (r = 0) ∧ L1 = L ∧ f1 = f) S Y rfl (by decide) (by decide) hA1 ⟨rfl, rfl, rfl⟩ dX12_legibleOn_50
set_option maxHeartbeats 4000000 in
set_option maxRecDepth 100000 in
theorem c_X12_legible {l : Launch} {G : GG} {L : List Nat} {f : HF} {h a im te tp pi co na vl tr ac as_ su wi_ se : Nat}  (p_h : pt L f h (.inr (12, [.ref a, .ref im, .ref te, .ref tp, .int 0, .int (-1), .int (-1), .int 0, .int 0, .int 0, .int 0, .long 0, .int 0, .int 0, .int 0, .ref pi, .ref co, .int 0, .int 0, .int 0, .int 0, .int 0, .ref na, .ref vl, .ref tr, .int 1, .ref ac, .ref as_, .ref su, .ref wi_, .int 0, .ref se]))) (p_a : pt L f a (.inl (G.2 0, 10568, .inl a0)))  : PMp l yX12_legible cX12_legible 3 .int 0 0 0 G [.ref h] L f (fun r => r = 0) := by
  refine PMi.of (post := fun r L1 f1 => (r = 0) ∧ L1 = L ∧ f1 = f) (own := RX12) (by decide) rfl (Nat.le_of_ble_eq_true rfl) (fun sz p e s m args below meth c A ls hA1 hname S Y hl => ?_)
  have hx := S.hx
  have hb := S.hb
  have hl : lv_has ls 3 [(0, .ref h)] := hl
  refine lv_iconst (v := 0) hx hb dX12_legible_0 (by decide) ?_
  refine lv_istore_n (lv' := [(1, .int 0), (0, .ref h)]) hx hb dX12_legible_1 rfl hl (by decide) rfl (fun ls hl => ?_)
  refine lv_iconst (v := 0) hx hb dX12_legible_2 (by decide) ?_
  refine lv_istore_n (lv' := [(2, .int 0), (1, .int 0), (0, .ref h)]) hx hb dX12_legible_3 rfl hl (by decide) rfl (fun ls hl => ?_)
  refine lv_iload_n hx hb dX12_legible_4 rfl (lv_at hl 0 rfl) ?_
  refine lv_aload_n hx hb dX12_legible_5 rfl (lv_at hl 2 rfl) ?_
  refine pg_get S Y ok_X12 0 (by decide) kf12_7 (v := .ref a) p_h rfl dX12_legible_6 ?_
  refine lv_bipush (v := 13) hx hb dX12_legible_9 (by decide) ?_
  refine pg_iald S Y (v := 0) p_a (by unfold vp_in; decide) (by decide) dX12_legible_11 ?_
  refine lv_icmp_ge (tgt := 39) hx hb dX12_legible_12 (by decide) (fun _ => ?_) (fun h => absurd (by decide) h)
  refine lv_iload_n hx hb dX12_legible_39 rfl (lv_at hl 1 rfl) ?_
  exact prI (post := fun r L1 f1 => (r = 0) ∧ L1 = L ∧ f1 = f) S Y rfl (by decide) (by decide) hA1 ⟨rfl, rfl, rfl⟩ dX12_legible_40
set_option maxHeartbeats 4000000 in
set_option maxRecDepth 100000 in
theorem c_X12_keptOnes {l : Launch} {G : GG} {L : List Nat} {f : HF} {h a im te tp pi co na vl tr ac as_ su wi_ se : Nat}  (p_h : pt L f h (.inr (12, [.ref a, .ref im, .ref te, .ref tp, .int 0, .int (-1), .int (-1), .int 0, .int 0, .int 0, .int 0, .long 0, .int 0, .int 0, .int 0, .ref pi, .ref co, .int 0, .int 0, .int 0, .int 0, .int 0, .ref na, .ref vl, .ref tr, .int 1, .ref ac, .ref as_, .ref su, .ref wi_, .int 0, .ref se]))) (p_a : pt L f a (.inl (G.2 0, 10568, .inl a0)))  : PMp l yX12_keptOnes cX12_keptOnes 3 .int 0 0 0 G [.ref h] L f (fun r => r = 0) := by
  refine PMi.of (post := fun r L1 f1 => (r = 0) ∧ L1 = L ∧ f1 = f) (own := RX12) (by decide) rfl (Nat.le_of_ble_eq_true rfl) (fun sz p e s m args below meth c A ls hA1 hname S Y hl => ?_)
  have hx := S.hx
  have hb := S.hb
  have hl : lv_has ls 3 [(0, .ref h)] := hl
  refine lv_iconst (v := 0) hx hb dX12_keptOnes_0 (by decide) ?_
  refine lv_istore_n (lv' := [(1, .int 0), (0, .ref h)]) hx hb dX12_keptOnes_1 rfl hl (by decide) rfl (fun ls hl => ?_)
  refine lv_iconst (v := 0) hx hb dX12_keptOnes_2 (by decide) ?_
  refine lv_istore_n (lv' := [(2, .int 0), (1, .int 0), (0, .ref h)]) hx hb dX12_keptOnes_3 rfl hl (by decide) rfl (fun ls hl => ?_)
  refine lv_iload_n hx hb dX12_keptOnes_4 rfl (lv_at hl 0 rfl) ?_
  refine lv_aload_n hx hb dX12_keptOnes_5 rfl (lv_at hl 2 rfl) ?_
  refine pg_get S Y ok_X12 0 (by decide) kf12_7 (v := .ref a) p_h rfl dX12_keptOnes_6 ?_
  refine lv_bipush (v := 13) hx hb dX12_keptOnes_9 (by decide) ?_
  refine pg_iald S Y (v := 0) p_a (by unfold vp_in; decide) (by decide) dX12_keptOnes_11 ?_
  refine lv_icmp_ge (tgt := 40) hx hb dX12_keptOnes_12 (by decide) (fun _ => ?_) (fun h => absurd (by decide) h)
  refine lv_iload_n hx hb dX12_keptOnes_40 rfl (lv_at hl 1 rfl) ?_
  exact prI (post := fun r L1 f1 => (r = 0) ∧ L1 = L ∧ f1 = f) S Y rfl (by decide) (by decide) hA1 ⟨rfl, rfl, rfl⟩ dX12_keptOnes_41
set_option maxHeartbeats 4000000 in
set_option maxRecDepth 100000 in
theorem c_X12_isAtPeace {l : Launch} {G : GG} {L : List Nat} {f : HF} {h a im te tp pi co na vl tr ac as_ su wi_ se : Nat} {o : Int32}  (p_h : pt L f h (.inr (12, [.ref a, .ref im, .ref te, .ref tp, .int 0, .int (-1), .int (-1), .int 0, .int 0, .int 0, .int 0, .long 0, .int 0, .int 0, .int 0, .ref pi, .ref co, .int 0, .int 0, .int 0, .int 0, .int 0, .ref na, .ref vl, .ref tr, .int 1, .ref ac, .ref as_, .ref su, .ref wi_, .int 0, .ref se]))) (p_a : pt L f a (.inl (G.2 0, 10568, .inl a0)))  : PMp l yX12_isAtPeace cX12_isAtPeace 3 .boolean 0 0 0 G [.ref h, .int o] L f (fun r => r = 1) := by
  refine PMi.of (post := fun r L1 f1 => (r = 1) ∧ L1 = L ∧ f1 = f) (own := RX12) (by decide) rfl (Nat.le_of_ble_eq_true rfl) (fun sz p e s m args below meth c A ls hA1 hname S Y hl => ?_)
  have hx := S.hx
  have hb := S.hb
  have hl : lv_has ls 3 [(0, .ref h), (1, .int o)] := hl
  refine lv_iconst (v := 0) hx hb dX12_isAtPeace_0 (by decide) ?_
  refine lv_istore_n (lv' := [(2, .int 0), (0, .ref h), (1, .int o)]) hx hb dX12_isAtPeace_1 rfl hl (by decide) rfl (fun ls hl => ?_)
  refine lv_iload_n hx hb dX12_isAtPeace_2 rfl (lv_at hl 0 rfl) ?_
  refine lv_aload_n hx hb dX12_isAtPeace_3 rfl (lv_at hl 1 rfl) ?_
  refine pg_get S Y ok_X12 0 (by decide) kf12_7 (v := .ref a) p_h rfl dX12_isAtPeace_4 ?_
  refine lv_iconst (v := 5) hx hb dX12_isAtPeace_7 (by decide) ?_
  refine pg_iald S Y (v := 0) p_a (by unfold vp_in; decide) (by decide) dX12_isAtPeace_8 ?_
  refine lv_icmp_ge (tgt := 60) hx hb dX12_isAtPeace_9 (by decide) (fun _ => ?_) (fun h => absurd (by decide) h)
  refine lv_iconst (v := 1) hx hb dX12_isAtPeace_60 (by decide) ?_
  exact prI (post := fun r L1 f1 => (r = 1) ∧ L1 = L ∧ f1 = f) S Y rfl (by decide) (by decide) hA1 ⟨rfl, rfl, rfl⟩ dX12_isAtPeace_61
set_option maxHeartbeats 4000000 in
set_option maxRecDepth 100000 in
theorem c_X12_shown {l : Launch} {G : GG} {L : List Nat} {f : HF} {h a im te tp pi co na vl tr ac as_ su wi_ se : Nat}  (p_h : pt L f h (.inr (12, [.ref a, .ref im, .ref te, .ref tp, .int 0, .int (-1), .int (-1), .int 0, .int 0, .int 0, .int 0, .long 0, .int 0, .int 0, .int 0, .ref pi, .ref co, .int 0, .int 0, .int 0, .int 0, .int 0, .ref na, .ref vl, .ref tr, .int 1, .ref ac, .ref as_, .ref su, .ref wi_, .int 0, .ref se]))) (p_a : pt L f a (.inl (G.2 0, 10568, .inl a0)))  : PMp l yX12_shown cX12_shown 1 .int 0 0 0 G [.ref h] L f (fun r => r = 0) := by
  refine PMi.of (post := fun r L1 f1 => (r = 0) ∧ L1 = L ∧ f1 = f) (own := RX12) (by decide) rfl (Nat.le_of_ble_eq_true rfl) (fun sz p e s m args below meth c A ls hA1 hname S Y hl => ?_)
  have hx := S.hx
  have hb := S.hb
  have hl : lv_has ls 1 [(0, .ref h)] := hl
  refine lv_aload_n hx hb dX12_shown_0 rfl (lv_at hl 0 rfl) ?_
  refine pg_get S Y ok_X12 0 (by decide) kf12_7 (v := .ref a) p_h rfl dX12_shown_1 ?_
  refine lv_bipush (v := 14) hx hb dX12_shown_4 (by decide) ?_
  refine pg_iald S Y (v := 0) p_a (by unfold vp_in; decide) (by decide) dX12_shown_6 ?_
  refine lv_bipush (v := 30) hx hb dX12_shown_7 (by decide) ?_
  refine lv_icmp_ge (tgt := 22) hx hb dX12_shown_9 (by decide) (fun h => absurd h (by decide)) (fun _ => ?_)
  refine lv_aload_n hx hb dX12_shown_12 rfl (lv_at hl 0 rfl) ?_
  refine pg_get S Y ok_X12 0 (by decide) kf12_7 (v := .ref a) p_h rfl dX12_shown_13 ?_
  refine lv_bipush (v := 14) hx hb dX12_shown_16 (by decide) ?_
  refine pg_iald S Y (v := 0) p_a (by unfold vp_in; decide) (by decide) dX12_shown_18 ?_
  refine lv_goto (tgt := 24) hx hb dX12_shown_19 (by decide) ?_
  exact prI (post := fun r L1 f1 => (r = 0) ∧ L1 = L ∧ f1 = f) S Y rfl (by decide) (by decide) hA1 ⟨rfl, rfl, rfl⟩ dX12_shown_24
set_option maxHeartbeats 4000000 in
set_option maxRecDepth 100000 in
theorem c_X12_workOf {l : Launch} {G : GG} {L : List Nat} {f : HF} {h a im te tp pi co na vl tr ac as_ su wi_ se : Nat} {o : Int32}  (p_h : pt L f h (.inr (12, [.ref a, .ref im, .ref te, .ref tp, .int 0, .int (-1), .int (-1), .int 0, .int 0, .int 0, .int 0, .long 0, .int 0, .int 0, .int 0, .ref pi, .ref co, .int 0, .int 0, .int 0, .int 0, .int 0, .ref na, .ref vl, .ref tr, .int 1, .ref ac, .ref as_, .ref su, .ref wi_, .int 0, .ref se]))) (p_a : pt L f a (.inl (G.2 0, 10568, .inl a0)))  : PMp l yX12_workOf cX12_workOf 4 .int 0 0 0 G [.ref h, .int o] L f (fun r => r = 0) := by
  refine PMi.of (post := fun r L1 f1 => (r = 0) ∧ L1 = L ∧ f1 = f) (own := RX12) (by decide) rfl (Nat.le_of_ble_eq_true rfl) (fun sz p e s m args below meth c A ls hA1 hname S Y hl => ?_)
  have hx := S.hx
  have hb := S.hb
  have hl : lv_has ls 4 [(0, .ref h), (1, .int o)] := hl
  refine lv_iconst (v := 0) hx hb dX12_workOf_0 (by decide) ?_
  refine lv_istore_n (lv' := [(2, .int 0), (0, .ref h), (1, .int o)]) hx hb dX12_workOf_1 rfl hl (by decide) rfl (fun ls hl => ?_)
  refine lv_iconst (v := 0) hx hb dX12_workOf_2 (by decide) ?_
  refine lv_istore_n (lv' := [(3, .int 0), (2, .int 0), (0, .ref h), (1, .int o)]) hx hb dX12_workOf_3 rfl hl (by decide) rfl (fun ls hl => ?_)
  refine lv_iload_n hx hb dX12_workOf_4 rfl (lv_at hl 0 rfl) ?_
  refine lv_aload_n hx hb dX12_workOf_5 rfl (lv_at hl 2 rfl) ?_
  refine pg_get S Y ok_X12 0 (by decide) kf12_7 (v := .ref a) p_h rfl dX12_workOf_6 ?_
  refine lv_bipush (v := 6) hx hb dX12_workOf_9 (by decide) ?_
  refine pg_iald S Y (v := 0) p_a (by unfold vp_in; decide) (by decide) dX12_workOf_11 ?_
  refine lv_icmp_ge (tgt := 48) hx hb dX12_workOf_12 (by decide) (fun _ => ?_) (fun h => absurd (by decide) h)
  refine lv_iload_n hx hb dX12_workOf_48 rfl (lv_at hl 1 rfl) ?_
  exact prI (post := fun r L1 f1 => (r = 0) ∧ L1 = L ∧ f1 = f) S Y rfl (by decide) (by decide) hA1 ⟨rfl, rfl, rfl⟩ dX12_workOf_49
set_option maxHeartbeats 4000000 in
set_option maxRecDepth 100000 in
theorem c_X12_ownOf {l : Launch} {G : GG} {L : List Nat} {f : HF} {h a im te tp pi co na vl tr ac as_ su wi_ se : Nat} {o : Int32}  (p_h : pt L f h (.inr (12, [.ref a, .ref im, .ref te, .ref tp, .int 0, .int (-1), .int (-1), .int 0, .int 0, .int 0, .int 0, .long 0, .int 0, .int 0, .int 0, .ref pi, .ref co, .int 0, .int 0, .int 0, .int 0, .int 0, .ref na, .ref vl, .ref tr, .int 1, .ref ac, .ref as_, .ref su, .ref wi_, .int 0, .ref se]))) (p_a : pt L f a (.inl (G.2 0, 10568, .inl a0)))  : PMp l yX12_ownOf cX12_ownOf 4 .int 0 0 0 G [.ref h, .int o] L f (fun r => r = 0) := by
  refine PMi.of (post := fun r L1 f1 => (r = 0) ∧ L1 = L ∧ f1 = f) (own := RX12) (by decide) rfl (Nat.le_of_ble_eq_true rfl) (fun sz p e s m args below meth c A ls hA1 hname S Y hl => ?_)
  have hx := S.hx
  have hb := S.hb
  have hl : lv_has ls 4 [(0, .ref h), (1, .int o)] := hl
  refine lv_iconst (v := 0) hx hb dX12_ownOf_0 (by decide) ?_
  refine lv_istore_n (lv' := [(2, .int 0), (0, .ref h), (1, .int o)]) hx hb dX12_ownOf_1 rfl hl (by decide) rfl (fun ls hl => ?_)
  refine lv_iconst (v := 0) hx hb dX12_ownOf_2 (by decide) ?_
  refine lv_istore_n (lv' := [(3, .int 0), (2, .int 0), (0, .ref h), (1, .int o)]) hx hb dX12_ownOf_3 rfl hl (by decide) rfl (fun ls hl => ?_)
  refine lv_iload_n hx hb dX12_ownOf_4 rfl (lv_at hl 0 rfl) ?_
  refine lv_aload_n hx hb dX12_ownOf_5 rfl (lv_at hl 2 rfl) ?_
  refine pg_get S Y ok_X12 0 (by decide) kf12_7 (v := .ref a) p_h rfl dX12_ownOf_6 ?_
  refine lv_bipush (v := 13) hx hb dX12_ownOf_9 (by decide) ?_
  refine pg_iald S Y (v := 0) p_a (by unfold vp_in; decide) (by decide) dX12_ownOf_11 ?_
  refine lv_icmp_ge (tgt := 59) hx hb dX12_ownOf_12 (by decide) (fun _ => ?_) (fun h => absurd (by decide) h)
  refine lv_iload_n hx hb dX12_ownOf_59 rfl (lv_at hl 1 rfl) ?_
  exact prI (post := fun r L1 f1 => (r = 0) ∧ L1 = L ∧ f1 = f) S Y rfl (by decide) (by decide) hA1 ⟨rfl, rfl, rfl⟩ dX12_ownOf_60
set_option maxHeartbeats 4000000 in
set_option maxRecDepth 100000 in
theorem c_X12_canSwear {l : Launch} {G : GG} {L : List Nat} {f : HF} {h a im te tp pi co na vl tr ac as_ su wi_ se : Nat} {x y : Int32}  (p_h : pt L f h (.inr (12, [.ref a, .ref im, .ref te, .ref tp, .int 0, .int (-1), .int (-1), .int 0, .int 0, .int 0, .int 0, .long 0, .int 0, .int 0, .int 0, .ref pi, .ref co, .int 0, .int 0, .int 0, .int 0, .int 0, .ref na, .ref vl, .ref tr, .int 1, .ref ac, .ref as_, .ref su, .ref wi_, .int 0, .ref se]))) (p_a : pt L f a (.inl (G.2 0, 10568, .inl a0)))  : PMp l yX12_canSwear cX12_canSwear 3 .boolean 2 0 0 G [.ref h, .int x, .int y] L f (fun r => r = 0) := by
  refine PMi.of (post := fun r L1 f1 => (r = 0) ∧ L1 = L ∧ f1 = f) (own := RX12) (by decide) rfl (Nat.le_of_ble_eq_true rfl) (fun sz p e s m args below meth c A ls hA1 hname S Y hl => ?_)
  have hx := S.hx
  have hb := S.hb
  have hl : lv_has ls 3 [(0, .ref h), (1, .int x), (2, .int y)] := hl
  refine lv_aload_n hx hb dX12_canSwear_0 rfl (lv_at hl 0 rfl) ?_
  refine lv_iload_n hx hb dX12_canSwear_1 rfl (lv_at hl 1 rfl) ?_
  refine cVp (As := [.int x]) (rest := []) S Y (c_X12_isOne (l := l) p_h p_a) cw_X12_isOne km12_323 p_h ok_X12.1 rfl rfl ⟨Nat.le_of_ble_eq_true rfl, Nat.le_of_ble_eq_true rfl⟩ hl.1 rfl (Nat.le_of_ble_eq_true rfl) ⟨Nat.le_of_ble_eq_true rfl, Nat.le_of_ble_eq_true rfl⟩ dX12_canSwear_2 (fun r_907 H locs er_907 Y => ?_)
  refine lv_fold (z := 0) er_907 ?_
  refine lv_if_eq (tgt := 37) hx hb dX12_canSwear_5 (by decide) (fun _ => ?_) (fun h => absurd (by decide) h)
  refine lv_iconst (v := 0) hx hb dX12_canSwear_37 (by decide) ?_
  exact prI (post := fun r L1 f1 => (r = 0) ∧ L1 = L ∧ f1 = f) S Y rfl (by decide) (by decide) hA1 ⟨rfl, rfl, rfl⟩ dX12_canSwear_38
set_option maxHeartbeats 4000000 in
set_option maxRecDepth 100000 in
theorem c_X12_one {l : Launch} {G : GG} {L : List Nat} {f : HF} {h a im te tp pi co na vl tr ac as_ su wi_ se : Nat} {t u : Int32}  (p_h : pt L f h (.inr (12, [.ref a, .ref im, .ref te, .ref tp, .int 0, .int (-1), .int (-1), .int 0, .int 0, .int 0, .int 0, .long 0, .int 0, .int 0, .int 0, .ref pi, .ref co, .int 0, .int 0, .int 0, .int 0, .int 0, .ref na, .ref vl, .ref tr, .int 1, .ref ac, .ref as_, .ref su, .ref wi_, .int 0, .ref se]))) (p_a : pt L f a (.inl (G.2 0, 10568, .inl a0)))  : PMi l yX12_one cX12_one 3 .int 1 0 0 G [.ref h, .int t, .int u] L f (fun r L1 f1 => r = if wi t 0 9 = 0 then -1 else if wi u 0 99 = 0 then -1 else 0) := by
  refine PMi.of (post := fun r L1 f1 => r = if wi t 0 9 = 0 then -1 else if wi u 0 99 = 0 then -1 else 0) (own := RX12) (by decide) rfl (Nat.le_of_ble_eq_true rfl) (fun sz p e s m args below meth c A ls hA1 hname S Y hl => ?_)
  have hx := S.hx
  have hb := S.hb
  have hl : lv_has ls 3 [(0, .ref h), (1, .int t), (2, .int u)] := hl
  refine lv_iload_n hx hb dX12_one_0 rfl (lv_at hl 1 rfl) ?_
  refine lv_iconst (v := 0) hx hb dX12_one_1 (by decide) ?_
  refine lv_bipush (v := 9) hx hb dX12_one_2 (by decide) ?_
  refine cSp (As := [.int t, .int 0, .int 9]) (rest := []) S Y (c_X12_isIn (l := l)) cw_X12_isIn km12_69 rfl ⟨Nat.le_of_ble_eq_true rfl, Nat.le_of_ble_eq_true rfl⟩ hl.1 rfl (Nat.le_of_ble_eq_true rfl) ⟨Nat.le_of_ble_eq_true rfl, Nat.le_of_ble_eq_true rfl⟩ dX12_one_4 (fun r_908 H locs er_908 Y => ?_)
  refine lv_fold (z := (wi t 0 9)) er_908 ?_
  refine lv_if_eq (tgt := 31) hx hb dX12_one_7 (by decide) (fun c_909 => ?_) (fun c_909 => ?_)
  · refine lv_iconst (v := (-1)) hx hb dX12_one_31 (by decide) ?_
    exact prI (post := fun r L1 f1 => r = if wi t 0 9 = 0 then -1 else if wi u 0 99 = 0 then -1 else 0) S Y rfl (by decide) (by decide) hA1 (by rw [if_pos c_909]) dX12_one_32
  · refine lv_iload_n hx hb dX12_one_10 rfl (lv_at hl 2 rfl) ?_
    refine lv_iconst (v := 0) hx hb dX12_one_11 (by decide) ?_
    refine lv_bipush (v := 99) hx hb dX12_one_12 (by decide) ?_
    refine cSp (As := [.int u, .int 0, .int 99]) (rest := []) S Y (c_X12_isIn (l := l)) cw_X12_isIn km12_69 rfl ⟨Nat.le_of_ble_eq_true rfl, Nat.le_of_ble_eq_true rfl⟩ hl.1 rfl (Nat.le_of_ble_eq_true rfl) ⟨Nat.le_of_ble_eq_true rfl, Nat.le_of_ble_eq_true rfl⟩ dX12_one_14 (fun r_910 H locs er_910 Y => ?_)
    refine lv_fold (z := (wi u 0 99)) er_910 ?_
    refine lv_if_eq (tgt := 31) hx hb dX12_one_17 (by decide) (fun c_911 => ?_) (fun c_911 => ?_)
    · refine lv_iconst (v := (-1)) hx hb dX12_one_31 (by decide) ?_
      exact prI (post := fun r L1 f1 => r = if wi t 0 9 = 0 then -1 else if wi u 0 99 = 0 then -1 else 0) S Y rfl (by decide) (by decide) hA1 (by rw [if_neg c_909, if_pos c_911]) dX12_one_32
    · refine lv_aload_n hx hb dX12_one_20 rfl (lv_at hl 0 rfl) ?_
      refine pg_get S Y ok_X12 0 (by decide) kf12_7 (v := .ref a) p_h rfl dX12_one_21 ?_
      refine lv_iconst (v := 0) hx hb dX12_one_24 (by decide) ?_
      refine pg_iald S Y (v := 0) p_a (by unfold vp_in; decide) (by decide) dX12_one_25 ?_
      refine lv_bipush (v := 6) hx hb dX12_one_26 (by decide) ?_
      refine lv_icmp_ne (tgt := 33) hx hb dX12_one_28 (by decide) (fun _ => ?_) (fun h => absurd h (by decide))
      refine lv_aload_n hx hb dX12_one_33 rfl (lv_at hl 0 rfl) ?_
      refine pg_get S Y ok_X12 0 (by decide) kf12_7 (v := .ref a) p_h rfl dX12_one_34 ?_
      refine lv_bipush (v := 114) hx hb dX12_one_37 (by decide) ?_
      refine lv_iconst (v := 2) hx hb dX12_one_39 (by decide) ?_
      refine lv_aload_n hx hb dX12_one_40 rfl (lv_at hl 0 rfl) ?_
      refine pg_get S Y ok_X12 0 (by decide) kf12_7 (v := .ref a) p_h rfl dX12_one_41 ?_
      refine lv_iconst (v := 0) hx hb dX12_one_44 (by decide) ?_
      refine pg_iald S Y (v := 0) p_a (by unfold vp_in; decide) (by decide) dX12_one_45 ?_
      refine lv_imul hx hb dX12_one_46 ?_
      refine lv_fold (z := 0) (by decide) ?_
      refine lv_iadd hx hb dX12_one_47 ?_
      refine lv_fold (z := 114) (by decide) ?_
      refine lv_iload_n hx hb dX12_one_48 rfl (lv_at hl 1 rfl) ?_
      refine pg_iast S Y p_a (by unfold vp_in; decide) dX12_one_49 (fun f_913 H locs ef_913 Y => ?_)
      obtain ⟨g_912, eg_912⟩ : ∃ z, z = upd (a0) (114 : Int32).toNatClampNeg t := ⟨_, rfl⟩
      rw [← eg_912] at ef_913
      have p_h := p_h.up ef_913 ((p_h.neA p_a))
      have p_a := p_a.me ef_913
      refine lv_aload_n hx hb dX12_one_50 rfl (lv_at hl 0 rfl) ?_
      refine pg_get S Y ok_X12 0 (by decide) kf12_7 (v := .ref a) p_h rfl dX12_one_51 ?_
      refine lv_bipush (v := 114) hx hb dX12_one_54 (by decide) ?_
      refine lv_iconst (v := 2) hx hb dX12_one_56 (by decide) ?_
      refine lv_aload_n hx hb dX12_one_57 rfl (lv_at hl 0 rfl) ?_
      refine pg_get S Y ok_X12 0 (by decide) kf12_7 (v := .ref a) p_h rfl dX12_one_58 ?_
      refine lv_iconst (v := 0) hx hb dX12_one_61 (by decide) ?_
      refine pg_iald S Y (v := 0) p_a (by unfold vp_in; decide) ((congrFun eg_912 _).trans ((pk_un (by decide)).trans (by decide))) dX12_one_62 ?_
      refine lv_imul hx hb dX12_one_63 ?_
      refine lv_fold (z := 0) (by decide) ?_
      refine lv_iadd hx hb dX12_one_64 ?_
      refine lv_fold (z := 114) (by decide) ?_
      refine lv_iconst (v := 1) hx hb dX12_one_65 (by decide) ?_
      refine lv_iadd hx hb dX12_one_66 ?_
      refine lv_fold (z := 115) (by decide) ?_
      refine lv_iload_n hx hb dX12_one_67 rfl (lv_at hl 2 rfl) ?_
      refine pg_iast S Y p_a (by unfold vp_in; decide) dX12_one_68 (fun f_915 H locs ef_915 Y => ?_)
      obtain ⟨g_914, eg_914⟩ : ∃ z, z = upd (g_912) (115 : Int32).toNatClampNeg u := ⟨_, rfl⟩
      rw [← eg_914] at ef_915
      have p_h := p_h.up ef_915 ((p_h.neA p_a))
      have p_a := p_a.me ef_915
      refine lv_aload_n hx hb dX12_one_69 rfl (lv_at hl 0 rfl) ?_
      refine pg_get S Y ok_X12 0 (by decide) kf12_7 (v := .ref a) p_h rfl dX12_one_70 ?_
      refine lv_iconst (v := 0) hx hb dX12_one_73 (by decide) ?_
      refine lv_dup2_11 hx hb dX12_one_74 rfl rfl ?_
      refine pg_iald S Y (v := 0) p_a (by unfold vp_in; decide) ((congrFun eg_914 _).trans ((pk_un (by decide)).trans ((congrFun eg_912 _).trans ((pk_un (by decide)).trans (by decide))))) dX12_one_75 ?_
      refine lv_iconst (v := 1) hx hb dX12_one_76 (by decide) ?_
      refine lv_iadd hx hb dX12_one_77 ?_
      refine lv_fold (z := 1) (by decide) ?_
      refine pg_iast S Y p_a (by unfold vp_in; decide) dX12_one_78 (fun f_917 H locs ef_917 Y => ?_)
      obtain ⟨g_916, eg_916⟩ : ∃ z, z = upd (g_914) (0 : Int32).toNatClampNeg 1 := ⟨_, rfl⟩
      rw [← eg_916] at ef_917
      have p_h := p_h.up ef_917 ((p_h.neA p_a))
      have p_a := p_a.me ef_917
      refine lv_aload_n hx hb dX12_one_79 rfl (lv_at hl 0 rfl) ?_
      refine pg_get S Y ok_X12 0 (by decide) kf12_7 (v := .ref a) p_h rfl dX12_one_80 ?_
      refine lv_iconst (v := 0) hx hb dX12_one_83 (by decide) ?_
      refine pg_iald S Y (v := 1) p_a (by unfold vp_in; decide) ((congrFun eg_916 _).trans pk_us) dX12_one_84 ?_
      refine lv_iconst (v := 1) hx hb dX12_one_85 (by decide) ?_
      refine lv_isub hx hb dX12_one_86 ?_
      refine lv_fold (z := 0) (by decide) ?_
      exact prI (post := fun r L1 f1 => r = if wi t 0 9 = 0 then -1 else if wi u 0 99 = 0 then -1 else 0) S Y rfl (by decide) (by decide) hA1 (by rw [if_neg c_909, if_neg c_911]) dX12_one_87
set_option maxHeartbeats 4000000 in
set_option maxRecDepth 100000 in
theorem c_four_0 {l : Launch} {G : GG} {L : List Nat} {f : HF} {h a im te tp pi co na vl tr ac as_ su wi_ se : Nat} {v : Int32} {g : Nat → Int32}  (p_h : pt L f h (.inr (12, [.ref a, .ref im, .ref te, .ref tp, .int 0, .int (-1), .int (-1), .int 0, .int 0, .int 0, .int 0, .long 0, .int 0, .int 0, .int 0, .ref pi, .ref co, .int 0, .int 0, .int 0, .int 0, .int 0, .ref na, .ref vl, .ref tr, .int 1, .ref ac, .ref as_, .ref su, .ref wi_, .int 0, .ref se]))) (p_tp : pt L f tp (.inl (G.2 0, 300, .inl g)))  : PMv l yX12_four cX12_four 3 0 0 0 G [.ref h, .int v] L f (fun L1 f1 => ∃ g1 : Nat → Int32, kp L f L1 f1 [h, tp] ∧ pt L1 f1 h (.inr (12, [.ref a, .ref im, .ref te, .ref tp, .int 4, .int (-1), .int (-1), .int 0, .int 0, .int 0, .int 0, .long 0, .int 0, .int 0, .int 0, .ref pi, .ref co, .int 0, .int 0, .int 0, .int 0, .int 0, .ref na, .ref vl, .ref tr, .int 1, .ref ac, .ref as_, .ref su, .ref wi_, .int 0, .ref se])) ∧ pt L1 f1 tp (.inl (G.2 0, 300, .inl g1))) := by
  refine PMv.of (post := fun L1 f1 => ∃ g1 : Nat → Int32, kp L f L1 f1 [h, tp] ∧ pt L1 f1 h (.inr (12, [.ref a, .ref im, .ref te, .ref tp, .int 4, .int (-1), .int (-1), .int 0, .int 0, .int 0, .int 0, .long 0, .int 0, .int 0, .int 0, .ref pi, .ref co, .int 0, .int 0, .int 0, .int 0, .int 0, .ref na, .ref vl, .ref tr, .int 1, .ref ac, .ref as_, .ref su, .ref wi_, .int 0, .ref se])) ∧ pt L1 f1 tp (.inl (G.2 0, 300, .inl g1))) (own := RX12) (by decide) rfl (Nat.le_of_ble_eq_true rfl) (fun sz p e s m args below meth c A ls hA1 hname S Y hl => ?_)
  have hx := S.hx
  have hb := S.hb
  have hl : lv_has ls 3 [(0, .ref h), (1, .int v)] := hl
  have hk : kp L f L f [h, tp] := kp.rf
  refine lv_bipush (v := 24) hx hb dX12_four_0 (by decide) ?_
  refine lv_istore_n (lv' := [(2, .int 24), (0, .ref h), (1, .int v)]) hx hb dX12_four_2 rfl hl (by decide) rfl (fun ls hl => ?_)
  refine lv_iload_n hx hb dX12_four_3 rfl (lv_at hl 0 rfl) ?_
  refine lv_if_lt (tgt := 39) hx hb dX12_four_4 (by decide) (fun h => absurd h (by decide)) (fun _ => ?_)
  refine lv_aload_n hx hb dX12_four_7 rfl (lv_at hl 1 rfl) ?_
  refine pg_get S Y ok_X12 3 (by decide) kf12_19 (v := .ref tp) p_h rfl dX12_four_8 ?_
  refine lv_aload_n hx hb dX12_four_11 rfl (lv_at hl 1 rfl) ?_
  refine pg_get S Y ok_X12 4 (by decide) kf12_81 (v := .int 0) p_h rfl dX12_four_12 ?_
  refine lv_iload_n hx hb dX12_four_15 rfl (lv_at hl 2 rfl) ?_
  refine lv_iload_n hx hb dX12_four_16 rfl (lv_at hl 0 rfl) ?_
  refine lv_ishr hx hb dX12_four_17 ?_
  refine lv_topi (fun x_918 ex_918 => ?_)
  refine lv_sipush (v := 255) hx hb dX12_four_18 (by decide) ?_
  refine lv_iand hx hb dX12_four_21 ?_
  refine lv_topi (fun x_919 ex_919 => ?_)
  refine pg_iast S Y p_tp (by unfold vp_in; decide) dX12_four_22 (fun f_921 H locs ef_921 Y => ?_)
  obtain ⟨g_920, eg_920⟩ : ∃ z, z = upd (g) (0 : Int32).toNatClampNeg x_919 := ⟨_, rfl⟩
  rw [← eg_920] at ef_921
  have p_h := p_h.up ef_921 ((p_h.neA p_tp))
  have p_tp := p_tp.me ef_921
  have hk := hk.up ef_921 (by simp)
  refine lv_aload_n hx hb dX12_four_23 rfl (lv_at hl 1 rfl) ?_
  refine lv_dup hx hb dX12_four_24 rfl ?_
  refine pg_get S Y ok_X12 4 (by decide) kf12_81 (v := .int 0) p_h rfl dX12_four_25 ?_
  refine lv_iconst (v := 1) hx hb dX12_four_28 (by decide) ?_
  refine lv_iadd hx hb dX12_four_29 ?_
  refine lv_fold (z := 1) (by decide) ?_
  refine pg_put S Y ok_X12 4 (by decide) kf12_81 rfl (fs' := [.ref a, .ref im, .ref te, .ref tp, .int 1, .int (-1), .int (-1), .int 0, .int 0, .int 0, .int 0, .long 0, .int 0, .int 0, .int 0, .ref pi, .ref co, .int 0, .int 0, .int 0, .int 0, .int 0, .ref na, .ref vl, .ref tr, .int 1, .ref ac, .ref as_, .ref su, .ref wi_, .int 0, .ref se]) (v := .int 1) p_h rfl rfl rfl (Nat.le_of_ble_eq_true rfl) dX12_four_30 (fun f_922 H locs ef_922 Y => ?_)
  have p_tp := p_tp.up ef_922 ((p_tp.neB p_h))
  have p_h := p_h.me ef_922
  have hk := hk.up ef_922 (by simp)
  refine lv_iinc (v := 16) (lv' := [(2, .int 16), (0, .ref h), (1, .int v)]) hx hb dX12_four_33 hl (k := 0) rfl (by decide) (by decide) rfl (fun ls hl => ?_)
  refine lv_goto (tgt := 3) hx hb dX12_four_36 (by decide) ?_
  refine lv_iload_n hx hb dX12_four_3 rfl (lv_at hl 0 rfl) ?_
  refine lv_if_lt (tgt := 39) hx hb dX12_four_4 (by decide) (fun h => absurd h (by decide)) (fun _ => ?_)
  refine lv_aload_n hx hb dX12_four_7 rfl (lv_at hl 1 rfl) ?_
  refine pg_get S Y ok_X12 3 (by decide) kf12_19 (v := .ref tp) p_h rfl dX12_four_8 ?_
  refine lv_aload_n hx hb dX12_four_11 rfl (lv_at hl 1 rfl) ?_
  refine pg_get S Y ok_X12 4 (by decide) kf12_81 (v := .int 1) p_h rfl dX12_four_12 ?_
  refine lv_iload_n hx hb dX12_four_15 rfl (lv_at hl 2 rfl) ?_
  refine lv_iload_n hx hb dX12_four_16 rfl (lv_at hl 0 rfl) ?_
  refine lv_ishr hx hb dX12_four_17 ?_
  refine lv_topi (fun x_923 ex_923 => ?_)
  refine lv_sipush (v := 255) hx hb dX12_four_18 (by decide) ?_
  refine lv_iand hx hb dX12_four_21 ?_
  refine lv_topi (fun x_924 ex_924 => ?_)
  refine pg_iast S Y p_tp (by unfold vp_in; decide) dX12_four_22 (fun f_926 H locs ef_926 Y => ?_)
  obtain ⟨g_925, eg_925⟩ : ∃ z, z = upd (g_920) (1 : Int32).toNatClampNeg x_924 := ⟨_, rfl⟩
  rw [← eg_925] at ef_926
  have p_h := p_h.up ef_926 ((p_h.neA p_tp))
  have p_tp := p_tp.me ef_926
  have hk := hk.up ef_926 (by simp)
  refine lv_aload_n hx hb dX12_four_23 rfl (lv_at hl 1 rfl) ?_
  refine lv_dup hx hb dX12_four_24 rfl ?_
  refine pg_get S Y ok_X12 4 (by decide) kf12_81 (v := .int 1) p_h rfl dX12_four_25 ?_
  refine lv_iconst (v := 1) hx hb dX12_four_28 (by decide) ?_
  refine lv_iadd hx hb dX12_four_29 ?_
  refine lv_fold (z := 2) (by decide) ?_
  refine pg_put S Y ok_X12 4 (by decide) kf12_81 rfl (fs' := [.ref a, .ref im, .ref te, .ref tp, .int 2, .int (-1), .int (-1), .int 0, .int 0, .int 0, .int 0, .long 0, .int 0, .int 0, .int 0, .ref pi, .ref co, .int 0, .int 0, .int 0, .int 0, .int 0, .ref na, .ref vl, .ref tr, .int 1, .ref ac, .ref as_, .ref su, .ref wi_, .int 0, .ref se]) (v := .int 2) p_h rfl rfl rfl (Nat.le_of_ble_eq_true rfl) dX12_four_30 (fun f_927 H locs ef_927 Y => ?_)
  have p_tp := p_tp.up ef_927 ((p_tp.neB p_h))
  have p_h := p_h.me ef_927
  have hk := hk.up ef_927 (by simp)
  refine lv_iinc (v := 8) (lv' := [(2, .int 8), (0, .ref h), (1, .int v)]) hx hb dX12_four_33 hl (k := 0) rfl (by decide) (by decide) rfl (fun ls hl => ?_)
  refine lv_goto (tgt := 3) hx hb dX12_four_36 (by decide) ?_
  refine lv_iload_n hx hb dX12_four_3 rfl (lv_at hl 0 rfl) ?_
  refine lv_if_lt (tgt := 39) hx hb dX12_four_4 (by decide) (fun h => absurd h (by decide)) (fun _ => ?_)
  refine lv_aload_n hx hb dX12_four_7 rfl (lv_at hl 1 rfl) ?_
  refine pg_get S Y ok_X12 3 (by decide) kf12_19 (v := .ref tp) p_h rfl dX12_four_8 ?_
  refine lv_aload_n hx hb dX12_four_11 rfl (lv_at hl 1 rfl) ?_
  refine pg_get S Y ok_X12 4 (by decide) kf12_81 (v := .int 2) p_h rfl dX12_four_12 ?_
  refine lv_iload_n hx hb dX12_four_15 rfl (lv_at hl 2 rfl) ?_
  refine lv_iload_n hx hb dX12_four_16 rfl (lv_at hl 0 rfl) ?_
  refine lv_ishr hx hb dX12_four_17 ?_
  refine lv_topi (fun x_928 ex_928 => ?_)
  refine lv_sipush (v := 255) hx hb dX12_four_18 (by decide) ?_
  refine lv_iand hx hb dX12_four_21 ?_
  refine lv_topi (fun x_929 ex_929 => ?_)
  refine pg_iast S Y p_tp (by unfold vp_in; decide) dX12_four_22 (fun f_931 H locs ef_931 Y => ?_)
  obtain ⟨g_930, eg_930⟩ : ∃ z, z = upd (g_925) (2 : Int32).toNatClampNeg x_929 := ⟨_, rfl⟩
  rw [← eg_930] at ef_931
  have p_h := p_h.up ef_931 ((p_h.neA p_tp))
  have p_tp := p_tp.me ef_931
  have hk := hk.up ef_931 (by simp)
  refine lv_aload_n hx hb dX12_four_23 rfl (lv_at hl 1 rfl) ?_
  refine lv_dup hx hb dX12_four_24 rfl ?_
  refine pg_get S Y ok_X12 4 (by decide) kf12_81 (v := .int 2) p_h rfl dX12_four_25 ?_
  refine lv_iconst (v := 1) hx hb dX12_four_28 (by decide) ?_
  refine lv_iadd hx hb dX12_four_29 ?_
  refine lv_fold (z := 3) (by decide) ?_
  refine pg_put S Y ok_X12 4 (by decide) kf12_81 rfl (fs' := [.ref a, .ref im, .ref te, .ref tp, .int 3, .int (-1), .int (-1), .int 0, .int 0, .int 0, .int 0, .long 0, .int 0, .int 0, .int 0, .ref pi, .ref co, .int 0, .int 0, .int 0, .int 0, .int 0, .ref na, .ref vl, .ref tr, .int 1, .ref ac, .ref as_, .ref su, .ref wi_, .int 0, .ref se]) (v := .int 3) p_h rfl rfl rfl (Nat.le_of_ble_eq_true rfl) dX12_four_30 (fun f_932 H locs ef_932 Y => ?_)
  have p_tp := p_tp.up ef_932 ((p_tp.neB p_h))
  have p_h := p_h.me ef_932
  have hk := hk.up ef_932 (by simp)
  refine lv_iinc (v := 0) (lv' := [(2, .int 0), (0, .ref h), (1, .int v)]) hx hb dX12_four_33 hl (k := 0) rfl (by decide) (by decide) rfl (fun ls hl => ?_)
  refine lv_goto (tgt := 3) hx hb dX12_four_36 (by decide) ?_
  refine lv_iload_n hx hb dX12_four_3 rfl (lv_at hl 0 rfl) ?_
  refine lv_if_lt (tgt := 39) hx hb dX12_four_4 (by decide) (fun h => absurd h (by decide)) (fun _ => ?_)
  refine lv_aload_n hx hb dX12_four_7 rfl (lv_at hl 1 rfl) ?_
  refine pg_get S Y ok_X12 3 (by decide) kf12_19 (v := .ref tp) p_h rfl dX12_four_8 ?_
  refine lv_aload_n hx hb dX12_four_11 rfl (lv_at hl 1 rfl) ?_
  refine pg_get S Y ok_X12 4 (by decide) kf12_81 (v := .int 3) p_h rfl dX12_four_12 ?_
  refine lv_iload_n hx hb dX12_four_15 rfl (lv_at hl 2 rfl) ?_
  refine lv_iload_n hx hb dX12_four_16 rfl (lv_at hl 0 rfl) ?_
  refine lv_ishr hx hb dX12_four_17 ?_
  refine lv_topi (fun x_933 ex_933 => ?_)
  refine lv_sipush (v := 255) hx hb dX12_four_18 (by decide) ?_
  refine lv_iand hx hb dX12_four_21 ?_
  refine lv_topi (fun x_934 ex_934 => ?_)
  refine pg_iast S Y p_tp (by unfold vp_in; decide) dX12_four_22 (fun f_936 H locs ef_936 Y => ?_)
  obtain ⟨g_935, eg_935⟩ : ∃ z, z = upd (g_930) (3 : Int32).toNatClampNeg x_934 := ⟨_, rfl⟩
  rw [← eg_935] at ef_936
  have p_h := p_h.up ef_936 ((p_h.neA p_tp))
  have p_tp := p_tp.me ef_936
  have hk := hk.up ef_936 (by simp)
  refine lv_aload_n hx hb dX12_four_23 rfl (lv_at hl 1 rfl) ?_
  refine lv_dup hx hb dX12_four_24 rfl ?_
  refine pg_get S Y ok_X12 4 (by decide) kf12_81 (v := .int 3) p_h rfl dX12_four_25 ?_
  refine lv_iconst (v := 1) hx hb dX12_four_28 (by decide) ?_
  refine lv_iadd hx hb dX12_four_29 ?_
  refine lv_fold (z := 4) (by decide) ?_
  refine pg_put S Y ok_X12 4 (by decide) kf12_81 rfl (fs' := [.ref a, .ref im, .ref te, .ref tp, .int 4, .int (-1), .int (-1), .int 0, .int 0, .int 0, .int 0, .long 0, .int 0, .int 0, .int 0, .ref pi, .ref co, .int 0, .int 0, .int 0, .int 0, .int 0, .ref na, .ref vl, .ref tr, .int 1, .ref ac, .ref as_, .ref su, .ref wi_, .int 0, .ref se]) (v := .int 4) p_h rfl rfl rfl (Nat.le_of_ble_eq_true rfl) dX12_four_30 (fun f_937 H locs ef_937 Y => ?_)
  have p_tp := p_tp.up ef_937 ((p_tp.neB p_h))
  have p_h := p_h.me ef_937
  have hk := hk.up ef_937 (by simp)
  refine lv_iinc (v := (-8)) (lv' := [(2, .int (-8)), (0, .ref h), (1, .int v)]) hx hb dX12_four_33 hl (k := 0) rfl (by decide) (by decide) rfl (fun ls hl => ?_)
  refine lv_goto (tgt := 3) hx hb dX12_four_36 (by decide) ?_
  refine lv_iload_n hx hb dX12_four_3 rfl (lv_at hl 0 rfl) ?_
  refine lv_if_lt (tgt := 39) hx hb dX12_four_4 (by decide) (fun _ => ?_) (fun h => absurd (by decide) h)
  exact prV (post := fun L1 f1 => ∃ g1 : Nat → Int32, kp L f L1 f1 [h, tp] ∧ pt L1 f1 h (.inr (12, [.ref a, .ref im, .ref te, .ref tp, .int 4, .int (-1), .int (-1), .int 0, .int 0, .int 0, .int 0, .long 0, .int 0, .int 0, .int 0, .ref pi, .ref co, .int 0, .int 0, .int 0, .int 0, .int 0, .ref na, .ref vl, .ref tr, .int 1, .ref ac, .ref as_, .ref su, .ref wi_, .int 0, .ref se])) ∧ pt L1 f1 tp (.inl (G.2 0, 300, .inl g1))) S Y (by decide) (by decide) hA1 ⟨g_935, hk, p_h, p_tp⟩ dX12_four_39
set_option maxHeartbeats 4000000 in
set_option maxRecDepth 100000 in
theorem c_four_4 {l : Launch} {G : GG} {L : List Nat} {f : HF} {h a im te tp pi co na vl tr ac as_ su wi_ se : Nat} {v : Int32} {g : Nat → Int32}  (p_h : pt L f h (.inr (12, [.ref a, .ref im, .ref te, .ref tp, .int 4, .int (-1), .int (-1), .int 0, .int 0, .int 0, .int 0, .long 0, .int 0, .int 0, .int 0, .ref pi, .ref co, .int 0, .int 0, .int 0, .int 0, .int 0, .ref na, .ref vl, .ref tr, .int 1, .ref ac, .ref as_, .ref su, .ref wi_, .int 0, .ref se]))) (p_tp : pt L f tp (.inl (G.2 0, 300, .inl g)))  : PMv l yX12_four cX12_four 3 0 0 0 G [.ref h, .int v] L f (fun L1 f1 => ∃ g1 : Nat → Int32, kp L f L1 f1 [h, tp] ∧ pt L1 f1 h (.inr (12, [.ref a, .ref im, .ref te, .ref tp, .int 8, .int (-1), .int (-1), .int 0, .int 0, .int 0, .int 0, .long 0, .int 0, .int 0, .int 0, .ref pi, .ref co, .int 0, .int 0, .int 0, .int 0, .int 0, .ref na, .ref vl, .ref tr, .int 1, .ref ac, .ref as_, .ref su, .ref wi_, .int 0, .ref se])) ∧ pt L1 f1 tp (.inl (G.2 0, 300, .inl g1))) := by
  refine PMv.of (post := fun L1 f1 => ∃ g1 : Nat → Int32, kp L f L1 f1 [h, tp] ∧ pt L1 f1 h (.inr (12, [.ref a, .ref im, .ref te, .ref tp, .int 8, .int (-1), .int (-1), .int 0, .int 0, .int 0, .int 0, .long 0, .int 0, .int 0, .int 0, .ref pi, .ref co, .int 0, .int 0, .int 0, .int 0, .int 0, .ref na, .ref vl, .ref tr, .int 1, .ref ac, .ref as_, .ref su, .ref wi_, .int 0, .ref se])) ∧ pt L1 f1 tp (.inl (G.2 0, 300, .inl g1))) (own := RX12) (by decide) rfl (Nat.le_of_ble_eq_true rfl) (fun sz p e s m args below meth c A ls hA1 hname S Y hl => ?_)
  have hx := S.hx
  have hb := S.hb
  have hl : lv_has ls 3 [(0, .ref h), (1, .int v)] := hl
  have hk : kp L f L f [h, tp] := kp.rf
  refine lv_bipush (v := 24) hx hb dX12_four_0 (by decide) ?_
  refine lv_istore_n (lv' := [(2, .int 24), (0, .ref h), (1, .int v)]) hx hb dX12_four_2 rfl hl (by decide) rfl (fun ls hl => ?_)
  refine lv_iload_n hx hb dX12_four_3 rfl (lv_at hl 0 rfl) ?_
  refine lv_if_lt (tgt := 39) hx hb dX12_four_4 (by decide) (fun h => absurd h (by decide)) (fun _ => ?_)
  refine lv_aload_n hx hb dX12_four_7 rfl (lv_at hl 1 rfl) ?_
  refine pg_get S Y ok_X12 3 (by decide) kf12_19 (v := .ref tp) p_h rfl dX12_four_8 ?_
  refine lv_aload_n hx hb dX12_four_11 rfl (lv_at hl 1 rfl) ?_
  refine pg_get S Y ok_X12 4 (by decide) kf12_81 (v := .int 4) p_h rfl dX12_four_12 ?_
  refine lv_iload_n hx hb dX12_four_15 rfl (lv_at hl 2 rfl) ?_
  refine lv_iload_n hx hb dX12_four_16 rfl (lv_at hl 0 rfl) ?_
  refine lv_ishr hx hb dX12_four_17 ?_
  refine lv_topi (fun x_938 ex_938 => ?_)
  refine lv_sipush (v := 255) hx hb dX12_four_18 (by decide) ?_
  refine lv_iand hx hb dX12_four_21 ?_
  refine lv_topi (fun x_939 ex_939 => ?_)
  refine pg_iast S Y p_tp (by unfold vp_in; decide) dX12_four_22 (fun f_941 H locs ef_941 Y => ?_)
  obtain ⟨g_940, eg_940⟩ : ∃ z, z = upd (g) (4 : Int32).toNatClampNeg x_939 := ⟨_, rfl⟩
  rw [← eg_940] at ef_941
  have p_h := p_h.up ef_941 ((p_h.neA p_tp))
  have p_tp := p_tp.me ef_941
  have hk := hk.up ef_941 (by simp)
  refine lv_aload_n hx hb dX12_four_23 rfl (lv_at hl 1 rfl) ?_
  refine lv_dup hx hb dX12_four_24 rfl ?_
  refine pg_get S Y ok_X12 4 (by decide) kf12_81 (v := .int 4) p_h rfl dX12_four_25 ?_
  refine lv_iconst (v := 1) hx hb dX12_four_28 (by decide) ?_
  refine lv_iadd hx hb dX12_four_29 ?_
  refine lv_fold (z := 5) (by decide) ?_
  refine pg_put S Y ok_X12 4 (by decide) kf12_81 rfl (fs' := [.ref a, .ref im, .ref te, .ref tp, .int 5, .int (-1), .int (-1), .int 0, .int 0, .int 0, .int 0, .long 0, .int 0, .int 0, .int 0, .ref pi, .ref co, .int 0, .int 0, .int 0, .int 0, .int 0, .ref na, .ref vl, .ref tr, .int 1, .ref ac, .ref as_, .ref su, .ref wi_, .int 0, .ref se]) (v := .int 5) p_h rfl rfl rfl (Nat.le_of_ble_eq_true rfl) dX12_four_30 (fun f_942 H locs ef_942 Y => ?_)
  have p_tp := p_tp.up ef_942 ((p_tp.neB p_h))
  have p_h := p_h.me ef_942
  have hk := hk.up ef_942 (by simp)
  refine lv_iinc (v := 16) (lv' := [(2, .int 16), (0, .ref h), (1, .int v)]) hx hb dX12_four_33 hl (k := 0) rfl (by decide) (by decide) rfl (fun ls hl => ?_)
  refine lv_goto (tgt := 3) hx hb dX12_four_36 (by decide) ?_
  refine lv_iload_n hx hb dX12_four_3 rfl (lv_at hl 0 rfl) ?_
  refine lv_if_lt (tgt := 39) hx hb dX12_four_4 (by decide) (fun h => absurd h (by decide)) (fun _ => ?_)
  refine lv_aload_n hx hb dX12_four_7 rfl (lv_at hl 1 rfl) ?_
  refine pg_get S Y ok_X12 3 (by decide) kf12_19 (v := .ref tp) p_h rfl dX12_four_8 ?_
  refine lv_aload_n hx hb dX12_four_11 rfl (lv_at hl 1 rfl) ?_
  refine pg_get S Y ok_X12 4 (by decide) kf12_81 (v := .int 5) p_h rfl dX12_four_12 ?_
  refine lv_iload_n hx hb dX12_four_15 rfl (lv_at hl 2 rfl) ?_
  refine lv_iload_n hx hb dX12_four_16 rfl (lv_at hl 0 rfl) ?_
  refine lv_ishr hx hb dX12_four_17 ?_
  refine lv_topi (fun x_943 ex_943 => ?_)
  refine lv_sipush (v := 255) hx hb dX12_four_18 (by decide) ?_
  refine lv_iand hx hb dX12_four_21 ?_
  refine lv_topi (fun x_944 ex_944 => ?_)
  refine pg_iast S Y p_tp (by unfold vp_in; decide) dX12_four_22 (fun f_946 H locs ef_946 Y => ?_)
  obtain ⟨g_945, eg_945⟩ : ∃ z, z = upd (g_940) (5 : Int32).toNatClampNeg x_944 := ⟨_, rfl⟩
  rw [← eg_945] at ef_946
  have p_h := p_h.up ef_946 ((p_h.neA p_tp))
  have p_tp := p_tp.me ef_946
  have hk := hk.up ef_946 (by simp)
  refine lv_aload_n hx hb dX12_four_23 rfl (lv_at hl 1 rfl) ?_
  refine lv_dup hx hb dX12_four_24 rfl ?_
  refine pg_get S Y ok_X12 4 (by decide) kf12_81 (v := .int 5) p_h rfl dX12_four_25 ?_
  refine lv_iconst (v := 1) hx hb dX12_four_28 (by decide) ?_
  refine lv_iadd hx hb dX12_four_29 ?_
  refine lv_fold (z := 6) (by decide) ?_
  refine pg_put S Y ok_X12 4 (by decide) kf12_81 rfl (fs' := [.ref a, .ref im, .ref te, .ref tp, .int 6, .int (-1), .int (-1), .int 0, .int 0, .int 0, .int 0, .long 0, .int 0, .int 0, .int 0, .ref pi, .ref co, .int 0, .int 0, .int 0, .int 0, .int 0, .ref na, .ref vl, .ref tr, .int 1, .ref ac, .ref as_, .ref su, .ref wi_, .int 0, .ref se]) (v := .int 6) p_h rfl rfl rfl (Nat.le_of_ble_eq_true rfl) dX12_four_30 (fun f_947 H locs ef_947 Y => ?_)
  have p_tp := p_tp.up ef_947 ((p_tp.neB p_h))
  have p_h := p_h.me ef_947
  have hk := hk.up ef_947 (by simp)
  refine lv_iinc (v := 8) (lv' := [(2, .int 8), (0, .ref h), (1, .int v)]) hx hb dX12_four_33 hl (k := 0) rfl (by decide) (by decide) rfl (fun ls hl => ?_)
  refine lv_goto (tgt := 3) hx hb dX12_four_36 (by decide) ?_
  refine lv_iload_n hx hb dX12_four_3 rfl (lv_at hl 0 rfl) ?_
  refine lv_if_lt (tgt := 39) hx hb dX12_four_4 (by decide) (fun h => absurd h (by decide)) (fun _ => ?_)
  refine lv_aload_n hx hb dX12_four_7 rfl (lv_at hl 1 rfl) ?_
  refine pg_get S Y ok_X12 3 (by decide) kf12_19 (v := .ref tp) p_h rfl dX12_four_8 ?_
  refine lv_aload_n hx hb dX12_four_11 rfl (lv_at hl 1 rfl) ?_
  refine pg_get S Y ok_X12 4 (by decide) kf12_81 (v := .int 6) p_h rfl dX12_four_12 ?_
  refine lv_iload_n hx hb dX12_four_15 rfl (lv_at hl 2 rfl) ?_
  refine lv_iload_n hx hb dX12_four_16 rfl (lv_at hl 0 rfl) ?_
  refine lv_ishr hx hb dX12_four_17 ?_
  refine lv_topi (fun x_948 ex_948 => ?_)
  refine lv_sipush (v := 255) hx hb dX12_four_18 (by decide) ?_
  refine lv_iand hx hb dX12_four_21 ?_
  refine lv_topi (fun x_949 ex_949 => ?_)
  refine pg_iast S Y p_tp (by unfold vp_in; decide) dX12_four_22 (fun f_951 H locs ef_951 Y => ?_)
  obtain ⟨g_950, eg_950⟩ : ∃ z, z = upd (g_945) (6 : Int32).toNatClampNeg x_949 := ⟨_, rfl⟩
  rw [← eg_950] at ef_951
  have p_h := p_h.up ef_951 ((p_h.neA p_tp))
  have p_tp := p_tp.me ef_951
  have hk := hk.up ef_951 (by simp)
  refine lv_aload_n hx hb dX12_four_23 rfl (lv_at hl 1 rfl) ?_
  refine lv_dup hx hb dX12_four_24 rfl ?_
  refine pg_get S Y ok_X12 4 (by decide) kf12_81 (v := .int 6) p_h rfl dX12_four_25 ?_
  refine lv_iconst (v := 1) hx hb dX12_four_28 (by decide) ?_
  refine lv_iadd hx hb dX12_four_29 ?_
  refine lv_fold (z := 7) (by decide) ?_
  refine pg_put S Y ok_X12 4 (by decide) kf12_81 rfl (fs' := [.ref a, .ref im, .ref te, .ref tp, .int 7, .int (-1), .int (-1), .int 0, .int 0, .int 0, .int 0, .long 0, .int 0, .int 0, .int 0, .ref pi, .ref co, .int 0, .int 0, .int 0, .int 0, .int 0, .ref na, .ref vl, .ref tr, .int 1, .ref ac, .ref as_, .ref su, .ref wi_, .int 0, .ref se]) (v := .int 7) p_h rfl rfl rfl (Nat.le_of_ble_eq_true rfl) dX12_four_30 (fun f_952 H locs ef_952 Y => ?_)
  have p_tp := p_tp.up ef_952 ((p_tp.neB p_h))
  have p_h := p_h.me ef_952
  have hk := hk.up ef_952 (by simp)
  refine lv_iinc (v := 0) (lv' := [(2, .int 0), (0, .ref h), (1, .int v)]) hx hb dX12_four_33 hl (k := 0) rfl (by decide) (by decide) rfl (fun ls hl => ?_)
  refine lv_goto (tgt := 3) hx hb dX12_four_36 (by decide) ?_
  refine lv_iload_n hx hb dX12_four_3 rfl (lv_at hl 0 rfl) ?_
  refine lv_if_lt (tgt := 39) hx hb dX12_four_4 (by decide) (fun h => absurd h (by decide)) (fun _ => ?_)
  refine lv_aload_n hx hb dX12_four_7 rfl (lv_at hl 1 rfl) ?_
  refine pg_get S Y ok_X12 3 (by decide) kf12_19 (v := .ref tp) p_h rfl dX12_four_8 ?_
  refine lv_aload_n hx hb dX12_four_11 rfl (lv_at hl 1 rfl) ?_
  refine pg_get S Y ok_X12 4 (by decide) kf12_81 (v := .int 7) p_h rfl dX12_four_12 ?_
  refine lv_iload_n hx hb dX12_four_15 rfl (lv_at hl 2 rfl) ?_
  refine lv_iload_n hx hb dX12_four_16 rfl (lv_at hl 0 rfl) ?_
  refine lv_ishr hx hb dX12_four_17 ?_
  refine lv_topi (fun x_953 ex_953 => ?_)
  refine lv_sipush (v := 255) hx hb dX12_four_18 (by decide) ?_
  refine lv_iand hx hb dX12_four_21 ?_
  refine lv_topi (fun x_954 ex_954 => ?_)
  refine pg_iast S Y p_tp (by unfold vp_in; decide) dX12_four_22 (fun f_956 H locs ef_956 Y => ?_)
  obtain ⟨g_955, eg_955⟩ : ∃ z, z = upd (g_950) (7 : Int32).toNatClampNeg x_954 := ⟨_, rfl⟩
  rw [← eg_955] at ef_956
  have p_h := p_h.up ef_956 ((p_h.neA p_tp))
  have p_tp := p_tp.me ef_956
  have hk := hk.up ef_956 (by simp)
  refine lv_aload_n hx hb dX12_four_23 rfl (lv_at hl 1 rfl) ?_
  refine lv_dup hx hb dX12_four_24 rfl ?_
  refine pg_get S Y ok_X12 4 (by decide) kf12_81 (v := .int 7) p_h rfl dX12_four_25 ?_
  refine lv_iconst (v := 1) hx hb dX12_four_28 (by decide) ?_
  refine lv_iadd hx hb dX12_four_29 ?_
  refine lv_fold (z := 8) (by decide) ?_
  refine pg_put S Y ok_X12 4 (by decide) kf12_81 rfl (fs' := [.ref a, .ref im, .ref te, .ref tp, .int 8, .int (-1), .int (-1), .int 0, .int 0, .int 0, .int 0, .long 0, .int 0, .int 0, .int 0, .ref pi, .ref co, .int 0, .int 0, .int 0, .int 0, .int 0, .ref na, .ref vl, .ref tr, .int 1, .ref ac, .ref as_, .ref su, .ref wi_, .int 0, .ref se]) (v := .int 8) p_h rfl rfl rfl (Nat.le_of_ble_eq_true rfl) dX12_four_30 (fun f_957 H locs ef_957 Y => ?_)
  have p_tp := p_tp.up ef_957 ((p_tp.neB p_h))
  have p_h := p_h.me ef_957
  have hk := hk.up ef_957 (by simp)
  refine lv_iinc (v := (-8)) (lv' := [(2, .int (-8)), (0, .ref h), (1, .int v)]) hx hb dX12_four_33 hl (k := 0) rfl (by decide) (by decide) rfl (fun ls hl => ?_)
  refine lv_goto (tgt := 3) hx hb dX12_four_36 (by decide) ?_
  refine lv_iload_n hx hb dX12_four_3 rfl (lv_at hl 0 rfl) ?_
  refine lv_if_lt (tgt := 39) hx hb dX12_four_4 (by decide) (fun _ => ?_) (fun h => absurd (by decide) h)
  exact prV (post := fun L1 f1 => ∃ g1 : Nat → Int32, kp L f L1 f1 [h, tp] ∧ pt L1 f1 h (.inr (12, [.ref a, .ref im, .ref te, .ref tp, .int 8, .int (-1), .int (-1), .int 0, .int 0, .int 0, .int 0, .long 0, .int 0, .int 0, .int 0, .ref pi, .ref co, .int 0, .int 0, .int 0, .int 0, .int 0, .ref na, .ref vl, .ref tr, .int 1, .ref ac, .ref as_, .ref su, .ref wi_, .int 0, .ref se])) ∧ pt L1 f1 tp (.inl (G.2 0, 300, .inl g1))) S Y (by decide) (by decide) hA1 ⟨g_955, hk, p_h, p_tp⟩ dX12_four_39
set_option maxHeartbeats 4000000 in
set_option maxRecDepth 100000 in
theorem c_four_8 {l : Launch} {G : GG} {L : List Nat} {f : HF} {h a im te tp pi co na vl tr ac as_ su wi_ se : Nat} {v : Int32} {g : Nat → Int32}  (p_h : pt L f h (.inr (12, [.ref a, .ref im, .ref te, .ref tp, .int 8, .int (-1), .int (-1), .int 0, .int 0, .int 0, .int 0, .long 0, .int 0, .int 0, .int 0, .ref pi, .ref co, .int 0, .int 0, .int 0, .int 0, .int 0, .ref na, .ref vl, .ref tr, .int 1, .ref ac, .ref as_, .ref su, .ref wi_, .int 0, .ref se]))) (p_tp : pt L f tp (.inl (G.2 0, 300, .inl g)))  : PMv l yX12_four cX12_four 3 0 0 0 G [.ref h, .int v] L f (fun L1 f1 => ∃ g1 : Nat → Int32, kp L f L1 f1 [h, tp] ∧ pt L1 f1 h (.inr (12, [.ref a, .ref im, .ref te, .ref tp, .int 12, .int (-1), .int (-1), .int 0, .int 0, .int 0, .int 0, .long 0, .int 0, .int 0, .int 0, .ref pi, .ref co, .int 0, .int 0, .int 0, .int 0, .int 0, .ref na, .ref vl, .ref tr, .int 1, .ref ac, .ref as_, .ref su, .ref wi_, .int 0, .ref se])) ∧ pt L1 f1 tp (.inl (G.2 0, 300, .inl g1))) := by
  refine PMv.of (post := fun L1 f1 => ∃ g1 : Nat → Int32, kp L f L1 f1 [h, tp] ∧ pt L1 f1 h (.inr (12, [.ref a, .ref im, .ref te, .ref tp, .int 12, .int (-1), .int (-1), .int 0, .int 0, .int 0, .int 0, .long 0, .int 0, .int 0, .int 0, .ref pi, .ref co, .int 0, .int 0, .int 0, .int 0, .int 0, .ref na, .ref vl, .ref tr, .int 1, .ref ac, .ref as_, .ref su, .ref wi_, .int 0, .ref se])) ∧ pt L1 f1 tp (.inl (G.2 0, 300, .inl g1))) (own := RX12) (by decide) rfl (Nat.le_of_ble_eq_true rfl) (fun sz p e s m args below meth c A ls hA1 hname S Y hl => ?_)
  have hx := S.hx
  have hb := S.hb
  have hl : lv_has ls 3 [(0, .ref h), (1, .int v)] := hl
  have hk : kp L f L f [h, tp] := kp.rf
  refine lv_bipush (v := 24) hx hb dX12_four_0 (by decide) ?_
  refine lv_istore_n (lv' := [(2, .int 24), (0, .ref h), (1, .int v)]) hx hb dX12_four_2 rfl hl (by decide) rfl (fun ls hl => ?_)
  refine lv_iload_n hx hb dX12_four_3 rfl (lv_at hl 0 rfl) ?_
  refine lv_if_lt (tgt := 39) hx hb dX12_four_4 (by decide) (fun h => absurd h (by decide)) (fun _ => ?_)
  refine lv_aload_n hx hb dX12_four_7 rfl (lv_at hl 1 rfl) ?_
  refine pg_get S Y ok_X12 3 (by decide) kf12_19 (v := .ref tp) p_h rfl dX12_four_8 ?_
  refine lv_aload_n hx hb dX12_four_11 rfl (lv_at hl 1 rfl) ?_
  refine pg_get S Y ok_X12 4 (by decide) kf12_81 (v := .int 8) p_h rfl dX12_four_12 ?_
  refine lv_iload_n hx hb dX12_four_15 rfl (lv_at hl 2 rfl) ?_
  refine lv_iload_n hx hb dX12_four_16 rfl (lv_at hl 0 rfl) ?_
  refine lv_ishr hx hb dX12_four_17 ?_
  refine lv_topi (fun x_958 ex_958 => ?_)
  refine lv_sipush (v := 255) hx hb dX12_four_18 (by decide) ?_
  refine lv_iand hx hb dX12_four_21 ?_
  refine lv_topi (fun x_959 ex_959 => ?_)
  refine pg_iast S Y p_tp (by unfold vp_in; decide) dX12_four_22 (fun f_961 H locs ef_961 Y => ?_)
  obtain ⟨g_960, eg_960⟩ : ∃ z, z = upd (g) (8 : Int32).toNatClampNeg x_959 := ⟨_, rfl⟩
  rw [← eg_960] at ef_961
  have p_h := p_h.up ef_961 ((p_h.neA p_tp))
  have p_tp := p_tp.me ef_961
  have hk := hk.up ef_961 (by simp)
  refine lv_aload_n hx hb dX12_four_23 rfl (lv_at hl 1 rfl) ?_
  refine lv_dup hx hb dX12_four_24 rfl ?_
  refine pg_get S Y ok_X12 4 (by decide) kf12_81 (v := .int 8) p_h rfl dX12_four_25 ?_
  refine lv_iconst (v := 1) hx hb dX12_four_28 (by decide) ?_
  refine lv_iadd hx hb dX12_four_29 ?_
  refine lv_fold (z := 9) (by decide) ?_
  refine pg_put S Y ok_X12 4 (by decide) kf12_81 rfl (fs' := [.ref a, .ref im, .ref te, .ref tp, .int 9, .int (-1), .int (-1), .int 0, .int 0, .int 0, .int 0, .long 0, .int 0, .int 0, .int 0, .ref pi, .ref co, .int 0, .int 0, .int 0, .int 0, .int 0, .ref na, .ref vl, .ref tr, .int 1, .ref ac, .ref as_, .ref su, .ref wi_, .int 0, .ref se]) (v := .int 9) p_h rfl rfl rfl (Nat.le_of_ble_eq_true rfl) dX12_four_30 (fun f_962 H locs ef_962 Y => ?_)
  have p_tp := p_tp.up ef_962 ((p_tp.neB p_h))
  have p_h := p_h.me ef_962
  have hk := hk.up ef_962 (by simp)
  refine lv_iinc (v := 16) (lv' := [(2, .int 16), (0, .ref h), (1, .int v)]) hx hb dX12_four_33 hl (k := 0) rfl (by decide) (by decide) rfl (fun ls hl => ?_)
  refine lv_goto (tgt := 3) hx hb dX12_four_36 (by decide) ?_
  refine lv_iload_n hx hb dX12_four_3 rfl (lv_at hl 0 rfl) ?_
  refine lv_if_lt (tgt := 39) hx hb dX12_four_4 (by decide) (fun h => absurd h (by decide)) (fun _ => ?_)
  refine lv_aload_n hx hb dX12_four_7 rfl (lv_at hl 1 rfl) ?_
  refine pg_get S Y ok_X12 3 (by decide) kf12_19 (v := .ref tp) p_h rfl dX12_four_8 ?_
  refine lv_aload_n hx hb dX12_four_11 rfl (lv_at hl 1 rfl) ?_
  refine pg_get S Y ok_X12 4 (by decide) kf12_81 (v := .int 9) p_h rfl dX12_four_12 ?_
  refine lv_iload_n hx hb dX12_four_15 rfl (lv_at hl 2 rfl) ?_
  refine lv_iload_n hx hb dX12_four_16 rfl (lv_at hl 0 rfl) ?_
  refine lv_ishr hx hb dX12_four_17 ?_
  refine lv_topi (fun x_963 ex_963 => ?_)
  refine lv_sipush (v := 255) hx hb dX12_four_18 (by decide) ?_
  refine lv_iand hx hb dX12_four_21 ?_
  refine lv_topi (fun x_964 ex_964 => ?_)
  refine pg_iast S Y p_tp (by unfold vp_in; decide) dX12_four_22 (fun f_966 H locs ef_966 Y => ?_)
  obtain ⟨g_965, eg_965⟩ : ∃ z, z = upd (g_960) (9 : Int32).toNatClampNeg x_964 := ⟨_, rfl⟩
  rw [← eg_965] at ef_966
  have p_h := p_h.up ef_966 ((p_h.neA p_tp))
  have p_tp := p_tp.me ef_966
  have hk := hk.up ef_966 (by simp)
  refine lv_aload_n hx hb dX12_four_23 rfl (lv_at hl 1 rfl) ?_
  refine lv_dup hx hb dX12_four_24 rfl ?_
  refine pg_get S Y ok_X12 4 (by decide) kf12_81 (v := .int 9) p_h rfl dX12_four_25 ?_
  refine lv_iconst (v := 1) hx hb dX12_four_28 (by decide) ?_
  refine lv_iadd hx hb dX12_four_29 ?_
  refine lv_fold (z := 10) (by decide) ?_
  refine pg_put S Y ok_X12 4 (by decide) kf12_81 rfl (fs' := [.ref a, .ref im, .ref te, .ref tp, .int 10, .int (-1), .int (-1), .int 0, .int 0, .int 0, .int 0, .long 0, .int 0, .int 0, .int 0, .ref pi, .ref co, .int 0, .int 0, .int 0, .int 0, .int 0, .ref na, .ref vl, .ref tr, .int 1, .ref ac, .ref as_, .ref su, .ref wi_, .int 0, .ref se]) (v := .int 10) p_h rfl rfl rfl (Nat.le_of_ble_eq_true rfl) dX12_four_30 (fun f_967 H locs ef_967 Y => ?_)
  have p_tp := p_tp.up ef_967 ((p_tp.neB p_h))
  have p_h := p_h.me ef_967
  have hk := hk.up ef_967 (by simp)
  refine lv_iinc (v := 8) (lv' := [(2, .int 8), (0, .ref h), (1, .int v)]) hx hb dX12_four_33 hl (k := 0) rfl (by decide) (by decide) rfl (fun ls hl => ?_)
  refine lv_goto (tgt := 3) hx hb dX12_four_36 (by decide) ?_
  refine lv_iload_n hx hb dX12_four_3 rfl (lv_at hl 0 rfl) ?_
  refine lv_if_lt (tgt := 39) hx hb dX12_four_4 (by decide) (fun h => absurd h (by decide)) (fun _ => ?_)
  refine lv_aload_n hx hb dX12_four_7 rfl (lv_at hl 1 rfl) ?_
  refine pg_get S Y ok_X12 3 (by decide) kf12_19 (v := .ref tp) p_h rfl dX12_four_8 ?_
  refine lv_aload_n hx hb dX12_four_11 rfl (lv_at hl 1 rfl) ?_
  refine pg_get S Y ok_X12 4 (by decide) kf12_81 (v := .int 10) p_h rfl dX12_four_12 ?_
  refine lv_iload_n hx hb dX12_four_15 rfl (lv_at hl 2 rfl) ?_
  refine lv_iload_n hx hb dX12_four_16 rfl (lv_at hl 0 rfl) ?_
  refine lv_ishr hx hb dX12_four_17 ?_
  refine lv_topi (fun x_968 ex_968 => ?_)
  refine lv_sipush (v := 255) hx hb dX12_four_18 (by decide) ?_
  refine lv_iand hx hb dX12_four_21 ?_
  refine lv_topi (fun x_969 ex_969 => ?_)
  refine pg_iast S Y p_tp (by unfold vp_in; decide) dX12_four_22 (fun f_971 H locs ef_971 Y => ?_)
  obtain ⟨g_970, eg_970⟩ : ∃ z, z = upd (g_965) (10 : Int32).toNatClampNeg x_969 := ⟨_, rfl⟩
  rw [← eg_970] at ef_971
  have p_h := p_h.up ef_971 ((p_h.neA p_tp))
  have p_tp := p_tp.me ef_971
  have hk := hk.up ef_971 (by simp)
  refine lv_aload_n hx hb dX12_four_23 rfl (lv_at hl 1 rfl) ?_
  refine lv_dup hx hb dX12_four_24 rfl ?_
  refine pg_get S Y ok_X12 4 (by decide) kf12_81 (v := .int 10) p_h rfl dX12_four_25 ?_
  refine lv_iconst (v := 1) hx hb dX12_four_28 (by decide) ?_
  refine lv_iadd hx hb dX12_four_29 ?_
  refine lv_fold (z := 11) (by decide) ?_
  refine pg_put S Y ok_X12 4 (by decide) kf12_81 rfl (fs' := [.ref a, .ref im, .ref te, .ref tp, .int 11, .int (-1), .int (-1), .int 0, .int 0, .int 0, .int 0, .long 0, .int 0, .int 0, .int 0, .ref pi, .ref co, .int 0, .int 0, .int 0, .int 0, .int 0, .ref na, .ref vl, .ref tr, .int 1, .ref ac, .ref as_, .ref su, .ref wi_, .int 0, .ref se]) (v := .int 11) p_h rfl rfl rfl (Nat.le_of_ble_eq_true rfl) dX12_four_30 (fun f_972 H locs ef_972 Y => ?_)
  have p_tp := p_tp.up ef_972 ((p_tp.neB p_h))
  have p_h := p_h.me ef_972
  have hk := hk.up ef_972 (by simp)
  refine lv_iinc (v := 0) (lv' := [(2, .int 0), (0, .ref h), (1, .int v)]) hx hb dX12_four_33 hl (k := 0) rfl (by decide) (by decide) rfl (fun ls hl => ?_)
  refine lv_goto (tgt := 3) hx hb dX12_four_36 (by decide) ?_
  refine lv_iload_n hx hb dX12_four_3 rfl (lv_at hl 0 rfl) ?_
  refine lv_if_lt (tgt := 39) hx hb dX12_four_4 (by decide) (fun h => absurd h (by decide)) (fun _ => ?_)
  refine lv_aload_n hx hb dX12_four_7 rfl (lv_at hl 1 rfl) ?_
  refine pg_get S Y ok_X12 3 (by decide) kf12_19 (v := .ref tp) p_h rfl dX12_four_8 ?_
  refine lv_aload_n hx hb dX12_four_11 rfl (lv_at hl 1 rfl) ?_
  refine pg_get S Y ok_X12 4 (by decide) kf12_81 (v := .int 11) p_h rfl dX12_four_12 ?_
  refine lv_iload_n hx hb dX12_four_15 rfl (lv_at hl 2 rfl) ?_
  refine lv_iload_n hx hb dX12_four_16 rfl (lv_at hl 0 rfl) ?_
  refine lv_ishr hx hb dX12_four_17 ?_
  refine lv_topi (fun x_973 ex_973 => ?_)
  refine lv_sipush (v := 255) hx hb dX12_four_18 (by decide) ?_
  refine lv_iand hx hb dX12_four_21 ?_
  refine lv_topi (fun x_974 ex_974 => ?_)
  refine pg_iast S Y p_tp (by unfold vp_in; decide) dX12_four_22 (fun f_976 H locs ef_976 Y => ?_)
  obtain ⟨g_975, eg_975⟩ : ∃ z, z = upd (g_970) (11 : Int32).toNatClampNeg x_974 := ⟨_, rfl⟩
  rw [← eg_975] at ef_976
  have p_h := p_h.up ef_976 ((p_h.neA p_tp))
  have p_tp := p_tp.me ef_976
  have hk := hk.up ef_976 (by simp)
  refine lv_aload_n hx hb dX12_four_23 rfl (lv_at hl 1 rfl) ?_
  refine lv_dup hx hb dX12_four_24 rfl ?_
  refine pg_get S Y ok_X12 4 (by decide) kf12_81 (v := .int 11) p_h rfl dX12_four_25 ?_
  refine lv_iconst (v := 1) hx hb dX12_four_28 (by decide) ?_
  refine lv_iadd hx hb dX12_four_29 ?_
  refine lv_fold (z := 12) (by decide) ?_
  refine pg_put S Y ok_X12 4 (by decide) kf12_81 rfl (fs' := [.ref a, .ref im, .ref te, .ref tp, .int 12, .int (-1), .int (-1), .int 0, .int 0, .int 0, .int 0, .long 0, .int 0, .int 0, .int 0, .ref pi, .ref co, .int 0, .int 0, .int 0, .int 0, .int 0, .ref na, .ref vl, .ref tr, .int 1, .ref ac, .ref as_, .ref su, .ref wi_, .int 0, .ref se]) (v := .int 12) p_h rfl rfl rfl (Nat.le_of_ble_eq_true rfl) dX12_four_30 (fun f_977 H locs ef_977 Y => ?_)
  have p_tp := p_tp.up ef_977 ((p_tp.neB p_h))
  have p_h := p_h.me ef_977
  have hk := hk.up ef_977 (by simp)
  refine lv_iinc (v := (-8)) (lv' := [(2, .int (-8)), (0, .ref h), (1, .int v)]) hx hb dX12_four_33 hl (k := 0) rfl (by decide) (by decide) rfl (fun ls hl => ?_)
  refine lv_goto (tgt := 3) hx hb dX12_four_36 (by decide) ?_
  refine lv_iload_n hx hb dX12_four_3 rfl (lv_at hl 0 rfl) ?_
  refine lv_if_lt (tgt := 39) hx hb dX12_four_4 (by decide) (fun _ => ?_) (fun h => absurd (by decide) h)
  exact prV (post := fun L1 f1 => ∃ g1 : Nat → Int32, kp L f L1 f1 [h, tp] ∧ pt L1 f1 h (.inr (12, [.ref a, .ref im, .ref te, .ref tp, .int 12, .int (-1), .int (-1), .int 0, .int 0, .int 0, .int 0, .long 0, .int 0, .int 0, .int 0, .ref pi, .ref co, .int 0, .int 0, .int 0, .int 0, .int 0, .ref na, .ref vl, .ref tr, .int 1, .ref ac, .ref as_, .ref su, .ref wi_, .int 0, .ref se])) ∧ pt L1 f1 tp (.inl (G.2 0, 300, .inl g1))) S Y (by decide) (by decide) hA1 ⟨g_975, hk, p_h, p_tp⟩ dX12_four_39
set_option maxHeartbeats 4000000 in
set_option maxRecDepth 100000 in
theorem c_four_12 {l : Launch} {G : GG} {L : List Nat} {f : HF} {h a im te tp pi co na vl tr ac as_ su wi_ se : Nat} {v : Int32} {g : Nat → Int32}  (p_h : pt L f h (.inr (12, [.ref a, .ref im, .ref te, .ref tp, .int 12, .int (-1), .int (-1), .int 0, .int 0, .int 0, .int 0, .long 0, .int 0, .int 0, .int 0, .ref pi, .ref co, .int 0, .int 0, .int 0, .int 0, .int 0, .ref na, .ref vl, .ref tr, .int 1, .ref ac, .ref as_, .ref su, .ref wi_, .int 0, .ref se]))) (p_tp : pt L f tp (.inl (G.2 0, 300, .inl g)))  : PMv l yX12_four cX12_four 3 0 0 0 G [.ref h, .int v] L f (fun L1 f1 => ∃ g1 : Nat → Int32, kp L f L1 f1 [h, tp] ∧ pt L1 f1 h (.inr (12, [.ref a, .ref im, .ref te, .ref tp, .int 16, .int (-1), .int (-1), .int 0, .int 0, .int 0, .int 0, .long 0, .int 0, .int 0, .int 0, .ref pi, .ref co, .int 0, .int 0, .int 0, .int 0, .int 0, .ref na, .ref vl, .ref tr, .int 1, .ref ac, .ref as_, .ref su, .ref wi_, .int 0, .ref se])) ∧ pt L1 f1 tp (.inl (G.2 0, 300, .inl g1))) := by
  refine PMv.of (post := fun L1 f1 => ∃ g1 : Nat → Int32, kp L f L1 f1 [h, tp] ∧ pt L1 f1 h (.inr (12, [.ref a, .ref im, .ref te, .ref tp, .int 16, .int (-1), .int (-1), .int 0, .int 0, .int 0, .int 0, .long 0, .int 0, .int 0, .int 0, .ref pi, .ref co, .int 0, .int 0, .int 0, .int 0, .int 0, .ref na, .ref vl, .ref tr, .int 1, .ref ac, .ref as_, .ref su, .ref wi_, .int 0, .ref se])) ∧ pt L1 f1 tp (.inl (G.2 0, 300, .inl g1))) (own := RX12) (by decide) rfl (Nat.le_of_ble_eq_true rfl) (fun sz p e s m args below meth c A ls hA1 hname S Y hl => ?_)
  have hx := S.hx
  have hb := S.hb
  have hl : lv_has ls 3 [(0, .ref h), (1, .int v)] := hl
  have hk : kp L f L f [h, tp] := kp.rf
  refine lv_bipush (v := 24) hx hb dX12_four_0 (by decide) ?_
  refine lv_istore_n (lv' := [(2, .int 24), (0, .ref h), (1, .int v)]) hx hb dX12_four_2 rfl hl (by decide) rfl (fun ls hl => ?_)
  refine lv_iload_n hx hb dX12_four_3 rfl (lv_at hl 0 rfl) ?_
  refine lv_if_lt (tgt := 39) hx hb dX12_four_4 (by decide) (fun h => absurd h (by decide)) (fun _ => ?_)
  refine lv_aload_n hx hb dX12_four_7 rfl (lv_at hl 1 rfl) ?_
  refine pg_get S Y ok_X12 3 (by decide) kf12_19 (v := .ref tp) p_h rfl dX12_four_8 ?_
  refine lv_aload_n hx hb dX12_four_11 rfl (lv_at hl 1 rfl) ?_
  refine pg_get S Y ok_X12 4 (by decide) kf12_81 (v := .int 12) p_h rfl dX12_four_12 ?_
  refine lv_iload_n hx hb dX12_four_15 rfl (lv_at hl 2 rfl) ?_
  refine lv_iload_n hx hb dX12_four_16 rfl (lv_at hl 0 rfl) ?_
  refine lv_ishr hx hb dX12_four_17 ?_
  refine lv_topi (fun x_978 ex_978 => ?_)
  refine lv_sipush (v := 255) hx hb dX12_four_18 (by decide) ?_
  refine lv_iand hx hb dX12_four_21 ?_
  refine lv_topi (fun x_979 ex_979 => ?_)
  refine pg_iast S Y p_tp (by unfold vp_in; decide) dX12_four_22 (fun f_981 H locs ef_981 Y => ?_)
  obtain ⟨g_980, eg_980⟩ : ∃ z, z = upd (g) (12 : Int32).toNatClampNeg x_979 := ⟨_, rfl⟩
  rw [← eg_980] at ef_981
  have p_h := p_h.up ef_981 ((p_h.neA p_tp))
  have p_tp := p_tp.me ef_981
  have hk := hk.up ef_981 (by simp)
  refine lv_aload_n hx hb dX12_four_23 rfl (lv_at hl 1 rfl) ?_
  refine lv_dup hx hb dX12_four_24 rfl ?_
  refine pg_get S Y ok_X12 4 (by decide) kf12_81 (v := .int 12) p_h rfl dX12_four_25 ?_
  refine lv_iconst (v := 1) hx hb dX12_four_28 (by decide) ?_
  refine lv_iadd hx hb dX12_four_29 ?_
  refine lv_fold (z := 13) (by decide) ?_
  refine pg_put S Y ok_X12 4 (by decide) kf12_81 rfl (fs' := [.ref a, .ref im, .ref te, .ref tp, .int 13, .int (-1), .int (-1), .int 0, .int 0, .int 0, .int 0, .long 0, .int 0, .int 0, .int 0, .ref pi, .ref co, .int 0, .int 0, .int 0, .int 0, .int 0, .ref na, .ref vl, .ref tr, .int 1, .ref ac, .ref as_, .ref su, .ref wi_, .int 0, .ref se]) (v := .int 13) p_h rfl rfl rfl (Nat.le_of_ble_eq_true rfl) dX12_four_30 (fun f_982 H locs ef_982 Y => ?_)
  have p_tp := p_tp.up ef_982 ((p_tp.neB p_h))
  have p_h := p_h.me ef_982
  have hk := hk.up ef_982 (by simp)
  refine lv_iinc (v := 16) (lv' := [(2, .int 16), (0, .ref h), (1, .int v)]) hx hb dX12_four_33 hl (k := 0) rfl (by decide) (by decide) rfl (fun ls hl => ?_)
  refine lv_goto (tgt := 3) hx hb dX12_four_36 (by decide) ?_
  refine lv_iload_n hx hb dX12_four_3 rfl (lv_at hl 0 rfl) ?_
  refine lv_if_lt (tgt := 39) hx hb dX12_four_4 (by decide) (fun h => absurd h (by decide)) (fun _ => ?_)
  refine lv_aload_n hx hb dX12_four_7 rfl (lv_at hl 1 rfl) ?_
  refine pg_get S Y ok_X12 3 (by decide) kf12_19 (v := .ref tp) p_h rfl dX12_four_8 ?_
  refine lv_aload_n hx hb dX12_four_11 rfl (lv_at hl 1 rfl) ?_
  refine pg_get S Y ok_X12 4 (by decide) kf12_81 (v := .int 13) p_h rfl dX12_four_12 ?_
  refine lv_iload_n hx hb dX12_four_15 rfl (lv_at hl 2 rfl) ?_
  refine lv_iload_n hx hb dX12_four_16 rfl (lv_at hl 0 rfl) ?_
  refine lv_ishr hx hb dX12_four_17 ?_
  refine lv_topi (fun x_983 ex_983 => ?_)
  refine lv_sipush (v := 255) hx hb dX12_four_18 (by decide) ?_
  refine lv_iand hx hb dX12_four_21 ?_
  refine lv_topi (fun x_984 ex_984 => ?_)
  refine pg_iast S Y p_tp (by unfold vp_in; decide) dX12_four_22 (fun f_986 H locs ef_986 Y => ?_)
  obtain ⟨g_985, eg_985⟩ : ∃ z, z = upd (g_980) (13 : Int32).toNatClampNeg x_984 := ⟨_, rfl⟩
  rw [← eg_985] at ef_986
  have p_h := p_h.up ef_986 ((p_h.neA p_tp))
  have p_tp := p_tp.me ef_986
  have hk := hk.up ef_986 (by simp)
  refine lv_aload_n hx hb dX12_four_23 rfl (lv_at hl 1 rfl) ?_
  refine lv_dup hx hb dX12_four_24 rfl ?_
  refine pg_get S Y ok_X12 4 (by decide) kf12_81 (v := .int 13) p_h rfl dX12_four_25 ?_
  refine lv_iconst (v := 1) hx hb dX12_four_28 (by decide) ?_
  refine lv_iadd hx hb dX12_four_29 ?_
  refine lv_fold (z := 14) (by decide) ?_
  refine pg_put S Y ok_X12 4 (by decide) kf12_81 rfl (fs' := [.ref a, .ref im, .ref te, .ref tp, .int 14, .int (-1), .int (-1), .int 0, .int 0, .int 0, .int 0, .long 0, .int 0, .int 0, .int 0, .ref pi, .ref co, .int 0, .int 0, .int 0, .int 0, .int 0, .ref na, .ref vl, .ref tr, .int 1, .ref ac, .ref as_, .ref su, .ref wi_, .int 0, .ref se]) (v := .int 14) p_h rfl rfl rfl (Nat.le_of_ble_eq_true rfl) dX12_four_30 (fun f_987 H locs ef_987 Y => ?_)
  have p_tp := p_tp.up ef_987 ((p_tp.neB p_h))
  have p_h := p_h.me ef_987
  have hk := hk.up ef_987 (by simp)
  refine lv_iinc (v := 8) (lv' := [(2, .int 8), (0, .ref h), (1, .int v)]) hx hb dX12_four_33 hl (k := 0) rfl (by decide) (by decide) rfl (fun ls hl => ?_)
  refine lv_goto (tgt := 3) hx hb dX12_four_36 (by decide) ?_
  refine lv_iload_n hx hb dX12_four_3 rfl (lv_at hl 0 rfl) ?_
  refine lv_if_lt (tgt := 39) hx hb dX12_four_4 (by decide) (fun h => absurd h (by decide)) (fun _ => ?_)
  refine lv_aload_n hx hb dX12_four_7 rfl (lv_at hl 1 rfl) ?_
  refine pg_get S Y ok_X12 3 (by decide) kf12_19 (v := .ref tp) p_h rfl dX12_four_8 ?_
  refine lv_aload_n hx hb dX12_four_11 rfl (lv_at hl 1 rfl) ?_
  refine pg_get S Y ok_X12 4 (by decide) kf12_81 (v := .int 14) p_h rfl dX12_four_12 ?_
  refine lv_iload_n hx hb dX12_four_15 rfl (lv_at hl 2 rfl) ?_
  refine lv_iload_n hx hb dX12_four_16 rfl (lv_at hl 0 rfl) ?_
  refine lv_ishr hx hb dX12_four_17 ?_
  refine lv_topi (fun x_988 ex_988 => ?_)
  refine lv_sipush (v := 255) hx hb dX12_four_18 (by decide) ?_
  refine lv_iand hx hb dX12_four_21 ?_
  refine lv_topi (fun x_989 ex_989 => ?_)
  refine pg_iast S Y p_tp (by unfold vp_in; decide) dX12_four_22 (fun f_991 H locs ef_991 Y => ?_)
  obtain ⟨g_990, eg_990⟩ : ∃ z, z = upd (g_985) (14 : Int32).toNatClampNeg x_989 := ⟨_, rfl⟩
  rw [← eg_990] at ef_991
  have p_h := p_h.up ef_991 ((p_h.neA p_tp))
  have p_tp := p_tp.me ef_991
  have hk := hk.up ef_991 (by simp)
  refine lv_aload_n hx hb dX12_four_23 rfl (lv_at hl 1 rfl) ?_
  refine lv_dup hx hb dX12_four_24 rfl ?_
  refine pg_get S Y ok_X12 4 (by decide) kf12_81 (v := .int 14) p_h rfl dX12_four_25 ?_
  refine lv_iconst (v := 1) hx hb dX12_four_28 (by decide) ?_
  refine lv_iadd hx hb dX12_four_29 ?_
  refine lv_fold (z := 15) (by decide) ?_
  refine pg_put S Y ok_X12 4 (by decide) kf12_81 rfl (fs' := [.ref a, .ref im, .ref te, .ref tp, .int 15, .int (-1), .int (-1), .int 0, .int 0, .int 0, .int 0, .long 0, .int 0, .int 0, .int 0, .ref pi, .ref co, .int 0, .int 0, .int 0, .int 0, .int 0, .ref na, .ref vl, .ref tr, .int 1, .ref ac, .ref as_, .ref su, .ref wi_, .int 0, .ref se]) (v := .int 15) p_h rfl rfl rfl (Nat.le_of_ble_eq_true rfl) dX12_four_30 (fun f_992 H locs ef_992 Y => ?_)
  have p_tp := p_tp.up ef_992 ((p_tp.neB p_h))
  have p_h := p_h.me ef_992
  have hk := hk.up ef_992 (by simp)
  refine lv_iinc (v := 0) (lv' := [(2, .int 0), (0, .ref h), (1, .int v)]) hx hb dX12_four_33 hl (k := 0) rfl (by decide) (by decide) rfl (fun ls hl => ?_)
  refine lv_goto (tgt := 3) hx hb dX12_four_36 (by decide) ?_
  refine lv_iload_n hx hb dX12_four_3 rfl (lv_at hl 0 rfl) ?_
  refine lv_if_lt (tgt := 39) hx hb dX12_four_4 (by decide) (fun h => absurd h (by decide)) (fun _ => ?_)
  refine lv_aload_n hx hb dX12_four_7 rfl (lv_at hl 1 rfl) ?_
  refine pg_get S Y ok_X12 3 (by decide) kf12_19 (v := .ref tp) p_h rfl dX12_four_8 ?_
  refine lv_aload_n hx hb dX12_four_11 rfl (lv_at hl 1 rfl) ?_
  refine pg_get S Y ok_X12 4 (by decide) kf12_81 (v := .int 15) p_h rfl dX12_four_12 ?_
  refine lv_iload_n hx hb dX12_four_15 rfl (lv_at hl 2 rfl) ?_
  refine lv_iload_n hx hb dX12_four_16 rfl (lv_at hl 0 rfl) ?_
  refine lv_ishr hx hb dX12_four_17 ?_
  refine lv_topi (fun x_993 ex_993 => ?_)
  refine lv_sipush (v := 255) hx hb dX12_four_18 (by decide) ?_
  refine lv_iand hx hb dX12_four_21 ?_
  refine lv_topi (fun x_994 ex_994 => ?_)
  refine pg_iast S Y p_tp (by unfold vp_in; decide) dX12_four_22 (fun f_996 H locs ef_996 Y => ?_)
  obtain ⟨g_995, eg_995⟩ : ∃ z, z = upd (g_990) (15 : Int32).toNatClampNeg x_994 := ⟨_, rfl⟩
  rw [← eg_995] at ef_996
  have p_h := p_h.up ef_996 ((p_h.neA p_tp))
  have p_tp := p_tp.me ef_996
  have hk := hk.up ef_996 (by simp)
  refine lv_aload_n hx hb dX12_four_23 rfl (lv_at hl 1 rfl) ?_
  refine lv_dup hx hb dX12_four_24 rfl ?_
  refine pg_get S Y ok_X12 4 (by decide) kf12_81 (v := .int 15) p_h rfl dX12_four_25 ?_
  refine lv_iconst (v := 1) hx hb dX12_four_28 (by decide) ?_
  refine lv_iadd hx hb dX12_four_29 ?_
  refine lv_fold (z := 16) (by decide) ?_
  refine pg_put S Y ok_X12 4 (by decide) kf12_81 rfl (fs' := [.ref a, .ref im, .ref te, .ref tp, .int 16, .int (-1), .int (-1), .int 0, .int 0, .int 0, .int 0, .long 0, .int 0, .int 0, .int 0, .ref pi, .ref co, .int 0, .int 0, .int 0, .int 0, .int 0, .ref na, .ref vl, .ref tr, .int 1, .ref ac, .ref as_, .ref su, .ref wi_, .int 0, .ref se]) (v := .int 16) p_h rfl rfl rfl (Nat.le_of_ble_eq_true rfl) dX12_four_30 (fun f_997 H locs ef_997 Y => ?_)
  have p_tp := p_tp.up ef_997 ((p_tp.neB p_h))
  have p_h := p_h.me ef_997
  have hk := hk.up ef_997 (by simp)
  refine lv_iinc (v := (-8)) (lv' := [(2, .int (-8)), (0, .ref h), (1, .int v)]) hx hb dX12_four_33 hl (k := 0) rfl (by decide) (by decide) rfl (fun ls hl => ?_)
  refine lv_goto (tgt := 3) hx hb dX12_four_36 (by decide) ?_
  refine lv_iload_n hx hb dX12_four_3 rfl (lv_at hl 0 rfl) ?_
  refine lv_if_lt (tgt := 39) hx hb dX12_four_4 (by decide) (fun _ => ?_) (fun h => absurd (by decide) h)
  exact prV (post := fun L1 f1 => ∃ g1 : Nat → Int32, kp L f L1 f1 [h, tp] ∧ pt L1 f1 h (.inr (12, [.ref a, .ref im, .ref te, .ref tp, .int 16, .int (-1), .int (-1), .int 0, .int 0, .int 0, .int 0, .long 0, .int 0, .int 0, .int 0, .ref pi, .ref co, .int 0, .int 0, .int 0, .int 0, .int 0, .ref na, .ref vl, .ref tr, .int 1, .ref ac, .ref as_, .ref su, .ref wi_, .int 0, .ref se])) ∧ pt L1 f1 tp (.inl (G.2 0, 300, .inl g1))) S Y (by decide) (by decide) hA1 ⟨g_995, hk, p_h, p_tp⟩ dX12_four_39
set_option maxHeartbeats 4000000 in
set_option maxRecDepth 100000 in
theorem c_four_16 {l : Launch} {G : GG} {L : List Nat} {f : HF} {h a im te tp pi co na vl tr ac as_ su wi_ se : Nat} {v : Int32} {g : Nat → Int32}  (p_h : pt L f h (.inr (12, [.ref a, .ref im, .ref te, .ref tp, .int 16, .int (-1), .int (-1), .int 0, .int 0, .int 0, .int 0, .long 0, .int 0, .int 0, .int 0, .ref pi, .ref co, .int 0, .int 0, .int 0, .int 0, .int 0, .ref na, .ref vl, .ref tr, .int 1, .ref ac, .ref as_, .ref su, .ref wi_, .int 0, .ref se]))) (p_tp : pt L f tp (.inl (G.2 0, 300, .inl g)))  : PMv l yX12_four cX12_four 3 0 0 0 G [.ref h, .int v] L f (fun L1 f1 => ∃ g1 : Nat → Int32, kp L f L1 f1 [h, tp] ∧ pt L1 f1 h (.inr (12, [.ref a, .ref im, .ref te, .ref tp, .int 20, .int (-1), .int (-1), .int 0, .int 0, .int 0, .int 0, .long 0, .int 0, .int 0, .int 0, .ref pi, .ref co, .int 0, .int 0, .int 0, .int 0, .int 0, .ref na, .ref vl, .ref tr, .int 1, .ref ac, .ref as_, .ref su, .ref wi_, .int 0, .ref se])) ∧ pt L1 f1 tp (.inl (G.2 0, 300, .inl g1))) := by
  refine PMv.of (post := fun L1 f1 => ∃ g1 : Nat → Int32, kp L f L1 f1 [h, tp] ∧ pt L1 f1 h (.inr (12, [.ref a, .ref im, .ref te, .ref tp, .int 20, .int (-1), .int (-1), .int 0, .int 0, .int 0, .int 0, .long 0, .int 0, .int 0, .int 0, .ref pi, .ref co, .int 0, .int 0, .int 0, .int 0, .int 0, .ref na, .ref vl, .ref tr, .int 1, .ref ac, .ref as_, .ref su, .ref wi_, .int 0, .ref se])) ∧ pt L1 f1 tp (.inl (G.2 0, 300, .inl g1))) (own := RX12) (by decide) rfl (Nat.le_of_ble_eq_true rfl) (fun sz p e s m args below meth c A ls hA1 hname S Y hl => ?_)
  have hx := S.hx
  have hb := S.hb
  have hl : lv_has ls 3 [(0, .ref h), (1, .int v)] := hl
  have hk : kp L f L f [h, tp] := kp.rf
  refine lv_bipush (v := 24) hx hb dX12_four_0 (by decide) ?_
  refine lv_istore_n (lv' := [(2, .int 24), (0, .ref h), (1, .int v)]) hx hb dX12_four_2 rfl hl (by decide) rfl (fun ls hl => ?_)
  refine lv_iload_n hx hb dX12_four_3 rfl (lv_at hl 0 rfl) ?_
  refine lv_if_lt (tgt := 39) hx hb dX12_four_4 (by decide) (fun h => absurd h (by decide)) (fun _ => ?_)
  refine lv_aload_n hx hb dX12_four_7 rfl (lv_at hl 1 rfl) ?_
  refine pg_get S Y ok_X12 3 (by decide) kf12_19 (v := .ref tp) p_h rfl dX12_four_8 ?_
  refine lv_aload_n hx hb dX12_four_11 rfl (lv_at hl 1 rfl) ?_
  refine pg_get S Y ok_X12 4 (by decide) kf12_81 (v := .int 16) p_h rfl dX12_four_12 ?_
  refine lv_iload_n hx hb dX12_four_15 rfl (lv_at hl 2 rfl) ?_
  refine lv_iload_n hx hb dX12_four_16 rfl (lv_at hl 0 rfl) ?_
  refine lv_ishr hx hb dX12_four_17 ?_
  refine lv_topi (fun x_998 ex_998 => ?_)
  refine lv_sipush (v := 255) hx hb dX12_four_18 (by decide) ?_
  refine lv_iand hx hb dX12_four_21 ?_
  refine lv_topi (fun x_999 ex_999 => ?_)
  refine pg_iast S Y p_tp (by unfold vp_in; decide) dX12_four_22 (fun f_1001 H locs ef_1001 Y => ?_)
  obtain ⟨g_1000, eg_1000⟩ : ∃ z, z = upd (g) (16 : Int32).toNatClampNeg x_999 := ⟨_, rfl⟩
  rw [← eg_1000] at ef_1001
  have p_h := p_h.up ef_1001 ((p_h.neA p_tp))
  have p_tp := p_tp.me ef_1001
  have hk := hk.up ef_1001 (by simp)
  refine lv_aload_n hx hb dX12_four_23 rfl (lv_at hl 1 rfl) ?_
  refine lv_dup hx hb dX12_four_24 rfl ?_
  refine pg_get S Y ok_X12 4 (by decide) kf12_81 (v := .int 16) p_h rfl dX12_four_25 ?_
  refine lv_iconst (v := 1) hx hb dX12_four_28 (by decide) ?_
  refine lv_iadd hx hb dX12_four_29 ?_
  refine lv_fold (z := 17) (by decide) ?_
  refine pg_put S Y ok_X12 4 (by decide) kf12_81 rfl (fs' := [.ref a, .ref im, .ref te, .ref tp, .int 17, .int (-1), .int (-1), .int 0, .int 0, .int 0, .int 0, .long 0, .int 0, .int 0, .int 0, .ref pi, .ref co, .int 0, .int 0, .int 0, .int 0, .int 0, .ref na, .ref vl, .ref tr, .int 1, .ref ac, .ref as_, .ref su, .ref wi_, .int 0, .ref se]) (v := .int 17) p_h rfl rfl rfl (Nat.le_of_ble_eq_true rfl) dX12_four_30 (fun f_1002 H locs ef_1002 Y => ?_)
  have p_tp := p_tp.up ef_1002 ((p_tp.neB p_h))
  have p_h := p_h.me ef_1002
  have hk := hk.up ef_1002 (by simp)
  refine lv_iinc (v := 16) (lv' := [(2, .int 16), (0, .ref h), (1, .int v)]) hx hb dX12_four_33 hl (k := 0) rfl (by decide) (by decide) rfl (fun ls hl => ?_)
  refine lv_goto (tgt := 3) hx hb dX12_four_36 (by decide) ?_
  refine lv_iload_n hx hb dX12_four_3 rfl (lv_at hl 0 rfl) ?_
  refine lv_if_lt (tgt := 39) hx hb dX12_four_4 (by decide) (fun h => absurd h (by decide)) (fun _ => ?_)
  refine lv_aload_n hx hb dX12_four_7 rfl (lv_at hl 1 rfl) ?_
  refine pg_get S Y ok_X12 3 (by decide) kf12_19 (v := .ref tp) p_h rfl dX12_four_8 ?_
  refine lv_aload_n hx hb dX12_four_11 rfl (lv_at hl 1 rfl) ?_
  refine pg_get S Y ok_X12 4 (by decide) kf12_81 (v := .int 17) p_h rfl dX12_four_12 ?_
  refine lv_iload_n hx hb dX12_four_15 rfl (lv_at hl 2 rfl) ?_
  refine lv_iload_n hx hb dX12_four_16 rfl (lv_at hl 0 rfl) ?_
  refine lv_ishr hx hb dX12_four_17 ?_
  refine lv_topi (fun x_1003 ex_1003 => ?_)
  refine lv_sipush (v := 255) hx hb dX12_four_18 (by decide) ?_
  refine lv_iand hx hb dX12_four_21 ?_
  refine lv_topi (fun x_1004 ex_1004 => ?_)
  refine pg_iast S Y p_tp (by unfold vp_in; decide) dX12_four_22 (fun f_1006 H locs ef_1006 Y => ?_)
  obtain ⟨g_1005, eg_1005⟩ : ∃ z, z = upd (g_1000) (17 : Int32).toNatClampNeg x_1004 := ⟨_, rfl⟩
  rw [← eg_1005] at ef_1006
  have p_h := p_h.up ef_1006 ((p_h.neA p_tp))
  have p_tp := p_tp.me ef_1006
  have hk := hk.up ef_1006 (by simp)
  refine lv_aload_n hx hb dX12_four_23 rfl (lv_at hl 1 rfl) ?_
  refine lv_dup hx hb dX12_four_24 rfl ?_
  refine pg_get S Y ok_X12 4 (by decide) kf12_81 (v := .int 17) p_h rfl dX12_four_25 ?_
  refine lv_iconst (v := 1) hx hb dX12_four_28 (by decide) ?_
  refine lv_iadd hx hb dX12_four_29 ?_
  refine lv_fold (z := 18) (by decide) ?_
  refine pg_put S Y ok_X12 4 (by decide) kf12_81 rfl (fs' := [.ref a, .ref im, .ref te, .ref tp, .int 18, .int (-1), .int (-1), .int 0, .int 0, .int 0, .int 0, .long 0, .int 0, .int 0, .int 0, .ref pi, .ref co, .int 0, .int 0, .int 0, .int 0, .int 0, .ref na, .ref vl, .ref tr, .int 1, .ref ac, .ref as_, .ref su, .ref wi_, .int 0, .ref se]) (v := .int 18) p_h rfl rfl rfl (Nat.le_of_ble_eq_true rfl) dX12_four_30 (fun f_1007 H locs ef_1007 Y => ?_)
  have p_tp := p_tp.up ef_1007 ((p_tp.neB p_h))
  have p_h := p_h.me ef_1007
  have hk := hk.up ef_1007 (by simp)
  refine lv_iinc (v := 8) (lv' := [(2, .int 8), (0, .ref h), (1, .int v)]) hx hb dX12_four_33 hl (k := 0) rfl (by decide) (by decide) rfl (fun ls hl => ?_)
  refine lv_goto (tgt := 3) hx hb dX12_four_36 (by decide) ?_
  refine lv_iload_n hx hb dX12_four_3 rfl (lv_at hl 0 rfl) ?_
  refine lv_if_lt (tgt := 39) hx hb dX12_four_4 (by decide) (fun h => absurd h (by decide)) (fun _ => ?_)
  refine lv_aload_n hx hb dX12_four_7 rfl (lv_at hl 1 rfl) ?_
  refine pg_get S Y ok_X12 3 (by decide) kf12_19 (v := .ref tp) p_h rfl dX12_four_8 ?_
  refine lv_aload_n hx hb dX12_four_11 rfl (lv_at hl 1 rfl) ?_
  refine pg_get S Y ok_X12 4 (by decide) kf12_81 (v := .int 18) p_h rfl dX12_four_12 ?_
  refine lv_iload_n hx hb dX12_four_15 rfl (lv_at hl 2 rfl) ?_
  refine lv_iload_n hx hb dX12_four_16 rfl (lv_at hl 0 rfl) ?_
  refine lv_ishr hx hb dX12_four_17 ?_
  refine lv_topi (fun x_1008 ex_1008 => ?_)
  refine lv_sipush (v := 255) hx hb dX12_four_18 (by decide) ?_
  refine lv_iand hx hb dX12_four_21 ?_
  refine lv_topi (fun x_1009 ex_1009 => ?_)
  refine pg_iast S Y p_tp (by unfold vp_in; decide) dX12_four_22 (fun f_1011 H locs ef_1011 Y => ?_)
  obtain ⟨g_1010, eg_1010⟩ : ∃ z, z = upd (g_1005) (18 : Int32).toNatClampNeg x_1009 := ⟨_, rfl⟩
  rw [← eg_1010] at ef_1011
  have p_h := p_h.up ef_1011 ((p_h.neA p_tp))
  have p_tp := p_tp.me ef_1011
  have hk := hk.up ef_1011 (by simp)
  refine lv_aload_n hx hb dX12_four_23 rfl (lv_at hl 1 rfl) ?_
  refine lv_dup hx hb dX12_four_24 rfl ?_
  refine pg_get S Y ok_X12 4 (by decide) kf12_81 (v := .int 18) p_h rfl dX12_four_25 ?_
  refine lv_iconst (v := 1) hx hb dX12_four_28 (by decide) ?_
  refine lv_iadd hx hb dX12_four_29 ?_
  refine lv_fold (z := 19) (by decide) ?_
  refine pg_put S Y ok_X12 4 (by decide) kf12_81 rfl (fs' := [.ref a, .ref im, .ref te, .ref tp, .int 19, .int (-1), .int (-1), .int 0, .int 0, .int 0, .int 0, .long 0, .int 0, .int 0, .int 0, .ref pi, .ref co, .int 0, .int 0, .int 0, .int 0, .int 0, .ref na, .ref vl, .ref tr, .int 1, .ref ac, .ref as_, .ref su, .ref wi_, .int 0, .ref se]) (v := .int 19) p_h rfl rfl rfl (Nat.le_of_ble_eq_true rfl) dX12_four_30 (fun f_1012 H locs ef_1012 Y => ?_)
  have p_tp := p_tp.up ef_1012 ((p_tp.neB p_h))
  have p_h := p_h.me ef_1012
  have hk := hk.up ef_1012 (by simp)
  refine lv_iinc (v := 0) (lv' := [(2, .int 0), (0, .ref h), (1, .int v)]) hx hb dX12_four_33 hl (k := 0) rfl (by decide) (by decide) rfl (fun ls hl => ?_)
  refine lv_goto (tgt := 3) hx hb dX12_four_36 (by decide) ?_
  refine lv_iload_n hx hb dX12_four_3 rfl (lv_at hl 0 rfl) ?_
  refine lv_if_lt (tgt := 39) hx hb dX12_four_4 (by decide) (fun h => absurd h (by decide)) (fun _ => ?_)
  refine lv_aload_n hx hb dX12_four_7 rfl (lv_at hl 1 rfl) ?_
  refine pg_get S Y ok_X12 3 (by decide) kf12_19 (v := .ref tp) p_h rfl dX12_four_8 ?_
  refine lv_aload_n hx hb dX12_four_11 rfl (lv_at hl 1 rfl) ?_
  refine pg_get S Y ok_X12 4 (by decide) kf12_81 (v := .int 19) p_h rfl dX12_four_12 ?_
  refine lv_iload_n hx hb dX12_four_15 rfl (lv_at hl 2 rfl) ?_
  refine lv_iload_n hx hb dX12_four_16 rfl (lv_at hl 0 rfl) ?_
  refine lv_ishr hx hb dX12_four_17 ?_
  refine lv_topi (fun x_1013 ex_1013 => ?_)
  refine lv_sipush (v := 255) hx hb dX12_four_18 (by decide) ?_
  refine lv_iand hx hb dX12_four_21 ?_
  refine lv_topi (fun x_1014 ex_1014 => ?_)
  refine pg_iast S Y p_tp (by unfold vp_in; decide) dX12_four_22 (fun f_1016 H locs ef_1016 Y => ?_)
  obtain ⟨g_1015, eg_1015⟩ : ∃ z, z = upd (g_1010) (19 : Int32).toNatClampNeg x_1014 := ⟨_, rfl⟩
  rw [← eg_1015] at ef_1016
  have p_h := p_h.up ef_1016 ((p_h.neA p_tp))
  have p_tp := p_tp.me ef_1016
  have hk := hk.up ef_1016 (by simp)
  refine lv_aload_n hx hb dX12_four_23 rfl (lv_at hl 1 rfl) ?_
  refine lv_dup hx hb dX12_four_24 rfl ?_
  refine pg_get S Y ok_X12 4 (by decide) kf12_81 (v := .int 19) p_h rfl dX12_four_25 ?_
  refine lv_iconst (v := 1) hx hb dX12_four_28 (by decide) ?_
  refine lv_iadd hx hb dX12_four_29 ?_
  refine lv_fold (z := 20) (by decide) ?_
  refine pg_put S Y ok_X12 4 (by decide) kf12_81 rfl (fs' := [.ref a, .ref im, .ref te, .ref tp, .int 20, .int (-1), .int (-1), .int 0, .int 0, .int 0, .int 0, .long 0, .int 0, .int 0, .int 0, .ref pi, .ref co, .int 0, .int 0, .int 0, .int 0, .int 0, .ref na, .ref vl, .ref tr, .int 1, .ref ac, .ref as_, .ref su, .ref wi_, .int 0, .ref se]) (v := .int 20) p_h rfl rfl rfl (Nat.le_of_ble_eq_true rfl) dX12_four_30 (fun f_1017 H locs ef_1017 Y => ?_)
  have p_tp := p_tp.up ef_1017 ((p_tp.neB p_h))
  have p_h := p_h.me ef_1017
  have hk := hk.up ef_1017 (by simp)
  refine lv_iinc (v := (-8)) (lv' := [(2, .int (-8)), (0, .ref h), (1, .int v)]) hx hb dX12_four_33 hl (k := 0) rfl (by decide) (by decide) rfl (fun ls hl => ?_)
  refine lv_goto (tgt := 3) hx hb dX12_four_36 (by decide) ?_
  refine lv_iload_n hx hb dX12_four_3 rfl (lv_at hl 0 rfl) ?_
  refine lv_if_lt (tgt := 39) hx hb dX12_four_4 (by decide) (fun _ => ?_) (fun h => absurd (by decide) h)
  exact prV (post := fun L1 f1 => ∃ g1 : Nat → Int32, kp L f L1 f1 [h, tp] ∧ pt L1 f1 h (.inr (12, [.ref a, .ref im, .ref te, .ref tp, .int 20, .int (-1), .int (-1), .int 0, .int 0, .int 0, .int 0, .long 0, .int 0, .int 0, .int 0, .ref pi, .ref co, .int 0, .int 0, .int 0, .int 0, .int 0, .ref na, .ref vl, .ref tr, .int 1, .ref ac, .ref as_, .ref su, .ref wi_, .int 0, .ref se])) ∧ pt L1 f1 tp (.inl (G.2 0, 300, .inl g1))) S Y (by decide) (by decide) hA1 ⟨g_1015, hk, p_h, p_tp⟩ dX12_four_39
set_option maxHeartbeats 4000000 in
set_option maxRecDepth 100000 in
theorem c_X12_feed {l : Launch} {G : GG} {L : List Nat} {f : HF} {h a im te tp pi co na vl tr ac as_ su wi_ se : Nat} {v1 v2 v3 v4 v5 : Int32} {g : Nat → Int32}  (p_h : pt L f h (.inr (12, [.ref a, .ref im, .ref te, .ref tp, .int 0, .int (-1), .int (-1), .int 0, .int 0, .int 0, .int 0, .long 0, .int 0, .int 0, .int 0, .ref pi, .ref co, .int 0, .int 0, .int 0, .int 0, .int 0, .ref na, .ref vl, .ref tr, .int 1, .ref ac, .ref as_, .ref su, .ref wi_, .int 0, .ref se]))) (p_tp : pt L f tp (.inl (G.2 0, 300, .inl g)))  : PMi l yX12_feed cX12_feed 6 .int 1 0 0 G [.ref h, .int v1, .int v2, .int v3, .int v4, .int v5] L f (fun r L1 f1 => r = 20) := by
  refine PMi.of (post := fun r L1 f1 => r = 20) (own := RX12) (by decide) rfl (Nat.le_of_ble_eq_true rfl) (fun sz p e s m args below meth c A ls hA1 hname S Y hl => ?_)
  have hx := S.hx
  have hb := S.hb
  have hl : lv_has ls 6 [(0, .ref h), (1, .int v1), (2, .int v2), (3, .int v3), (4, .int v4), (5, .int v5)] := hl
  refine lv_aload_n hx hb dX12_feed_0 rfl (lv_at hl 0 rfl) ?_
  refine pg_get S Y ok_X12 4 (by decide) kf12_81 (v := .int 0) p_h rfl dX12_feed_1 ?_
  refine lv_bipush (v := 20) hx hb dX12_feed_4 (by decide) ?_
  refine lv_iadd hx hb dX12_feed_6 ?_
  refine lv_fold (z := 20) (by decide) ?_
  refine lv_sipush (v := 300) hx hb dX12_feed_7 (by decide) ?_
  refine lv_icmp_le (tgt := 15) hx hb dX12_feed_10 (by decide) (fun _ => ?_) (fun h => absurd (by decide) h)
  refine lv_aload_n hx hb dX12_feed_15 rfl (lv_at hl 0 rfl) ?_
  refine lv_iload_n hx hb dX12_feed_16 rfl (lv_at hl 1 rfl) ?_
  refine cVv (As := [.int v1]) (rest := []) S Y (c_four_0 (l := l) p_h p_tp) cw_X12_four km12_84 p_h ok_X12.1 rfl rfl ⟨Nat.le_of_ble_eq_true rfl, Nat.le_of_ble_eq_true rfl⟩ hl.1 rfl (Nat.le_of_ble_eq_true rfl) ⟨Nat.le_of_ble_eq_true rfl, Nat.le_of_ble_eq_true rfl⟩ dX12_feed_17 (fun L_1018 f_1019 H locs hf_1019 Y => ?_)
  obtain ⟨g__1020, kf_1019, z_z_1021, z_z_1022⟩ := hf_1019
  have p_h := z_z_1021
  have p_tp := z_z_1022
  refine lv_aload_n hx hb dX12_feed_20 rfl (lv_at hl 0 rfl) ?_
  refine lv_iload_n hx hb dX12_feed_21 rfl (lv_at hl 2 rfl) ?_
  refine cVv (As := [.int v2]) (rest := []) S Y (c_four_4 (l := l) p_h p_tp) cw_X12_four km12_84 p_h ok_X12.1 rfl rfl ⟨Nat.le_of_ble_eq_true rfl, Nat.le_of_ble_eq_true rfl⟩ hl.1 rfl (Nat.le_of_ble_eq_true rfl) ⟨Nat.le_of_ble_eq_true rfl, Nat.le_of_ble_eq_true rfl⟩ dX12_feed_22 (fun L_1023 f_1024 H locs hf_1024 Y => ?_)
  obtain ⟨g__1025, kf_1024, z_z_1026, z_z_1027⟩ := hf_1024
  have p_h := z_z_1026
  have p_tp := z_z_1027
  refine lv_aload_n hx hb dX12_feed_25 rfl (lv_at hl 0 rfl) ?_
  refine lv_iload_n hx hb dX12_feed_26 rfl (lv_at hl 3 rfl) ?_
  refine cVv (As := [.int v3]) (rest := []) S Y (c_four_8 (l := l) p_h p_tp) cw_X12_four km12_84 p_h ok_X12.1 rfl rfl ⟨Nat.le_of_ble_eq_true rfl, Nat.le_of_ble_eq_true rfl⟩ hl.1 rfl (Nat.le_of_ble_eq_true rfl) ⟨Nat.le_of_ble_eq_true rfl, Nat.le_of_ble_eq_true rfl⟩ dX12_feed_27 (fun L_1028 f_1029 H locs hf_1029 Y => ?_)
  obtain ⟨g__1030, kf_1029, z_z_1031, z_z_1032⟩ := hf_1029
  have p_h := z_z_1031
  have p_tp := z_z_1032
  refine lv_aload_n hx hb dX12_feed_30 rfl (lv_at hl 0 rfl) ?_
  refine lv_iload hx hb dX12_feed_31 (lv_at hl 4 rfl) ?_
  refine cVv (As := [.int v4]) (rest := []) S Y (c_four_12 (l := l) p_h p_tp) cw_X12_four km12_84 p_h ok_X12.1 rfl rfl ⟨Nat.le_of_ble_eq_true rfl, Nat.le_of_ble_eq_true rfl⟩ hl.1 rfl (Nat.le_of_ble_eq_true rfl) ⟨Nat.le_of_ble_eq_true rfl, Nat.le_of_ble_eq_true rfl⟩ dX12_feed_33 (fun L_1033 f_1034 H locs hf_1034 Y => ?_)
  obtain ⟨g__1035, kf_1034, z_z_1036, z_z_1037⟩ := hf_1034
  have p_h := z_z_1036
  have p_tp := z_z_1037
  refine lv_aload_n hx hb dX12_feed_36 rfl (lv_at hl 0 rfl) ?_
  refine lv_iload hx hb dX12_feed_37 (lv_at hl 5 rfl) ?_
  refine cVv (As := [.int v5]) (rest := []) S Y (c_four_16 (l := l) p_h p_tp) cw_X12_four km12_84 p_h ok_X12.1 rfl rfl ⟨Nat.le_of_ble_eq_true rfl, Nat.le_of_ble_eq_true rfl⟩ hl.1 rfl (Nat.le_of_ble_eq_true rfl) ⟨Nat.le_of_ble_eq_true rfl, Nat.le_of_ble_eq_true rfl⟩ dX12_feed_39 (fun L_1038 f_1039 H locs hf_1039 Y => ?_)
  obtain ⟨g__1040, kf_1039, z_z_1041, z_z_1042⟩ := hf_1039
  have p_h := z_z_1041
  have p_tp := z_z_1042
  refine lv_aload_n hx hb dX12_feed_42 rfl (lv_at hl 0 rfl) ?_
  refine pg_get S Y ok_X12 4 (by decide) kf12_81 (v := .int 20) p_h rfl dX12_feed_43 ?_
  exact prI (post := fun r L1 f1 => r = 20) S Y rfl (by decide) (by decide) hA1 rfl dX12_feed_46
set_option maxHeartbeats 4000000 in
set_option maxRecDepth 100000 in
theorem c_X12_end {l : Launch} {G : GG} {L : List Nat} {f : HF} {h a im te tp pi co na vl tr ac as_ su wi_ se : Nat} {n : Int32}  (p_h : pt L f h (.inr (12, [.ref a, .ref im, .ref te, .ref tp, .int 0, .int (-1), .int (-1), .int 0, .int 0, .int 0, .int 0, .long 0, .int 0, .int 0, .int 0, .ref pi, .ref co, .int 0, .int 0, .int 0, .int 0, .int 0, .ref na, .ref vl, .ref tr, .int 1, .ref ac, .ref as_, .ref su, .ref wi_, .int 0, .ref se])))  : PMi l yX12_end cX12_end 2 .int 1 0 0 G [.ref h, .int n] L f (fun r L1 f1 => r = if wi n 0 0 = 0 then -1 else n) := by
  refine PMi.of (post := fun r L1 f1 => r = if wi n 0 0 = 0 then -1 else n) (own := RX12) (by decide) rfl (Nat.le_of_ble_eq_true rfl) (fun sz p e s m args below meth c A ls hA1 hname S Y hl => ?_)
  have hx := S.hx
  have hb := S.hb
  have hl : lv_has ls 2 [(0, .ref h), (1, .int n)] := hl
  refine lv_iload_n hx hb dX12_end_0 rfl (lv_at hl 1 rfl) ?_
  refine lv_iconst (v := 0) hx hb dX12_end_1 (by decide) ?_
  refine lv_aload_n hx hb dX12_end_2 rfl (lv_at hl 0 rfl) ?_
  refine pg_get S Y ok_X12 4 (by decide) kf12_81 (v := .int 0) p_h rfl dX12_end_3 ?_
  refine cSp (As := [.int n, .int 0, .int 0]) (rest := []) S Y (c_X12_isIn (l := l)) cw_X12_isIn km12_69 rfl ⟨Nat.le_of_ble_eq_true rfl, Nat.le_of_ble_eq_true rfl⟩ hl.1 rfl (Nat.le_of_ble_eq_true rfl) ⟨Nat.le_of_ble_eq_true rfl, Nat.le_of_ble_eq_true rfl⟩ dX12_end_6 (fun r_1043 H locs er_1043 Y => ?_)
  refine lv_fold (z := (wi n 0 0)) er_1043 ?_
  refine lv_if_ne (tgt := 14) hx hb dX12_end_9 (by decide) (fun c_1044 => ?_) (fun c_1044 => ?_)
  · refine lv_aload_n hx hb dX12_end_14 rfl (lv_at hl 0 rfl) ?_
    refine lv_iload_n hx hb dX12_end_15 rfl (lv_at hl 1 rfl) ?_
    refine pg_put S Y ok_X12 4 (by decide) kf12_81 rfl (fs' := [.ref a, .ref im, .ref te, .ref tp, .int n, .int (-1), .int (-1), .int 0, .int 0, .int 0, .int 0, .long 0, .int 0, .int 0, .int 0, .ref pi, .ref co, .int 0, .int 0, .int 0, .int 0, .int 0, .ref na, .ref vl, .ref tr, .int 1, .ref ac, .ref as_, .ref su, .ref wi_, .int 0, .ref se]) (v := .int n) p_h rfl rfl rfl (Nat.le_of_ble_eq_true rfl) dX12_end_16 (fun f_1045 H locs ef_1045 Y => ?_)
    have p_h := p_h.me ef_1045
    refine lv_iload_n hx hb dX12_end_19 rfl (lv_at hl 1 rfl) ?_
    exact prI (post := fun r L1 f1 => r = if wi n 0 0 = 0 then -1 else n) S Y rfl (by decide) (by decide) hA1 (by rw [if_neg c_1044]) dX12_end_20
  · refine lv_iconst (v := (-1)) hx hb dX12_end_12 (by decide) ?_
    exact prI (post := fun r L1 f1 => r = if wi n 0 0 = 0 then -1 else n) S Y rfl (by decide) (by decide) hA1 (by rw [if_pos c_1044]) dX12_end_13
set_option maxHeartbeats 4000000 in
set_option maxRecDepth 100000 in
theorem c_X12_byteAt {l : Launch} {G : GG} {L : List Nat} {f : HF} {h a im te tp pi co na vl tr ac as_ su wi_ se : Nat}  (p_h : pt L f h (.inr (12, [.ref a, .ref im, .ref te, .ref tp, .int 0, .int (-1), .int (-1), .int 0, .int 0, .int 0, .int 0, .long 0, .int 0, .int 0, .int 0, .ref pi, .ref co, .int 0, .int 0, .int 0, .int 0, .int 0, .ref na, .ref vl, .ref tr, .int 1, .ref ac, .ref as_, .ref su, .ref wi_, .int 0, .ref se])))  : PMp l yX12_byteAt cX12_byteAt 2 .int 0 0 0 G [.ref h, .int 0] L f (fun r => r = (-1)) := by
  refine PMi.of (post := fun r L1 f1 => (r = (-1)) ∧ L1 = L ∧ f1 = f) (own := RX12) (by decide) rfl (Nat.le_of_ble_eq_true rfl) (fun sz p e s m args below meth c A ls hA1 hname S Y hl => ?_)
  have hx := S.hx
  have hb := S.hb
  have hl : lv_has ls 2 [(0, .ref h), (1, .int 0)] := hl
  refine lv_iload_n hx hb dX12_byteAt_0 rfl (lv_at hl 1 rfl) ?_
  refine lv_aload_n hx hb dX12_byteAt_1 rfl (lv_at hl 0 rfl) ?_
  refine pg_get S Y ok_X12 4 (by decide) kf12_81 (v := .int 0) p_h rfl dX12_byteAt_2 ?_
  refine lv_icmp_ge (tgt := 17) hx hb dX12_byteAt_5 (by decide) (fun _ => ?_) (fun h => absurd (by decide) h)
  refine lv_iconst (v := (-1)) hx hb dX12_byteAt_17 (by decide) ?_
  exact prI (post := fun r L1 f1 => (r = (-1)) ∧ L1 = L ∧ f1 = f) S Y rfl (by decide) (by decide) hA1 ⟨rfl, rfl, rfl⟩ dX12_byteAt_18
set_option maxHeartbeats 4000000 in
set_option maxRecDepth 100000 in
theorem c_X12_nextToken {l : Launch} {G : GG} {L : List Nat} {f : HF} {h a im te tp pi co na vl tr ac as_ su wi_ se : Nat}  (p_h : pt L f h (.inr (12, [.ref a, .ref im, .ref te, .ref tp, .int 0, .int (-1), .int (-1), .int 0, .int 0, .int 0, .int 0, .long 0, .int 0, .int 0, .int 0, .ref pi, .ref co, .int 0, .int 0, .int 0, .int 0, .int 0, .ref na, .ref vl, .ref tr, .int 1, .ref ac, .ref as_, .ref su, .ref wi_, .int 0, .ref se])))  : PMv l yX12_nextToken cX12_nextToken 2 1 0 0 G [.ref h] L f (fun L1 f1 => kp L f L1 f1 [h] ∧ pt L1 f1 h (.inr (12, [.ref a, .ref im, .ref te, .ref tp, .int 0, .int (-1), .int (-1), .int 0, .int 0, .int 0, .int 0, .long 0, .int 0, .int 0, .int 0, .ref pi, .ref co, .int 0, .int 0, .int 0, .int 0, .int 0, .ref na, .ref vl, .ref tr, .int 1, .ref ac, .ref as_, .ref su, .ref wi_, .int 0, .ref se]))) := by
  refine PMv.of (post := fun L1 f1 => kp L f L1 f1 [h] ∧ pt L1 f1 h (.inr (12, [.ref a, .ref im, .ref te, .ref tp, .int 0, .int (-1), .int (-1), .int 0, .int 0, .int 0, .int 0, .long 0, .int 0, .int 0, .int 0, .ref pi, .ref co, .int 0, .int 0, .int 0, .int 0, .int 0, .ref na, .ref vl, .ref tr, .int 1, .ref ac, .ref as_, .ref su, .ref wi_, .int 0, .ref se]))) (own := RX12) (by decide) rfl (Nat.le_of_ble_eq_true rfl) (fun sz p e s m args below meth c A ls hA1 hname S Y hl => ?_)
  have hx := S.hx
  have hb := S.hb
  have hl : lv_has ls 2 [(0, .ref h)] := hl
  have hk : kp L f L f [h] := kp.rf
  refine lv_aload_n hx hb dX12_nextToken_0 rfl (lv_at hl 0 rfl) ?_
  refine lv_aload_n hx hb dX12_nextToken_1 rfl (lv_at hl 0 rfl) ?_
  refine pg_get S Y ok_X12 7 (by decide) kf12_88 (v := .int 0) p_h rfl dX12_nextToken_2 ?_
  refine cVp (As := [.int 0]) (rest := []) S Y (c_X12_byteAt (l := l) p_h) cw_X12_byteAt km12_91 p_h ok_X12.1 rfl rfl ⟨Nat.le_of_ble_eq_true rfl, Nat.le_of_ble_eq_true rfl⟩ hl.1 rfl (Nat.le_of_ble_eq_true rfl) ⟨Nat.le_of_ble_eq_true rfl, Nat.le_of_ble_eq_true rfl⟩ dX12_nextToken_5 (fun r_1046 H locs er_1046 Y => ?_)
  refine lv_fold (z := (-1)) er_1046 ?_
  refine lv_bipush (v := 32) hx hb dX12_nextToken_8 (by decide) ?_
  refine lv_icmp_eq (tgt := 26) hx hb dX12_nextToken_10 (by decide) (fun h => absurd h (by decide)) (fun _ => ?_)
  refine lv_aload_n hx hb dX12_nextToken_13 rfl (lv_at hl 0 rfl) ?_
  refine lv_aload_n hx hb dX12_nextToken_14 rfl (lv_at hl 0 rfl) ?_
  refine pg_get S Y ok_X12 7 (by decide) kf12_88 (v := .int 0) p_h rfl dX12_nextToken_15 ?_
  refine cVp (As := [.int 0]) (rest := []) S Y (c_X12_byteAt (l := l) p_h) cw_X12_byteAt km12_91 p_h ok_X12.1 rfl rfl ⟨Nat.le_of_ble_eq_true rfl, Nat.le_of_ble_eq_true rfl⟩ hl.1 rfl (Nat.le_of_ble_eq_true rfl) ⟨Nat.le_of_ble_eq_true rfl, Nat.le_of_ble_eq_true rfl⟩ dX12_nextToken_18 (fun r_1047 H locs er_1047 Y => ?_)
  refine lv_fold (z := (-1)) er_1047 ?_
  refine lv_bipush (v := 10) hx hb dX12_nextToken_21 (by decide) ?_
  refine lv_icmp_ne (tgt := 39) hx hb dX12_nextToken_23 (by decide) (fun _ => ?_) (fun h => absurd h (by decide))
  refine lv_aload_n hx hb dX12_nextToken_39 rfl (lv_at hl 0 rfl) ?_
  refine lv_aload_n hx hb dX12_nextToken_40 rfl (lv_at hl 0 rfl) ?_
  refine pg_get S Y ok_X12 7 (by decide) kf12_88 (v := .int 0) p_h rfl dX12_nextToken_41 ?_
  refine pg_put S Y ok_X12 8 (by decide) kf12_95 rfl (fs' := [.ref a, .ref im, .ref te, .ref tp, .int 0, .int (-1), .int (-1), .int 0, .int 0, .int 0, .int 0, .long 0, .int 0, .int 0, .int 0, .ref pi, .ref co, .int 0, .int 0, .int 0, .int 0, .int 0, .ref na, .ref vl, .ref tr, .int 1, .ref ac, .ref as_, .ref su, .ref wi_, .int 0, .ref se]) (v := .int 0) p_h rfl rfl rfl (Nat.le_of_ble_eq_true rfl) dX12_nextToken_44 (fun f_1048 H locs ef_1048 Y => ?_)
  have p_h := p_h.me ef_1048
  have hk := hk.up ef_1048 (by simp)
  refine lv_aload_n hx hb dX12_nextToken_47 rfl (lv_at hl 0 rfl) ?_
  refine lv_aload_n hx hb dX12_nextToken_48 rfl (lv_at hl 0 rfl) ?_
  refine pg_get S Y ok_X12 7 (by decide) kf12_88 (v := .int 0) p_h rfl dX12_nextToken_49 ?_
  refine cVp (As := [.int 0]) (rest := []) S Y (c_X12_byteAt (l := l) p_h) cw_X12_byteAt km12_91 p_h ok_X12.1 rfl rfl ⟨Nat.le_of_ble_eq_true rfl, Nat.le_of_ble_eq_true rfl⟩ hl.1 rfl (Nat.le_of_ble_eq_true rfl) ⟨Nat.le_of_ble_eq_true rfl, Nat.le_of_ble_eq_true rfl⟩ dX12_nextToken_52 (fun r_1049 H locs er_1049 Y => ?_)
  refine lv_fold (z := (-1)) er_1049 ?_
  refine lv_istore_n (lv' := [(1, .int (-1)), (0, .ref h)]) hx hb dX12_nextToken_55 rfl hl (by decide) rfl (fun ls hl => ?_)
  refine lv_iload_n hx hb dX12_nextToken_56 rfl (lv_at hl 0 rfl) ?_
  refine lv_if_ge (tgt := 68) hx hb dX12_nextToken_57 (by decide) (fun h => absurd h (by decide)) (fun _ => ?_)
  refine lv_aload_n hx hb dX12_nextToken_60 rfl (lv_at hl 1 rfl) ?_
  refine lv_iconst (v := 0) hx hb dX12_nextToken_61 (by decide) ?_
  refine pg_put S Y ok_X12 9 (by decide) kf12_98 rfl (fs' := [.ref a, .ref im, .ref te, .ref tp, .int 0, .int (-1), .int (-1), .int 0, .int 0, .int 0, .int 0, .long 0, .int 0, .int 0, .int 0, .ref pi, .ref co, .int 0, .int 0, .int 0, .int 0, .int 0, .ref na, .ref vl, .ref tr, .int 1, .ref ac, .ref as_, .ref su, .ref wi_, .int 0, .ref se]) (v := .int 0) p_h rfl rfl rfl (Nat.le_of_ble_eq_true rfl) dX12_nextToken_62 (fun f_1050 H locs ef_1050 Y => ?_)
  have p_h := p_h.me ef_1050
  have hk := hk.up ef_1050 (by simp)
  refine lv_goto (tgt := 310) hx hb dX12_nextToken_65 (by decide) ?_
  exact prV (post := fun L1 f1 => kp L f L1 f1 [h] ∧ pt L1 f1 h (.inr (12, [.ref a, .ref im, .ref te, .ref tp, .int 0, .int (-1), .int (-1), .int 0, .int 0, .int 0, .int 0, .long 0, .int 0, .int 0, .int 0, .ref pi, .ref co, .int 0, .int 0, .int 0, .int 0, .int 0, .ref na, .ref vl, .ref tr, .int 1, .ref ac, .ref as_, .ref su, .ref wi_, .int 0, .ref se]))) S Y (by decide) (by decide) hA1 ⟨hk, p_h⟩ dX12_nextToken_310
set_option maxHeartbeats 4000000 in
set_option maxRecDepth 100000 in
theorem c_X12_readText {l : Launch} {G : GG} {L : List Nat} {f : HF} {h a im te tp pi co na vl tr ac as_ su wi_ se : Nat} {g : Nat → Int32}  (p_h : pt L f h (.inr (12, [.ref a, .ref im, .ref te, .ref tp, .int 0, .int (-1), .int (-1), .int 0, .int 0, .int 0, .int 0, .long 0, .int 0, .int 0, .int 0, .ref pi, .ref co, .int 0, .int 0, .int 0, .int 0, .int 0, .ref na, .ref vl, .ref tr, .int 1, .ref ac, .ref as_, .ref su, .ref wi_, .int 0, .ref se]))) (p_a : pt L f a (.inl (G.2 0, 10568, .inl a0))) (p_te : pt L f te (.inl (G.2 0, 2916, .inl g)))  : PMi l yX12_readText cX12_readText 2 .int 2 0 0 G [.ref h] L f (fun r L1 f1 => ∃ g1 : Nat → Int32, r = 0 ∧ kp L f L1 f1 [h, te] ∧ pt L1 f1 h (.inr (12, [.ref a, .ref im, .ref te, .ref tp, .int 0, .int (-1), .int (-1), .int 0, .int 0, .int 0, .int 0, .long 0, .int 0, .int 0, .int 0, .ref pi, .ref co, .int 0, .int 0, .int 0, .int 0, .int 0, .ref na, .ref vl, .ref tr, .int 1, .ref ac, .ref as_, .ref su, .ref wi_, .int 0, .ref se])) ∧ pt L1 f1 te (.inl (G.2 0, 2916, .inl g1))) := by
  refine PMi.of (post := fun r L1 f1 => ∃ g1 : Nat → Int32, r = 0 ∧ kp L f L1 f1 [h, te] ∧ pt L1 f1 h (.inr (12, [.ref a, .ref im, .ref te, .ref tp, .int 0, .int (-1), .int (-1), .int 0, .int 0, .int 0, .int 0, .long 0, .int 0, .int 0, .int 0, .ref pi, .ref co, .int 0, .int 0, .int 0, .int 0, .int 0, .ref na, .ref vl, .ref tr, .int 1, .ref ac, .ref as_, .ref su, .ref wi_, .int 0, .ref se])) ∧ pt L1 f1 te (.inl (G.2 0, 2916, .inl g1))) (own := RX12) (by decide) rfl (Nat.le_of_ble_eq_true rfl) (fun sz p e s m args below meth c A ls hA1 hname S Y hl => ?_)
  have hx := S.hx
  have hb := S.hb
  have hl : lv_has ls 2 [(0, .ref h)] := hl
  have hk : kp L f L f [h, te] := kp.rf
  refine lv_aload_n hx hb dX12_readText_0 rfl (lv_at hl 0 rfl) ?_
  refine lv_sipush (v := 729) hx hb dX12_readText_1 (by decide) ?_
  refine lv_aload_n hx hb dX12_readText_4 rfl (lv_at hl 0 rfl) ?_
  refine pg_get S Y ok_X12 0 (by decide) kf12_7 (v := .ref a) p_h rfl dX12_readText_5 ?_
  refine lv_iconst (v := 1) hx hb dX12_readText_8 (by decide) ?_
  refine pg_iald S Y (v := 0) p_a (by unfold vp_in; decide) (by decide) dX12_readText_9 ?_
  refine lv_imul hx hb dX12_readText_10 ?_
  refine lv_fold (z := 0) (by decide) ?_
  refine pg_put S Y ok_X12 12 (by decide) kf12_136 rfl (fs' := [.ref a, .ref im, .ref te, .ref tp, .int 0, .int (-1), .int (-1), .int 0, .int 0, .int 0, .int 0, .long 0, .int 0, .int 0, .int 0, .ref pi, .ref co, .int 0, .int 0, .int 0, .int 0, .int 0, .ref na, .ref vl, .ref tr, .int 1, .ref ac, .ref as_, .ref su, .ref wi_, .int 0, .ref se]) (v := .int 0) p_h rfl rfl rfl (Nat.le_of_ble_eq_true rfl) dX12_readText_11 (fun f_1051 H locs ef_1051 Y => ?_)
  have p_a := p_a.up ef_1051 ((p_a.neB p_h))
  have p_te := p_te.up ef_1051 ((p_te.neB p_h))
  have p_h := p_h.me ef_1051
  have hk := hk.up ef_1051 (by simp)
  refine lv_aload_n hx hb dX12_readText_14 rfl (lv_at hl 0 rfl) ?_
  refine pg_get S Y ok_X12 2 (by decide) kf12_16 (v := .ref te) p_h rfl dX12_readText_15 ?_
  refine lv_aload_n hx hb dX12_readText_18 rfl (lv_at hl 0 rfl) ?_
  refine pg_get S Y ok_X12 12 (by decide) kf12_136 (v := .int 0) p_h rfl dX12_readText_19 ?_
  refine lv_iconst (v := 0) hx hb dX12_readText_22 (by decide) ?_
  refine pg_iast S Y p_te (by unfold vp_in; decide) dX12_readText_23 (fun f_1053 H locs ef_1053 Y => ?_)
  obtain ⟨g_1052, eg_1052⟩ : ∃ z, z = upd (g) (0 : Int32).toNatClampNeg 0 := ⟨_, rfl⟩
  rw [← eg_1052] at ef_1053
  have p_h := p_h.up ef_1053 ((p_h.neA p_te))
  have p_a := p_a.up ef_1053 ((p_a.neN p_te (by decide)))
  have p_te := p_te.me ef_1053
  have hk := hk.up ef_1053 (by simp)
  refine lv_aload_n hx hb dX12_readText_24 rfl (lv_at hl 0 rfl) ?_
  refine lv_iconst (v := 0) hx hb dX12_readText_25 (by decide) ?_
  refine pg_put S Y ok_X12 13 (by decide) kf12_139 rfl (fs' := [.ref a, .ref im, .ref te, .ref tp, .int 0, .int (-1), .int (-1), .int 0, .int 0, .int 0, .int 0, .long 0, .int 0, .int 0, .int 0, .ref pi, .ref co, .int 0, .int 0, .int 0, .int 0, .int 0, .ref na, .ref vl, .ref tr, .int 1, .ref ac, .ref as_, .ref su, .ref wi_, .int 0, .ref se]) (v := .int 0) p_h rfl rfl rfl (Nat.le_of_ble_eq_true rfl) dX12_readText_26 (fun f_1054 H locs ef_1054 Y => ?_)
  have p_a := p_a.up ef_1054 ((p_a.neB p_h))
  have p_te := p_te.up ef_1054 ((p_te.neB p_h))
  have p_h := p_h.me ef_1054
  have hk := hk.up ef_1054 (by simp)
  refine lv_aload_n hx hb dX12_readText_29 rfl (lv_at hl 0 rfl) ?_
  refine lv_iconst (v := 0) hx hb dX12_readText_30 (by decide) ?_
  refine pg_put S Y ok_X12 21 (by decide) kf12_241 rfl (fs' := [.ref a, .ref im, .ref te, .ref tp, .int 0, .int (-1), .int (-1), .int 0, .int 0, .int 0, .int 0, .long 0, .int 0, .int 0, .int 0, .ref pi, .ref co, .int 0, .int 0, .int 0, .int 0, .int 0, .ref na, .ref vl, .ref tr, .int 1, .ref ac, .ref as_, .ref su, .ref wi_, .int 0, .ref se]) (v := .int 0) p_h rfl rfl rfl (Nat.le_of_ble_eq_true rfl) dX12_readText_31 (fun f_1055 H locs ef_1055 Y => ?_)
  have p_a := p_a.up ef_1055 ((p_a.neB p_h))
  have p_te := p_te.up ef_1055 ((p_te.neB p_h))
  have p_h := p_h.me ef_1055
  have hk := hk.up ef_1055 (by simp)
  refine lv_aload_n hx hb dX12_readText_34 rfl (lv_at hl 0 rfl) ?_
  refine lv_iconst (v := 0) hx hb dX12_readText_35 (by decide) ?_
  refine pg_put S Y ok_X12 7 (by decide) kf12_88 rfl (fs' := [.ref a, .ref im, .ref te, .ref tp, .int 0, .int (-1), .int (-1), .int 0, .int 0, .int 0, .int 0, .long 0, .int 0, .int 0, .int 0, .ref pi, .ref co, .int 0, .int 0, .int 0, .int 0, .int 0, .ref na, .ref vl, .ref tr, .int 1, .ref ac, .ref as_, .ref su, .ref wi_, .int 0, .ref se]) (v := .int 0) p_h rfl rfl rfl (Nat.le_of_ble_eq_true rfl) dX12_readText_36 (fun f_1056 H locs ef_1056 Y => ?_)
  have p_a := p_a.up ef_1056 ((p_a.neB p_h))
  have p_te := p_te.up ef_1056 ((p_te.neB p_h))
  have p_h := p_h.me ef_1056
  have hk := hk.up ef_1056 (by simp)
  refine lv_aload_n hx hb dX12_readText_39 rfl (lv_at hl 0 rfl) ?_
  refine cVv (As := []) (rest := []) S Y (c_X12_nextToken (l := l) p_h) cw_X12_nextToken km12_166 p_h ok_X12.1 rfl rfl ⟨Nat.le_of_ble_eq_true rfl, Nat.le_of_ble_eq_true rfl⟩ hl.1 rfl (Nat.le_of_ble_eq_true rfl) ⟨Nat.le_of_ble_eq_true rfl, Nat.le_of_ble_eq_true rfl⟩ dX12_readText_40 (fun L_1057 f_1058 H locs hf_1058 Y => ?_)
  obtain ⟨kf_1058, z_z_1059⟩ := hf_1058
  have p_a := kf_1058.1 a _ (nmc (p_a.neB p_h) nm0) p_a
  have p_te := kf_1058.1 te _ (nmc (p_te.neB p_h) nm0) p_te
  have p_h := z_z_1059
  have hk := hk.call kf_1058 (fun b hb hp => (nmc (fun q => hb (by simp [q])) nm0))
  refine lv_aload_n hx hb dX12_readText_43 rfl (lv_at hl 0 rfl) ?_
  refine pg_get S Y ok_X12 9 (by decide) kf12_98 (v := .int 0) p_h rfl dX12_readText_44 ?_
  refine lv_if_eq (tgt := 64) hx hb dX12_readText_47 (by decide) (fun _ => ?_) (fun h => absurd (by decide) h)
  refine lv_iconst (v := 0) hx hb dX12_readText_64 (by decide) ?_
  exact prI (post := fun r L1 f1 => ∃ g1 : Nat → Int32, r = 0 ∧ kp L f L1 f1 [h, te] ∧ pt L1 f1 h (.inr (12, [.ref a, .ref im, .ref te, .ref tp, .int 0, .int (-1), .int (-1), .int 0, .int 0, .int 0, .int 0, .long 0, .int 0, .int 0, .int 0, .ref pi, .ref co, .int 0, .int 0, .int 0, .int 0, .int 0, .ref na, .ref vl, .ref tr, .int 1, .ref ac, .ref as_, .ref su, .ref wi_, .int 0, .ref se])) ∧ pt L1 f1 te (.inl (G.2 0, 2916, .inl g1))) S Y rfl (by decide) (by decide) hA1 ⟨g_1052, rfl, hk, p_h, p_te⟩ dX12_readText_65
set_option maxHeartbeats 4000000 in
set_option maxRecDepth 100000 in
theorem c_X12_text {l : Launch} {G : GG} {L : List Nat} {f : HF} {h a im te tp pi co na vl tr ac as_ su wi_ se : Nat} {g : Nat → Int32}  (p_h : pt L f h (.inr (12, [.ref a, .ref im, .ref te, .ref tp, .int 0, .int (-1), .int (-1), .int 0, .int 0, .int 0, .int 0, .long 0, .int 0, .int 0, .int 0, .ref pi, .ref co, .int 0, .int 0, .int 0, .int 0, .int 0, .ref na, .ref vl, .ref tr, .int 1, .ref ac, .ref as_, .ref su, .ref wi_, .int 0, .ref se]))) (p_a : pt L f a (.inl (G.2 0, 10568, .inl a0))) (p_te : pt L f te (.inl (G.2 0, 2916, .inl g)))  : PMi l yX12_text cX12_text 1 .int 3 0 0 G [.ref h] L f (fun r L1 f1 => r = 0) := by
  refine PMi.of (post := fun r L1 f1 => r = 0) (own := RX12) (by decide) rfl (Nat.le_of_ble_eq_true rfl) (fun sz p e s m args below meth c A ls hA1 hname S Y hl => ?_)
  have hx := S.hx
  have hb := S.hb
  have hl : lv_has ls 1 [(0, .ref h)] := hl
  refine lv_aload_n hx hb dX12_text_0 rfl (lv_at hl 0 rfl) ?_
  refine pg_get S Y ok_X12 0 (by decide) kf12_7 (v := .ref a) p_h rfl dX12_text_1 ?_
  refine lv_iconst (v := 1) hx hb dX12_text_4 (by decide) ?_
  refine pg_iald S Y (v := 0) p_a (by unfold vp_in; decide) (by decide) dX12_text_5 ?_
  refine lv_iconst (v := 4) hx hb dX12_text_6 (by decide) ?_
  refine lv_icmp_ne (tgt := 12) hx hb dX12_text_7 (by decide) (fun _ => ?_) (fun h => absurd h (by decide))
  refine lv_aload_n hx hb dX12_text_12 rfl (lv_at hl 0 rfl) ?_
  refine lv_aload_n hx hb dX12_text_13 rfl (lv_at hl 0 rfl) ?_
  refine cVi (As := []) (rest := [.ref h]) S Y (c_X12_readText (l := l) p_h p_a p_te) cw_X12_readText km12_254 p_h ok_X12.1 rfl rfl ⟨Nat.le_of_ble_eq_true rfl, Nat.le_of_ble_eq_true rfl⟩ hl.1 rfl (Nat.le_of_ble_eq_true rfl) ⟨Nat.le_of_ble_eq_true rfl, Nat.le_of_ble_eq_true rfl⟩ dX12_text_14 (fun r_1060 L_1061 f_1062 H locs hf_1062 Y => ?_)
  obtain ⟨g__1063, er_1060, kf_1062, z_z_1064, z_z_1065⟩ := hf_1062
  have p_a := kf_1062.1 a _ (nmc (p_a.neB p_h) (nmc (p_a.neN p_te (by decide)) nm0)) p_a
  have p_h := z_z_1064
  have p_te := z_z_1065
  refine lv_fold (z := 0) er_1060 ?_
  refine pg_put S Y ok_X12 5 (by decide) kf12_22 rfl (fs' := [.ref a, .ref im, .ref te, .ref tp, .int 0, .int 0, .int (-1), .int 0, .int 0, .int 0, .int 0, .long 0, .int 0, .int 0, .int 0, .ref pi, .ref co, .int 0, .int 0, .int 0, .int 0, .int 0, .ref na, .ref vl, .ref tr, .int 1, .ref ac, .ref as_, .ref su, .ref wi_, .int 0, .ref se]) (v := .int 0) p_h rfl rfl rfl (Nat.le_of_ble_eq_true rfl) dX12_text_17 (fun f_1066 H locs ef_1066 Y => ?_)
  have p_a := p_a.up ef_1066 ((p_a.neB p_h))
  have p_te := p_te.up ef_1066 ((p_te.neB p_h))
  have p_h := p_h.me ef_1066
  refine lv_aload_n hx hb dX12_text_20 rfl (lv_at hl 0 rfl) ?_
  refine lv_aload_n hx hb dX12_text_21 rfl (lv_at hl 0 rfl) ?_
  refine pg_get S Y ok_X12 5 (by decide) kf12_22 (v := .int 0) p_h rfl dX12_text_22 ?_
  refine lv_if_ne (tgt := 32) hx hb dX12_text_25 (by decide) (fun h => absurd (by decide) h) (fun _ => ?_)
  refine lv_iconst (v := (-1)) hx hb dX12_text_28 (by decide) ?_
  refine lv_goto (tgt := 36) hx hb dX12_text_29 (by decide) ?_
  refine pg_put S Y ok_X12 6 (by decide) kf12_26 rfl (fs' := [.ref a, .ref im, .ref te, .ref tp, .int 0, .int 0, .int (-1), .int 0, .int 0, .int 0, .int 0, .long 0, .int 0, .int 0, .int 0, .ref pi, .ref co, .int 0, .int 0, .int 0, .int 0, .int 0, .ref na, .ref vl, .ref tr, .int 1, .ref ac, .ref as_, .ref su, .ref wi_, .int 0, .ref se]) (v := .int (-1)) p_h rfl rfl rfl (Nat.le_of_ble_eq_true rfl) dX12_text_36 (fun f_1067 H locs ef_1067 Y => ?_)
  have p_a := p_a.up ef_1067 ((p_a.neB p_h))
  have p_te := p_te.up ef_1067 ((p_te.neB p_h))
  have p_h := p_h.me ef_1067
  refine lv_aload_n hx hb dX12_text_39 rfl (lv_at hl 0 rfl) ?_
  refine lv_iconst (v := 0) hx hb dX12_text_40 (by decide) ?_
  refine pg_put S Y ok_X12 4 (by decide) kf12_81 rfl (fs' := [.ref a, .ref im, .ref te, .ref tp, .int 0, .int 0, .int (-1), .int 0, .int 0, .int 0, .int 0, .long 0, .int 0, .int 0, .int 0, .ref pi, .ref co, .int 0, .int 0, .int 0, .int 0, .int 0, .ref na, .ref vl, .ref tr, .int 1, .ref ac, .ref as_, .ref su, .ref wi_, .int 0, .ref se]) (v := .int 0) p_h rfl rfl rfl (Nat.le_of_ble_eq_true rfl) dX12_text_41 (fun f_1068 H locs ef_1068 Y => ?_)
  have p_a := p_a.up ef_1068 ((p_a.neB p_h))
  have p_te := p_te.up ef_1068 ((p_te.neB p_h))
  have p_h := p_h.me ef_1068
  refine lv_aload_n hx hb dX12_text_44 rfl (lv_at hl 0 rfl) ?_
  refine pg_get S Y ok_X12 5 (by decide) kf12_22 (v := .int 0) p_h rfl dX12_text_45 ?_
  refine lv_if_eq (tgt := 53) hx hb dX12_text_48 (by decide) (fun _ => ?_) (fun h => absurd (by decide) h)
  refine lv_aload_n hx hb dX12_text_53 rfl (lv_at hl 0 rfl) ?_
  refine pg_get S Y ok_X12 0 (by decide) kf12_7 (v := .ref a) p_h rfl dX12_text_54 ?_
  refine lv_iconst (v := 1) hx hb dX12_text_57 (by decide) ?_
  refine lv_dup2_11 hx hb dX12_text_58 rfl rfl ?_
  refine pg_iald S Y (v := 0) p_a (by unfold vp_in; decide) (by decide) dX12_text_59 ?_
  refine lv_iconst (v := 1) hx hb dX12_text_60 (by decide) ?_
  refine lv_iadd hx hb dX12_text_61 ?_
  refine lv_fold (z := 1) (by decide) ?_
  refine pg_iast S Y p_a (by unfold vp_in; decide) dX12_text_62 (fun f_1070 H locs ef_1070 Y => ?_)
  obtain ⟨g_1069, eg_1069⟩ : ∃ z, z = upd (a0) (1 : Int32).toNatClampNeg 1 := ⟨_, rfl⟩
  rw [← eg_1069] at ef_1070
  have p_h := p_h.up ef_1070 ((p_h.neA p_a))
  have p_te := p_te.up ef_1070 ((p_te.neN p_a (by decide)))
  have p_a := p_a.me ef_1070
  refine lv_aload_n hx hb dX12_text_63 rfl (lv_at hl 0 rfl) ?_
  refine pg_get S Y ok_X12 0 (by decide) kf12_7 (v := .ref a) p_h rfl dX12_text_64 ?_
  refine lv_iconst (v := 1) hx hb dX12_text_67 (by decide) ?_
  refine pg_iald S Y (v := 1) p_a (by unfold vp_in; decide) ((congrFun eg_1069 _).trans pk_us) dX12_text_68 ?_
  refine lv_iconst (v := 1) hx hb dX12_text_69 (by decide) ?_
  refine lv_isub hx hb dX12_text_70 ?_
  refine lv_fold (z := 0) (by decide) ?_
  exact prI (post := fun r L1 f1 => r = 0) S Y rfl (by decide) (by decide) hA1 rfl dX12_text_71
set_option maxHeartbeats 4000000 in
set_option maxRecDepth 100000 in
theorem c_X12_fault {l : Launch} {G : GG} {L : List Nat} {f : HF} {h a im te tp pi co na vl tr ac as_ su wi_ se : Nat} {q : Int32}  (p_h : pt L f h (.inr (12, [.ref a, .ref im, .ref te, .ref tp, .int 0, .int (-1), .int (-1), .int 0, .int 0, .int 0, .int 0, .long 0, .int 0, .int 0, .int 0, .ref pi, .ref co, .int 0, .int 0, .int 0, .int 0, .int 0, .ref na, .ref vl, .ref tr, .int 1, .ref ac, .ref as_, .ref su, .ref wi_, .int 0, .ref se])))  : PMp l yX12_fault cX12_fault 2 .int 0 0 0 G [.ref h, .int q] L f (fun r => r = (-1)) := by
  refine PMi.of (post := fun r L1 f1 => (r = (-1)) ∧ L1 = L ∧ f1 = f) (own := RX12) (by decide) rfl (Nat.le_of_ble_eq_true rfl) (fun sz p e s m args below meth c A ls hA1 hname S Y hl => ?_)
  have hx := S.hx
  have hb := S.hb
  have hl : lv_has ls 2 [(0, .ref h), (1, .int q)] := hl
  refine lv_iload_n hx hb dX12_fault_0 rfl (lv_at hl 1 rfl) ?_
  refine lv_if_ne (tgt := 11) hx hb dX12_fault_1 (by decide) (fun c_1071 => ?_) (fun c_1071 => ?_)
  · refine lv_iload_n hx hb dX12_fault_11 rfl (lv_at hl 1 rfl) ?_
    refine lv_iconst (v := 1) hx hb dX12_fault_12 (by decide) ?_
    refine lv_icmp_ne (tgt := 23) hx hb dX12_fault_13 (by decide) (fun c_1072 => ?_) (fun c_1072 => ?_)
    · refine lv_iconst (v := (-1)) hx hb dX12_fault_23 (by decide) ?_
      exact prI (post := fun r L1 f1 => (r = (-1)) ∧ L1 = L ∧ f1 = f) S Y rfl (by decide) (by decide) hA1 ⟨rfl, rfl, rfl⟩ dX12_fault_24
    · refine lv_aload_n hx hb dX12_fault_16 rfl (lv_at hl 0 rfl) ?_
      refine pg_get S Y ok_X12 6 (by decide) kf12_26 (v := .int (-1)) p_h rfl dX12_fault_17 ?_
      refine lv_goto (tgt := 24) hx hb dX12_fault_20 (by decide) ?_
      exact prI (post := fun r L1 f1 => (r = (-1)) ∧ L1 = L ∧ f1 = f) S Y rfl (by decide) (by decide) hA1 ⟨rfl, rfl, rfl⟩ dX12_fault_24
  · refine lv_aload_n hx hb dX12_fault_4 rfl (lv_at hl 0 rfl) ?_
    refine pg_get S Y ok_X12 5 (by decide) kf12_22 (v := .int (-1)) p_h rfl dX12_fault_5 ?_
    refine lv_goto (tgt := 24) hx hb dX12_fault_8 (by decide) ?_
    exact prI (post := fun r L1 f1 => (r = (-1)) ∧ L1 = L ∧ f1 = f) S Y rfl (by decide) (by decide) hA1 ⟨rfl, rfl, rfl⟩ dX12_fault_24
set_option maxHeartbeats 4000000 in
set_option maxRecDepth 100000 in
theorem c_X12_by {l : Launch} {G : GG} {L : List Nat} {f : HF} {h a im te tp pi co na vl tr ac as_ su wi_ se : Nat} {t : Int32}  (p_h : pt L f h (.inr (12, [.ref a, .ref im, .ref te, .ref tp, .int 0, .int (-1), .int (-1), .int 0, .int 0, .int 0, .int 0, .long 0, .int 0, .int 0, .int 0, .ref pi, .ref co, .int 0, .int 0, .int 0, .int 0, .int 0, .ref na, .ref vl, .ref tr, .int 1, .ref ac, .ref as_, .ref su, .ref wi_, .int 0, .ref se]))) (p_a : pt L f a (.inl (G.2 0, 10568, .inl a0)))  : PMi l yX12_by cX12_by 2 .boolean 1 0 0 G [.ref h, .int t] L f (fun r L1 f1 => r = if wi t (-1) (-1) = 0 then 0 else 1) := by
  refine PMi.of (post := fun r L1 f1 => r = if wi t (-1) (-1) = 0 then 0 else 1) (own := RX12) (by decide) rfl (Nat.le_of_ble_eq_true rfl) (fun sz p e s m args below meth c A ls hA1 hname S Y hl => ?_)
  have hx := S.hx
  have hb := S.hb
  have hl : lv_has ls 2 [(0, .ref h), (1, .int t)] := hl
  refine lv_iload_n hx hb dX12_by_0 rfl (lv_at hl 1 rfl) ?_
  refine lv_iconst (v := (-1)) hx hb dX12_by_1 (by decide) ?_
  refine lv_aload_n hx hb dX12_by_2 rfl (lv_at hl 0 rfl) ?_
  refine pg_get S Y ok_X12 0 (by decide) kf12_7 (v := .ref a) p_h rfl dX12_by_3 ?_
  refine lv_iconst (v := 1) hx hb dX12_by_6 (by decide) ?_
  refine pg_iald S Y (v := 0) p_a (by unfold vp_in; decide) (by decide) dX12_by_7 ?_
  refine lv_iconst (v := 1) hx hb dX12_by_8 (by decide) ?_
  refine lv_isub hx hb dX12_by_9 ?_
  refine lv_fold (z := (-1)) (by decide) ?_
  refine cSp (As := [.int t, .int (-1), .int (-1)]) (rest := []) S Y (c_X12_isIn (l := l)) cw_X12_isIn km12_69 rfl ⟨Nat.le_of_ble_eq_true rfl, Nat.le_of_ble_eq_true rfl⟩ hl.1 rfl (Nat.le_of_ble_eq_true rfl) ⟨Nat.le_of_ble_eq_true rfl, Nat.le_of_ble_eq_true rfl⟩ dX12_by_10 (fun r_1073 H locs er_1073 Y => ?_)
  refine lv_fold (z := (wi t (-1) (-1))) er_1073 ?_
  refine lv_if_ne (tgt := 18) hx hb dX12_by_13 (by decide) (fun c_1074 => ?_) (fun c_1074 => ?_)
  · refine lv_aload_n hx hb dX12_by_18 rfl (lv_at hl 0 rfl) ?_
    refine pg_get S Y ok_X12 0 (by decide) kf12_7 (v := .ref a) p_h rfl dX12_by_19 ?_
    refine lv_iconst (v := 2) hx hb dX12_by_22 (by decide) ?_
    refine lv_iload_n hx hb dX12_by_23 rfl (lv_at hl 1 rfl) ?_
    refine pg_iast S Y p_a (by unfold vp_in; decide) dX12_by_24 (fun f_1076 H locs ef_1076 Y => ?_)
    obtain ⟨g_1075, eg_1075⟩ : ∃ z, z = upd (a0) (2 : Int32).toNatClampNeg t := ⟨_, rfl⟩
    rw [← eg_1075] at ef_1076
    have p_h := p_h.up ef_1076 ((p_h.neA p_a))
    have p_a := p_a.me ef_1076
    refine lv_iconst (v := 1) hx hb dX12_by_25 (by decide) ?_
    exact prI (post := fun r L1 f1 => r = if wi t (-1) (-1) = 0 then 0 else 1) S Y rfl (by decide) (by decide) hA1 (by rw [if_neg c_1074]) dX12_by_26
  · refine lv_iconst (v := 0) hx hb dX12_by_16 (by decide) ?_
    exact prI (post := fun r L1 f1 => r = if wi t (-1) (-1) = 0 then 0 else 1) S Y rfl (by decide) (by decide) hA1 (by rw [if_pos c_1074]) dX12_by_17
set_option maxHeartbeats 4000000 in
set_option maxRecDepth 100000 in
theorem c_X12_swear {l : Launch} {G : GG} {L : List Nat} {f : HF} {h a im te tp pi co na vl tr ac as_ su wi_ se : Nat} {x y z u : Int32}  (p_h : pt L f h (.inr (12, [.ref a, .ref im, .ref te, .ref tp, .int 0, .int (-1), .int (-1), .int 0, .int 0, .int 0, .int 0, .long 0, .int 0, .int 0, .int 0, .ref pi, .ref co, .int 0, .int 0, .int 0, .int 0, .int 0, .ref na, .ref vl, .ref tr, .int 1, .ref ac, .ref as_, .ref su, .ref wi_, .int 0, .ref se]))) (p_a : pt L f a (.inl (G.2 0, 10568, .inl a0)))  : PMp l yX12_swear cX12_swear 5 .int 3 0 0 G [.ref h, .int x, .int y, .int z, .int u] L f (fun r => r = (-1)) := by
  refine PMi.of (post := fun r L1 f1 => (r = (-1)) ∧ L1 = L ∧ f1 = f) (own := RX12) (by decide) rfl (Nat.le_of_ble_eq_true rfl) (fun sz p e s m args below meth c A ls hA1 hname S Y hl => ?_)
  have hx := S.hx
  have hb := S.hb
  have hl : lv_has ls 5 [(0, .ref h), (1, .int x), (2, .int y), (3, .int z), (4, .int u)] := hl
  refine lv_iload_n hx hb dX12_swear_0 rfl (lv_at hl 3 rfl) ?_
  refine lv_iconst (v := 0) hx hb dX12_swear_1 (by decide) ?_
  refine lv_iconst (v := 1) hx hb dX12_swear_2 (by decide) ?_
  refine cSp (As := [.int z, .int 0, .int 1]) (rest := []) S Y (c_X12_isIn (l := l)) cw_X12_isIn km12_69 rfl ⟨Nat.le_of_ble_eq_true rfl, Nat.le_of_ble_eq_true rfl⟩ hl.1 rfl (Nat.le_of_ble_eq_true rfl) ⟨Nat.le_of_ble_eq_true rfl, Nat.le_of_ble_eq_true rfl⟩ dX12_swear_3 (fun r_1077 H locs er_1077 Y => ?_)
  refine lv_fold (z := (wi z 0 1)) er_1077 ?_
  refine lv_if_eq (tgt := 29) hx hb dX12_swear_6 (by decide) (fun c_1078 => ?_) (fun c_1078 => ?_)
  · refine lv_iconst (v := (-1)) hx hb dX12_swear_29 (by decide) ?_
    exact prI (post := fun r L1 f1 => (r = (-1)) ∧ L1 = L ∧ f1 = f) S Y rfl (by decide) (by decide) hA1 ⟨rfl, rfl, rfl⟩ dX12_swear_30
  · refine lv_iload hx hb dX12_swear_9 (lv_at hl 4 rfl) ?_
    refine lv_iconst (v := 1) hx hb dX12_swear_11 (by decide) ?_
    refine lv_bipush (v := 9) hx hb dX12_swear_12 (by decide) ?_
    refine cSp (As := [.int u, .int 1, .int 9]) (rest := []) S Y (c_X12_isIn (l := l)) cw_X12_isIn km12_69 rfl ⟨Nat.le_of_ble_eq_true rfl, Nat.le_of_ble_eq_true rfl⟩ hl.1 rfl (Nat.le_of_ble_eq_true rfl) ⟨Nat.le_of_ble_eq_true rfl, Nat.le_of_ble_eq_true rfl⟩ dX12_swear_14 (fun r_1079 H locs er_1079 Y => ?_)
    refine lv_fold (z := (wi u 1 9)) er_1079 ?_
    refine lv_if_eq (tgt := 29) hx hb dX12_swear_17 (by decide) (fun c_1080 => ?_) (fun c_1080 => ?_)
    · refine lv_iconst (v := (-1)) hx hb dX12_swear_29 (by decide) ?_
      exact prI (post := fun r L1 f1 => (r = (-1)) ∧ L1 = L ∧ f1 = f) S Y rfl (by decide) (by decide) hA1 ⟨rfl, rfl, rfl⟩ dX12_swear_30
    · refine lv_aload_n hx hb dX12_swear_20 rfl (lv_at hl 0 rfl) ?_
      refine lv_iload_n hx hb dX12_swear_21 rfl (lv_at hl 1 rfl) ?_
      refine lv_iload_n hx hb dX12_swear_22 rfl (lv_at hl 2 rfl) ?_
      refine cVp (As := [.int x, .int y]) (rest := []) S Y (c_X12_canSwear (l := l) p_h p_a) cw_X12_canSwear km12_330 p_h ok_X12.1 rfl rfl ⟨Nat.le_of_ble_eq_true rfl, Nat.le_of_ble_eq_true rfl⟩ hl.1 rfl (Nat.le_of_ble_eq_true rfl) ⟨Nat.le_of_ble_eq_true rfl, Nat.le_of_ble_eq_true rfl⟩ dX12_swear_23 (fun r_1081 H locs er_1081 Y => ?_)
      refine lv_fold (z := 0) er_1081 ?_
      refine lv_if_ne (tgt := 31) hx hb dX12_swear_26 (by decide) (fun h => absurd (by decide) h) (fun _ => ?_)
      refine lv_iconst (v := (-1)) hx hb dX12_swear_29 (by decide) ?_
      exact prI (post := fun r L1 f1 => (r = (-1)) ∧ L1 = L ∧ f1 = f) S Y rfl (by decide) (by decide) hA1 ⟨rfl, rfl, rfl⟩ dX12_swear_30
set_option maxHeartbeats 4000000 in
set_option maxRecDepth 100000 in
theorem c_X12_breaks {l : Launch} {G : GG} {L : List Nat} {f : HF} {h a im te tp pi co na vl tr ac as_ su wi_ se : Nat} {x0 : Int32}  (p_h : pt L f h (.inr (12, [.ref a, .ref im, .ref te, .ref tp, .int 0, .int (-1), .int (-1), .int 0, .int 0, .int 0, .int 0, .long 0, .int 0, .int 0, .int 0, .ref pi, .ref co, .int 0, .int 0, .int 0, .int 0, .int 0, .ref na, .ref vl, .ref tr, .int 1, .ref ac, .ref as_, .ref su, .ref wi_, .int 0, .ref se]))) (p_a : pt L f a (.inl (G.2 0, 10568, .inl a0)))  : PMp l yX12_breaks cX12_breaks 2 .boolean 2 0 0 G [.ref h, .int x0] L f (fun r => r = 0) := by
  refine PMi.of (post := fun r L1 f1 => (r = 0) ∧ L1 = L ∧ f1 = f) (own := RX12) (by decide) rfl (Nat.le_of_ble_eq_true rfl) (fun sz p e s m args below meth c A ls hA1 hname S Y hl => ?_)
  have hx := S.hx
  have hb := S.hb
  have hl : lv_has ls 2 [(0, .ref h), (1, .int x0)] := hl
  refine lv_aload_n hx hb dX12_breaks_0 rfl (lv_at hl 0 rfl) ?_
  refine lv_iload_n hx hb dX12_breaks_1 rfl (lv_at hl 1 rfl) ?_
  refine cVp (As := [.int x0]) (rest := []) S Y (c_X12_isOath (l := l) p_h p_a) cw_X12_isOath km12_339 p_h ok_X12.1 rfl rfl ⟨Nat.le_of_ble_eq_true rfl, Nat.le_of_ble_eq_true rfl⟩ hl.1 rfl (Nat.le_of_ble_eq_true rfl) ⟨Nat.le_of_ble_eq_true rfl, Nat.le_of_ble_eq_true rfl⟩ dX12_breaks_2 (fun r_1082 H locs er_1082 Y => ?_)
  refine lv_fold (z := 0) er_1082 ?_
  refine lv_if_eq (tgt := 17) hx hb dX12_breaks_5 (by decide) (fun _ => ?_) (fun h => absurd (by decide) h)
  refine lv_iconst (v := 0) hx hb dX12_breaks_17 (by decide) ?_
  exact prI (post := fun r L1 f1 => (r = 0) ∧ L1 = L ∧ f1 = f) S Y rfl (by decide) (by decide) hA1 ⟨rfl, rfl, rfl⟩ dX12_breaks_18
set_option maxHeartbeats 4000000 in
set_option maxRecDepth 100000 in
theorem c_X12_release {l : Launch} {G : GG} {L : List Nat} {f : HF} {h a im te tp pi co na vl tr ac as_ su wi_ se : Nat} {x0 : Int32}  (p_h : pt L f h (.inr (12, [.ref a, .ref im, .ref te, .ref tp, .int 0, .int (-1), .int (-1), .int 0, .int 0, .int 0, .int 0, .long 0, .int 0, .int 0, .int 0, .ref pi, .ref co, .int 0, .int 0, .int 0, .int 0, .int 0, .ref na, .ref vl, .ref tr, .int 1, .ref ac, .ref as_, .ref su, .ref wi_, .int 0, .ref se]))) (p_a : pt L f a (.inl (G.2 0, 10568, .inl a0)))  : PMp l yX12_release cX12_release 2 .boolean 2 0 0 G [.ref h, .int x0] L f (fun r => r = 0) := by
  refine PMi.of (post := fun r L1 f1 => (r = 0) ∧ L1 = L ∧ f1 = f) (own := RX12) (by decide) rfl (Nat.le_of_ble_eq_true rfl) (fun sz p e s m args below meth c A ls hA1 hname S Y hl => ?_)
  have hx := S.hx
  have hb := S.hb
  have hl : lv_has ls 2 [(0, .ref h), (1, .int x0)] := hl
  refine lv_aload_n hx hb dX12_release_0 rfl (lv_at hl 0 rfl) ?_
  refine lv_iload_n hx hb dX12_release_1 rfl (lv_at hl 1 rfl) ?_
  refine cVp (As := [.int x0]) (rest := []) S Y (c_X12_isOath (l := l) p_h p_a) cw_X12_isOath km12_339 p_h ok_X12.1 rfl rfl ⟨Nat.le_of_ble_eq_true rfl, Nat.le_of_ble_eq_true rfl⟩ hl.1 rfl (Nat.le_of_ble_eq_true rfl) ⟨Nat.le_of_ble_eq_true rfl, Nat.le_of_ble_eq_true rfl⟩ dX12_release_2 (fun r_1083 H locs er_1083 Y => ?_)
  refine lv_fold (z := 0) er_1083 ?_
  refine lv_if_eq (tgt := 18) hx hb dX12_release_5 (by decide) (fun _ => ?_) (fun h => absurd (by decide) h)
  refine lv_iconst (v := 0) hx hb dX12_release_18 (by decide) ?_
  exact prI (post := fun r L1 f1 => (r = 0) ∧ L1 = L ∧ f1 = f) S Y rfl (by decide) (by decide) hA1 ⟨rfl, rfl, rfl⟩ dX12_release_19
set_option maxHeartbeats 4000000 in
set_option maxRecDepth 100000 in
theorem c_X12_kneel {l : Launch} {G : GG} {L : List Nat} {f : HF} {h a im te tp pi co na vl tr ac as_ su wi_ se : Nat} {x0 : Int32}  (p_h : pt L f h (.inr (12, [.ref a, .ref im, .ref te, .ref tp, .int 0, .int (-1), .int (-1), .int 0, .int 0, .int 0, .int 0, .long 0, .int 0, .int 0, .int 0, .ref pi, .ref co, .int 0, .int 0, .int 0, .int 0, .int 0, .ref na, .ref vl, .ref tr, .int 1, .ref ac, .ref as_, .ref su, .ref wi_, .int 0, .ref se]))) (p_a : pt L f a (.inl (G.2 0, 10568, .inl a0)))  : PMp l yX12_kneel cX12_kneel 2 .int 2 0 0 G [.ref h, .int x0] L f (fun r => r = (-1)) := by
  refine PMi.of (post := fun r L1 f1 => (r = (-1)) ∧ L1 = L ∧ f1 = f) (own := RX12) (by decide) rfl (Nat.le_of_ble_eq_true rfl) (fun sz p e s m args below meth c A ls hA1 hname S Y hl => ?_)
  have hx := S.hx
  have hb := S.hb
  have hl : lv_has ls 2 [(0, .ref h), (1, .int x0)] := hl
  refine lv_aload_n hx hb dX12_kneel_0 rfl (lv_at hl 0 rfl) ?_
  refine lv_iload_n hx hb dX12_kneel_1 rfl (lv_at hl 1 rfl) ?_
  refine cVp (As := [.int x0]) (rest := []) S Y (c_X12_isOne (l := l) p_h p_a) cw_X12_isOne km12_323 p_h ok_X12.1 rfl rfl ⟨Nat.le_of_ble_eq_true rfl, Nat.le_of_ble_eq_true rfl⟩ hl.1 rfl (Nat.le_of_ble_eq_true rfl) ⟨Nat.le_of_ble_eq_true rfl, Nat.le_of_ble_eq_true rfl⟩ dX12_kneel_2 (fun r_1084 H locs er_1084 Y => ?_)
  refine lv_fold (z := 0) er_1084 ?_
  refine lv_if_ne (tgt := 10) hx hb dX12_kneel_5 (by decide) (fun h => absurd (by decide) h) (fun _ => ?_)
  refine lv_iconst (v := (-1)) hx hb dX12_kneel_8 (by decide) ?_
  exact prI (post := fun r L1 f1 => (r = (-1)) ∧ L1 = L ∧ f1 = f) S Y rfl (by decide) (by decide) hA1 ⟨rfl, rfl, rfl⟩ dX12_kneel_9
set_option maxHeartbeats 4000000 in
set_option maxRecDepth 100000 in
theorem c_X12_skate {l : Launch} {G : GG} {L : List Nat} {f : HF} {h a im te tp pi co na vl tr ac as_ su wi_ se : Nat} {x0 x1 : Int32}  (p_h : pt L f h (.inr (12, [.ref a, .ref im, .ref te, .ref tp, .int 0, .int (-1), .int (-1), .int 0, .int 0, .int 0, .int 0, .long 0, .int 0, .int 0, .int 0, .ref pi, .ref co, .int 0, .int 0, .int 0, .int 0, .int 0, .ref na, .ref vl, .ref tr, .int 1, .ref ac, .ref as_, .ref su, .ref wi_, .int 0, .ref se]))) (p_a : pt L f a (.inl (G.2 0, 10568, .inl a0)))  : PMp l yX12_skate cX12_skate 3 .int 2 0 0 G [.ref h, .int x0, .int x1] L f (fun r => r = (-1)) := by
  refine PMi.of (post := fun r L1 f1 => (r = (-1)) ∧ L1 = L ∧ f1 = f) (own := RX12) (by decide) rfl (Nat.le_of_ble_eq_true rfl) (fun sz p e s m args below meth c A ls hA1 hname S Y hl => ?_)
  have hx := S.hx
  have hb := S.hb
  have hl : lv_has ls 3 [(0, .ref h), (1, .int x0), (2, .int x1)] := hl
  refine lv_aload_n hx hb dX12_skate_0 rfl (lv_at hl 0 rfl) ?_
  refine lv_iload_n hx hb dX12_skate_1 rfl (lv_at hl 1 rfl) ?_
  refine cVp (As := [.int x0]) (rest := []) S Y (c_X12_isOne (l := l) p_h p_a) cw_X12_isOne km12_323 p_h ok_X12.1 rfl rfl ⟨Nat.le_of_ble_eq_true rfl, Nat.le_of_ble_eq_true rfl⟩ hl.1 rfl (Nat.le_of_ble_eq_true rfl) ⟨Nat.le_of_ble_eq_true rfl, Nat.le_of_ble_eq_true rfl⟩ dX12_skate_2 (fun r_1085 H locs er_1085 Y => ?_)
  refine lv_fold (z := 0) er_1085 ?_
  refine lv_if_eq (tgt := 17) hx hb dX12_skate_5 (by decide) (fun _ => ?_) (fun h => absurd (by decide) h)
  refine lv_iconst (v := (-1)) hx hb dX12_skate_17 (by decide) ?_
  exact prI (post := fun r L1 f1 => (r = (-1)) ∧ L1 = L ∧ f1 = f) S Y rfl (by decide) (by decide) hA1 ⟨rfl, rfl, rfl⟩ dX12_skate_18
set_option maxHeartbeats 4000000 in
set_option maxRecDepth 100000 in
theorem c_X12_undo {l : Launch} {G : GG} {L : List Nat} {f : HF} {h a im te tp pi co na vl tr ac as_ su wi_ se : Nat}  (p_h : pt L f h (.inr (12, [.ref a, .ref im, .ref te, .ref tp, .int 0, .int (-1), .int (-1), .int 0, .int 0, .int 0, .int 0, .long 0, .int 0, .int 0, .int 0, .ref pi, .ref co, .int 0, .int 0, .int 0, .int 0, .int 0, .ref na, .ref vl, .ref tr, .int 1, .ref ac, .ref as_, .ref su, .ref wi_, .int 0, .ref se]))) (p_a : pt L f a (.inl (G.2 0, 10568, .inl a0)))  : PMp l yX12_undo cX12_undo 3 .int 0 0 0 G [.ref h] L f (fun r => r = (-1)) := by
  refine PMi.of (post := fun r L1 f1 => (r = (-1)) ∧ L1 = L ∧ f1 = f) (own := RX12) (by decide) rfl (Nat.le_of_ble_eq_true rfl) (fun sz p e s m args below meth c A ls hA1 hname S Y hl => ?_)
  have hx := S.hx
  have hb := S.hb
  have hl : lv_has ls 3 [(0, .ref h)] := hl
  refine lv_aload_n hx hb dX12_undo_0 rfl (lv_at hl 0 rfl) ?_
  refine pg_get S Y ok_X12 0 (by decide) kf12_7 (v := .ref a) p_h rfl dX12_undo_1 ?_
  refine lv_iconst (v := 3) hx hb dX12_undo_4 (by decide) ?_
  refine pg_iald S Y (v := 0) p_a (by unfold vp_in; decide) (by decide) dX12_undo_5 ?_
  refine lv_if_ne (tgt := 11) hx hb dX12_undo_6 (by decide) (fun h => absurd (by decide) h) (fun _ => ?_)
  refine lv_iconst (v := (-1)) hx hb dX12_undo_9 (by decide) ?_
  exact prI (post := fun r L1 f1 => (r = (-1)) ∧ L1 = L ∧ f1 = f) S Y rfl (by decide) (by decide) hA1 ⟨rfl, rfl, rfl⟩ dX12_undo_10
set_option maxHeartbeats 4000000 in
set_option maxRecDepth 100000 in
theorem c_X12_of {l : Launch} {G : GG} {L : List Nat} {f : HF} {h a im te tp pi co na vl tr ac as_ su wi_ se : Nat} {x0 x1 : Int32}  (p_h : pt L f h (.inr (12, [.ref a, .ref im, .ref te, .ref tp, .int 0, .int (-1), .int (-1), .int 0, .int 0, .int 0, .int 0, .long 0, .int 0, .int 0, .int 0, .ref pi, .ref co, .int 0, .int 0, .int 0, .int 0, .int 0, .ref na, .ref vl, .ref tr, .int 1, .ref ac, .ref as_, .ref su, .ref wi_, .int 0, .ref se]))) (p_a : pt L f a (.inl (G.2 0, 10568, .inl a0)))  : PMp l yX12_of cX12_of 3 .int 2 0 0 G [.ref h, .int x0, .int x1] L f (fun r => r = (-1000)) := by
  refine PMi.of (post := fun r L1 f1 => (r = (-1000)) ∧ L1 = L ∧ f1 = f) (own := RX12) (by decide) rfl (Nat.le_of_ble_eq_true rfl) (fun sz p e s m args below meth c A ls hA1 hname S Y hl => ?_)
  have hx := S.hx
  have hb := S.hb
  have hl : lv_has ls 3 [(0, .ref h), (1, .int x0), (2, .int x1)] := hl
  refine lv_aload_n hx hb dX12_of_0 rfl (lv_at hl 0 rfl) ?_
  refine lv_iload_n hx hb dX12_of_1 rfl (lv_at hl 1 rfl) ?_
  refine cVp (As := [.int x0]) (rest := []) S Y (c_X12_isOne (l := l) p_h p_a) cw_X12_isOne km12_323 p_h ok_X12.1 rfl rfl ⟨Nat.le_of_ble_eq_true rfl, Nat.le_of_ble_eq_true rfl⟩ hl.1 rfl (Nat.le_of_ble_eq_true rfl) ⟨Nat.le_of_ble_eq_true rfl, Nat.le_of_ble_eq_true rfl⟩ dX12_of_2 (fun r_1086 H locs er_1086 Y => ?_)
  refine lv_fold (z := 0) er_1086 ?_
  refine lv_if_ne (tgt := 12) hx hb dX12_of_5 (by decide) (fun h => absurd (by decide) h) (fun _ => ?_)
  refine lv_sipush (v := (-1000)) hx hb dX12_of_8 (by decide) ?_
  exact prI (post := fun r L1 f1 => (r = (-1000)) ∧ L1 = L ∧ f1 = f) S Y rfl (by decide) (by decide) hA1 ⟨rfl, rfl, rfl⟩ dX12_of_11
set_option maxHeartbeats 4000000 in
set_option maxRecDepth 100000 in
theorem c_X12_ofOath {l : Launch} {G : GG} {L : List Nat} {f : HF} {h a im te tp pi co na vl tr ac as_ su wi_ se : Nat} {x0 x1 : Int32}  (p_h : pt L f h (.inr (12, [.ref a, .ref im, .ref te, .ref tp, .int 0, .int (-1), .int (-1), .int 0, .int 0, .int 0, .int 0, .long 0, .int 0, .int 0, .int 0, .ref pi, .ref co, .int 0, .int 0, .int 0, .int 0, .int 0, .ref na, .ref vl, .ref tr, .int 1, .ref ac, .ref as_, .ref su, .ref wi_, .int 0, .ref se]))) (p_a : pt L f a (.inl (G.2 0, 10568, .inl a0)))  : PMp l yX12_ofOath cX12_ofOath 3 .int 2 0 0 G [.ref h, .int x0, .int x1] L f (fun r => r = (-1)) := by
  refine PMi.of (post := fun r L1 f1 => (r = (-1)) ∧ L1 = L ∧ f1 = f) (own := RX12) (by decide) rfl (Nat.le_of_ble_eq_true rfl) (fun sz p e s m args below meth c A ls hA1 hname S Y hl => ?_)
  have hx := S.hx
  have hb := S.hb
  have hl : lv_has ls 3 [(0, .ref h), (1, .int x0), (2, .int x1)] := hl
  refine lv_aload_n hx hb dX12_ofOath_0 rfl (lv_at hl 0 rfl) ?_
  refine lv_iload_n hx hb dX12_ofOath_1 rfl (lv_at hl 1 rfl) ?_
  refine cVp (As := [.int x0]) (rest := []) S Y (c_X12_isOath (l := l) p_h p_a) cw_X12_isOath km12_339 p_h ok_X12.1 rfl rfl ⟨Nat.le_of_ble_eq_true rfl, Nat.le_of_ble_eq_true rfl⟩ hl.1 rfl (Nat.le_of_ble_eq_true rfl) ⟨Nat.le_of_ble_eq_true rfl, Nat.le_of_ble_eq_true rfl⟩ dX12_ofOath_2 (fun r_1087 H locs er_1087 Y => ?_)
  refine lv_fold (z := 0) er_1087 ?_
  refine lv_if_eq (tgt := 18) hx hb dX12_ofOath_5 (by decide) (fun _ => ?_) (fun h => absurd (by decide) h)
  refine lv_iconst (v := (-1)) hx hb dX12_ofOath_18 (by decide) ?_
  exact prI (post := fun r L1 f1 => (r = (-1)) ∧ L1 = L ∧ f1 = f) S Y rfl (by decide) (by decide) hA1 ⟨rfl, rfl, rfl⟩ dX12_ofOath_19
set_option maxHeartbeats 4000000 in
set_option maxRecDepth 100000 in
theorem c_X12_firstAche {l : Launch} {G : GG} {L : List Nat} {f : HF} {h a im te tp pi co na vl tr ac as_ su wi_ se : Nat} {x0 : Int32}  (p_h : pt L f h (.inr (12, [.ref a, .ref im, .ref te, .ref tp, .int 0, .int (-1), .int (-1), .int 0, .int 0, .int 0, .int 0, .long 0, .int 0, .int 0, .int 0, .ref pi, .ref co, .int 0, .int 0, .int 0, .int 0, .int 0, .ref na, .ref vl, .ref tr, .int 1, .ref ac, .ref as_, .ref su, .ref wi_, .int 0, .ref se]))) (p_a : pt L f a (.inl (G.2 0, 10568, .inl a0)))  : PMp l yX12_firstAche cX12_firstAche 4 .int 2 0 0 G [.ref h, .int x0] L f (fun r => r = (-1)) := by
  refine PMi.of (post := fun r L1 f1 => (r = (-1)) ∧ L1 = L ∧ f1 = f) (own := RX12) (by decide) rfl (Nat.le_of_ble_eq_true rfl) (fun sz p e s m args below meth c A ls hA1 hname S Y hl => ?_)
  have hx := S.hx
  have hb := S.hb
  have hl : lv_has ls 4 [(0, .ref h), (1, .int x0)] := hl
  refine lv_aload_n hx hb dX12_firstAche_0 rfl (lv_at hl 0 rfl) ?_
  refine lv_iload_n hx hb dX12_firstAche_1 rfl (lv_at hl 1 rfl) ?_
  refine cVp (As := [.int x0]) (rest := []) S Y (c_X12_isOne (l := l) p_h p_a) cw_X12_isOne km12_323 p_h ok_X12.1 rfl rfl ⟨Nat.le_of_ble_eq_true rfl, Nat.le_of_ble_eq_true rfl⟩ hl.1 rfl (Nat.le_of_ble_eq_true rfl) ⟨Nat.le_of_ble_eq_true rfl, Nat.le_of_ble_eq_true rfl⟩ dX12_firstAche_2 (fun r_1088 H locs er_1088 Y => ?_)
  refine lv_fold (z := 0) er_1088 ?_
  refine lv_if_ne (tgt := 10) hx hb dX12_firstAche_5 (by decide) (fun h => absurd (by decide) h) (fun _ => ?_)
  refine lv_iconst (v := (-1)) hx hb dX12_firstAche_8 (by decide) ?_
  exact prI (post := fun r L1 f1 => (r = (-1)) ∧ L1 = L ∧ f1 = f) S Y rfl (by decide) (by decide) hA1 ⟨rfl, rfl, rfl⟩ dX12_firstAche_9
set_option maxHeartbeats 4000000 in
set_option maxRecDepth 100000 in
theorem c_X12_fades {l : Launch} {G : GG} {L : List Nat} {f : HF} {h a im te tp pi co na vl tr ac as_ su wi_ se : Nat} {x0 : Int32}  (p_h : pt L f h (.inr (12, [.ref a, .ref im, .ref te, .ref tp, .int 0, .int (-1), .int (-1), .int 0, .int 0, .int 0, .int 0, .long 0, .int 0, .int 0, .int 0, .ref pi, .ref co, .int 0, .int 0, .int 0, .int 0, .int 0, .ref na, .ref vl, .ref tr, .int 1, .ref ac, .ref as_, .ref su, .ref wi_, .int 0, .ref se]))) (p_a : pt L f a (.inl (G.2 0, 10568, .inl a0)))  : PMp l yX12_fades cX12_fades 2 .int 2 0 0 G [.ref h, .int x0] L f (fun r => r = (-1)) := by
  refine PMi.of (post := fun r L1 f1 => (r = (-1)) ∧ L1 = L ∧ f1 = f) (own := RX12) (by decide) rfl (Nat.le_of_ble_eq_true rfl) (fun sz p e s m args below meth c A ls hA1 hname S Y hl => ?_)
  have hx := S.hx
  have hb := S.hb
  have hl : lv_has ls 2 [(0, .ref h), (1, .int x0)] := hl
  refine lv_aload_n hx hb dX12_fades_0 rfl (lv_at hl 0 rfl) ?_
  refine lv_iload_n hx hb dX12_fades_1 rfl (lv_at hl 1 rfl) ?_
  refine cVp (As := [.int x0]) (rest := []) S Y (c_X12_isOath (l := l) p_h p_a) cw_X12_isOath km12_339 p_h ok_X12.1 rfl rfl ⟨Nat.le_of_ble_eq_true rfl, Nat.le_of_ble_eq_true rfl⟩ hl.1 rfl (Nat.le_of_ble_eq_true rfl) ⟨Nat.le_of_ble_eq_true rfl, Nat.le_of_ble_eq_true rfl⟩ dX12_fades_2 (fun r_1089 H locs er_1089 Y => ?_)
  refine lv_fold (z := 0) er_1089 ?_
  refine lv_if_eq (tgt := 26) hx hb dX12_fades_5 (by decide) (fun _ => ?_) (fun h => absurd (by decide) h)
  refine lv_iconst (v := (-1)) hx hb dX12_fades_26 (by decide) ?_
  exact prI (post := fun r L1 f1 => (r = (-1)) ∧ L1 = L ∧ f1 = f) S Y rfl (by decide) (by decide) hA1 ⟨rfl, rfl, rfl⟩ dX12_fades_27
set_option maxHeartbeats 4000000 in
set_option maxRecDepth 100000 in
theorem c_X12_breaches {l : Launch} {G : GG} {L : List Nat} {f : HF} {h a im te tp pi co na vl tr ac as_ su wi_ se : Nat} {x0 x1 : Int32}  (p_h : pt L f h (.inr (12, [.ref a, .ref im, .ref te, .ref tp, .int 0, .int (-1), .int (-1), .int 0, .int 0, .int 0, .int 0, .long 0, .int 0, .int 0, .int 0, .ref pi, .ref co, .int 0, .int 0, .int 0, .int 0, .int 0, .ref na, .ref vl, .ref tr, .int 1, .ref ac, .ref as_, .ref su, .ref wi_, .int 0, .ref se]))) (p_a : pt L f a (.inl (G.2 0, 10568, .inl a0)))  : PMp l yX12_breaches cX12_breaches 5 .int 2 0 0 G [.ref h, .int x0, .int x1] L f (fun r => r = (-1)) := by
  refine PMi.of (post := fun r L1 f1 => (r = (-1)) ∧ L1 = L ∧ f1 = f) (own := RX12) (by decide) rfl (Nat.le_of_ble_eq_true rfl) (fun sz p e s m args below meth c A ls hA1 hname S Y hl => ?_)
  have hx := S.hx
  have hb := S.hb
  have hl : lv_has ls 5 [(0, .ref h), (1, .int x0), (2, .int x1)] := hl
  refine lv_aload_n hx hb dX12_breaches_0 rfl (lv_at hl 0 rfl) ?_
  refine lv_iload_n hx hb dX12_breaches_1 rfl (lv_at hl 1 rfl) ?_
  refine cVp (As := [.int x0]) (rest := []) S Y (c_X12_isOne (l := l) p_h p_a) cw_X12_isOne km12_323 p_h ok_X12.1 rfl rfl ⟨Nat.le_of_ble_eq_true rfl, Nat.le_of_ble_eq_true rfl⟩ hl.1 rfl (Nat.le_of_ble_eq_true rfl) ⟨Nat.le_of_ble_eq_true rfl, Nat.le_of_ble_eq_true rfl⟩ dX12_breaches_2 (fun r_1090 H locs er_1090 Y => ?_)
  refine lv_fold (z := 0) er_1090 ?_
  refine lv_if_eq (tgt := 17) hx hb dX12_breaches_5 (by decide) (fun _ => ?_) (fun h => absurd (by decide) h)
  refine lv_iconst (v := (-1)) hx hb dX12_breaches_17 (by decide) ?_
  exact prI (post := fun r L1 f1 => (r = (-1)) ∧ L1 = L ∧ f1 = f) S Y rfl (by decide) (by decide) hA1 ⟨rfl, rfl, rfl⟩ dX12_breaches_18
set_option maxHeartbeats 4000000 in
set_option maxRecDepth 100000 in
theorem c_X12_odds {l : Launch} {G : GG} {L : List Nat} {f : HF} {h a im te tp pi co na vl tr ac as_ su wi_ se : Nat} {x0 x1 : Int32}  (p_h : pt L f h (.inr (12, [.ref a, .ref im, .ref te, .ref tp, .int 0, .int (-1), .int (-1), .int 0, .int 0, .int 0, .int 0, .long 0, .int 0, .int 0, .int 0, .ref pi, .ref co, .int 0, .int 0, .int 0, .int 0, .int 0, .ref na, .ref vl, .ref tr, .int 1, .ref ac, .ref as_, .ref su, .ref wi_, .int 0, .ref se]))) (p_a : pt L f a (.inl (G.2 0, 10568, .inl a0)))  : PMp l yX12_odds cX12_odds 3 .int 2 0 0 G [.ref h, .int x0, .int x1] L f (fun r => r = (-1)) := by
  refine PMi.of (post := fun r L1 f1 => (r = (-1)) ∧ L1 = L ∧ f1 = f) (own := RX12) (by decide) rfl (Nat.le_of_ble_eq_true rfl) (fun sz p e s m args below meth c A ls hA1 hname S Y hl => ?_)
  have hx := S.hx
  have hb := S.hb
  have hl : lv_has ls 3 [(0, .ref h), (1, .int x0), (2, .int x1)] := hl
  refine lv_aload_n hx hb dX12_odds_0 rfl (lv_at hl 0 rfl) ?_
  refine lv_iload_n hx hb dX12_odds_1 rfl (lv_at hl 1 rfl) ?_
  refine cVp (As := [.int x0]) (rest := []) S Y (c_X12_isOath (l := l) p_h p_a) cw_X12_isOath km12_339 p_h ok_X12.1 rfl rfl ⟨Nat.le_of_ble_eq_true rfl, Nat.le_of_ble_eq_true rfl⟩ hl.1 rfl (Nat.le_of_ble_eq_true rfl) ⟨Nat.le_of_ble_eq_true rfl, Nat.le_of_ble_eq_true rfl⟩ dX12_odds_2 (fun r_1091 H locs er_1091 Y => ?_)
  refine lv_fold (z := 0) er_1091 ?_
  refine lv_if_eq (tgt := 16) hx hb dX12_odds_5 (by decide) (fun _ => ?_) (fun h => absurd (by decide) h)
  refine lv_iconst (v := (-1)) hx hb dX12_odds_16 (by decide) ?_
  exact prI (post := fun r L1 f1 => (r = (-1)) ∧ L1 = L ∧ f1 = f) S Y rfl (by decide) (by decide) hA1 ⟨rfl, rfl, rfl⟩ dX12_odds_17
set_option maxHeartbeats 4000000 in
set_option maxRecDepth 100000 in
theorem c_X12_nextAsked {l : Launch} {G : GG} {L : List Nat} {f : HF} {h a im te tp pi co na vl tr ac as_ su wi_ se : Nat} {x0 : Int32}  (p_h : pt L f h (.inr (12, [.ref a, .ref im, .ref te, .ref tp, .int 0, .int (-1), .int (-1), .int 0, .int 0, .int 0, .int 0, .long 0, .int 0, .int 0, .int 0, .ref pi, .ref co, .int 0, .int 0, .int 0, .int 0, .int 0, .ref na, .ref vl, .ref tr, .int 1, .ref ac, .ref as_, .ref su, .ref wi_, .int 0, .ref se]))) (p_a : pt L f a (.inl (G.2 0, 10568, .inl a0)))  : PMp l yX12_nextAsked cX12_nextAsked 6 .int 2 0 0 G [.ref h, .int x0] L f (fun r => r = (-1)) := by
  refine PMi.of (post := fun r L1 f1 => (r = (-1)) ∧ L1 = L ∧ f1 = f) (own := RX12) (by decide) rfl (Nat.le_of_ble_eq_true rfl) (fun sz p e s m args below meth c A ls hA1 hname S Y hl => ?_)
  have hx := S.hx
  have hb := S.hb
  have hl : lv_has ls 6 [(0, .ref h), (1, .int x0)] := hl
  refine lv_aload_n hx hb dX12_nextAsked_0 rfl (lv_at hl 0 rfl) ?_
  refine lv_iload_n hx hb dX12_nextAsked_1 rfl (lv_at hl 1 rfl) ?_
  refine cVp (As := [.int x0]) (rest := []) S Y (c_X12_isOne (l := l) p_h p_a) cw_X12_isOne km12_323 p_h ok_X12.1 rfl rfl ⟨Nat.le_of_ble_eq_true rfl, Nat.le_of_ble_eq_true rfl⟩ hl.1 rfl (Nat.le_of_ble_eq_true rfl) ⟨Nat.le_of_ble_eq_true rfl, Nat.le_of_ble_eq_true rfl⟩ dX12_nextAsked_2 (fun r_1092 H locs er_1092 Y => ?_)
  refine lv_fold (z := 0) er_1092 ?_
  refine lv_if_ne (tgt := 10) hx hb dX12_nextAsked_5 (by decide) (fun h => absurd (by decide) h) (fun _ => ?_)
  refine lv_iconst (v := (-1)) hx hb dX12_nextAsked_8 (by decide) ?_
  exact prI (post := fun r L1 f1 => (r = (-1)) ∧ L1 = L ∧ f1 = f) S Y rfl (by decide) (by decide) hA1 ⟨rfl, rfl, rfl⟩ dX12_nextAsked_9
set_option maxHeartbeats 4000000 in
set_option maxRecDepth 100000 in
theorem c_X12_leastReleased {l : Launch} {G : GG} {L : List Nat} {f : HF} {h a im te tp pi co na vl tr ac as_ su wi_ se : Nat}  (p_h : pt L f h (.inr (12, [.ref a, .ref im, .ref te, .ref tp, .int 0, .int (-1), .int (-1), .int 0, .int 0, .int 0, .int 0, .long 0, .int 0, .int 0, .int 0, .ref pi, .ref co, .int 0, .int 0, .int 0, .int 0, .int 0, .ref na, .ref vl, .ref tr, .int 1, .ref ac, .ref as_, .ref su, .ref wi_, .int 0, .ref se]))) (p_a : pt L f a (.inl (G.2 0, 10568, .inl a0)))  : PMp l yX12_leastReleased cX12_leastReleased 4 .int 1 0 0 G [.ref h] L f (fun r => r = 0) := by
  refine PMi.of (post := fun r L1 f1 => (r = 0) ∧ L1 = L ∧ f1 = f) (own := RX12) (by decide) rfl (Nat.le_of_ble_eq_true rfl) (fun sz p e s m args below meth c A ls hA1 hname S Y hl => ?_)
  have hx := S.hx
  have hb := S.hb
  have hl : lv_has ls 4 [(0, .ref h)] := hl
  refine lv_aload_n hx hb dX12_leastReleased_0 rfl (lv_at hl 0 rfl) ?_
  refine cVp (As := []) (rest := []) S Y (c_X12_keptOnes (l := l) p_h p_a) cw_X12_keptOnes km12_422 p_h ok_X12.1 rfl rfl ⟨Nat.le_of_ble_eq_true rfl, Nat.le_of_ble_eq_true rfl⟩ hl.1 rfl (Nat.le_of_ble_eq_true rfl) ⟨Nat.le_of_ble_eq_true rfl, Nat.le_of_ble_eq_true rfl⟩ dX12_leastReleased_1 (fun r_1093 H locs er_1093 Y => ?_)
  refine lv_fold (z := 0) er_1093 ?_
  refine lv_istore_n (lv' := [(1, .int 0), (0, .ref h)]) hx hb dX12_leastReleased_4 rfl hl (by decide) rfl (fun ls hl => ?_)
  refine lv_iload_n hx hb dX12_leastReleased_5 rfl (lv_at hl 0 rfl) ?_
  refine lv_istore_n (lv' := [(2, .int 0), (1, .int 0), (0, .ref h)]) hx hb dX12_leastReleased_6 rfl hl (by decide) rfl (fun ls hl => ?_)
  refine lv_iload_n hx hb dX12_leastReleased_7 rfl (lv_at hl 1 rfl) ?_
  refine lv_istore_n (lv' := [(3, .int 0), (2, .int 0), (1, .int 0), (0, .ref h)]) hx hb dX12_leastReleased_8 rfl hl (by decide) rfl (fun ls hl => ?_)
  refine lv_iload_n hx hb dX12_leastReleased_9 rfl (lv_at hl 0 rfl) ?_
  refine lv_if_lt (tgt := 52) hx hb dX12_leastReleased_10 (by decide) (fun h => absurd h (by decide)) (fun _ => ?_)
  refine lv_iload_n hx hb dX12_leastReleased_13 rfl (lv_at hl 0 rfl) ?_
  refine lv_iload_n hx hb dX12_leastReleased_14 rfl (lv_at hl 2 rfl) ?_
  refine lv_iconst (v := (-1)) hx hb dX12_leastReleased_15 (by decide) ?_
  refine lv_ixor hx hb dX12_leastReleased_16 ?_
  refine lv_fold (z := (-1)) (by decide) ?_
  refine lv_iand hx hb dX12_leastReleased_17 ?_
  refine lv_fold (z := 0) (by decide) ?_
  refine lv_if_ne (tgt := 46) hx hb dX12_leastReleased_18 (by decide) (fun h => absurd (by decide) h) (fun _ => ?_)
  refine lv_iload_n hx hb dX12_leastReleased_21 rfl (lv_at hl 0 rfl) ?_
  refine cSp (As := [.int 0]) (rest := []) S Y (c_X12_bits (l := l)) cw_X12_bits km12_268 rfl ⟨Nat.le_of_ble_eq_true rfl, Nat.le_of_ble_eq_true rfl⟩ hl.1 rfl (Nat.le_of_ble_eq_true rfl) ⟨Nat.le_of_ble_eq_true rfl, Nat.le_of_ble_eq_true rfl⟩ dX12_leastReleased_22 (fun r_1094 H locs er_1094 Y => ?_)
  refine lv_fold (z := 0) er_1094 ?_
  refine lv_iload_n hx hb dX12_leastReleased_25 rfl (lv_at hl 1 rfl) ?_
  refine cSp (As := [.int 0]) (rest := [.int 0]) S Y (c_X12_bits (l := l)) cw_X12_bits km12_268 rfl ⟨Nat.le_of_ble_eq_true rfl, Nat.le_of_ble_eq_true rfl⟩ hl.1 rfl (Nat.le_of_ble_eq_true rfl) ⟨Nat.le_of_ble_eq_true rfl, Nat.le_of_ble_eq_true rfl⟩ dX12_leastReleased_26 (fun r_1095 H locs er_1095 Y => ?_)
  refine lv_fold (z := 0) er_1095 ?_
  refine lv_icmp_gt (tgt := 46) hx hb dX12_leastReleased_29 (by decide) (fun h => absurd h (by decide)) (fun _ => ?_)
  refine lv_aload_n hx hb dX12_leastReleased_32 rfl (lv_at hl 3 rfl) ?_
  refine lv_iload_n hx hb dX12_leastReleased_33 rfl (lv_at hl 2 rfl) ?_
  refine lv_iload_n hx hb dX12_leastReleased_34 rfl (lv_at hl 0 rfl) ?_
  refine lv_iconst (v := (-1)) hx hb dX12_leastReleased_35 (by decide) ?_
  refine lv_ixor hx hb dX12_leastReleased_36 ?_
  refine lv_fold (z := (-1)) (by decide) ?_
  refine lv_iand hx hb dX12_leastReleased_37 ?_
  refine lv_fold (z := 0) (by decide) ?_
  refine cVp (As := [.int 0]) (rest := []) S Y (c_X12_isAtPeace (l := l) p_h p_a) cw_X12_isAtPeace km12_425 p_h ok_X12.1 rfl rfl ⟨Nat.le_of_ble_eq_true rfl, Nat.le_of_ble_eq_true rfl⟩ hl.1 rfl (Nat.le_of_ble_eq_true rfl) ⟨Nat.le_of_ble_eq_true rfl, Nat.le_of_ble_eq_true rfl⟩ dX12_leastReleased_38 (fun r_1096 H locs er_1096 Y => ?_)
  refine lv_fold (z := 1) er_1096 ?_
  refine lv_if_eq (tgt := 46) hx hb dX12_leastReleased_41 (by decide) (fun h => absurd h (by decide)) (fun _ => ?_)
  refine lv_iload_n hx hb dX12_leastReleased_44 rfl (lv_at hl 0 rfl) ?_
  refine lv_istore_n (lv' := [(2, .int 0), (3, .int 0), (1, .int 0), (0, .ref h)]) hx hb dX12_leastReleased_45 rfl hl (by decide) rfl (fun ls hl => ?_)
  refine lv_iinc (v := (-1)) (lv' := [(3, .int (-1)), (2, .int 0), (1, .int 0), (0, .ref h)]) hx hb dX12_leastReleased_46 hl (k := 1) rfl (by decide) (by decide) rfl (fun ls hl => ?_)
  refine lv_goto (tgt := 9) hx hb dX12_leastReleased_49 (by decide) ?_
  refine lv_iload_n hx hb dX12_leastReleased_9 rfl (lv_at hl 0 rfl) ?_
  refine lv_if_lt (tgt := 52) hx hb dX12_leastReleased_10 (by decide) (fun _ => ?_) (fun h => absurd (by decide) h)
  refine lv_iload_n hx hb dX12_leastReleased_52 rfl (lv_at hl 1 rfl) ?_
  exact prI (post := fun r L1 f1 => (r = 0) ∧ L1 = L ∧ f1 = f) S Y rfl (by decide) (by decide) hA1 ⟨rfl, rfl, rfl⟩ dX12_leastReleased_53
set_option maxHeartbeats 4000000 in
set_option maxRecDepth 100000 in
theorem c_X12_forged {l : Launch} {G : GG} {L : List Nat} {f : HF} {h a im te tp pi co na vl tr ac as_ su wi_ se : Nat} {x0 x1 x2 : Int32}  (p_h : pt L f h (.inr (12, [.ref a, .ref im, .ref te, .ref tp, .int 0, .int (-1), .int (-1), .int 0, .int 0, .int 0, .int 0, .long 0, .int 0, .int 0, .int 0, .ref pi, .ref co, .int 0, .int 0, .int 0, .int 0, .int 0, .ref na, .ref vl, .ref tr, .int 1, .ref ac, .ref as_, .ref su, .ref wi_, .int 0, .ref se]))) (p_a : pt L f a (.inl (G.2 0, 10568, .inl a0)))  : PMp l yX12_forged cX12_forged 6 .int 2 0 0 G [.ref h, .int x0, .int x1, .int x2] L f (fun r => r = (-1000)) := by
  refine PMi.of (post := fun r L1 f1 => (r = (-1000)) ∧ L1 = L ∧ f1 = f) (own := RX12) (by decide) rfl (Nat.le_of_ble_eq_true rfl) (fun sz p e s m args below meth c A ls hA1 hname S Y hl => ?_)
  have hx := S.hx
  have hb := S.hb
  have hl : lv_has ls 6 [(0, .ref h), (1, .int x0), (2, .int x1), (3, .int x2)] := hl
  refine lv_aload_n hx hb dX12_forged_0 rfl (lv_at hl 0 rfl) ?_
  refine lv_iload_n hx hb dX12_forged_1 rfl (lv_at hl 1 rfl) ?_
  refine cVp (As := [.int x0]) (rest := []) S Y (c_X12_isOne (l := l) p_h p_a) cw_X12_isOne km12_323 p_h ok_X12.1 rfl rfl ⟨Nat.le_of_ble_eq_true rfl, Nat.le_of_ble_eq_true rfl⟩ hl.1 rfl (Nat.le_of_ble_eq_true rfl) ⟨Nat.le_of_ble_eq_true rfl, Nat.le_of_ble_eq_true rfl⟩ dX12_forged_2 (fun r_1097 H locs er_1097 Y => ?_)
  refine lv_fold (z := 0) er_1097 ?_
  refine lv_if_eq (tgt := 27) hx hb dX12_forged_5 (by decide) (fun _ => ?_) (fun h => absurd (by decide) h)
  refine lv_sipush (v := (-1000)) hx hb dX12_forged_27 (by decide) ?_
  exact prI (post := fun r L1 f1 => (r = (-1000)) ∧ L1 = L ∧ f1 = f) S Y rfl (by decide) (by decide) hA1 ⟨rfl, rfl, rfl⟩ dX12_forged_30
set_option maxHeartbeats 4000000 in
set_option maxRecDepth 100000 in
theorem c_X12_whom {l : Launch} {G : GG} {L : List Nat} {f : HF} {h a im te tp pi co na vl tr ac as_ su wi_ se : Nat} {x0 : Int32}  (p_h : pt L f h (.inr (12, [.ref a, .ref im, .ref te, .ref tp, .int 0, .int (-1), .int (-1), .int 0, .int 0, .int 0, .int 0, .long 0, .int 0, .int 0, .int 0, .ref pi, .ref co, .int 0, .int 0, .int 0, .int 0, .int 0, .ref na, .ref vl, .ref tr, .int 1, .ref ac, .ref as_, .ref su, .ref wi_, .int 0, .ref se]))) (p_a : pt L f a (.inl (G.2 0, 10568, .inl a0)))  : PMp l yX12_whom cX12_whom 4 .int 2 0 0 G [.ref h, .int x0] L f (fun r => r = (-1)) := by
  refine PMi.of (post := fun r L1 f1 => (r = (-1)) ∧ L1 = L ∧ f1 = f) (own := RX12) (by decide) rfl (Nat.le_of_ble_eq_true rfl) (fun sz p e s m args below meth c A ls hA1 hname S Y hl => ?_)
  have hx := S.hx
  have hb := S.hb
  have hl : lv_has ls 4 [(0, .ref h), (1, .int x0)] := hl
  refine lv_aload_n hx hb dX12_whom_0 rfl (lv_at hl 0 rfl) ?_
  refine lv_iload_n hx hb dX12_whom_1 rfl (lv_at hl 1 rfl) ?_
  refine cVp (As := [.int x0]) (rest := []) S Y (c_X12_isOne (l := l) p_h p_a) cw_X12_isOne km12_323 p_h ok_X12.1 rfl rfl ⟨Nat.le_of_ble_eq_true rfl, Nat.le_of_ble_eq_true rfl⟩ hl.1 rfl (Nat.le_of_ble_eq_true rfl) ⟨Nat.le_of_ble_eq_true rfl, Nat.le_of_ble_eq_true rfl⟩ dX12_whom_2 (fun r_1098 H locs er_1098 Y => ?_)
  refine lv_fold (z := 0) er_1098 ?_
  refine lv_if_ne (tgt := 10) hx hb dX12_whom_5 (by decide) (fun h => absurd (by decide) h) (fun _ => ?_)
  refine lv_iconst (v := (-1)) hx hb dX12_whom_8 (by decide) ?_
  exact prI (post := fun r L1 f1 => (r = (-1)) ∧ L1 = L ∧ f1 = f) S Y rfl (by decide) (by decide) hA1 ⟨rfl, rfl, rfl⟩ dX12_whom_9
set_option maxHeartbeats 4000000 in
set_option maxRecDepth 100000 in
theorem c_X12_ring {l : Launch} {G : GG} {L : List Nat} {f : HF} {h a im te tp pi co na vl tr ac as_ su wi_ se : Nat}  (p_h : pt L f h (.inr (12, [.ref a, .ref im, .ref te, .ref tp, .int 0, .int (-1), .int (-1), .int 0, .int 0, .int 0, .int 0, .long 0, .int 0, .int 0, .int 0, .ref pi, .ref co, .int 0, .int 0, .int 0, .int 0, .int 0, .ref na, .ref vl, .ref tr, .int 1, .ref ac, .ref as_, .ref su, .ref wi_, .int 0, .ref se]))) (p_a : pt L f a (.inl (G.2 0, 10568, .inl a0)))  : PMp l yX12_ring cX12_ring 4 .int 0 0 0 G [.ref h] L f (fun r => r = 0) := by
  refine PMi.of (post := fun r L1 f1 => (r = 0) ∧ L1 = L ∧ f1 = f) (own := RX12) (by decide) rfl (Nat.le_of_ble_eq_true rfl) (fun sz p e s m args below meth c A ls hA1 hname S Y hl => ?_)
  have hx := S.hx
  have hb := S.hb
  have hl : lv_has ls 4 [(0, .ref h)] := hl
  refine lv_iconst (v := 0) hx hb dX12_ring_0 (by decide) ?_
  refine lv_istore_n (lv' := [(1, .int 0), (0, .ref h)]) hx hb dX12_ring_1 rfl hl (by decide) rfl (fun ls hl => ?_)
  refine lv_iconst (v := 0) hx hb dX12_ring_2 (by decide) ?_
  refine lv_istore_n (lv' := [(2, .int 0), (1, .int 0), (0, .ref h)]) hx hb dX12_ring_3 rfl hl (by decide) rfl (fun ls hl => ?_)
  refine lv_iconst (v := 0) hx hb dX12_ring_4 (by decide) ?_
  refine lv_istore_n (lv' := [(3, .int 0), (2, .int 0), (1, .int 0), (0, .ref h)]) hx hb dX12_ring_5 rfl hl (by decide) rfl (fun ls hl => ?_)
  refine lv_iload_n hx hb dX12_ring_6 rfl (lv_at hl 0 rfl) ?_
  refine lv_aload_n hx hb dX12_ring_7 rfl (lv_at hl 3 rfl) ?_
  refine pg_get S Y ok_X12 0 (by decide) kf12_7 (v := .ref a) p_h rfl dX12_ring_8 ?_
  refine lv_bipush (v := 13) hx hb dX12_ring_11 (by decide) ?_
  refine pg_iald S Y (v := 0) p_a (by unfold vp_in; decide) (by decide) dX12_ring_13 ?_
  refine lv_icmp_ge (tgt := 41) hx hb dX12_ring_14 (by decide) (fun _ => ?_) (fun h => absurd (by decide) h)
  refine lv_iconst (v := 1) hx hb dX12_ring_41 (by decide) ?_
  refine lv_istore_n (lv' := [(3, .int 1), (2, .int 0), (1, .int 0), (0, .ref h)]) hx hb dX12_ring_42 rfl hl (by decide) rfl (fun ls hl => ?_)
  refine lv_iload_n hx hb dX12_ring_43 rfl (lv_at hl 0 rfl) ?_
  refine lv_iload_n hx hb dX12_ring_44 rfl (lv_at hl 1 rfl) ?_
  refine lv_icmp_gt (tgt := 99) hx hb dX12_ring_45 (by decide) (fun _ => ?_) (fun h => absurd (by decide) h)
  refine lv_iload_n hx hb dX12_ring_99 rfl (lv_at hl 2 rfl) ?_
  exact prI (post := fun r L1 f1 => (r = 0) ∧ L1 = L ∧ f1 = f) S Y rfl (by decide) (by decide) hA1 ⟨rfl, rfl, rfl⟩ dX12_ring_100
set_option maxHeartbeats 4000000 in
set_option maxRecDepth 100000 in
theorem c_X12_known {l : Launch} {G : GG} {L : List Nat} {f : HF} {h a im te tp pi co na vl tr ac as_ su wi_ se : Nat} {x0 : Int32}  (p_h : pt L f h (.inr (12, [.ref a, .ref im, .ref te, .ref tp, .int 0, .int (-1), .int (-1), .int 0, .int 0, .int 0, .int 0, .long 0, .int 0, .int 0, .int 0, .ref pi, .ref co, .int 0, .int 0, .int 0, .int 0, .int 0, .ref na, .ref vl, .ref tr, .int 1, .ref ac, .ref as_, .ref su, .ref wi_, .int 0, .ref se]))) (p_a : pt L f a (.inl (G.2 0, 10568, .inl a0)))  : PMp l yX12_known cX12_known 2 .int 2 0 0 G [.ref h, .int x0] L f (fun r => r = (-1)) := by
  refine PMi.of (post := fun r L1 f1 => (r = (-1)) ∧ L1 = L ∧ f1 = f) (own := RX12) (by decide) rfl (Nat.le_of_ble_eq_true rfl) (fun sz p e s m args below meth c A ls hA1 hname S Y hl => ?_)
  have hx := S.hx
  have hb := S.hb
  have hl : lv_has ls 2 [(0, .ref h), (1, .int x0)] := hl
  refine lv_aload_n hx hb dX12_known_0 rfl (lv_at hl 0 rfl) ?_
  refine lv_iload_n hx hb dX12_known_1 rfl (lv_at hl 1 rfl) ?_
  refine cVp (As := [.int x0]) (rest := []) S Y (c_X12_isOne (l := l) p_h p_a) cw_X12_isOne km12_323 p_h ok_X12.1 rfl rfl ⟨Nat.le_of_ble_eq_true rfl, Nat.le_of_ble_eq_true rfl⟩ hl.1 rfl (Nat.le_of_ble_eq_true rfl) ⟨Nat.le_of_ble_eq_true rfl, Nat.le_of_ble_eq_true rfl⟩ dX12_known_2 (fun r_1099 H locs er_1099 Y => ?_)
  refine lv_fold (z := 0) er_1099 ?_
  refine lv_if_eq (tgt := 16) hx hb dX12_known_5 (by decide) (fun _ => ?_) (fun h => absurd (by decide) h)
  refine lv_iconst (v := (-1)) hx hb dX12_known_16 (by decide) ?_
  exact prI (post := fun r L1 f1 => (r = (-1)) ∧ L1 = L ∧ f1 = f) S Y rfl (by decide) (by decide) hA1 ⟨rfl, rfl, rfl⟩ dX12_known_17
set_option maxHeartbeats 4000000 in
set_option maxRecDepth 100000 in
theorem c_X12_copy_ {l : Launch} {G : GG} {L : List Nat} {f : HF} {h a im te tp pi co na vl tr ac as_ su wi_ se : Nat} {x0 x1 x2 x3 : Int32}  (p_h : pt L f h (.inr (12, [.ref a, .ref im, .ref te, .ref tp, .int 0, .int (-1), .int (-1), .int 0, .int 0, .int 0, .int 0, .long 0, .int 0, .int 0, .int 0, .ref pi, .ref co, .int 0, .int 0, .int 0, .int 0, .int 0, .ref na, .ref vl, .ref tr, .int 1, .ref ac, .ref as_, .ref su, .ref wi_, .int 0, .ref se]))) (p_a : pt L f a (.inl (G.2 0, 10568, .inl a0)))  : PMp l yX12_copy_ cX12_copy_ 10 .int 2 0 0 G [.ref h, .int x0, .int x1, .int x2, .int x3] L f (fun r => r = (-100000)) := by
  refine PMi.of (post := fun r L1 f1 => (r = (-100000)) ∧ L1 = L ∧ f1 = f) (own := RX12) (by decide) rfl (Nat.le_of_ble_eq_true rfl) (fun sz p e s m args below meth c A ls hA1 hname S Y hl => ?_)
  have hx := S.hx
  have hb := S.hb
  have hl : lv_has ls 10 [(0, .ref h), (1, .int x0), (2, .int x1), (3, .int x2), (4, .int x3)] := hl
  refine lv_aload_n hx hb dX12_copy__0 rfl (lv_at hl 0 rfl) ?_
  refine lv_iload_n hx hb dX12_copy__1 rfl (lv_at hl 1 rfl) ?_
  refine cVp (As := [.int x0]) (rest := []) S Y (c_X12_isOath (l := l) p_h p_a) cw_X12_isOath km12_339 p_h ok_X12.1 rfl rfl ⟨Nat.le_of_ble_eq_true rfl, Nat.le_of_ble_eq_true rfl⟩ hl.1 rfl (Nat.le_of_ble_eq_true rfl) ⟨Nat.le_of_ble_eq_true rfl, Nat.le_of_ble_eq_true rfl⟩ dX12_copy__2 (fun r_1100 H locs er_1100 Y => ?_)
  refine lv_fold (z := 0) er_1100 ?_
  refine lv_if_eq (tgt := 39) hx hb dX12_copy__5 (by decide) (fun _ => ?_) (fun h => absurd (by decide) h)
  refine lv_ldcw (v := (-100000)) hx hb S.ow (S.w kk12_408) dX12_copy__39 ?_
  exact prI (post := fun r L1 f1 => (r = (-100000)) ∧ L1 = L ∧ f1 = f) S Y rfl (by decide) (by decide) hA1 ⟨rfl, rfl, rfl⟩ dX12_copy__42
set_option maxHeartbeats 4000000 in
set_option maxRecDepth 100000 in
theorem c_X12_whose {l : Launch} {G : GG} {L : List Nat} {f : HF} {h a im te tp pi co na vl tr ac as_ su wi_ se : Nat}  (p_h : pt L f h (.inr (12, [.ref a, .ref im, .ref te, .ref tp, .int 0, .int (-1), .int (-1), .int 0, .int 0, .int 0, .int 0, .long 0, .int 0, .int 0, .int 0, .ref pi, .ref co, .int 0, .int 0, .int 0, .int 0, .int 0, .ref na, .ref vl, .ref tr, .int 1, .ref ac, .ref as_, .ref su, .ref wi_, .int 0, .ref se]))) (p_a : pt L f a (.inl (G.2 0, 10568, .inl a0)))  : PMp l yX12_whose cX12_whose 5 .int 0 0 0 G [.ref h] L f (fun r => r = 0) := by
  refine PMi.of (post := fun r L1 f1 => (r = 0) ∧ L1 = L ∧ f1 = f) (own := RX12) (by decide) rfl (Nat.le_of_ble_eq_true rfl) (fun sz p e s m args below meth c A ls hA1 hname S Y hl => ?_)
  have hx := S.hx
  have hb := S.hb
  have hl : lv_has ls 5 [(0, .ref h)] := hl
  refine lv_iconst (v := 0) hx hb dX12_whose_0 (by decide) ?_
  refine lv_istore_n (lv' := [(1, .int 0), (0, .ref h)]) hx hb dX12_whose_1 rfl hl (by decide) rfl (fun ls hl => ?_)
  refine lv_iconst (v := 0) hx hb dX12_whose_2 (by decide) ?_
  refine lv_istore_n (lv' := [(2, .int 0), (1, .int 0), (0, .ref h)]) hx hb dX12_whose_3 rfl hl (by decide) rfl (fun ls hl => ?_)
  refine lv_iload_n hx hb dX12_whose_4 rfl (lv_at hl 0 rfl) ?_
  refine lv_aload_n hx hb dX12_whose_5 rfl (lv_at hl 2 rfl) ?_
  refine pg_get S Y ok_X12 0 (by decide) kf12_7 (v := .ref a) p_h rfl dX12_whose_6 ?_
  refine lv_iconst (v := 1) hx hb dX12_whose_9 (by decide) ?_
  refine pg_iald S Y (v := 0) p_a (by unfold vp_in; decide) (by decide) dX12_whose_10 ?_
  refine lv_icmp_ge (tgt := 123) hx hb dX12_whose_11 (by decide) (fun _ => ?_) (fun h => absurd (by decide) h)
  refine lv_iload_n hx hb dX12_whose_123 rfl (lv_at hl 1 rfl) ?_
  exact prI (post := fun r L1 f1 => (r = 0) ∧ L1 = L ∧ f1 = f) S Y rfl (by decide) (by decide) hA1 ⟨rfl, rfl, rfl⟩ dX12_whose_124
set_option maxHeartbeats 4000000 in
set_option maxRecDepth 100000 in
theorem c_X12_mostSworn {l : Launch} {G : GG} {L : List Nat} {f : HF} {h a im te tp pi co na vl tr ac as_ su wi_ se : Nat}  (p_h : pt L f h (.inr (12, [.ref a, .ref im, .ref te, .ref tp, .int 0, .int (-1), .int (-1), .int 0, .int 0, .int 0, .int 0, .long 0, .int 0, .int 0, .int 0, .ref pi, .ref co, .int 0, .int 0, .int 0, .int 0, .int 0, .ref na, .ref vl, .ref tr, .int 1, .ref ac, .ref as_, .ref su, .ref wi_, .int 0, .ref se]))) (p_a : pt L f a (.inl (G.2 0, 10568, .inl a0)))  : PMp l yX12_mostSworn cX12_mostSworn 6 .int 0 0 0 G [.ref h] L f (fun r => r = (-1)) := by
  refine PMi.of (post := fun r L1 f1 => (r = (-1)) ∧ L1 = L ∧ f1 = f) (own := RX12) (by decide) rfl (Nat.le_of_ble_eq_true rfl) (fun sz p e s m args below meth c A ls hA1 hname S Y hl => ?_)
  have hx := S.hx
  have hb := S.hb
  have hl : lv_has ls 6 [(0, .ref h)] := hl
  refine lv_iconst (v := (-1)) hx hb dX12_mostSworn_0 (by decide) ?_
  refine lv_istore_n (lv' := [(1, .int (-1)), (0, .ref h)]) hx hb dX12_mostSworn_1 rfl hl (by decide) rfl (fun ls hl => ?_)
  refine lv_iconst (v := 0) hx hb dX12_mostSworn_2 (by decide) ?_
  refine lv_istore_n (lv' := [(2, .int 0), (1, .int (-1)), (0, .ref h)]) hx hb dX12_mostSworn_3 rfl hl (by decide) rfl (fun ls hl => ?_)
  refine lv_iconst (v := 0) hx hb dX12_mostSworn_4 (by decide) ?_
  refine lv_istore_n (lv' := [(3, .int 0), (2, .int 0), (1, .int (-1)), (0, .ref h)]) hx hb dX12_mostSworn_5 rfl hl (by decide) rfl (fun ls hl => ?_)
  refine lv_iload_n hx hb dX12_mostSworn_6 rfl (lv_at hl 0 rfl) ?_
  refine lv_aload_n hx hb dX12_mostSworn_7 rfl (lv_at hl 3 rfl) ?_
  refine pg_get S Y ok_X12 0 (by decide) kf12_7 (v := .ref a) p_h rfl dX12_mostSworn_8 ?_
  refine lv_iconst (v := 0) hx hb dX12_mostSworn_11 (by decide) ?_
  refine pg_iald S Y (v := 0) p_a (by unfold vp_in; decide) (by decide) dX12_mostSworn_12 ?_
  refine lv_icmp_ge (tgt := 90) hx hb dX12_mostSworn_13 (by decide) (fun _ => ?_) (fun h => absurd (by decide) h)
  refine lv_iload_n hx hb dX12_mostSworn_90 rfl (lv_at hl 2 rfl) ?_
  exact prI (post := fun r L1 f1 => (r = (-1)) ∧ L1 = L ∧ f1 = f) S Y rfl (by decide) (by decide) hA1 ⟨rfl, rfl, rfl⟩ dX12_mostSworn_91
set_option maxHeartbeats 4000000 in
set_option maxRecDepth 100000 in
theorem c_X12_faithful {l : Launch} {G : GG} {L : List Nat} {f : HF} {h a im te tp pi co na vl tr ac as_ su wi_ se : Nat}  (p_h : pt L f h (.inr (12, [.ref a, .ref im, .ref te, .ref tp, .int 0, .int (-1), .int (-1), .int 0, .int 0, .int 0, .int 0, .long 0, .int 0, .int 0, .int 0, .ref pi, .ref co, .int 0, .int 0, .int 0, .int 0, .int 0, .ref na, .ref vl, .ref tr, .int 1, .ref ac, .ref as_, .ref su, .ref wi_, .int 0, .ref se]))) (p_a : pt L f a (.inl (G.2 0, 10568, .inl a0)))  : PMp l yX12_faithful cX12_faithful 3 .int 0 0 0 G [.ref h] L f (fun r => r = 0) := by
  refine PMi.of (post := fun r L1 f1 => (r = 0) ∧ L1 = L ∧ f1 = f) (own := RX12) (by decide) rfl (Nat.le_of_ble_eq_true rfl) (fun sz p e s m args below meth c A ls hA1 hname S Y hl => ?_)
  have hx := S.hx
  have hb := S.hb
  have hl : lv_has ls 3 [(0, .ref h)] := hl
  refine lv_iconst (v := 1) hx hb dX12_faithful_0 (by decide) ?_
  refine lv_aload_n hx hb dX12_faithful_1 rfl (lv_at hl 0 rfl) ?_
  refine pg_get S Y ok_X12 0 (by decide) kf12_7 (v := .ref a) p_h rfl dX12_faithful_2 ?_
  refine lv_iconst (v := 0) hx hb dX12_faithful_5 (by decide) ?_
  refine pg_iald S Y (v := 0) p_a (by unfold vp_in; decide) (by decide) dX12_faithful_6 ?_
  refine lv_ishl hx hb dX12_faithful_7 ?_
  refine lv_fold (z := 1) (by decide) ?_
  refine lv_iconst (v := 1) hx hb dX12_faithful_8 (by decide) ?_
  refine lv_isub hx hb dX12_faithful_9 ?_
  refine lv_fold (z := 0) (by decide) ?_
  refine lv_istore_n (lv' := [(1, .int 0), (0, .ref h)]) hx hb dX12_faithful_10 rfl hl (by decide) rfl (fun ls hl => ?_)
  refine lv_iconst (v := 0) hx hb dX12_faithful_11 (by decide) ?_
  refine lv_istore_n (lv' := [(2, .int 0), (1, .int 0), (0, .ref h)]) hx hb dX12_faithful_12 rfl hl (by decide) rfl (fun ls hl => ?_)
  refine lv_iload_n hx hb dX12_faithful_13 rfl (lv_at hl 0 rfl) ?_
  refine lv_aload_n hx hb dX12_faithful_14 rfl (lv_at hl 2 rfl) ?_
  refine pg_get S Y ok_X12 0 (by decide) kf12_7 (v := .ref a) p_h rfl dX12_faithful_15 ?_
  refine lv_bipush (v := 13) hx hb dX12_faithful_18 (by decide) ?_
  refine pg_iald S Y (v := 0) p_a (by unfold vp_in; decide) (by decide) dX12_faithful_20 ?_
  refine lv_icmp_ge (tgt := 53) hx hb dX12_faithful_21 (by decide) (fun _ => ?_) (fun h => absurd (by decide) h)
  refine lv_iload_n hx hb dX12_faithful_53 rfl (lv_at hl 1 rfl) ?_
  exact prI (post := fun r L1 f1 => (r = 0) ∧ L1 = L ∧ f1 = f) S Y rfl (by decide) (by decide) hA1 ⟨rfl, rfl, rfl⟩ dX12_faithful_54
set_option maxHeartbeats 4000000 in
set_option maxRecDepth 100000 in
theorem c_X12_worstDay {l : Launch} {G : GG} {L : List Nat} {f : HF} {h a im te tp pi co na vl tr ac as_ su wi_ se : Nat}  (p_h : pt L f h (.inr (12, [.ref a, .ref im, .ref te, .ref tp, .int 0, .int (-1), .int (-1), .int 0, .int 0, .int 0, .int 0, .long 0, .int 0, .int 0, .int 0, .ref pi, .ref co, .int 0, .int 0, .int 0, .int 0, .int 0, .ref na, .ref vl, .ref tr, .int 1, .ref ac, .ref as_, .ref su, .ref wi_, .int 0, .ref se]))) (p_a : pt L f a (.inl (G.2 0, 10568, .inl a0)))  : PMp l yX12_worstDay cX12_worstDay 3 .int 1 0 0 G [.ref h] L f (fun r => r = (-1)) := by
  refine PMi.of (post := fun r L1 f1 => (r = (-1)) ∧ L1 = L ∧ f1 = f) (own := RX12) (by decide) rfl (Nat.le_of_ble_eq_true rfl) (fun sz p e s m args below meth c A ls hA1 hname S Y hl => ?_)
  have hx := S.hx
  have hb := S.hb
  have hl : lv_has ls 3 [(0, .ref h)] := hl
  refine lv_iconst (v := (-1)) hx hb dX12_worstDay_0 (by decide) ?_
  refine lv_istore_n (lv' := [(1, .int (-1)), (0, .ref h)]) hx hb dX12_worstDay_1 rfl hl (by decide) rfl (fun ls hl => ?_)
  refine lv_iconst (v := 0) hx hb dX12_worstDay_2 (by decide) ?_
  refine lv_istore_n (lv' := [(2, .int 0), (1, .int (-1)), (0, .ref h)]) hx hb dX12_worstDay_3 rfl hl (by decide) rfl (fun ls hl => ?_)
  refine lv_iload_n hx hb dX12_worstDay_4 rfl (lv_at hl 0 rfl) ?_
  refine lv_aload_n hx hb dX12_worstDay_5 rfl (lv_at hl 2 rfl) ?_
  refine cVp (As := []) (rest := [.int 0]) S Y (c_X12_shown (l := l) p_h p_a) cw_X12_shown km12_393 p_h ok_X12.1 rfl rfl ⟨Nat.le_of_ble_eq_true rfl, Nat.le_of_ble_eq_true rfl⟩ hl.1 rfl (Nat.le_of_ble_eq_true rfl) ⟨Nat.le_of_ble_eq_true rfl, Nat.le_of_ble_eq_true rfl⟩ dX12_worstDay_6 (fun r_1101 H locs er_1101 Y => ?_)
  refine lv_fold (z := 0) er_1101 ?_
  refine lv_icmp_ge (tgt := 40) hx hb dX12_worstDay_9 (by decide) (fun _ => ?_) (fun h => absurd (by decide) h)
  refine lv_iload_n hx hb dX12_worstDay_40 rfl (lv_at hl 1 rfl) ?_
  refine lv_iconst (v := (-1)) hx hb dX12_worstDay_41 (by decide) ?_
  refine lv_icmp_ne (tgt := 49) hx hb dX12_worstDay_42 (by decide) (fun h => absurd (by decide) h) (fun _ => ?_)
  refine lv_iconst (v := (-1)) hx hb dX12_worstDay_45 (by decide) ?_
  refine lv_goto (tgt := 55) hx hb dX12_worstDay_46 (by decide) ?_
  exact prI (post := fun r L1 f1 => (r = (-1)) ∧ L1 = L ∧ f1 = f) S Y rfl (by decide) (by decide) hA1 ⟨rfl, rfl, rfl⟩ dX12_worstDay_55
set_option maxHeartbeats 4000000 in
set_option maxRecDepth 100000 in
theorem c_X12_strike {l : Launch} {G : GG} {L : List Nat} {f : HF} {h a im te tp pi co na vl tr ac as_ su wi_ se : Nat} {x0 : Int32}  (p_h : pt L f h (.inr (12, [.ref a, .ref im, .ref te, .ref tp, .int 0, .int (-1), .int (-1), .int 0, .int 0, .int 0, .int 0, .long 0, .int 0, .int 0, .int 0, .ref pi, .ref co, .int 0, .int 0, .int 0, .int 0, .int 0, .ref na, .ref vl, .ref tr, .int 1, .ref ac, .ref as_, .ref su, .ref wi_, .int 0, .ref se]))) (p_a : pt L f a (.inl (G.2 0, 10568, .inl a0)))  : PMp l yX12_strike cX12_strike 4 .int 1 0 0 G [.ref h, .int x0] L f (fun r => r = (-1)) := by
  refine PMi.of (post := fun r L1 f1 => (r = (-1)) ∧ L1 = L ∧ f1 = f) (own := RX12) (by decide) rfl (Nat.le_of_ble_eq_true rfl) (fun sz p e s m args below meth c A ls hA1 hname S Y hl => ?_)
  have hx := S.hx
  have hb := S.hb
  have hl : lv_has ls 4 [(0, .ref h), (1, .int x0)] := hl
  refine lv_iload_n hx hb dX12_strike_0 rfl (lv_at hl 1 rfl) ?_
  refine lv_iconst (v := 1) hx hb dX12_strike_1 (by decide) ?_
  refine lv_iconst (v := 1) hx hb dX12_strike_2 (by decide) ?_
  refine lv_aload_n hx hb dX12_strike_3 rfl (lv_at hl 0 rfl) ?_
  refine pg_get S Y ok_X12 0 (by decide) kf12_7 (v := .ref a) p_h rfl dX12_strike_4 ?_
  refine lv_bipush (v := 13) hx hb dX12_strike_7 (by decide) ?_
  refine pg_iald S Y (v := 0) p_a (by unfold vp_in; decide) (by decide) dX12_strike_9 ?_
  refine lv_ishl hx hb dX12_strike_10 ?_
  refine lv_fold (z := 1) (by decide) ?_
  refine lv_iconst (v := 1) hx hb dX12_strike_11 (by decide) ?_
  refine lv_isub hx hb dX12_strike_12 ?_
  refine lv_fold (z := 0) (by decide) ?_
  refine cSp (As := [.int x0, .int 1, .int 0]) (rest := []) S Y (c_X12_isIn (l := l)) cw_X12_isIn km12_69 rfl ⟨Nat.le_of_ble_eq_true rfl, Nat.le_of_ble_eq_true rfl⟩ hl.1 rfl (Nat.le_of_ble_eq_true rfl) ⟨Nat.le_of_ble_eq_true rfl, Nat.le_of_ble_eq_true rfl⟩ dX12_strike_13 (fun r_1102 H locs er_1102 Y => ?_)
  refine lv_fold (z := (wi x0 1 0)) er_1102 ?_
  refine lv_if_eq (tgt := 27) hx hb dX12_strike_16 (by decide) (fun _ => ?_) (fun h => absurd (wi_10 x0) h)
  refine lv_iconst (v := (-1)) hx hb dX12_strike_27 (by decide) ?_
  exact prI (post := fun r L1 f1 => (r = (-1)) ∧ L1 = L ∧ f1 = f) S Y rfl (by decide) (by decide) hA1 ⟨rfl, rfl, rfl⟩ dX12_strike_28
set_option maxHeartbeats 4000000 in
set_option maxRecDepth 100000 in
theorem c_X12_played {l : Launch} {G : GG} {L : List Nat} {f : HF} {h a im te tp pi co na vl tr ac as_ su wi_ se : Nat} {x0 : Int32} {g : Nat → Int32}  (p_h : pt L f h (.inr (12, [.ref a, .ref im, .ref te, .ref tp, .int 0, .int (-1), .int (-1), .int 0, .int 0, .int 0, .int 0, .long 0, .int 0, .int 0, .int 0, .ref pi, .ref co, .int 0, .int 0, .int 0, .int 0, .int 0, .ref na, .ref vl, .ref tr, .int 1, .ref ac, .ref as_, .ref su, .ref wi_, .int 0, .ref se]))) (p_a : pt L f a (.inl (G.2 0, 10568, .inl a0))) (p_te : pt L f te (.inl (G.2 0, 2916, .inl g)))  : PMp l yX12_played cX12_played 3 .int 1 0 0 G [.ref h, .int x0] L f (fun r => r = (-2)) := by
  refine PMi.of (post := fun r L1 f1 => (r = (-2)) ∧ L1 = L ∧ f1 = f) (own := RX12) (by decide) rfl (Nat.le_of_ble_eq_true rfl) (fun sz p e s m args below meth c A ls hA1 hname S Y hl => ?_)
  have hx := S.hx
  have hb := S.hb
  have hl : lv_has ls 3 [(0, .ref h), (1, .int x0)] := hl
  refine lv_iload_n hx hb dX12_played_0 rfl (lv_at hl 1 rfl) ?_
  refine lv_iconst (v := 0) hx hb dX12_played_1 (by decide) ?_
  refine lv_aload_n hx hb dX12_played_2 rfl (lv_at hl 0 rfl) ?_
  refine pg_get S Y ok_X12 0 (by decide) kf12_7 (v := .ref a) p_h rfl dX12_played_3 ?_
  refine lv_iconst (v := 1) hx hb dX12_played_6 (by decide) ?_
  refine pg_iald S Y (v := 0) p_a (by unfold vp_in; decide) (by decide) dX12_played_7 ?_
  refine lv_iconst (v := 1) hx hb dX12_played_8 (by decide) ?_
  refine lv_isub hx hb dX12_played_9 ?_
  refine lv_fold (z := (-1)) (by decide) ?_
  refine cSp (As := [.int x0, .int 0, .int (-1)]) (rest := []) S Y (c_X12_isIn (l := l)) cw_X12_isIn km12_69 rfl ⟨Nat.le_of_ble_eq_true rfl, Nat.le_of_ble_eq_true rfl⟩ hl.1 rfl (Nat.le_of_ble_eq_true rfl) ⟨Nat.le_of_ble_eq_true rfl, Nat.le_of_ble_eq_true rfl⟩ dX12_played_10 (fun r_1103 H locs er_1103 Y => ?_)
  refine lv_fold (z := (wi x0 0 (-1))) er_1103 ?_
  refine lv_if_ne (tgt := 19) hx hb dX12_played_13 (by decide) (fun h => absurd (wi_m1 x0) h) (fun _ => ?_)
  refine lv_bipush (v := (-2)) hx hb dX12_played_16 (by decide) ?_
  exact prI (post := fun r L1 f1 => (r = (-2)) ∧ L1 = L ∧ f1 = f) S Y rfl (by decide) (by decide) hA1 ⟨rfl, rfl, rfl⟩ dX12_played_18
set_option maxHeartbeats 4000000 in
set_option maxRecDepth 100000 in
theorem c_X12_years {l : Launch} {G : GG} {L : List Nat} {f : HF} {h a im te tp pi co na vl tr ac as_ su wi_ se : Nat} {x0 x1 : Int32}  (p_h : pt L f h (.inr (12, [.ref a, .ref im, .ref te, .ref tp, .int 0, .int (-1), .int (-1), .int 0, .int 0, .int 0, .int 0, .long 0, .int 0, .int 0, .int 0, .ref pi, .ref co, .int 0, .int 0, .int 0, .int 0, .int 0, .ref na, .ref vl, .ref tr, .int 1, .ref ac, .ref as_, .ref su, .ref wi_, .int 0, .ref se]))) (p_a : pt L f a (.inl (G.2 0, 10568, .inl a0)))  : PMp l yX12_years cX12_years 5 .int 1 0 0 G [.ref h, .int x0, .int x1] L f (fun r => r = (-1)) := by
  refine PMi.of (post := fun r L1 f1 => (r = (-1)) ∧ L1 = L ∧ f1 = f) (own := RX12) (by decide) rfl (Nat.le_of_ble_eq_true rfl) (fun sz p e s m args below meth c A ls hA1 hname S Y hl => ?_)
  have hx := S.hx
  have hb := S.hb
  have hl : lv_has ls 5 [(0, .ref h), (1, .int x0), (2, .int x1)] := hl
  refine lv_iload_n hx hb dX12_years_0 rfl (lv_at hl 1 rfl) ?_
  refine lv_iconst (v := 0) hx hb dX12_years_1 (by decide) ?_
  refine lv_sipush (v := 9999) hx hb dX12_years_2 (by decide) ?_
  refine cSp (As := [.int x0, .int 0, .int 9999]) (rest := []) S Y (c_X12_isIn (l := l)) cw_X12_isIn km12_69 rfl ⟨Nat.le_of_ble_eq_true rfl, Nat.le_of_ble_eq_true rfl⟩ hl.1 rfl (Nat.le_of_ble_eq_true rfl) ⟨Nat.le_of_ble_eq_true rfl, Nat.le_of_ble_eq_true rfl⟩ dX12_years_5 (fun r_1104 H locs er_1104 Y => ?_)
  refine lv_fold (z := (wi x0 0 9999)) er_1104 ?_
  refine lv_if_eq (tgt := 30) hx hb dX12_years_8 (by decide) (fun c_1105 => ?_) (fun c_1105 => ?_)
  · refine lv_iconst (v := (-1)) hx hb dX12_years_30 (by decide) ?_
    exact prI (post := fun r L1 f1 => (r = (-1)) ∧ L1 = L ∧ f1 = f) S Y rfl (by decide) (by decide) hA1 ⟨rfl, rfl, rfl⟩ dX12_years_31
  · refine lv_iload_n hx hb dX12_years_11 rfl (lv_at hl 2 rfl) ?_
    refine lv_iconst (v := 1) hx hb dX12_years_12 (by decide) ?_
    refine lv_bipush (v := 40) hx hb dX12_years_13 (by decide) ?_
    refine cSp (As := [.int x1, .int 1, .int 40]) (rest := []) S Y (c_X12_isIn (l := l)) cw_X12_isIn km12_69 rfl ⟨Nat.le_of_ble_eq_true rfl, Nat.le_of_ble_eq_true rfl⟩ hl.1 rfl (Nat.le_of_ble_eq_true rfl) ⟨Nat.le_of_ble_eq_true rfl, Nat.le_of_ble_eq_true rfl⟩ dX12_years_15 (fun r_1106 H locs er_1106 Y => ?_)
    refine lv_fold (z := (wi x1 1 40)) er_1106 ?_
    refine lv_if_eq (tgt := 30) hx hb dX12_years_18 (by decide) (fun c_1107 => ?_) (fun c_1107 => ?_)
    · refine lv_iconst (v := (-1)) hx hb dX12_years_30 (by decide) ?_
      exact prI (post := fun r L1 f1 => (r = (-1)) ∧ L1 = L ∧ f1 = f) S Y rfl (by decide) (by decide) hA1 ⟨rfl, rfl, rfl⟩ dX12_years_31
    · refine lv_aload_n hx hb dX12_years_21 rfl (lv_at hl 0 rfl) ?_
      refine pg_get S Y ok_X12 0 (by decide) kf12_7 (v := .ref a) p_h rfl dX12_years_22 ?_
      refine lv_iconst (v := 0) hx hb dX12_years_25 (by decide) ?_
      refine pg_iald S Y (v := 0) p_a (by unfold vp_in; decide) (by decide) dX12_years_26 ?_
      refine lv_if_ne (tgt := 32) hx hb dX12_years_27 (by decide) (fun h => absurd (by decide) h) (fun _ => ?_)
      refine lv_iconst (v := (-1)) hx hb dX12_years_30 (by decide) ?_
      exact prI (post := fun r L1 f1 => (r = (-1)) ∧ L1 = L ∧ f1 = f) S Y rfl (by decide) (by decide) hA1 ⟨rfl, rfl, rfl⟩ dX12_years_31
set_option maxHeartbeats 4000000 in
set_option maxRecDepth 100000 in
theorem c_X12_book {l : Launch} {G : GG} {L : List Nat} {f : HF} {h a im te tp pi co na vl tr ac as_ su wi_ se : Nat} {i q : Int32}  (p_h : pt L f h (.inr (12, [.ref a, .ref im, .ref te, .ref tp, .int 0, .int (-1), .int (-1), .int 0, .int 0, .int 0, .int 0, .long 0, .int 0, .int 0, .int 0, .ref pi, .ref co, .int 0, .int 0, .int 0, .int 0, .int 0, .ref na, .ref vl, .ref tr, .int 1, .ref ac, .ref as_, .ref su, .ref wi_, .int 0, .ref se]))) (p_a : pt L f a (.inl (G.2 0, 10568, .inl a0)))  : PMp l yX12_book cX12_book 3 .int 1 0 0 G [.ref h, .int i, .int q] L f (fun r => r = if i = -1 then 0 else -2) := by
  refine PMi.of (post := fun r L1 f1 => (r = if i = -1 then 0 else -2) ∧ L1 = L ∧ f1 = f) (own := RX12) (by decide) rfl (Nat.le_of_ble_eq_true rfl) (fun sz p e s m args below meth c A ls hA1 hname S Y hl => ?_)
  have hx := S.hx
  have hb := S.hb
  have hl : lv_has ls 3 [(0, .ref h), (1, .int i), (2, .int q)] := hl
  refine lv_iload_n hx hb dX12_book_0 rfl (lv_at hl 1 rfl) ?_
  refine lv_iconst (v := (-1)) hx hb dX12_book_1 (by decide) ?_
  refine lv_icmp_ne (tgt := 10) hx hb dX12_book_2 (by decide) (fun c_1108 => ?_) (fun c_1108 => ?_)
  · refine lv_iload_n hx hb dX12_book_10 rfl (lv_at hl 1 rfl) ?_
    refine lv_iconst (v := 0) hx hb dX12_book_11 (by decide) ?_
    refine lv_aload_n hx hb dX12_book_12 rfl (lv_at hl 0 rfl) ?_
    refine cVp (As := []) (rest := [.int 0, .int i]) S Y (c_X12_shown (l := l) p_h p_a) cw_X12_shown km12_393 p_h ok_X12.1 rfl rfl ⟨Nat.le_of_ble_eq_true rfl, Nat.le_of_ble_eq_true rfl⟩ hl.1 rfl (Nat.le_of_ble_eq_true rfl) ⟨Nat.le_of_ble_eq_true rfl, Nat.le_of_ble_eq_true rfl⟩ dX12_book_13 (fun r_1109 H locs er_1109 Y => ?_)
    refine lv_fold (z := 0) er_1109 ?_
    refine lv_iconst (v := 1) hx hb dX12_book_16 (by decide) ?_
    refine lv_isub hx hb dX12_book_17 ?_
    refine lv_fold (z := (-1)) (by decide) ?_
    refine cSp (As := [.int i, .int 0, .int (-1)]) (rest := []) S Y (c_X12_isIn (l := l)) cw_X12_isIn km12_69 rfl ⟨Nat.le_of_ble_eq_true rfl, Nat.le_of_ble_eq_true rfl⟩ hl.1 rfl (Nat.le_of_ble_eq_true rfl) ⟨Nat.le_of_ble_eq_true rfl, Nat.le_of_ble_eq_true rfl⟩ dX12_book_18 (fun r_1110 H locs er_1110 Y => ?_)
    refine lv_fold (z := (wi i 0 (-1))) er_1110 ?_
    refine lv_if_eq (tgt := 42) hx hb dX12_book_21 (by decide) (fun _ => ?_) (fun h => absurd (wi_m1 i) h)
    refine lv_bipush (v := (-2)) hx hb dX12_book_42 (by decide) ?_
    exact prI (post := fun r L1 f1 => (r = if i = -1 then 0 else -2) ∧ L1 = L ∧ f1 = f) S Y rfl (by decide) (by decide) hA1 ⟨(by rw [if_neg c_1108]), rfl, rfl⟩ dX12_book_44
  · refine lv_aload_n hx hb dX12_book_5 rfl (lv_at hl 0 rfl) ?_
    refine cVp (As := []) (rest := []) S Y (c_X12_shown (l := l) p_h p_a) cw_X12_shown km12_393 p_h ok_X12.1 rfl rfl ⟨Nat.le_of_ble_eq_true rfl, Nat.le_of_ble_eq_true rfl⟩ hl.1 rfl (Nat.le_of_ble_eq_true rfl) ⟨Nat.le_of_ble_eq_true rfl, Nat.le_of_ble_eq_true rfl⟩ dX12_book_6 (fun r_1111 H locs er_1111 Y => ?_)
    refine lv_fold (z := 0) er_1111 ?_
    exact prI (post := fun r L1 f1 => (r = if i = -1 then 0 else -2) ∧ L1 = L ∧ f1 = f) S Y rfl (by decide) (by decide) hA1 ⟨(by rw [if_pos c_1108]), rfl, rfl⟩ dX12_book_9
set_option maxHeartbeats 4000000 in
set_option maxRecDepth 100000 in
theorem c_X12_ached {l : Launch} {G : GG} {L : List Nat} {f : HF} {h a im te tp pi co na vl tr ac as_ su wi_ se : Nat} {o : Int32}  (p_h : pt L f h (.inr (12, [.ref a, .ref im, .ref te, .ref tp, .int 0, .int (-1), .int (-1), .int 0, .int 0, .int 0, .int 0, .long 0, .int 0, .int 0, .int 0, .ref pi, .ref co, .int 0, .int 0, .int 0, .int 0, .int 0, .ref na, .ref vl, .ref tr, .int 1, .ref ac, .ref as_, .ref su, .ref wi_, .int 0, .ref se]))) (p_a : pt L f a (.inl (G.2 0, 10568, .inl a0)))  : PMp l yX12_ached cX12_ached 4 .int 2 0 0 G [.ref h, .int o] L f (fun r => r = if o = -1 then 0 else -2) := by
  refine PMi.of (post := fun r L1 f1 => (r = if o = -1 then 0 else -2) ∧ L1 = L ∧ f1 = f) (own := RX12) (by decide) rfl (Nat.le_of_ble_eq_true rfl) (fun sz p e s m args below meth c A ls hA1 hname S Y hl => ?_)
  have hx := S.hx
  have hb := S.hb
  have hl : lv_has ls 4 [(0, .ref h), (1, .int o)] := hl
  refine lv_iload_n hx hb dX12_ached_0 rfl (lv_at hl 1 rfl) ?_
  refine lv_iconst (v := (-1)) hx hb dX12_ached_1 (by decide) ?_
  refine lv_icmp_eq (tgt := 16) hx hb dX12_ached_2 (by decide) (fun c_1112 => ?_) (fun c_1112 => ?_)
  · refine lv_iconst (v := 0) hx hb dX12_ached_16 (by decide) ?_
    refine lv_istore_n (lv' := [(2, .int 0), (0, .ref h), (1, .int o)]) hx hb dX12_ached_17 rfl hl (by decide) rfl (fun ls hl => ?_)
    refine lv_iconst (v := 0) hx hb dX12_ached_18 (by decide) ?_
    refine lv_istore_n (lv' := [(3, .int 0), (2, .int 0), (0, .ref h), (1, .int o)]) hx hb dX12_ached_19 rfl hl (by decide) rfl (fun ls hl => ?_)
    refine lv_iload_n hx hb dX12_ached_20 rfl (lv_at hl 0 rfl) ?_
    refine lv_aload_n hx hb dX12_ached_21 rfl (lv_at hl 2 rfl) ?_
    refine cVp (As := []) (rest := [.int 0]) S Y (c_X12_shown (l := l) p_h p_a) cw_X12_shown km12_393 p_h ok_X12.1 rfl rfl ⟨Nat.le_of_ble_eq_true rfl, Nat.le_of_ble_eq_true rfl⟩ hl.1 rfl (Nat.le_of_ble_eq_true rfl) ⟨Nat.le_of_ble_eq_true rfl, Nat.le_of_ble_eq_true rfl⟩ dX12_ached_22 (fun r_1113 H locs er_1113 Y => ?_)
    refine lv_fold (z := 0) er_1113 ?_
    refine lv_icmp_ge (tgt := 62) hx hb dX12_ached_25 (by decide) (fun _ => ?_) (fun h => absurd (by decide) h)
    refine lv_iload_n hx hb dX12_ached_62 rfl (lv_at hl 1 rfl) ?_
    exact prI (post := fun r L1 f1 => (r = if o = -1 then 0 else -2) ∧ L1 = L ∧ f1 = f) S Y rfl (by decide) (by decide) hA1 ⟨(by rw [if_pos c_1112]), rfl, rfl⟩ dX12_ached_63
  · refine lv_aload_n hx hb dX12_ached_5 rfl (lv_at hl 0 rfl) ?_
    refine lv_iload_n hx hb dX12_ached_6 rfl (lv_at hl 1 rfl) ?_
    refine cVp (As := [.int o]) (rest := []) S Y (c_X12_isOne (l := l) p_h p_a) cw_X12_isOne km12_323 p_h ok_X12.1 rfl rfl ⟨Nat.le_of_ble_eq_true rfl, Nat.le_of_ble_eq_true rfl⟩ hl.1 rfl (Nat.le_of_ble_eq_true rfl) ⟨Nat.le_of_ble_eq_true rfl, Nat.le_of_ble_eq_true rfl⟩ dX12_ached_7 (fun r_1114 H locs er_1114 Y => ?_)
    refine lv_fold (z := 0) er_1114 ?_
    refine lv_if_ne (tgt := 16) hx hb dX12_ached_10 (by decide) (fun h => absurd (by decide) h) (fun _ => ?_)
    refine lv_bipush (v := (-2)) hx hb dX12_ached_13 (by decide) ?_
    exact prI (post := fun r L1 f1 => (r = if o = -1 then 0 else -2) ∧ L1 = L ∧ f1 = f) S Y rfl (by decide) (by decide) hA1 ⟨(by rw [if_neg c_1112]), rfl, rfl⟩ dX12_ached_15
set_option maxHeartbeats 4000000 in
set_option maxRecDepth 100000 in
theorem c_X12_felt {l : Launch} {G : GG} {L : List Nat} {f : HF} {h a im te tp pi co na vl tr ac as_ su wi_ se : Nat} {o x y : Int32}  (p_h : pt L f h (.inr (12, [.ref a, .ref im, .ref te, .ref tp, .int 0, .int (-1), .int (-1), .int 0, .int 0, .int 0, .int 0, .long 0, .int 0, .int 0, .int 0, .ref pi, .ref co, .int 0, .int 0, .int 0, .int 0, .int 0, .ref na, .ref vl, .ref tr, .int 1, .ref ac, .ref as_, .ref su, .ref wi_, .int 0, .ref se]))) (p_a : pt L f a (.inl (G.2 0, 10568, .inl a0)))  : PMi l yX12_felt cX12_felt 5 .int 2 0 0 G [.ref h, .int o, .int x, .int y] L f (fun r L1 f1 => r = if o = -1 then 0 else -2) := by
  refine PMi.of (post := fun r L1 f1 => r = if o = -1 then 0 else -2) (own := RX12) (by decide) rfl (Nat.le_of_ble_eq_true rfl) (fun sz p e s m args below meth c A ls hA1 hname S Y hl => ?_)
  have hx := S.hx
  have hb := S.hb
  have hl : lv_has ls 5 [(0, .ref h), (1, .int o), (2, .int x), (3, .int y)] := hl
  refine lv_iload_n hx hb dX12_felt_0 rfl (lv_at hl 1 rfl) ?_
  refine lv_iconst (v := (-1)) hx hb dX12_felt_1 (by decide) ?_
  refine lv_icmp_ne (tgt := 14) hx hb dX12_felt_2 (by decide) (fun c_1115 => ?_) (fun c_1115 => ?_)
  · refine lv_aload_n hx hb dX12_felt_14 rfl (lv_at hl 0 rfl) ?_
    refine lv_iload_n hx hb dX12_felt_15 rfl (lv_at hl 1 rfl) ?_
    refine cVp (As := [.int o]) (rest := []) S Y (c_X12_isOne (l := l) p_h p_a) cw_X12_isOne km12_323 p_h ok_X12.1 rfl rfl ⟨Nat.le_of_ble_eq_true rfl, Nat.le_of_ble_eq_true rfl⟩ hl.1 rfl (Nat.le_of_ble_eq_true rfl) ⟨Nat.le_of_ble_eq_true rfl, Nat.le_of_ble_eq_true rfl⟩ dX12_felt_16 (fun r_1116 H locs er_1116 Y => ?_)
    refine lv_fold (z := 0) er_1116 ?_
    refine lv_if_eq (tgt := 54) hx hb dX12_felt_19 (by decide) (fun _ => ?_) (fun h => absurd (by decide) h)
    refine lv_bipush (v := (-2)) hx hb dX12_felt_54 (by decide) ?_
    exact prI (post := fun r L1 f1 => r = if o = -1 then 0 else -2) S Y rfl (by decide) (by decide) hA1 (by rw [if_neg c_1115]) dX12_felt_56
  · refine lv_aload_n hx hb dX12_felt_5 rfl (lv_at hl 0 rfl) ?_
    refine pg_get S Y ok_X12 0 (by decide) kf12_7 (v := .ref a) p_h rfl dX12_felt_6 ?_
    refine lv_iconst (v := 4) hx hb dX12_felt_9 (by decide) ?_
    refine lv_iconst (v := 0) hx hb dX12_felt_10 (by decide) ?_
    refine pg_iast S Y p_a (by unfold vp_in; decide) dX12_felt_11 (fun f_1118 H locs ef_1118 Y => ?_)
    obtain ⟨g_1117, eg_1117⟩ : ∃ z, z = upd (a0) (4 : Int32).toNatClampNeg 0 := ⟨_, rfl⟩
    rw [← eg_1117] at ef_1118
    have p_h := p_h.up ef_1118 ((p_h.neA p_a))
    have p_a := p_a.me ef_1118
    refine lv_iconst (v := 0) hx hb dX12_felt_12 (by decide) ?_
    exact prI (post := fun r L1 f1 => r = if o = -1 then 0 else -2) S Y rfl (by decide) (by decide) hA1 (by rw [if_pos c_1115]) dX12_felt_13
set_option maxHeartbeats 4000000 in
set_option maxRecDepth 100000 in
theorem c_X12_clash {l : Launch} {G : GG} {L : List Nat} {f : HF} {h a im te tp pi co na vl tr ac as_ su wi_ se : Nat} {o x : Int32}  (p_h : pt L f h (.inr (12, [.ref a, .ref im, .ref te, .ref tp, .int 0, .int (-1), .int (-1), .int 0, .int 0, .int 0, .int 0, .long 0, .int 0, .int 0, .int 0, .ref pi, .ref co, .int 0, .int 0, .int 0, .int 0, .int 0, .ref na, .ref vl, .ref tr, .int 1, .ref ac, .ref as_, .ref su, .ref wi_, .int 0, .ref se]))) (p_a : pt L f a (.inl (G.2 0, 10568, .inl a0)))  : PMi l yX12_clash cX12_clash 3 .int 2 0 0 G [.ref h, .int o, .int x] L f (fun r L1 f1 => r = if o = -1 then 0 else -2) := by
  refine PMi.of (post := fun r L1 f1 => r = if o = -1 then 0 else -2) (own := RX12) (by decide) rfl (Nat.le_of_ble_eq_true rfl) (fun sz p e s m args below meth c A ls hA1 hname S Y hl => ?_)
  have hx := S.hx
  have hb := S.hb
  have hl : lv_has ls 3 [(0, .ref h), (1, .int o), (2, .int x)] := hl
  refine lv_iload_n hx hb dX12_clash_0 rfl (lv_at hl 1 rfl) ?_
  refine lv_iconst (v := (-1)) hx hb dX12_clash_1 (by decide) ?_
  refine lv_icmp_ne (tgt := 14) hx hb dX12_clash_2 (by decide) (fun c_1119 => ?_) (fun c_1119 => ?_)
  · refine lv_aload_n hx hb dX12_clash_14 rfl (lv_at hl 0 rfl) ?_
    refine lv_iload_n hx hb dX12_clash_15 rfl (lv_at hl 1 rfl) ?_
    refine cVp (As := [.int o]) (rest := []) S Y (c_X12_isOath (l := l) p_h p_a) cw_X12_isOath km12_339 p_h ok_X12.1 rfl rfl ⟨Nat.le_of_ble_eq_true rfl, Nat.le_of_ble_eq_true rfl⟩ hl.1 rfl (Nat.le_of_ble_eq_true rfl) ⟨Nat.le_of_ble_eq_true rfl, Nat.le_of_ble_eq_true rfl⟩ dX12_clash_16 (fun r_1120 H locs er_1120 Y => ?_)
    refine lv_fold (z := 0) er_1120 ?_
    refine lv_if_eq (tgt := 46) hx hb dX12_clash_19 (by decide) (fun _ => ?_) (fun h => absurd (by decide) h)
    refine lv_bipush (v := (-2)) hx hb dX12_clash_46 (by decide) ?_
    exact prI (post := fun r L1 f1 => r = if o = -1 then 0 else -2) S Y rfl (by decide) (by decide) hA1 (by rw [if_neg c_1119]) dX12_clash_48
  · refine lv_aload_n hx hb dX12_clash_5 rfl (lv_at hl 0 rfl) ?_
    refine pg_get S Y ok_X12 0 (by decide) kf12_7 (v := .ref a) p_h rfl dX12_clash_6 ?_
    refine lv_iconst (v := 5) hx hb dX12_clash_9 (by decide) ?_
    refine lv_iconst (v := 0) hx hb dX12_clash_10 (by decide) ?_
    refine pg_iast S Y p_a (by unfold vp_in; decide) dX12_clash_11 (fun f_1122 H locs ef_1122 Y => ?_)
    obtain ⟨g_1121, eg_1121⟩ : ∃ z, z = upd (a0) (5 : Int32).toNatClampNeg 0 := ⟨_, rfl⟩
    rw [← eg_1121] at ef_1122
    have p_h := p_h.up ef_1122 ((p_h.neA p_a))
    have p_a := p_a.me ef_1122
    refine lv_iconst (v := 0) hx hb dX12_clash_12 (by decide) ?_
    exact prI (post := fun r L1 f1 => r = if o = -1 then 0 else -2) S Y rfl (by decide) (by decide) hA1 (by rw [if_pos c_1119]) dX12_clash_13
set_option maxHeartbeats 4000000 in
set_option maxRecDepth 100000 in
theorem c_X12_saw {l : Launch} {G : GG} {L : List Nat} {f : HF} {h a im te tp pi co na vl tr ac as_ su wi_ se : Nat} {o x : Int32}  (p_h : pt L f h (.inr (12, [.ref a, .ref im, .ref te, .ref tp, .int 0, .int (-1), .int (-1), .int 0, .int 0, .int 0, .int 0, .long 0, .int 0, .int 0, .int 0, .ref pi, .ref co, .int 0, .int 0, .int 0, .int 0, .int 0, .ref na, .ref vl, .ref tr, .int 1, .ref ac, .ref as_, .ref su, .ref wi_, .int 0, .ref se]))) (p_a : pt L f a (.inl (G.2 0, 10568, .inl a0)))  : PMi l yX12_saw cX12_saw 3 .int 2 0 0 G [.ref h, .int o, .int x] L f (fun r L1 f1 => r = if o = -1 then 0 else -2) := by
  refine PMi.of (post := fun r L1 f1 => r = if o = -1 then 0 else -2) (own := RX12) (by decide) rfl (Nat.le_of_ble_eq_true rfl) (fun sz p e s m args below meth c A ls hA1 hname S Y hl => ?_)
  have hx := S.hx
  have hb := S.hb
  have hl : lv_has ls 3 [(0, .ref h), (1, .int o), (2, .int x)] := hl
  refine lv_iload_n hx hb dX12_saw_0 rfl (lv_at hl 1 rfl) ?_
  refine lv_iconst (v := (-1)) hx hb dX12_saw_1 (by decide) ?_
  refine lv_icmp_ne (tgt := 15) hx hb dX12_saw_2 (by decide) (fun c_1123 => ?_) (fun c_1123 => ?_)
  · refine lv_aload_n hx hb dX12_saw_15 rfl (lv_at hl 0 rfl) ?_
    refine lv_iload_n hx hb dX12_saw_16 rfl (lv_at hl 1 rfl) ?_
    refine cVp (As := [.int o]) (rest := []) S Y (c_X12_isOne (l := l) p_h p_a) cw_X12_isOne km12_323 p_h ok_X12.1 rfl rfl ⟨Nat.le_of_ble_eq_true rfl, Nat.le_of_ble_eq_true rfl⟩ hl.1 rfl (Nat.le_of_ble_eq_true rfl) ⟨Nat.le_of_ble_eq_true rfl, Nat.le_of_ble_eq_true rfl⟩ dX12_saw_17 (fun r_1124 H locs er_1124 Y => ?_)
    refine lv_fold (z := 0) er_1124 ?_
    refine lv_if_eq (tgt := 48) hx hb dX12_saw_20 (by decide) (fun _ => ?_) (fun h => absurd (by decide) h)
    refine lv_bipush (v := (-2)) hx hb dX12_saw_48 (by decide) ?_
    exact prI (post := fun r L1 f1 => r = if o = -1 then 0 else -2) S Y rfl (by decide) (by decide) hA1 (by rw [if_neg c_1123]) dX12_saw_50
  · refine lv_aload_n hx hb dX12_saw_5 rfl (lv_at hl 0 rfl) ?_
    refine pg_get S Y ok_X12 0 (by decide) kf12_7 (v := .ref a) p_h rfl dX12_saw_6 ?_
    refine lv_bipush (v := 7) hx hb dX12_saw_9 (by decide) ?_
    refine lv_iconst (v := 0) hx hb dX12_saw_11 (by decide) ?_
    refine pg_iast S Y p_a (by unfold vp_in; decide) dX12_saw_12 (fun f_1126 H locs ef_1126 Y => ?_)
    obtain ⟨g_1125, eg_1125⟩ : ∃ z, z = upd (a0) (7 : Int32).toNatClampNeg 0 := ⟨_, rfl⟩
    rw [← eg_1125] at ef_1126
    have p_h := p_h.up ef_1126 ((p_h.neA p_a))
    have p_a := p_a.me ef_1126
    refine lv_iconst (v := 0) hx hb dX12_saw_13 (by decide) ?_
    exact prI (post := fun r L1 f1 => r = if o = -1 then 0 else -2) S Y rfl (by decide) (by decide) hA1 (by rw [if_pos c_1123]) dX12_saw_14
set_option maxHeartbeats 4000000 in
set_option maxRecDepth 100000 in
theorem c_X12_worn {l : Launch} {G : GG} {L : List Nat} {f : HF} {h a im te tp pi co na vl tr ac as_ su wi_ se : Nat} {o x : Int32}  (p_h : pt L f h (.inr (12, [.ref a, .ref im, .ref te, .ref tp, .int 0, .int (-1), .int (-1), .int 0, .int 0, .int 0, .int 0, .long 0, .int 0, .int 0, .int 0, .ref pi, .ref co, .int 0, .int 0, .int 0, .int 0, .int 0, .ref na, .ref vl, .ref tr, .int 1, .ref ac, .ref as_, .ref su, .ref wi_, .int 0, .ref se]))) (p_a : pt L f a (.inl (G.2 0, 10568, .inl a0)))  : PMi l yX12_worn cX12_worn 3 .int 2 0 0 G [.ref h, .int o, .int x] L f (fun r L1 f1 => r = if o = -1 then 0 else -2) := by
  refine PMi.of (post := fun r L1 f1 => r = if o = -1 then 0 else -2) (own := RX12) (by decide) rfl (Nat.le_of_ble_eq_true rfl) (fun sz p e s m args below meth c A ls hA1 hname S Y hl => ?_)
  have hx := S.hx
  have hb := S.hb
  have hl : lv_has ls 3 [(0, .ref h), (1, .int o), (2, .int x)] := hl
  refine lv_iload_n hx hb dX12_worn_0 rfl (lv_at hl 1 rfl) ?_
  refine lv_iconst (v := (-1)) hx hb dX12_worn_1 (by decide) ?_
  refine lv_icmp_ne (tgt := 15) hx hb dX12_worn_2 (by decide) (fun c_1127 => ?_) (fun c_1127 => ?_)
  · refine lv_aload_n hx hb dX12_worn_15 rfl (lv_at hl 0 rfl) ?_
    refine lv_iload_n hx hb dX12_worn_16 rfl (lv_at hl 1 rfl) ?_
    refine cVp (As := [.int o]) (rest := []) S Y (c_X12_isOath (l := l) p_h p_a) cw_X12_isOath km12_339 p_h ok_X12.1 rfl rfl ⟨Nat.le_of_ble_eq_true rfl, Nat.le_of_ble_eq_true rfl⟩ hl.1 rfl (Nat.le_of_ble_eq_true rfl) ⟨Nat.le_of_ble_eq_true rfl, Nat.le_of_ble_eq_true rfl⟩ dX12_worn_17 (fun r_1128 H locs er_1128 Y => ?_)
    refine lv_fold (z := 0) er_1128 ?_
    refine lv_if_eq (tgt := 45) hx hb dX12_worn_20 (by decide) (fun _ => ?_) (fun h => absurd (by decide) h)
    refine lv_bipush (v := (-2)) hx hb dX12_worn_45 (by decide) ?_
    exact prI (post := fun r L1 f1 => r = if o = -1 then 0 else -2) S Y rfl (by decide) (by decide) hA1 (by rw [if_neg c_1127]) dX12_worn_47
  · refine lv_aload_n hx hb dX12_worn_5 rfl (lv_at hl 0 rfl) ?_
    refine pg_get S Y ok_X12 0 (by decide) kf12_7 (v := .ref a) p_h rfl dX12_worn_6 ?_
    refine lv_bipush (v := 8) hx hb dX12_worn_9 (by decide) ?_
    refine lv_iconst (v := 0) hx hb dX12_worn_11 (by decide) ?_
    refine pg_iast S Y p_a (by unfold vp_in; decide) dX12_worn_12 (fun f_1130 H locs ef_1130 Y => ?_)
    obtain ⟨g_1129, eg_1129⟩ : ∃ z, z = upd (a0) (8 : Int32).toNatClampNeg 0 := ⟨_, rfl⟩
    rw [← eg_1129] at ef_1130
    have p_h := p_h.up ef_1130 ((p_h.neA p_a))
    have p_a := p_a.me ef_1130
    refine lv_iconst (v := 0) hx hb dX12_worn_13 (by decide) ?_
    exact prI (post := fun r L1 f1 => r = if o = -1 then 0 else -2) S Y rfl (by decide) (by decide) hA1 (by rw [if_pos c_1127]) dX12_worn_14
set_option maxHeartbeats 4000000 in
set_option maxRecDepth 100000 in
theorem c_X12_word {l : Launch} {G : GG} {L : List Nat} {f : HF} {h a im te tp pi co na vl tr ac as_ su wi_ se : Nat} {x y : Int32}  (p_h : pt L f h (.inr (12, [.ref a, .ref im, .ref te, .ref tp, .int 0, .int (-1), .int (-1), .int 0, .int 0, .int 0, .int 0, .long 0, .int 0, .int 0, .int 0, .ref pi, .ref co, .int 0, .int 0, .int 0, .int 0, .int 0, .ref na, .ref vl, .ref tr, .int 1, .ref ac, .ref as_, .ref su, .ref wi_, .int 0, .ref se]))) (p_a : pt L f a (.inl (G.2 0, 10568, .inl a0)))  : PMi l yX12_word cX12_word 3 .int 1 0 0 G [.ref h, .int x, .int y] L f (fun r L1 f1 => r = if x = -1 then 0 else if wi x 1 99 = 0 then -2 else if wi y 0 999 = 0 then -2 else 1) := by
  refine PMi.of (post := fun r L1 f1 => r = if x = -1 then 0 else if wi x 1 99 = 0 then -2 else if wi y 0 999 = 0 then -2 else 1) (own := RX12) (by decide) rfl (Nat.le_of_ble_eq_true rfl) (fun sz p e s m args below meth c A ls hA1 hname S Y hl => ?_)
  have hx := S.hx
  have hb := S.hb
  have hl : lv_has ls 3 [(0, .ref h), (1, .int x), (2, .int y)] := hl
  refine lv_iload_n hx hb dX12_word_0 rfl (lv_at hl 1 rfl) ?_
  refine lv_iconst (v := (-1)) hx hb dX12_word_1 (by decide) ?_
  refine lv_icmp_ne (tgt := 15) hx hb dX12_word_2 (by decide) (fun c_1131 => ?_) (fun c_1131 => ?_)
  · refine lv_iload_n hx hb dX12_word_15 rfl (lv_at hl 1 rfl) ?_
    refine lv_iconst (v := 1) hx hb dX12_word_16 (by decide) ?_
    refine lv_bipush (v := 99) hx hb dX12_word_17 (by decide) ?_
    refine cSp (As := [.int x, .int 1, .int 99]) (rest := []) S Y (c_X12_isIn (l := l)) cw_X12_isIn km12_69 rfl ⟨Nat.le_of_ble_eq_true rfl, Nat.le_of_ble_eq_true rfl⟩ hl.1 rfl (Nat.le_of_ble_eq_true rfl) ⟨Nat.le_of_ble_eq_true rfl, Nat.le_of_ble_eq_true rfl⟩ dX12_word_19 (fun r_1132 H locs er_1132 Y => ?_)
    refine lv_fold (z := (wi x 1 99)) er_1132 ?_
    refine lv_if_eq (tgt := 48) hx hb dX12_word_22 (by decide) (fun c_1133 => ?_) (fun c_1133 => ?_)
    · refine lv_bipush (v := (-2)) hx hb dX12_word_48 (by decide) ?_
      exact prI (post := fun r L1 f1 => r = if x = -1 then 0 else if wi x 1 99 = 0 then -2 else if wi y 0 999 = 0 then -2 else 1) S Y rfl (by decide) (by decide) hA1 (by rw [if_neg c_1131, if_pos c_1133]) dX12_word_50
    · refine lv_iload_n hx hb dX12_word_25 rfl (lv_at hl 2 rfl) ?_
      refine lv_iconst (v := 0) hx hb dX12_word_26 (by decide) ?_
      refine lv_sipush (v := 999) hx hb dX12_word_27 (by decide) ?_
      refine cSp (As := [.int y, .int 0, .int 999]) (rest := []) S Y (c_X12_isIn (l := l)) cw_X12_isIn km12_69 rfl ⟨Nat.le_of_ble_eq_true rfl, Nat.le_of_ble_eq_true rfl⟩ hl.1 rfl (Nat.le_of_ble_eq_true rfl) ⟨Nat.le_of_ble_eq_true rfl, Nat.le_of_ble_eq_true rfl⟩ dX12_word_30 (fun r_1134 H locs er_1134 Y => ?_)
      refine lv_fold (z := (wi y 0 999)) er_1134 ?_
      refine lv_if_eq (tgt := 48) hx hb dX12_word_33 (by decide) (fun c_1135 => ?_) (fun c_1135 => ?_)
      · refine lv_bipush (v := (-2)) hx hb dX12_word_48 (by decide) ?_
        exact prI (post := fun r L1 f1 => r = if x = -1 then 0 else if wi x 1 99 = 0 then -2 else if wi y 0 999 = 0 then -2 else 1) S Y rfl (by decide) (by decide) hA1 (by rw [if_neg c_1131, if_neg c_1133, if_pos c_1135]) dX12_word_50
      · refine lv_aload_n hx hb dX12_word_36 rfl (lv_at hl 0 rfl) ?_
        refine pg_get S Y ok_X12 0 (by decide) kf12_7 (v := .ref a) p_h rfl dX12_word_37 ?_
        refine lv_bipush (v := 6) hx hb dX12_word_40 (by decide) ?_
        refine pg_iald S Y (v := 0) p_a (by unfold vp_in; decide) (by decide) dX12_word_42 ?_
        refine lv_bipush (v := 8) hx hb dX12_word_43 (by decide) ?_
        refine lv_icmp_ne (tgt := 51) hx hb dX12_word_45 (by decide) (fun _ => ?_) (fun h => absurd h (by decide))
        refine lv_aload_n hx hb dX12_word_51 rfl (lv_at hl 0 rfl) ?_
        refine pg_get S Y ok_X12 0 (by decide) kf12_7 (v := .ref a) p_h rfl dX12_word_52 ?_
        refine lv_sipush (v := 160) hx hb dX12_word_55 (by decide) ?_
        refine lv_iconst (v := 2) hx hb dX12_word_58 (by decide) ?_
        refine lv_aload_n hx hb dX12_word_59 rfl (lv_at hl 0 rfl) ?_
        refine pg_get S Y ok_X12 0 (by decide) kf12_7 (v := .ref a) p_h rfl dX12_word_60 ?_
        refine lv_bipush (v := 6) hx hb dX12_word_63 (by decide) ?_
        refine pg_iald S Y (v := 0) p_a (by unfold vp_in; decide) (by decide) dX12_word_65 ?_
        refine lv_imul hx hb dX12_word_66 ?_
        refine lv_fold (z := 0) (by decide) ?_
        refine lv_iadd hx hb dX12_word_67 ?_
        refine lv_fold (z := 160) (by decide) ?_
        refine lv_iload_n hx hb dX12_word_68 rfl (lv_at hl 1 rfl) ?_
        refine pg_iast S Y p_a (by unfold vp_in; decide) dX12_word_69 (fun f_1137 H locs ef_1137 Y => ?_)
        obtain ⟨g_1136, eg_1136⟩ : ∃ z, z = upd (a0) (160 : Int32).toNatClampNeg x := ⟨_, rfl⟩
        rw [← eg_1136] at ef_1137
        have p_h := p_h.up ef_1137 ((p_h.neA p_a))
        have p_a := p_a.me ef_1137
        refine lv_aload_n hx hb dX12_word_70 rfl (lv_at hl 0 rfl) ?_
        refine pg_get S Y ok_X12 0 (by decide) kf12_7 (v := .ref a) p_h rfl dX12_word_71 ?_
        refine lv_sipush (v := 160) hx hb dX12_word_74 (by decide) ?_
        refine lv_iconst (v := 2) hx hb dX12_word_77 (by decide) ?_
        refine lv_aload_n hx hb dX12_word_78 rfl (lv_at hl 0 rfl) ?_
        refine pg_get S Y ok_X12 0 (by decide) kf12_7 (v := .ref a) p_h rfl dX12_word_79 ?_
        refine lv_bipush (v := 6) hx hb dX12_word_82 (by decide) ?_
        refine pg_iald S Y (v := 0) p_a (by unfold vp_in; decide) ((congrFun eg_1136 _).trans ((pk_un (by decide)).trans (by decide))) dX12_word_84 ?_
        refine lv_imul hx hb dX12_word_85 ?_
        refine lv_fold (z := 0) (by decide) ?_
        refine lv_iadd hx hb dX12_word_86 ?_
        refine lv_fold (z := 160) (by decide) ?_
        refine lv_iconst (v := 1) hx hb dX12_word_87 (by decide) ?_
        refine lv_iadd hx hb dX12_word_88 ?_
        refine lv_fold (z := 161) (by decide) ?_
        refine lv_iload_n hx hb dX12_word_89 rfl (lv_at hl 2 rfl) ?_
        refine pg_iast S Y p_a (by unfold vp_in; decide) dX12_word_90 (fun f_1139 H locs ef_1139 Y => ?_)
        obtain ⟨g_1138, eg_1138⟩ : ∃ z, z = upd (g_1136) (161 : Int32).toNatClampNeg y := ⟨_, rfl⟩
        rw [← eg_1138] at ef_1139
        have p_h := p_h.up ef_1139 ((p_h.neA p_a))
        have p_a := p_a.me ef_1139
        refine lv_aload_n hx hb dX12_word_91 rfl (lv_at hl 0 rfl) ?_
        refine pg_get S Y ok_X12 0 (by decide) kf12_7 (v := .ref a) p_h rfl dX12_word_92 ?_
        refine lv_bipush (v := 6) hx hb dX12_word_95 (by decide) ?_
        refine lv_dup2_11 hx hb dX12_word_97 rfl rfl ?_
        refine pg_iald S Y (v := 0) p_a (by unfold vp_in; decide) ((congrFun eg_1138 _).trans ((pk_un (by decide)).trans ((congrFun eg_1136 _).trans ((pk_un (by decide)).trans (by decide))))) dX12_word_98 ?_
        refine lv_iconst (v := 1) hx hb dX12_word_99 (by decide) ?_
        refine lv_iadd hx hb dX12_word_100 ?_
        refine lv_fold (z := 1) (by decide) ?_
        refine pg_iast S Y p_a (by unfold vp_in; decide) dX12_word_101 (fun f_1141 H locs ef_1141 Y => ?_)
        obtain ⟨g_1140, eg_1140⟩ : ∃ z, z = upd (g_1138) (6 : Int32).toNatClampNeg 1 := ⟨_, rfl⟩
        rw [← eg_1140] at ef_1141
        have p_h := p_h.up ef_1141 ((p_h.neA p_a))
        have p_a := p_a.me ef_1141
        refine lv_aload_n hx hb dX12_word_102 rfl (lv_at hl 0 rfl) ?_
        refine pg_get S Y ok_X12 0 (by decide) kf12_7 (v := .ref a) p_h rfl dX12_word_103 ?_
        refine lv_bipush (v := 6) hx hb dX12_word_106 (by decide) ?_
        refine pg_iald S Y (v := 1) p_a (by unfold vp_in; decide) ((congrFun eg_1140 _).trans pk_us) dX12_word_108 ?_
        exact prI (post := fun r L1 f1 => r = if x = -1 then 0 else if wi x 1 99 = 0 then -2 else if wi y 0 999 = 0 then -2 else 1) S Y rfl (by decide) (by decide) hA1 (by rw [if_neg c_1131, if_neg c_1133, if_neg c_1135]) dX12_word_109
  · refine lv_aload_n hx hb dX12_word_5 rfl (lv_at hl 0 rfl) ?_
    refine pg_get S Y ok_X12 0 (by decide) kf12_7 (v := .ref a) p_h rfl dX12_word_6 ?_
    refine lv_bipush (v := 6) hx hb dX12_word_9 (by decide) ?_
    refine lv_iconst (v := 0) hx hb dX12_word_11 (by decide) ?_
    refine pg_iast S Y p_a (by unfold vp_in; decide) dX12_word_12 (fun f_1143 H locs ef_1143 Y => ?_)
    obtain ⟨g_1142, eg_1142⟩ : ∃ z, z = upd (a0) (6 : Int32).toNatClampNeg 0 := ⟨_, rfl⟩
    rw [← eg_1142] at ef_1143
    have p_h := p_h.up ef_1143 ((p_h.neA p_a))
    have p_a := p_a.me ef_1143
    refine lv_iconst (v := 0) hx hb dX12_word_13 (by decide) ?_
    exact prI (post := fun r L1 f1 => r = if x = -1 then 0 else if wi x 1 99 = 0 then -2 else if wi y 0 999 = 0 then -2 else 1) S Y rfl (by decide) (by decide) hA1 (by rw [if_pos c_1131]) dX12_word_14
set_option maxHeartbeats 4000000 in
set_option maxRecDepth 100000 in
theorem c_X12_inTime {l : Launch} {G : GG} {L : List Nat} {f : HF} {h a im te tp pi co na vl tr ac as_ su wi_ se : Nat} {q : Int32}  (p_h : pt L f h (.inr (12, [.ref a, .ref im, .ref te, .ref tp, .int 0, .int (-1), .int (-1), .int 0, .int 0, .int 0, .int 0, .long 0, .int 0, .int 0, .int 0, .ref pi, .ref co, .int 0, .int 0, .int 0, .int 0, .int 0, .ref na, .ref vl, .ref tr, .int 1, .ref ac, .ref as_, .ref su, .ref wi_, .int 0, .ref se]))) (p_a : pt L f a (.inl (G.2 0, 10568, .inl a0)))  : PMp l yX12_inTime cX12_inTime 4 .int 1 0 0 G [.ref h, .int q] L f (fun r => r = if wi q 0 2 = 0 then -1 else 0) := by
  refine PMi.of (post := fun r L1 f1 => (r = if wi q 0 2 = 0 then -1 else 0) ∧ L1 = L ∧ f1 = f) (own := RX12) (by decide) rfl (Nat.le_of_ble_eq_true rfl) (fun sz p e s m args below meth c A ls hA1 hname S Y hl => ?_)
  have hx := S.hx
  have hb := S.hb
  have hl : lv_has ls 4 [(0, .ref h), (1, .int q)] := hl
  refine lv_iload_n hx hb dX12_inTime_0 rfl (lv_at hl 1 rfl) ?_
  refine lv_iconst (v := 0) hx hb dX12_inTime_1 (by decide) ?_
  refine lv_iconst (v := 2) hx hb dX12_inTime_2 (by decide) ?_
  refine cSp (As := [.int q, .int 0, .int 2]) (rest := []) S Y (c_X12_isIn (l := l)) cw_X12_isIn km12_69 rfl ⟨Nat.le_of_ble_eq_true rfl, Nat.le_of_ble_eq_true rfl⟩ hl.1 rfl (Nat.le_of_ble_eq_true rfl) ⟨Nat.le_of_ble_eq_true rfl, Nat.le_of_ble_eq_true rfl⟩ dX12_inTime_3 (fun r_1144 H locs er_1144 Y => ?_)
  refine lv_fold (z := (wi q 0 2)) er_1144 ?_
  refine lv_if_ne (tgt := 11) hx hb dX12_inTime_6 (by decide) (fun c_1145 => ?_) (fun c_1145 => ?_)
  · refine lv_iconst (v := 0) hx hb dX12_inTime_11 (by decide) ?_
    refine lv_istore_n (lv' := [(2, .int 0), (0, .ref h), (1, .int q)]) hx hb dX12_inTime_12 rfl hl (by decide) rfl (fun ls hl => ?_)
    refine lv_iconst (v := 1) hx hb dX12_inTime_13 (by decide) ?_
    refine lv_istore_n (lv' := [(3, .int 1), (2, .int 0), (0, .ref h), (1, .int q)]) hx hb dX12_inTime_14 rfl hl (by decide) rfl (fun ls hl => ?_)
    refine lv_iload_n hx hb dX12_inTime_15 rfl (lv_at hl 0 rfl) ?_
    refine lv_iconst (v := 1) hx hb dX12_inTime_16 (by decide) ?_
    refine lv_aload_n hx hb dX12_inTime_17 rfl (lv_at hl 2 rfl) ?_
    refine pg_get S Y ok_X12 0 (by decide) kf12_7 (v := .ref a) p_h rfl dX12_inTime_18 ?_
    refine lv_bipush (v := 6) hx hb dX12_inTime_21 (by decide) ?_
    refine pg_iald S Y (v := 0) p_a (by unfold vp_in; decide) (by decide) dX12_inTime_23 ?_
    refine lv_ishl hx hb dX12_inTime_24 ?_
    refine lv_fold (z := 1) (by decide) ?_
    refine lv_icmp_ge (tgt := 55) hx hb dX12_inTime_25 (by decide) (fun _ => ?_) (fun h => absurd (by decide) h)
    refine lv_iload_n hx hb dX12_inTime_55 rfl (lv_at hl 3 rfl) ?_
    refine lv_if_ne (tgt := 66) hx hb dX12_inTime_56 (by decide) (fun c_1146 => ?_) (fun c_1146 => ?_)
    · refine lv_iload_n hx hb dX12_inTime_66 rfl (lv_at hl 3 rfl) ?_
      refine lv_iconst (v := 1) hx hb dX12_inTime_67 (by decide) ?_
      refine lv_icmp_ne (tgt := 75) hx hb dX12_inTime_68 (by decide) (fun c_1147 => ?_) (fun c_1147 => ?_)
      · refine lv_aload_n hx hb dX12_inTime_75 rfl (lv_at hl 2 rfl) ?_
        refine lv_iload_n hx hb dX12_inTime_76 rfl (lv_at hl 1 rfl) ?_
        refine cVp (As := [.int 0]) (rest := []) S Y (c_X12_workOf (l := l) p_h p_a) cw_X12_workOf km12_431 p_h ok_X12.1 rfl rfl ⟨Nat.le_of_ble_eq_true rfl, Nat.le_of_ble_eq_true rfl⟩ hl.1 rfl (Nat.le_of_ble_eq_true rfl) ⟨Nat.le_of_ble_eq_true rfl, Nat.le_of_ble_eq_true rfl⟩ dX12_inTime_77 (fun r_1148 H locs er_1148 Y => ?_)
        refine lv_fold (z := 0) er_1148 ?_
        exact prI (post := fun r L1 f1 => (r = if wi q 0 2 = 0 then -1 else 0) ∧ L1 = L ∧ f1 = f) S Y rfl (by decide) (by decide) hA1 ⟨(by rw [if_neg c_1145]), rfl, rfl⟩ dX12_inTime_80
      · refine lv_iload_n hx hb dX12_inTime_71 rfl (lv_at hl 1 rfl) ?_
        refine lv_goto (tgt := 80) hx hb dX12_inTime_72 (by decide) ?_
        exact prI (post := fun r L1 f1 => (r = if wi q 0 2 = 0 then -1 else 0) ∧ L1 = L ∧ f1 = f) S Y rfl (by decide) (by decide) hA1 ⟨(by rw [if_neg c_1145]), rfl, rfl⟩ dX12_inTime_80
    · refine lv_iload_n hx hb dX12_inTime_59 rfl (lv_at hl 1 rfl) ?_
      refine cSp (As := [.int 0]) (rest := []) S Y (c_X12_bits (l := l)) cw_X12_bits km12_268 rfl ⟨Nat.le_of_ble_eq_true rfl, Nat.le_of_ble_eq_true rfl⟩ hl.1 rfl (Nat.le_of_ble_eq_true rfl) ⟨Nat.le_of_ble_eq_true rfl, Nat.le_of_ble_eq_true rfl⟩ dX12_inTime_60 (fun r_1149 H locs er_1149 Y => ?_)
      refine lv_fold (z := 0) er_1149 ?_
      refine lv_goto (tgt := 80) hx hb dX12_inTime_63 (by decide) ?_
      exact prI (post := fun r L1 f1 => (r = if wi q 0 2 = 0 then -1 else 0) ∧ L1 = L ∧ f1 = f) S Y rfl (by decide) (by decide) hA1 ⟨(by rw [if_neg c_1145]), rfl, rfl⟩ dX12_inTime_80
  · refine lv_iconst (v := (-1)) hx hb dX12_inTime_9 (by decide) ?_
    exact prI (post := fun r L1 f1 => (r = if wi q 0 2 = 0 then -1 else 0) ∧ L1 = L ∧ f1 = f) S Y rfl (by decide) (by decide) hA1 ⟨(by rw [if_pos c_1145]), rfl, rfl⟩ dX12_inTime_10
set_option maxHeartbeats 4000000 in
set_option maxRecDepth 100000 in
theorem c_X12_fewest {l : Launch} {G : GG} {L : List Nat} {f : HF} {h a im te tp pi co na vl tr ac as_ su wi_ se : Nat} {g : Nat → Int32}  (p_h : pt L f h (.inr (12, [.ref a, .ref im, .ref te, .ref tp, .int 0, .int (-1), .int (-1), .int 0, .int 0, .int 0, .int 0, .long 0, .int 0, .int 0, .int 0, .ref pi, .ref co, .int 0, .int 0, .int 0, .int 0, .int 0, .ref na, .ref vl, .ref tr, .int 1, .ref ac, .ref as_, .ref su, .ref wi_, .int 0, .ref se]))) (p_a : pt L f a (.inl (G.2 0, 10568, .inl a0))) (p_se : pt L f se (.inl (G.2 0, 6, .inl g)))  : PMp l yX12_fewest cX12_fewest 5 .int 1 0 0 G [.ref h] L f (fun r => r = 0) := by
  refine PMi.of (post := fun r L1 f1 => (r = 0) ∧ L1 = L ∧ f1 = f) (own := RX12) (by decide) rfl (Nat.le_of_ble_eq_true rfl) (fun sz p e s m args below meth c A ls hA1 hname S Y hl => ?_)
  have hx := S.hx
  have hb := S.hb
  have hl : lv_has ls 5 [(0, .ref h)] := hl
  refine lv_iconst (v := 1) hx hb dX12_fewest_0 (by decide) ?_
  refine lv_aload_n hx hb dX12_fewest_1 rfl (lv_at hl 0 rfl) ?_
  refine pg_get S Y ok_X12 0 (by decide) kf12_7 (v := .ref a) p_h rfl dX12_fewest_2 ?_
  refine lv_iconst (v := 0) hx hb dX12_fewest_5 (by decide) ?_
  refine pg_iald S Y (v := 0) p_a (by unfold vp_in; decide) (by decide) dX12_fewest_6 ?_
  refine lv_ishl hx hb dX12_fewest_7 ?_
  refine lv_fold (z := 1) (by decide) ?_
  refine lv_iconst (v := 1) hx hb dX12_fewest_8 (by decide) ?_
  refine lv_isub hx hb dX12_fewest_9 ?_
  refine lv_fold (z := 0) (by decide) ?_
  refine lv_istore_n (lv' := [(1, .int 0), (0, .ref h)]) hx hb dX12_fewest_10 rfl hl (by decide) rfl (fun ls hl => ?_)
  refine lv_iload_n hx hb dX12_fewest_11 rfl (lv_at hl 0 rfl) ?_
  refine lv_istore_n (lv' := [(2, .int 0), (1, .int 0), (0, .ref h)]) hx hb dX12_fewest_12 rfl hl (by decide) rfl (fun ls hl => ?_)
  refine lv_iload_n hx hb dX12_fewest_13 rfl (lv_at hl 0 rfl) ?_
  refine lv_if_lt (tgt := 89) hx hb dX12_fewest_14 (by decide) (fun h => absurd h (by decide)) (fun _ => ?_)
  refine lv_iconst (v := 0) hx hb dX12_fewest_17 (by decide) ?_
  refine lv_istore_n (lv' := [(3, .int 0), (2, .int 0), (1, .int 0), (0, .ref h)]) hx hb dX12_fewest_18 rfl hl (by decide) rfl (fun ls hl => ?_)
  refine lv_iconst (v := 0) hx hb dX12_fewest_19 (by decide) ?_
  refine lv_istore (lv' := [(4, .int 0), (3, .int 0), (2, .int 0), (1, .int 0), (0, .ref h)]) hx hb dX12_fewest_20 hl (by decide) rfl (fun ls hl => ?_)
  refine lv_iload hx hb dX12_fewest_22 (lv_at hl 0 rfl) ?_
  refine lv_aload_n hx hb dX12_fewest_24 rfl (lv_at hl 4 rfl) ?_
  refine pg_get S Y ok_X12 0 (by decide) kf12_7 (v := .ref a) p_h rfl dX12_fewest_25 ?_
  refine lv_iconst (v := 0) hx hb dX12_fewest_28 (by decide) ?_
  refine pg_iald S Y (v := 0) p_a (by unfold vp_in; decide) (by decide) dX12_fewest_29 ?_
  refine lv_icmp_ge (tgt := 62) hx hb dX12_fewest_30 (by decide) (fun _ => ?_) (fun h => absurd (by decide) h)
  refine lv_iload_n hx hb dX12_fewest_62 rfl (lv_at hl 1 rfl) ?_
  refine lv_aload_n hx hb dX12_fewest_63 rfl (lv_at hl 4 rfl) ?_
  refine cVp (As := []) (rest := [.int 0]) S Y (c_X12_legible (l := l) p_h p_a) cw_X12_legible km12_440 p_h ok_X12.1 rfl rfl ⟨Nat.le_of_ble_eq_true rfl, Nat.le_of_ble_eq_true rfl⟩ hl.1 rfl (Nat.le_of_ble_eq_true rfl) ⟨Nat.le_of_ble_eq_true rfl, Nat.le_of_ble_eq_true rfl⟩ dX12_fewest_64 (fun r_1150 H locs er_1150 Y => ?_)
  refine lv_fold (z := 0) er_1150 ?_
  refine lv_icmp_ne (tgt := 83) hx hb dX12_fewest_67 (by decide) (fun h => absurd (by decide) h) (fun _ => ?_)
  refine lv_iload_n hx hb dX12_fewest_70 rfl (lv_at hl 2 rfl) ?_
  refine cSp (As := [.int 0]) (rest := []) S Y (c_X12_bits (l := l)) cw_X12_bits km12_268 rfl ⟨Nat.le_of_ble_eq_true rfl, Nat.le_of_ble_eq_true rfl⟩ hl.1 rfl (Nat.le_of_ble_eq_true rfl) ⟨Nat.le_of_ble_eq_true rfl, Nat.le_of_ble_eq_true rfl⟩ dX12_fewest_71 (fun r_1151 H locs er_1151 Y => ?_)
  refine lv_fold (z := 0) er_1151 ?_
  refine lv_iload_n hx hb dX12_fewest_74 rfl (lv_at hl 3 rfl) ?_
  refine cSp (As := [.int 0]) (rest := [.int 0]) S Y (c_X12_bits (l := l)) cw_X12_bits km12_268 rfl ⟨Nat.le_of_ble_eq_true rfl, Nat.le_of_ble_eq_true rfl⟩ hl.1 rfl (Nat.le_of_ble_eq_true rfl) ⟨Nat.le_of_ble_eq_true rfl, Nat.le_of_ble_eq_true rfl⟩ dX12_fewest_75 (fun r_1152 H locs er_1152 Y => ?_)
  refine lv_fold (z := 0) er_1152 ?_
  refine lv_icmp_gt (tgt := 83) hx hb dX12_fewest_78 (by decide) (fun h => absurd h (by decide)) (fun _ => ?_)
  refine lv_iload_n hx hb dX12_fewest_81 rfl (lv_at hl 2 rfl) ?_
  refine lv_istore_n (lv' := [(1, .int 0), (4, .int 0), (3, .int 0), (2, .int 0), (0, .ref h)]) hx hb dX12_fewest_82 rfl hl (by decide) rfl (fun ls hl => ?_)
  refine lv_iinc (v := (-1)) (lv' := [(2, .int (-1)), (1, .int 0), (4, .int 0), (3, .int 0), (0, .ref h)]) hx hb dX12_fewest_83 hl (k := 3) rfl (by decide) (by decide) rfl (fun ls hl => ?_)
  refine lv_goto (tgt := 13) hx hb dX12_fewest_86 (by decide) ?_
  refine lv_iload_n hx hb dX12_fewest_13 rfl (lv_at hl 0 rfl) ?_
  refine lv_if_lt (tgt := 89) hx hb dX12_fewest_14 (by decide) (fun _ => ?_) (fun h => absurd (by decide) h)
  refine lv_iload_n hx hb dX12_fewest_89 rfl (lv_at hl 1 rfl) ?_
  exact prI (post := fun r L1 f1 => (r = 0) ∧ L1 = L ∧ f1 = f) S Y rfl (by decide) (by decide) hA1 ⟨rfl, rfl, rfl⟩ dX12_fewest_90
set_option maxHeartbeats 4000000 in
set_option maxRecDepth 100000 in
theorem c_X12_allSeen {l : Launch} {G : GG} {L : List Nat} {f : HF} {h a im te tp pi co na vl tr ac as_ su wi_ se : Nat} {g : Nat → Int32}  (p_h : pt L f h (.inr (12, [.ref a, .ref im, .ref te, .ref tp, .int 0, .int (-1), .int (-1), .int 0, .int 0, .int 0, .int 0, .long 0, .int 0, .int 0, .int 0, .ref pi, .ref co, .int 0, .int 0, .int 0, .int 0, .int 0, .ref na, .ref vl, .ref tr, .int 1, .ref ac, .ref as_, .ref su, .ref wi_, .int 0, .ref se]))) (p_a : pt L f a (.inl (G.2 0, 10568, .inl a0))) (p_se : pt L f se (.inl (G.2 0, 6, .inl g)))  : PMp l yX12_allSeen cX12_allSeen 2 .int 2 0 0 G [.ref h] L f (fun r => r = 0) := by
  refine PMi.of (post := fun r L1 f1 => (r = 0) ∧ L1 = L ∧ f1 = f) (own := RX12) (by decide) rfl (Nat.le_of_ble_eq_true rfl) (fun sz p e s m args below meth c A ls hA1 hname S Y hl => ?_)
  have hx := S.hx
  have hb := S.hb
  have hl : lv_has ls 2 [(0, .ref h)] := hl
  refine lv_iconst (v := 0) hx hb dX12_allSeen_0 (by decide) ?_
  refine lv_istore_n (lv' := [(1, .int 0), (0, .ref h)]) hx hb dX12_allSeen_1 rfl hl (by decide) rfl (fun ls hl => ?_)
  refine lv_iload_n hx hb dX12_allSeen_2 rfl (lv_at hl 0 rfl) ?_
  refine lv_aload_n hx hb dX12_allSeen_3 rfl (lv_at hl 1 rfl) ?_
  refine pg_get S Y ok_X12 0 (by decide) kf12_7 (v := .ref a) p_h rfl dX12_allSeen_4 ?_
  refine lv_iconst (v := 0) hx hb dX12_allSeen_7 (by decide) ?_
  refine pg_iald S Y (v := 0) p_a (by unfold vp_in; decide) (by decide) dX12_allSeen_8 ?_
  refine lv_icmp_ge (tgt := 29) hx hb dX12_allSeen_9 (by decide) (fun _ => ?_) (fun h => absurd (by decide) h)
  refine lv_aload_n hx hb dX12_allSeen_29 rfl (lv_at hl 1 rfl) ?_
  refine cVp (As := []) (rest := []) S Y (c_X12_fewest (l := l) p_h p_a p_se) cw_X12_fewest km12_443 p_h ok_X12.1 rfl rfl ⟨Nat.le_of_ble_eq_true rfl, Nat.le_of_ble_eq_true rfl⟩ hl.1 rfl (Nat.le_of_ble_eq_true rfl) ⟨Nat.le_of_ble_eq_true rfl, Nat.le_of_ble_eq_true rfl⟩ dX12_allSeen_30 (fun r_1153 H locs er_1153 Y => ?_)
  refine lv_fold (z := 0) er_1153 ?_
  exact prI (post := fun r L1 f1 => (r = 0) ∧ L1 = L ∧ f1 = f) S Y rfl (by decide) (by decide) hA1 ⟨rfl, rfl, rfl⟩ dX12_allSeen_33
set_option maxHeartbeats 4000000 in
set_option maxRecDepth 100000 in
theorem c_X12_together {l : Launch} {G : GG} {L : List Nat} {f : HF} {h a im te tp pi co na vl tr ac as_ su wi_ se : Nat} {g : Nat → Int32}  (p_h : pt L f h (.inr (12, [.ref a, .ref im, .ref te, .ref tp, .int 0, .int (-1), .int (-1), .int 0, .int 0, .int 0, .int 0, .long 0, .int 0, .int 0, .int 0, .ref pi, .ref co, .int 0, .int 0, .int 0, .int 0, .int 0, .ref na, .ref vl, .ref tr, .int 1, .ref ac, .ref as_, .ref su, .ref wi_, .int 0, .ref se]))) (p_a : pt L f a (.inl (G.2 0, 10568, .inl a0))) (p_se : pt L f se (.inl (G.2 0, 6, .inl g)))  : PMp l yX12_together cX12_together 2 .int 2 0 0 G [.ref h] L f (fun r => r = 0) := by
  refine PMi.of (post := fun r L1 f1 => (r = 0) ∧ L1 = L ∧ f1 = f) (own := RX12) (by decide) rfl (Nat.le_of_ble_eq_true rfl) (fun sz p e s m args below meth c A ls hA1 hname S Y hl => ?_)
  have hx := S.hx
  have hb := S.hb
  have hl : lv_has ls 2 [(0, .ref h)] := hl
  refine lv_iconst (v := 0) hx hb dX12_together_0 (by decide) ?_
  refine lv_istore_n (lv' := [(1, .int 0), (0, .ref h)]) hx hb dX12_together_1 rfl hl (by decide) rfl (fun ls hl => ?_)
  refine lv_iload_n hx hb dX12_together_2 rfl (lv_at hl 0 rfl) ?_
  refine lv_aload_n hx hb dX12_together_3 rfl (lv_at hl 1 rfl) ?_
  refine pg_get S Y ok_X12 0 (by decide) kf12_7 (v := .ref a) p_h rfl dX12_together_4 ?_
  refine lv_iconst (v := 0) hx hb dX12_together_7 (by decide) ?_
  refine pg_iald S Y (v := 0) p_a (by unfold vp_in; decide) (by decide) dX12_together_8 ?_
  refine lv_icmp_ge (tgt := 29) hx hb dX12_together_9 (by decide) (fun _ => ?_) (fun h => absurd (by decide) h)
  refine lv_aload_n hx hb dX12_together_29 rfl (lv_at hl 1 rfl) ?_
  refine cVp (As := []) (rest := []) S Y (c_X12_fewest (l := l) p_h p_a p_se) cw_X12_fewest km12_443 p_h ok_X12.1 rfl rfl ⟨Nat.le_of_ble_eq_true rfl, Nat.le_of_ble_eq_true rfl⟩ hl.1 rfl (Nat.le_of_ble_eq_true rfl) ⟨Nat.le_of_ble_eq_true rfl, Nat.le_of_ble_eq_true rfl⟩ dX12_together_30 (fun r_1154 H locs er_1154 Y => ?_)
  refine lv_fold (z := 0) er_1154 ?_
  exact prI (post := fun r L1 f1 => (r = 0) ∧ L1 = L ∧ f1 = f) S Y rfl (by decide) (by decide) hA1 ⟨rfl, rfl, rfl⟩ dX12_together_33
set_option maxHeartbeats 4000000 in
set_option maxRecDepth 100000 in
theorem c_X12_is {l : Launch} {G : GG} {L : List Nat} {f : HF} {h a im te tp pi co na vl tr ac as_ su wi_ se : Nat} {q : Int32}  (p_h : pt L f h (.inr (12, [.ref a, .ref im, .ref te, .ref tp, .int 0, .int (-1), .int (-1), .int 0, .int 0, .int 0, .int 0, .long 0, .int 0, .int 0, .int 0, .ref pi, .ref co, .int 0, .int 0, .int 0, .int 0, .int 0, .ref na, .ref vl, .ref tr, .int 1, .ref ac, .ref as_, .ref su, .ref wi_, .int 0, .ref se]))) (p_a : pt L f a (.inl (G.2 0, 10568, .inl a0)))  : PMp l yX12_is cX12_is 2 .int 1 0 0 G [.ref h, .int q] L f (fun r => r = isF q) := by
  refine PMi.of (post := fun r L1 f1 => (r = isF q) ∧ L1 = L ∧ f1 = f) (own := RX12) (by decide) rfl (Nat.le_of_ble_eq_true rfl) (fun sz p e s m args below meth c A ls hA1 hname S Y hl => ?_)
  have hx := S.hx
  have hb := S.hb
  have hl : lv_has ls 2 [(0, .ref h), (1, .int q)] := hl
  refine lv_iload_n hx hb dX12_is_0 rfl (lv_at hl 1 rfl) ?_
  refine lv_iconst (v := 0) hx hb dX12_is_1 (by decide) ?_
  refine lv_iconst (v := 3) hx hb dX12_is_2 (by decide) ?_
  refine cSp (As := [.int q, .int 0, .int 3]) (rest := []) S Y (c_X12_isIn (l := l)) cw_X12_isIn km12_69 rfl ⟨Nat.le_of_ble_eq_true rfl, Nat.le_of_ble_eq_true rfl⟩ hl.1 rfl (Nat.le_of_ble_eq_true rfl) ⟨Nat.le_of_ble_eq_true rfl, Nat.le_of_ble_eq_true rfl⟩ dX12_is_3 (fun r_1155 H locs er_1155 Y => ?_)
  refine lv_fold (z := (wi q 0 3)) er_1155 ?_
  refine lv_if_eq (tgt := 21) hx hb dX12_is_6 (by decide) (fun c_1156 => ?_) (fun c_1156 => ?_)
  · refine lv_bipush (v := (-2)) hx hb dX12_is_21 (by decide) ?_
    exact prI (post := fun r L1 f1 => (r = isF q) ∧ L1 = L ∧ f1 = f) S Y rfl (by decide) (by decide) hA1 ⟨(isF_out c_1156).symm, rfl, rfl⟩ dX12_is_23
  · refine lv_aload_n hx hb dX12_is_9 rfl (lv_at hl 0 rfl) ?_
    refine pg_get S Y ok_X12 0 (by decide) kf12_7 (v := .ref a) p_h rfl dX12_is_10 ?_
    refine lv_bipush (v := 10) hx hb dX12_is_13 (by decide) ?_
    refine lv_iload_n hx hb dX12_is_15 rfl (lv_at hl 1 rfl) ?_
    rcases wi_is c_1156 with h_1157 | h_1157 | h_1157 | h_1157
    · refine lv_fold (z := 0) h_1157 ?_
      refine lv_iadd hx hb dX12_is_16 ?_
      refine lv_fold (z := 10) (by decide) ?_
      refine pg_iald S Y (v := 0) p_a (by unfold vp_in; decide) (by decide) dX12_is_17 ?_
      refine lv_goto (tgt := 23) hx hb dX12_is_18 (by decide) ?_
      exact prI (post := fun r L1 f1 => (r = isF q) ∧ L1 = L ∧ f1 = f) S Y rfl (by decide) (by decide) hA1 ⟨by rw [h_1157]; decide, rfl, rfl⟩ dX12_is_23
    · refine lv_fold (z := 1) h_1157 ?_
      refine lv_iadd hx hb dX12_is_16 ?_
      refine lv_fold (z := 11) (by decide) ?_
      refine pg_iald S Y (v := 0) p_a (by unfold vp_in; decide) (by decide) dX12_is_17 ?_
      refine lv_goto (tgt := 23) hx hb dX12_is_18 (by decide) ?_
      exact prI (post := fun r L1 f1 => (r = isF q) ∧ L1 = L ∧ f1 = f) S Y rfl (by decide) (by decide) hA1 ⟨by rw [h_1157]; decide, rfl, rfl⟩ dX12_is_23
    · refine lv_fold (z := 2) h_1157 ?_
      refine lv_iadd hx hb dX12_is_16 ?_
      refine lv_fold (z := 12) (by decide) ?_
      refine pg_iald S Y (v := 137) p_a (by unfold vp_in; decide) (by decide) dX12_is_17 ?_
      refine lv_goto (tgt := 23) hx hb dX12_is_18 (by decide) ?_
      exact prI (post := fun r L1 f1 => (r = isF q) ∧ L1 = L ∧ f1 = f) S Y rfl (by decide) (by decide) hA1 ⟨by rw [h_1157]; decide, rfl, rfl⟩ dX12_is_23
    · refine lv_fold (z := 3) h_1157 ?_
      refine lv_iadd hx hb dX12_is_16 ?_
      refine lv_fold (z := 13) (by decide) ?_
      refine pg_iald S Y (v := 0) p_a (by unfold vp_in; decide) (by decide) dX12_is_17 ?_
      refine lv_goto (tgt := 23) hx hb dX12_is_18 (by decide) ?_
      exact prI (post := fun r L1 f1 => (r = isF q) ∧ L1 = L ∧ f1 = f) S Y rfl (by decide) (by decide) hA1 ⟨by rw [h_1157]; decide, rfl, rfl⟩ dX12_is_23
set_option maxHeartbeats 4000000 in
set_option maxRecDepth 100000 in
theorem c_X12_about {l : Launch} {G : GG} {L : List Nat} {f : HF} {h a im te tp pi co na vl tr ac as_ su wi_ se : Nat} {q : Int32}  (p_h : pt L f h (.inr (12, [.ref a, .ref im, .ref te, .ref tp, .int 0, .int (-1), .int (-1), .int 0, .int 0, .int 0, .int 0, .long 0, .int 0, .int 0, .int 0, .ref pi, .ref co, .int 0, .int 0, .int 0, .int 0, .int 0, .ref na, .ref vl, .ref tr, .int 1, .ref ac, .ref as_, .ref su, .ref wi_, .int 0, .ref se]))) (p_a : pt L f a (.inl (G.2 0, 10568, .inl a0)))  : PMp l yX12_about cX12_about 2 .int 1 0 0 G [.ref h, .int q] L f (fun r => r = aboutF q) := by
  refine PMi.of (post := fun r L1 f1 => (r = aboutF q) ∧ L1 = L ∧ f1 = f) (own := RX12) (by decide) rfl (Nat.le_of_ble_eq_true rfl) (fun sz p e s m args below meth c A ls hA1 hname S Y hl => ?_)
  have hx := S.hx
  have hb := S.hb
  have hl : lv_has ls 2 [(0, .ref h), (1, .int q)] := hl
  refine lv_iload_n hx hb dX12_about_0 rfl (lv_at hl 1 rfl) ?_
  refine lv_iconst (v := 0) hx hb dX12_about_1 (by decide) ?_
  refine lv_bipush (v := 8) hx hb dX12_about_2 (by decide) ?_
  refine cSp (As := [.int q, .int 0, .int 8]) (rest := []) S Y (c_X12_isIn (l := l)) cw_X12_isIn km12_69 rfl ⟨Nat.le_of_ble_eq_true rfl, Nat.le_of_ble_eq_true rfl⟩ hl.1 rfl (Nat.le_of_ble_eq_true rfl) ⟨Nat.le_of_ble_eq_true rfl, Nat.le_of_ble_eq_true rfl⟩ dX12_about_4 (fun r_1158 H locs er_1158 Y => ?_)
  refine lv_fold (z := (wi q 0 8)) er_1158 ?_
  refine lv_if_eq (tgt := 19) hx hb dX12_about_7 (by decide) (fun c_1159 => ?_) (fun c_1159 => ?_)
  · refine lv_iload_n hx hb dX12_about_19 rfl (lv_at hl 1 rfl) ?_
    refine lv_bipush (v := 9) hx hb dX12_about_20 (by decide) ?_
    refine lv_icmp_ne (tgt := 32) hx hb dX12_about_22 (by decide) (fun c_1160 => ?_) (fun c_1160 => ?_)
    · refine lv_bipush (v := (-2)) hx hb dX12_about_32 (by decide) ?_
      exact prI (post := fun r L1 f1 => (r = aboutF q) ∧ L1 = L ∧ f1 = f) S Y rfl (by decide) (by decide) hA1 ⟨(about_out c_1159 c_1160).symm, rfl, rfl⟩ dX12_about_34
    · refine lv_aload_n hx hb dX12_about_25 rfl (lv_at hl 0 rfl) ?_
      refine pg_get S Y ok_X12 4 (by decide) kf12_81 (v := .int 0) p_h rfl dX12_about_26 ?_
      refine lv_goto (tgt := 34) hx hb dX12_about_29 (by decide) ?_
      exact prI (post := fun r L1 f1 => (r = aboutF q) ∧ L1 = L ∧ f1 = f) S Y rfl (by decide) (by decide) hA1 ⟨by rw [c_1160]; decide, rfl, rfl⟩ dX12_about_34
  · refine lv_aload_n hx hb dX12_about_10 rfl (lv_at hl 0 rfl) ?_
    refine pg_get S Y ok_X12 0 (by decide) kf12_7 (v := .ref a) p_h rfl dX12_about_11 ?_
    refine lv_iload_n hx hb dX12_about_14 rfl (lv_at hl 1 rfl) ?_
    rcases wi_ab c_1159 with h_1161 | h_1161 | h_1161 | h_1161 | h_1161 | h_1161 | h_1161 | h_1161 | h_1161
    · refine lv_fold (z := 0) h_1161 ?_
      refine pg_iald S Y (v := 0) p_a (by unfold vp_in; decide) (by decide) dX12_about_15 ?_
      refine lv_goto (tgt := 34) hx hb dX12_about_16 (by decide) ?_
      exact prI (post := fun r L1 f1 => (r = aboutF q) ∧ L1 = L ∧ f1 = f) S Y rfl (by decide) (by decide) hA1 ⟨by rw [h_1161]; decide, rfl, rfl⟩ dX12_about_34
    · refine lv_fold (z := 1) h_1161 ?_
      refine pg_iald S Y (v := 0) p_a (by unfold vp_in; decide) (by decide) dX12_about_15 ?_
      refine lv_goto (tgt := 34) hx hb dX12_about_16 (by decide) ?_
      exact prI (post := fun r L1 f1 => (r = aboutF q) ∧ L1 = L ∧ f1 = f) S Y rfl (by decide) (by decide) hA1 ⟨by rw [h_1161]; decide, rfl, rfl⟩ dX12_about_34
    · refine lv_fold (z := 2) h_1161 ?_
      refine pg_iald S Y (v := (-1)) p_a (by unfold vp_in; decide) (by decide) dX12_about_15 ?_
      refine lv_goto (tgt := 34) hx hb dX12_about_16 (by decide) ?_
      exact prI (post := fun r L1 f1 => (r = aboutF q) ∧ L1 = L ∧ f1 = f) S Y rfl (by decide) (by decide) hA1 ⟨by rw [h_1161]; decide, rfl, rfl⟩ dX12_about_34
    · refine lv_fold (z := 3) h_1161 ?_
      refine pg_iald S Y (v := 0) p_a (by unfold vp_in; decide) (by decide) dX12_about_15 ?_
      refine lv_goto (tgt := 34) hx hb dX12_about_16 (by decide) ?_
      exact prI (post := fun r L1 f1 => (r = aboutF q) ∧ L1 = L ∧ f1 = f) S Y rfl (by decide) (by decide) hA1 ⟨by rw [h_1161]; decide, rfl, rfl⟩ dX12_about_34
    · refine lv_fold (z := 4) h_1161 ?_
      refine pg_iald S Y (v := 0) p_a (by unfold vp_in; decide) (by decide) dX12_about_15 ?_
      refine lv_goto (tgt := 34) hx hb dX12_about_16 (by decide) ?_
      exact prI (post := fun r L1 f1 => (r = aboutF q) ∧ L1 = L ∧ f1 = f) S Y rfl (by decide) (by decide) hA1 ⟨by rw [h_1161]; decide, rfl, rfl⟩ dX12_about_34
    · refine lv_fold (z := 5) h_1161 ?_
      refine pg_iald S Y (v := 0) p_a (by unfold vp_in; decide) (by decide) dX12_about_15 ?_
      refine lv_goto (tgt := 34) hx hb dX12_about_16 (by decide) ?_
      exact prI (post := fun r L1 f1 => (r = aboutF q) ∧ L1 = L ∧ f1 = f) S Y rfl (by decide) (by decide) hA1 ⟨by rw [h_1161]; decide, rfl, rfl⟩ dX12_about_34
    · refine lv_fold (z := 6) h_1161 ?_
      refine pg_iald S Y (v := 0) p_a (by unfold vp_in; decide) (by decide) dX12_about_15 ?_
      refine lv_goto (tgt := 34) hx hb dX12_about_16 (by decide) ?_
      exact prI (post := fun r L1 f1 => (r = aboutF q) ∧ L1 = L ∧ f1 = f) S Y rfl (by decide) (by decide) hA1 ⟨by rw [h_1161]; decide, rfl, rfl⟩ dX12_about_34
    · refine lv_fold (z := 7) h_1161 ?_
      refine pg_iald S Y (v := 0) p_a (by unfold vp_in; decide) (by decide) dX12_about_15 ?_
      refine lv_goto (tgt := 34) hx hb dX12_about_16 (by decide) ?_
      exact prI (post := fun r L1 f1 => (r = aboutF q) ∧ L1 = L ∧ f1 = f) S Y rfl (by decide) (by decide) hA1 ⟨by rw [h_1161]; decide, rfl, rfl⟩ dX12_about_34
    · refine lv_fold (z := 8) h_1161 ?_
      refine pg_iald S Y (v := 0) p_a (by unfold vp_in; decide) (by decide) dX12_about_15 ?_
      refine lv_goto (tgt := 34) hx hb dX12_about_16 (by decide) ?_
      exact prI (post := fun r L1 f1 => (r = aboutF q) ∧ L1 = L ∧ f1 = f) S Y rfl (by decide) (by decide) hA1 ⟨by rw [h_1161]; decide, rfl, rfl⟩ dX12_about_34
