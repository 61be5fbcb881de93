theorem dX12_canSwear_0 : decode cX12_canSwear 0 = .ok (.aload_n 0, 1) := by decide +kernel
theorem dX12_canSwear_1 : decode cX12_canSwear 1 = .ok (.iload_n 1, 1) := by decide +kernel
theorem dX12_canSwear_2 : decode cX12_canSwear 2 = .ok (.invokevirtual 323, 3) := by decide +kernel
theorem cw_X12_isOne : CWv yX12_isOne cX12_isOne 2 (some .boolean) 1 := ⟨⟨⟨List.mem_of_getElem? (i := 137) (by decide +kernel), by decide +kernel⟩, ⟨List.mem_of_getElem? (i := 1788) (by decide +kernel), by decide +kernel⟩, by decide +kernel⟩, ⟨List.mem_of_getElem? (i := 1787) (by decide +kernel), by decide +kernel⟩, ⟨List.mem_of_getElem? (i := 79) (by decide +kernel), by decide +kernel⟩⟩
theorem km12_323 : inW (Cond.methodLink RX12 323 yX12_isOne) := ⟨List.mem_of_getElem? (i := 1785) (by decide +kernel), by decide +kernel⟩
theorem dX12_canSwear_5 : decode cX12_canSwear 5 = .ok (.ifCond .eq 32, 3) := by decide +kernel
theorem dX12_canSwear_37 : decode cX12_canSwear 37 = .ok (.iconst 0, 1) := by decide +kernel
theorem dX12_canSwear_38 : decode cX12_canSwear 38 = .ok (.ireturn, 1) := by decide +kernel
theorem dX12_canSwear_8 : decode cX12_canSwear 8 = .ok (.aload_n 0, 1) := by decide +kernel
theorem dX12_canSwear_9 : decode cX12_canSwear 9 = .ok (.iload_n 2, 1) := by decide +kernel
theorem dX12_canSwear_10 : decode cX12_canSwear 10 = .ok (.invokevirtual 323, 3) := by decide +kernel
theorem dX12_canSwear_13 : decode cX12_canSwear 13 = .ok (.ifCond .eq 24, 3) := by decide +kernel
theorem dX12_canSwear_16 : decode cX12_canSwear 16 = .ok (.iload_n 1, 1) := by decide +kernel
theorem dX12_canSwear_17 : decode cX12_canSwear 17 = .ok (.iload_n 2, 1) := by decide +kernel
theorem dX12_canSwear_18 : decode cX12_canSwear 18 = .ok (.if_icmp .eq 19, 3) := by decide +kernel
theorem dX12_canSwear_21 : decode cX12_canSwear 21 = .ok (.aload_n 0, 1) := by decide +kernel
theorem dX12_canSwear_22 : decode cX12_canSwear 22 = .ok (.getfield 7, 3) := by decide +kernel
theorem dX12_canSwear_25 : decode cX12_canSwear 25 = .ok (.bipush 13, 2) := by decide +kernel
theorem dX12_canSwear_27 : decode cX12_canSwear 27 = .ok (.iaload, 1) := by decide +kernel
theorem dX12_canSwear_28 : decode cX12_canSwear 28 = .ok (.bipush 14, 2) := by decide +kernel
theorem dX12_canSwear_30 : decode cX12_canSwear 30 = .ok (.if_icmp .ge 7, 3) := by decide +kernel
theorem dX12_canSwear_33 : decode cX12_canSwear 33 = .ok (.iconst 1, 1) := by decide +kernel
theorem dX12_canSwear_34 : decode cX12_canSwear 34 = .ok (.goto 4, 3) := by decide +kernel
theorem dX12_swearNow_0 : decode cX12_swearNow 0 = .ok (.aload_n 0, 1) := by decide +kernel
theorem dX12_swearNow_1 : decode cX12_swearNow 1 = .ok (.getfield 7, 3) := by decide +kernel
theorem dX12_swearNow_4 : decode cX12_swearNow 4 = .ok (.bipush 13, 2) := by decide +kernel
theorem dX12_swearNow_6 : decode cX12_swearNow 6 = .ok (.iaload, 1) := by decide +kernel
theorem dX12_swearNow_7 : decode cX12_swearNow 7 = .ok (.istore 5, 2) := by decide +kernel
theorem dX12_swearNow_9 : decode cX12_swearNow 9 = .ok (.aload_n 0, 1) := by decide +kernel
theorem dX12_swearNow_10 : decode cX12_swearNow 10 = .ok (.iload 5, 2) := by decide +kernel
theorem dX12_swearNow_12 : decode cX12_swearNow 12 = .ok (.iconst 0, 1) := by decide +kernel
theorem dX12_swearNow_13 : decode cX12_swearNow 13 = .ok (.iload_n 1, 1) := by decide +kernel
theorem dX12_swearNow_14 : decode cX12_swearNow 14 = .ok (.invokevirtual 326, 3) := by decide +kernel
theorem cw_X12_put : CWv yX12_put cX12_put 4 none 3 := ⟨⟨⟨List.mem_of_getElem? (i := 137) (by decide +kernel), by decide +kernel⟩, ⟨List.mem_of_getElem? (i := 1800) (by decide +kernel), by decide +kernel⟩, by decide +kernel⟩, ⟨List.mem_of_getElem? (i := 1799) (by decide +kernel), by decide +kernel⟩, ⟨List.mem_of_getElem? (i := 82) (by decide +kernel), by decide +kernel⟩⟩
theorem km12_326 : inW (Cond.methodLink RX12 326 yX12_put) := ⟨List.mem_of_getElem? (i := 1797) (by decide +kernel), by decide +kernel⟩
theorem dX12_swearNow_17 : decode cX12_swearNow 17 = .ok (.aload_n 0, 1) := by decide +kernel
theorem dX12_swearNow_18 : decode cX12_swearNow 18 = .ok (.iload 5, 2) := by decide +kernel
theorem dX12_swearNow_20 : decode cX12_swearNow 20 = .ok (.iconst 1, 1) := by decide +kernel
theorem dX12_swearNow_21 : decode cX12_swearNow 21 = .ok (.iload_n 2, 1) := by decide +kernel
theorem dX12_swearNow_22 : decode cX12_swearNow 22 = .ok (.invokevirtual 326, 3) := by decide +kernel
theorem dX12_swearNow_25 : decode cX12_swearNow 25 = .ok (.aload_n 0, 1) := by decide +kernel
theorem dX12_swearNow_26 : decode cX12_swearNow 26 = .ok (.iload 5, 2) := by decide +kernel
theorem dX12_swearNow_28 : decode cX12_swearNow 28 = .ok (.iconst 2, 1) := by decide +kernel
theorem dX12_swearNow_29 : decode cX12_swearNow 29 = .ok (.iload_n 3, 1) := by decide +kernel
theorem dX12_swearNow_30 : decode cX12_swearNow 30 = .ok (.invokevirtual 326, 3) := by decide +kernel
theorem dX12_swearNow_33 : decode cX12_swearNow 33 = .ok (.aload_n 0, 1) := by decide +kernel
theorem dX12_swearNow_34 : decode cX12_swearNow 34 = .ok (.iload 5, 2) := by decide +kernel
theorem dX12_swearNow_36 : decode cX12_swearNow 36 = .ok (.iconst 3, 1) := by decide +kernel
theorem dX12_swearNow_37 : decode cX12_swearNow 37 = .ok (.iload 4, 2) := by decide +kernel
theorem dX12_swearNow_39 : decode cX12_swearNow 39 = .ok (.invokevirtual 326, 3) := by decide +kernel
theorem dX12_swearNow_42 : decode cX12_swearNow 42 = .ok (.aload_n 0, 1) := by decide +kernel
theorem dX12_swearNow_43 : decode cX12_swearNow 43 = .ok (.iload 5, 2) := by decide +kernel
theorem dX12_swearNow_45 : decode cX12_swearNow 45 = .ok (.iconst 4, 1) := by decide +kernel
theorem dX12_swearNow_46 : decode cX12_swearNow 46 = .ok (.iconst 0, 1) := by decide +kernel
theorem dX12_swearNow_47 : decode cX12_swearNow 47 = .ok (.invokevirtual 326, 3) := by decide +kernel
theorem dX12_swearNow_50 : decode cX12_swearNow 50 = .ok (.aload_n 0, 1) := by decide +kernel
theorem dX12_swearNow_51 : decode cX12_swearNow 51 = .ok (.iload 5, 2) := by decide +kernel
theorem dX12_swearNow_53 : decode cX12_swearNow 53 = .ok (.iconst 5, 1) := by decide +kernel
theorem dX12_swearNow_54 : decode cX12_swearNow 54 = .ok (.iconst 0, 1) := by decide +kernel
theorem dX12_swearNow_55 : decode cX12_swearNow 55 = .ok (.invokevirtual 326, 3) := by decide +kernel
theorem dX12_swearNow_58 : decode cX12_swearNow 58 = .ok (.aload_n 0, 1) := by decide +kernel
theorem dX12_swearNow_59 : decode cX12_swearNow 59 = .ok (.iload 5, 2) := by decide +kernel
theorem dX12_swearNow_61 : decode cX12_swearNow 61 = .ok (.bipush 6, 2) := by decide +kernel
theorem dX12_swearNow_63 : decode cX12_swearNow 63 = .ok (.aload_n 0, 1) := by decide +kernel
theorem dX12_swearNow_64 : decode cX12_swearNow 64 = .ok (.getfield 7, 3) := by decide +kernel
theorem dX12_swearNow_67 : decode cX12_swearNow 67 = .ok (.bipush 10, 2) := by decide +kernel
theorem dX12_swearNow_69 : decode cX12_swearNow 69 = .ok (.iaload, 1) := by decide +kernel
theorem dX12_swearNow_70 : decode cX12_swearNow 70 = .ok (.invokevirtual 326, 3) := by decide +kernel
theorem dX12_swearNow_73 : decode cX12_swearNow 73 = .ok (.aload_n 0, 1) := by decide +kernel
theorem dX12_swearNow_74 : decode cX12_swearNow 74 = .ok (.getfield 7, 3) := by decide +kernel
theorem dX12_swearNow_77 : decode cX12_swearNow 77 = .ok (.bipush 13, 2) := by decide +kernel
theorem dX12_swearNow_79 : decode cX12_swearNow 79 = .ok (.dup2, 1) := by decide +kernel
theorem dX12_swearNow_80 : decode cX12_swearNow 80 = .ok (.iaload, 1) := by decide +kernel
theorem dX12_swearNow_81 : decode cX12_swearNow 81 = .ok (.iconst 1, 1) := by decide +kernel
theorem dX12_swearNow_82 : decode cX12_swearNow 82 = .ok (.iadd, 1) := by decide +kernel
theorem dX12_swearNow_83 : decode cX12_swearNow 83 = .ok (.iastore, 1) := by decide +kernel
theorem dX12_swearNow_84 : decode cX12_swearNow 84 = .ok (.iload 5, 2) := by decide +kernel
theorem dX12_swearNow_86 : decode cX12_swearNow 86 = .ok (.ireturn, 1) := by decide +kernel
theorem dX12_one_0 : decode cX12_one 0 = .ok (.iload_n 1, 1) := by decide +kernel
theorem dX12_one_1 : decode cX12_one 1 = .ok (.iconst 0, 1) := by decide +kernel
theorem dX12_one_2 : decode cX12_one 2 = .ok (.bipush 9, 2) := by decide +kernel
theorem dX12_one_4 : decode cX12_one 4 = .ok (.invokestatic 69, 3) := by decide +kernel
theorem dX12_one_7 : decode cX12_one 7 = .ok (.ifCond .eq 24, 3) := by decide +kernel
theorem dX12_one_31 : decode cX12_one 31 = .ok (.iconst (-1), 1) := by decide +kernel
theorem dX12_one_32 : decode cX12_one 32 = .ok (.ireturn, 1) := by decide +kernel
theorem dX12_one_10 : decode cX12_one 10 = .ok (.iload_n 2, 1) := by decide +kernel
theorem dX12_one_11 : decode cX12_one 11 = .ok (.iconst 0, 1) := by decide +kernel
theorem dX12_one_12 : decode cX12_one 12 = .ok (.bipush 99, 2) := by decide +kernel
theorem dX12_one_14 : decode cX12_one 14 = .ok (.invokestatic 69, 3) := by decide +kernel
theorem dX12_one_17 : decode cX12_one 17 = .ok (.ifCond .eq 14, 3) := by decide +kernel
theorem dX12_one_20 : decode cX12_one 20 = .ok (.aload_n 0, 1) := by decide +kernel
theorem dX12_one_21 : decode cX12_one 21 = .ok (.getfield 7, 3) := by decide +kernel
theorem dX12_one_24 : decode cX12_one 24 = .ok (.iconst 0, 1) := by decide +kernel
theorem dX12_one_25 : decode cX12_one 25 = .ok (.iaload, 1) := by decide +kernel
theorem dX12_one_26 : decode cX12_one 26 = .ok (.bipush 6, 2) := by decide +kernel
theorem dX12_one_28 : decode cX12_one 28 = .ok (.if_icmp .ne 5, 3) := by decide +kernel
theorem dX12_one_33 : decode cX12_one 33 = .ok (.aload_n 0, 1) := by decide +kernel
theorem dX12_one_34 : decode cX12_one 34 = .ok (.getfield 7, 3) := by decide +kernel
theorem dX12_one_37 : decode cX12_one 37 = .ok (.bipush 114, 2) := by decide +kernel
theorem dX12_one_39 : decode cX12_one 39 = .ok (.iconst 2, 1) := by decide +kernel
theorem dX12_one_40 : decode cX12_one 40 = .ok (.aload_n 0, 1) := by decide +kernel
theorem dX12_one_41 : decode cX12_one 41 = .ok (.getfield 7, 3) := by decide +kernel
theorem dX12_one_44 : decode cX12_one 44 = .ok (.iconst 0, 1) := by decide +kernel
theorem dX12_one_45 : decode cX12_one 45 = .ok (.iaload, 1) := by decide +kernel
theorem dX12_one_46 : decode cX12_one 46 = .ok (.imul, 1) := by decide +kernel
theorem dX12_one_47 : decode cX12_one 47 = .ok (.iadd, 1) := by decide +kernel
theorem dX12_one_48 : decode cX12_one 48 = .ok (.iload_n 1, 1) := by decide +kernel
theorem dX12_one_49 : decode cX12_one 49 = .ok (.iastore, 1) := by decide +kernel
theorem dX12_one_50 : decode cX12_one 50 = .ok (.aload_n 0, 1) := by decide +kernel
theorem dX12_one_51 : decode cX12_one 51 = .ok (.getfield 7, 3) := by decide +kernel
theorem dX12_one_54 : decode cX12_one 54 = .ok (.bipush 114, 2) := by decide +kernel
theorem dX12_one_56 : decode cX12_one 56 = .ok (.iconst 2, 1) := by decide +kernel
theorem dX12_one_57 : decode cX12_one 57 = .ok (.aload_n 0, 1) := by decide +kernel
theorem dX12_one_58 : decode cX12_one 58 = .ok (.getfield 7, 3) := by decide +kernel
theorem dX12_one_61 : decode cX12_one 61 = .ok (.iconst 0, 1) := by decide +kernel
theorem dX12_one_62 : decode cX12_one 62 = .ok (.iaload, 1) := by decide +kernel
theorem dX12_one_63 : decode cX12_one 63 = .ok (.imul, 1) := by decide +kernel
theorem dX12_one_64 : decode cX12_one 64 = .ok (.iadd, 1) := by decide +kernel
theorem dX12_one_65 : decode cX12_one 65 = .ok (.iconst 1, 1) := by decide +kernel
theorem dX12_one_66 : decode cX12_one 66 = .ok (.iadd, 1) := by decide +kernel
theorem dX12_one_67 : decode cX12_one 67 = .ok (.iload_n 2, 1) := by decide +kernel
theorem dX12_one_68 : decode cX12_one 68 = .ok (.iastore, 1) := by decide +kernel
theorem dX12_one_69 : decode cX12_one 69 = .ok (.aload_n 0, 1) := by decide +kernel
theorem dX12_one_70 : decode cX12_one 70 = .ok (.getfield 7, 3) := by decide +kernel
theorem dX12_one_73 : decode cX12_one 73 = .ok (.iconst 0, 1) := by decide +kernel
theorem dX12_one_74 : decode cX12_one 74 = .ok (.dup2, 1) := by decide +kernel
theorem dX12_one_75 : decode cX12_one 75 = .ok (.iaload, 1) := by decide +kernel
theorem dX12_one_76 : decode cX12_one 76 = .ok (.iconst 1, 1) := by decide +kernel
theorem dX12_one_77 : decode cX12_one 77 = .ok (.iadd, 1) := by decide +kernel
theorem dX12_one_78 : decode cX12_one 78 = .ok (.iastore, 1) := by decide +kernel
theorem dX12_one_79 : decode cX12_one 79 = .ok (.aload_n 0, 1) := by decide +kernel
theorem dX12_one_80 : decode cX12_one 80 = .ok (.getfield 7, 3) := by decide +kernel
theorem dX12_one_83 : decode cX12_one 83 = .ok (.iconst 0, 1) := by decide +kernel
theorem dX12_one_84 : decode cX12_one 84 = .ok (.iaload, 1) := by decide +kernel
theorem dX12_one_85 : decode cX12_one 85 = .ok (.iconst 1, 1) := by decide +kernel
theorem dX12_one_86 : decode cX12_one 86 = .ok (.isub, 1) := by decide +kernel
theorem dX12_one_87 : decode cX12_one 87 = .ok (.ireturn, 1) := by decide +kernel
theorem dX12_kneelNow_0 : decode cX12_kneelNow 0 = .ok (.iconst 0, 1) := by decide +kernel
theorem dX12_kneelNow_1 : decode cX12_kneelNow 1 = .ok (.istore_n 2, 1) := by decide +kernel
theorem dX12_kneelNow_2 : decode cX12_kneelNow 2 = .ok (.iload_n 2, 1) := by decide +kernel
theorem dX12_kneelNow_3 : decode cX12_kneelNow 3 = .ok (.aload_n 0, 1) := by decide +kernel
theorem dX12_kneelNow_4 : decode cX12_kneelNow 4 = .ok (.getfield 7, 3) := by decide +kernel
theorem dX12_kneelNow_7 : decode cX12_kneelNow 7 = .ok (.bipush 13, 2) := by decide +kernel
theorem dX12_kneelNow_9 : decode cX12_kneelNow 9 = .ok (.iaload, 1) := by decide +kernel
theorem dX12_kneelNow_10 : decode cX12_kneelNow 10 = .ok (.if_icmp .ge 60, 3) := by decide +kernel
theorem dX12_kneelNow_70 : decode cX12_kneelNow 70 = .ok (.return_, 1) := by decide +kernel
theorem dX12_kneelNow_13 : decode cX12_kneelNow 13 = .ok (.aload_n 0, 1) := by decide +kernel
theorem dX12_kneelNow_14 : decode cX12_kneelNow 14 = .ok (.iload_n 2, 1) := by decide +kernel
theorem dX12_kneelNow_15 : decode cX12_kneelNow 15 = .ok (.iconst 1, 1) := by decide +kernel
theorem dX12_kneelNow_16 : decode cX12_kneelNow 16 = .ok (.invokevirtual 73, 3) := by decide +kernel
theorem dX12_kneelNow_19 : decode cX12_kneelNow 19 = .ok (.iload_n 1, 1) := by decide +kernel
theorem dX12_kneelNow_20 : decode cX12_kneelNow 20 = .ok (.if_icmp .ne 44, 3) := by decide +kernel
theorem dX12_kneelNow_64 : decode cX12_kneelNow 64 = .ok (.iinc 2 1, 3) := by decide +kernel
theorem dX12_kneelNow_67 : decode cX12_kneelNow 67 = .ok (.goto (-65), 3) := by decide +kernel
theorem dX12_kneelNow_23 : decode cX12_kneelNow 23 = .ok (.aload_n 0, 1) := by decide +kernel
theorem dX12_kneelNow_24 : decode cX12_kneelNow 24 = .ok (.iload_n 2, 1) := by decide +kernel
theorem dX12_kneelNow_25 : decode cX12_kneelNow 25 = .ok (.iconst 4, 1) := by decide +kernel
theorem dX12_kneelNow_26 : decode cX12_kneelNow 26 = .ok (.invokevirtual 73, 3) := by decide +kernel
theorem dX12_kneelNow_29 : decode cX12_kneelNow 29 = .ok (.iconst 2, 1) := by decide +kernel
theorem dX12_kneelNow_30 : decode cX12_kneelNow 30 = .ok (.if_icmp .eq 34, 3) := by decide +kernel
theorem dX12_kneelNow_33 : decode cX12_kneelNow 33 = .ok (.aload_n 0, 1) := by decide +kernel
theorem dX12_kneelNow_34 : decode cX12_kneelNow 34 = .ok (.iload_n 2, 1) := by decide +kernel
theorem dX12_kneelNow_35 : decode cX12_kneelNow 35 = .ok (.iconst 5, 1) := by decide +kernel
theorem dX12_kneelNow_36 : decode cX12_kneelNow 36 = .ok (.aload_n 0, 1) := by decide +kernel
theorem dX12_kneelNow_37 : decode cX12_kneelNow 37 = .ok (.iload_n 2, 1) := by decide +kernel
theorem dX12_kneelNow_38 : decode cX12_kneelNow 38 = .ok (.iconst 5, 1) := by decide +kernel
theorem dX12_kneelNow_39 : decode cX12_kneelNow 39 = .ok (.invokevirtual 73, 3) := by decide +kernel
theorem dX12_kneelNow_42 : decode cX12_kneelNow 42 = .ok (.aload_n 0, 1) := by decide +kernel
theorem dX12_kneelNow_43 : decode cX12_kneelNow 43 = .ok (.aload_n 0, 1) := by decide +kernel
theorem dX12_kneelNow_44 : decode cX12_kneelNow 44 = .ok (.getfield 7, 3) := by decide +kernel
theorem dX12_kneelNow_47 : decode cX12_kneelNow 47 = .ok (.iconst 2, 1) := by decide +kernel
theorem dX12_kneelNow_48 : decode cX12_kneelNow 48 = .ok (.iaload, 1) := by decide +kernel
theorem dX12_kneelNow_49 : decode cX12_kneelNow 49 = .ok (.iload_n 2, 1) := by decide +kernel
theorem dX12_kneelNow_50 : decode cX12_kneelNow 50 = .ok (.invokevirtual 342, 3) := by decide +kernel
theorem cw_X12_wearsOf : CWv yX12_wearsOf cX12_wearsOf 3 (some .int) 2 := ⟨⟨⟨List.mem_of_getElem? (i := 137) (by decide +kernel), by decide +kernel⟩, ⟨List.mem_of_getElem? (i := 1828) (by decide +kernel), by decide +kernel⟩, by decide +kernel⟩, ⟨List.mem_of_getElem? (i := 1827) (by decide +kernel), by decide +kernel⟩, ⟨List.mem_of_getElem? (i := 86) (by decide +kernel), by decide +kernel⟩⟩
theorem km12_342 : inW (Cond.methodLink RX12 342 yX12_wearsOf) := ⟨List.mem_of_getElem? (i := 1825) (by decide +kernel), by decide +kernel⟩
theorem dX12_kneelNow_53 : decode cX12_kneelNow 53 = .ok (.iadd, 1) := by decide +kernel
theorem dX12_kneelNow_54 : decode cX12_kneelNow 54 = .ok (.i2l, 1) := by decide +kernel
theorem dX12_kneelNow_55 : decode cX12_kneelNow 55 = .ok (.iconst 0, 1) := by decide +kernel
theorem dX12_kneelNow_56 : decode cX12_kneelNow 56 = .ok (.bipush 99, 2) := by decide +kernel
theorem dX12_kneelNow_58 : decode cX12_kneelNow 58 = .ok (.invokestatic 292, 3) := by decide +kernel
theorem dX12_kneelNow_61 : decode cX12_kneelNow 61 = .ok (.invokevirtual 326, 3) := by decide +kernel
theorem dX12_skateNow_0 : decode cX12_skateNow 0 = .ok (.iconst 0, 1) := by decide +kernel
theorem dX12_skateNow_1 : decode cX12_skateNow 1 = .ok (.istore_n 3, 1) := by decide +kernel
theorem dX12_skateNow_2 : decode cX12_skateNow 2 = .ok (.iload_n 3, 1) := by decide +kernel
theorem dX12_skateNow_3 : decode cX12_skateNow 3 = .ok (.aload_n 0, 1) := by decide +kernel
theorem dX12_skateNow_4 : decode cX12_skateNow 4 = .ok (.getfield 7, 3) := by decide +kernel
theorem dX12_skateNow_7 : decode cX12_skateNow 7 = .ok (.bipush 13, 2) := by decide +kernel
theorem dX12_skateNow_9 : decode cX12_skateNow 9 = .ok (.iaload, 1) := by decide +kernel
theorem dX12_skateNow_10 : decode cX12_skateNow 10 = .ok (.if_icmp .ge 51, 3) := by decide +kernel
theorem dX12_skateNow_61 : decode cX12_skateNow 61 = .ok (.return_, 1) := by decide +kernel
theorem dX12_skateNow_13 : decode cX12_skateNow 13 = .ok (.aload_n 0, 1) := by decide +kernel
theorem dX12_skateNow_14 : decode cX12_skateNow 14 = .ok (.iload_n 3, 1) := by decide +kernel
theorem dX12_skateNow_15 : decode cX12_skateNow 15 = .ok (.iconst 1, 1) := by decide +kernel
theorem dX12_skateNow_16 : decode cX12_skateNow 16 = .ok (.invokevirtual 73, 3) := by decide +kernel
theorem dX12_skateNow_19 : decode cX12_skateNow 19 = .ok (.iload_n 1, 1) := by decide +kernel
theorem dX12_skateNow_20 : decode cX12_skateNow 20 = .ok (.if_icmp .ne 35, 3) := by decide +kernel
theorem dX12_skateNow_55 : decode cX12_skateNow 55 = .ok (.iinc 3 1, 3) := by decide +kernel
theorem dX12_skateNow_58 : decode cX12_skateNow 58 = .ok (.goto (-56), 3) := by decide +kernel
theorem dX12_skateNow_23 : decode cX12_skateNow 23 = .ok (.aload_n 0, 1) := by decide +kernel
theorem dX12_skateNow_24 : decode cX12_skateNow 24 = .ok (.iload_n 3, 1) := by decide +kernel
theorem dX12_skateNow_25 : decode cX12_skateNow 25 = .ok (.iconst 2, 1) := by decide +kernel
theorem dX12_skateNow_26 : decode cX12_skateNow 26 = .ok (.invokevirtual 73, 3) := by decide +kernel
theorem dX12_skateNow_29 : decode cX12_skateNow 29 = .ok (.iload_n 2, 1) := by decide +kernel
theorem dX12_skateNow_30 : decode cX12_skateNow 30 = .ok (.if_icmp .ne 25, 3) := by decide +kernel
theorem dX12_skateNow_33 : decode cX12_skateNow 33 = .ok (.aload_n 0, 1) := by decide +kernel
theorem dX12_skateNow_34 : decode cX12_skateNow 34 = .ok (.iload_n 3, 1) := by decide +kernel
theorem dX12_skateNow_35 : decode cX12_skateNow 35 = .ok (.iconst 5, 1) := by decide +kernel
theorem dX12_skateNow_36 : decode cX12_skateNow 36 = .ok (.aload_n 0, 1) := by decide +kernel
theorem dX12_skateNow_37 : decode cX12_skateNow 37 = .ok (.iload_n 3, 1) := by decide +kernel
theorem dX12_skateNow_38 : decode cX12_skateNow 38 = .ok (.iconst 5, 1) := by decide +kernel
theorem dX12_skateNow_39 : decode cX12_skateNow 39 = .ok (.invokevirtual 73, 3) := by decide +kernel
theorem dX12_skateNow_42 : decode cX12_skateNow 42 = .ok (.bipush 30, 2) := by decide +kernel
theorem dX12_skateNow_44 : decode cX12_skateNow 44 = .ok (.iadd, 1) := by decide +kernel
theorem dX12_skateNow_45 : decode cX12_skateNow 45 = .ok (.i2l, 1) := by decide +kernel
theorem dX12_skateNow_46 : decode cX12_skateNow 46 = .ok (.iconst 0, 1) := by decide +kernel
theorem dX12_skateNow_47 : decode cX12_skateNow 47 = .ok (.bipush 99, 2) := by decide +kernel
theorem dX12_skateNow_49 : decode cX12_skateNow 49 = .ok (.invokestatic 292, 3) := by decide +kernel
theorem dX12_skateNow_52 : decode cX12_skateNow 52 = .ok (.invokevirtual 326, 3) := by decide +kernel
theorem dX12_pass_0 : decode cX12_pass 0 = .ok (.iconst 0, 1) := by decide +kernel
theorem dX12_pass_1 : decode cX12_pass 1 = .ok (.istore_n 1, 1) := by decide +kernel
theorem dX12_pass_2 : decode cX12_pass 2 = .ok (.iload_n 1, 1) := by decide +kernel
theorem dX12_pass_3 : decode cX12_pass 3 = .ok (.aload_n 0, 1) := by decide +kernel
theorem dX12_pass_4 : decode cX12_pass 4 = .ok (.getfield 7, 3) := by decide +kernel
theorem dX12_pass_7 : decode cX12_pass 7 = .ok (.iconst 0, 1) := by decide +kernel
theorem dX12_pass_8 : decode cX12_pass 8 = .ok (.iaload, 1) := by decide +kernel
theorem dX12_pass_9 : decode cX12_pass 9 = .ok (.if_icmp .ge 93, 3) := by decide +kernel
theorem dX12_pass_102 : decode cX12_pass 102 = .ok (.aload_n 0, 1) := by decide +kernel
theorem dX12_pass_103 : decode cX12_pass 103 = .ok (.getfield 7, 3) := by decide +kernel
theorem dX12_pass_106 : decode cX12_pass 106 = .ok (.bipush 10, 2) := by decide +kernel
theorem dX12_pass_108 : decode cX12_pass 108 = .ok (.dup2, 1) := by decide +kernel
theorem dX12_pass_109 : decode cX12_pass 109 = .ok (.iaload, 1) := by decide +kernel
theorem dX12_pass_110 : decode cX12_pass 110 = .ok (.iconst 1, 1) := by decide +kernel
theorem dX12_pass_111 : decode cX12_pass 111 = .ok (.iadd, 1) := by decide +kernel
theorem dX12_pass_112 : decode cX12_pass 112 = .ok (.iastore, 1) := by decide +kernel
theorem dX12_pass_113 : decode cX12_pass 113 = .ok (.aload_n 0, 1) := by decide +kernel
theorem dX12_pass_114 : decode cX12_pass 114 = .ok (.getfield 7, 3) := by decide +kernel
theorem dX12_pass_117 : decode cX12_pass 117 = .ok (.bipush 11, 2) := by decide +kernel
theorem dX12_pass_119 : decode cX12_pass 119 = .ok (.aload_n 0, 1) := by decide +kernel
theorem dX12_pass_120 : decode cX12_pass 120 = .ok (.getfield 7, 3) := by decide +kernel
theorem dX12_pass_123 : decode cX12_pass 123 = .ok (.bipush 12, 2) := by decide +kernel
theorem dX12_pass_125 : decode cX12_pass 125 = .ok (.iaload, 1) := by decide +kernel
theorem dX12_pass_126 : decode cX12_pass 126 = .ok (.bipush 10, 2) := by decide +kernel
theorem dX12_pass_128 : decode cX12_pass 128 = .ok (.irem, 1) := by decide +kernel
theorem dX12_pass_129 : decode cX12_pass 129 = .ok (.iastore, 1) := by decide +kernel
theorem dX12_pass_130 : decode cX12_pass 130 = .ok (.aload_n 0, 1) := by decide +kernel
theorem dX12_pass_131 : decode cX12_pass 131 = .ok (.invokevirtual 320, 3) := by decide +kernel
theorem cw_X12_anew : CWv yX12_anew cX12_anew 1 none 0 := ⟨⟨⟨List.mem_of_getElem? (i := 137) (by decide +kernel), by decide +kernel⟩, ⟨List.mem_of_getElem? (i := 1928) (by decide +kernel), by decide +kernel⟩, by decide +kernel⟩, ⟨List.mem_of_getElem? (i := 1927) (by decide +kernel), by decide +kernel⟩, ⟨List.mem_of_getElem? (i := 103) (by decide +kernel), by decide +kernel⟩⟩
theorem km12_320 : inW (Cond.methodLink RX12 320 yX12_anew) := ⟨List.mem_of_getElem? (i := 1925) (by decide +kernel), by decide +kernel⟩
theorem dX12_pass_134 : decode cX12_pass 134 = .ok (.return_, 1) := by decide +kernel
theorem dX12_pass_12 : decode cX12_pass 12 = .ok (.aload_n 0, 1) := by decide +kernel
theorem dX12_pass_13 : decode cX12_pass 13 = .ok (.getfield 50, 3) := by decide +kernel
theorem kf12_50 : inW (Cond.fieldLink RX12 50 "KneeOathsModel" "achedNow" "[I") := ⟨List.mem_of_getElem? (i := 1524) (by decide +kernel), by decide +kernel⟩
theorem dX12_pass_16 : decode cX12_pass 16 = .ok (.iload_n 1, 1) := by decide +kernel
theorem dX12_pass_17 : decode cX12_pass 17 = .ok (.aload_n 0, 1) := by decide +kernel
theorem dX12_pass_18 : decode cX12_pass 18 = .ok (.iload_n 1, 1) := by decide +kernel
theorem dX12_pass_19 : decode cX12_pass 19 = .ok (.invokevirtual 317, 3) := by decide +kernel
theorem cw_X12_acheOf : CWv yX12_acheOf cX12_acheOf 4 (some .int) 1 := ⟨⟨⟨List.mem_of_getElem? (i := 137) (by decide +kernel), by decide +kernel⟩, ⟨List.mem_of_getElem? (i := 1920) (by decide +kernel), by decide +kernel⟩, by decide +kernel⟩, ⟨List.mem_of_getElem? (i := 1919) (by decide +kernel), by decide +kernel⟩, ⟨List.mem_of_getElem? (i := 101) (by decide +kernel), by decide +kernel⟩⟩
theorem km12_317 : inW (Cond.methodLink RX12 317 yX12_acheOf) := ⟨List.mem_of_getElem? (i := 1917) (by decide +kernel), by decide +kernel⟩
theorem dX12_pass_22 : decode cX12_pass 22 = .ok (.iastore, 1) := by decide +kernel
theorem dX12_pass_23 : decode cX12_pass 23 = .ok (.aload_n 0, 1) := by decide +kernel
theorem dX12_pass_24 : decode cX12_pass 24 = .ok (.getfield 50, 3) := by decide +kernel
theorem dX12_pass_27 : decode cX12_pass 27 = .ok (.iload_n 1, 1) := by decide +kernel
theorem dX12_pass_28 : decode cX12_pass 28 = .ok (.iaload, 1) := by decide +kernel
theorem dX12_pass_29 : decode cX12_pass 29 = .ok (.ifCond .eq 67, 3) := by decide +kernel
theorem dX12_pass_96 : decode cX12_pass 96 = .ok (.iinc 1 1, 3) := by decide +kernel
theorem dX12_pass_99 : decode cX12_pass 99 = .ok (.goto (-97), 3) := by decide +kernel
theorem dX12_pass_32 : decode cX12_pass 32 = .ok (.aload_n 0, 1) := by decide +kernel
theorem dX12_pass_33 : decode cX12_pass 33 = .ok (.getfield 46, 3) := by decide +kernel
theorem kf12_46 : inW (Cond.fieldLink RX12 46 "KneeOathsModel" "isWritten" "Z") := ⟨List.mem_of_getElem? (i := 1523) (by decide +kernel), by decide +kernel⟩
theorem dX12_pass_36 : decode cX12_pass 36 = .ok (.ifCond .ne 6, 3) := by decide +kernel
theorem dX12_pass_42 : decode cX12_pass 42 = .ok (.aload_n 0, 1) := by decide +kernel
theorem dX12_pass_43 : decode cX12_pass 43 = .ok (.getfield 7, 3) := by decide +kernel
theorem dX12_pass_46 : decode cX12_pass 46 = .ok (.sipush 3328, 3) := by decide +kernel
theorem dX12_pass_49 : decode cX12_pass 49 = .ok (.aload_n 0, 1) := by decide +kernel
theorem dX12_pass_50 : decode cX12_pass 50 = .ok (.getfield 7, 3) := by decide +kernel
theorem dX12_pass_53 : decode cX12_pass 53 = .ok (.bipush 14, 2) := by decide +kernel
theorem dX12_pass_55 : decode cX12_pass 55 = .ok (.iaload, 1) := by decide +kernel
theorem dX12_pass_56 : decode cX12_pass 56 = .ok (.sipush 7240, 3) := by decide +kernel
theorem dX12_pass_59 : decode cX12_pass 59 = .ok (.irem, 1) := by decide +kernel
theorem dX12_pass_60 : decode cX12_pass 60 = .ok (.iadd, 1) := by decide +kernel
theorem dX12_pass_61 : decode cX12_pass 61 = .ok (.aload_n 0, 1) := by decide +kernel
theorem dX12_pass_62 : decode cX12_pass 62 = .ok (.getfield 7, 3) := by decide +kernel
theorem dX12_pass_65 : decode cX12_pass 65 = .ok (.bipush 10, 2) := by decide +kernel
theorem dX12_pass_67 : decode cX12_pass 67 = .ok (.iaload, 1) := by decide +kernel
theorem dX12_pass_68 : decode cX12_pass 68 = .ok (.bipush 8, 2) := by decide +kernel
theorem dX12_pass_70 : decode cX12_pass 70 = .ok (.imul, 1) := by decide +kernel
theorem dX12_pass_71 : decode cX12_pass 71 = .ok (.iload_n 1, 1) := by decide +kernel
theorem dX12_pass_72 : decode cX12_pass 72 = .ok (.iadd, 1) := by decide +kernel
theorem dX12_pass_73 : decode cX12_pass 73 = .ok (.sipush 2000, 3) := by decide +kernel
theorem dX12_pass_76 : decode cX12_pass 76 = .ok (.imul, 1) := by decide +kernel
theorem dX12_pass_77 : decode cX12_pass 77 = .ok (.aload_n 0, 1) := by decide +kernel
theorem dX12_pass_78 : decode cX12_pass 78 = .ok (.getfield 50, 3) := by decide +kernel
theorem dX12_pass_81 : decode cX12_pass 81 = .ok (.iload_n 1, 1) := by decide +kernel
theorem dX12_pass_82 : decode cX12_pass 82 = .ok (.iaload, 1) := by decide +kernel
theorem dX12_pass_83 : decode cX12_pass 83 = .ok (.iadd, 1) := by decide +kernel
theorem dX12_pass_84 : decode cX12_pass 84 = .ok (.iastore, 1) := by decide +kernel
theorem dX12_pass_85 : decode cX12_pass 85 = .ok (.aload_n 0, 1) := by decide +kernel
theorem dX12_pass_86 : decode cX12_pass 86 = .ok (.getfield 7, 3) := by decide +kernel
theorem dX12_pass_89 : decode cX12_pass 89 = .ok (.bipush 14, 2) := by decide +kernel
theorem dX12_pass_91 : decode cX12_pass 91 = .ok (.dup2, 1) := by decide +kernel
theorem dX12_pass_92 : decode cX12_pass 92 = .ok (.iaload, 1) := by decide +kernel
theorem dX12_pass_93 : decode cX12_pass 93 = .ok (.iconst 1, 1) := by decide +kernel
theorem dX12_pass_94 : decode cX12_pass 94 = .ok (.iadd, 1) := by decide +kernel
theorem dX12_pass_95 : decode cX12_pass 95 = .ok (.iastore, 1) := by decide +kernel
theorem dX12_pass_39 : decode cX12_pass 39 = .ok (.goto 57, 3) := by decide +kernel
section BBR
variable {sl pl oh dh s2 oh2 dh2 pl2 : Int} {w : Int × Int}
theorem BB_s (h : BBp sl pl oh dh w) (q : s2 ≤ 6) : BBp s2 pl oh dh w := by unfold BBp at *; omega
theorem BB_oh (h : BBp sl pl oh dh w) (q : oh2 ≤ 14) : BBp sl pl oh2 dh w := by unfold BBp at *; omega
theorem BB_dh (h : BBp sl pl oh dh w) (q : dh2 ≤ 9999) : BBp sl pl oh dh2 w := by unfold BBp at *; omega
theorem BB_pl (h : BBp sl pl oh dh w) (q : 0 ≤ pl2) : BBp sl pl2 oh dh w := by unfold BBp at *; omega
end BBR
set_option maxHeartbeats 4000000 in
set_option maxRecDepth 100000 in
theorem x_X12_canSwear {l : Launch} {G : GG}  {L : List Nat} {f : HF} {ad : Nat → Nat → Nat} {sl : Int} {pl : Int} {oh : Int} {dh : Int} {w : Int × Int} {pi : (Nat → Int32) → Prop} {px : (Nat → Int32) → Prop} {pa : (Nat → Int32) → Prop} {i1 i2 : Int32} (I : SH (spM (IA sl pl oh dh w) pi px pa) nnM G ad L f) (hB : BBp sl pl oh dh w) : PMp l yX12_canSwear cX12_canSwear 3 .boolean 2 0 0 G [.ref (ad 0 0), .int i1, .int i2] L f (fun r => (bn 0 1 r ∧ (¬ r = 0 → bn 0 5 i1) ∧ (¬ r = 0 → bn 0 5 i2) ∧ (¬ r = 0 → SH (spM (IA sl pl 13 dh w) pi px pa) nnM G ad L f))) := by
  refine PMi.of (post := fun r L1 f1 => ((bn 0 1 r ∧ (¬ r = 0 → bn 0 5 i1) ∧ (¬ r = 0 → bn 0 5 i2) ∧ (¬ r = 0 → SH (spM (IA sl pl 13 dh w) pi px pa) nnM G ad L f))) ∧ L1 = L ∧ f1 = f) (own := RX12) (by decide) rfl (Nat.le_of_ble_eq_true rfl) (fun sz p e s m args below meth c A ls hA1 hname S Y hl => ?_)
  have hx := S.hx
  have hb := S.hb
  have hl : lv_has ls 3 [(0, .ref (ad 0 0)), (1, .int i1), (2, .int i2)] := hl
  refine lv_aload_n hx hb dX12_canSwear_0 rfl (lv_at hl 0 rfl) ?_
  refine lv_iload_n hx hb dX12_canSwear_1 rfl (lv_at hl 1 rfl) ?_
  refine cVp (As := [.int i1]) (rest := []) S Y (x_X12_isOne (l := l) I hB) cw_X12_isOne km12_323 (I.opo (k := 0) (j := 0) (by decide) rfl).choose_spec.1 ok_X12.1 rfl rfl ⟨Nat.le_of_ble_eq_true rfl, Nat.le_of_ble_eq_true rfl⟩ hl.1 rfl (Nat.le_of_ble_eq_true rfl) ⟨Nat.le_of_ble_eq_true rfl, Nat.le_of_ble_eq_true rfl⟩ dX12_canSwear_2 (fun r_16348 H locs er_16348 Y => ?_)
  refine lv_if_eq (tgt := 37) hx hb dX12_canSwear_5 (by decide) (fun c_16349 => ?_) (fun c_16349 => ?_)
  · have B_16350 : bn 0 0 r_16348 := bn_w (bn_eq c_16349 (show bn 0 0 (0 : Int32) from bn_k (by decide))) (by decide)
    refine lv_iconst (v := 0) hx hb dX12_canSwear_37 (by decide) ?_
    exact prI (post := fun r L1 f1 => ((bn 0 1 r ∧ (¬ r = 0 → bn 0 5 i1) ∧ (¬ r = 0 → bn 0 5 i2) ∧ (¬ r = 0 → SH (spM (IA sl pl 13 dh w) pi px pa) nnM G ad L f))) ∧ L1 = L ∧ f1 = f) S Y rfl (by decide) (by decide) hA1 ⟨⟨bn_k (by decide), fun h => absurd rfl h, fun h => absurd rfl h, fun h => absurd rfl h⟩, rfl, rfl⟩ dX12_canSwear_38
  · have B_16351 : bn 0 5 i1 := bn_w (bn_i (bn_any i1) (er_16348.2 c_16349)) (by decide)
    have B_16352 : bn 1 1 r_16348 := bn_w (bn_nel c_16349 er_16348.1 (show bn 0 0 (0 : Int32) from bn_k (by decide))) (by decide)
    refine lv_aload_n hx hb dX12_canSwear_8 rfl (lv_at hl 0 rfl) ?_
    refine lv_iload_n hx hb dX12_canSwear_9 rfl (lv_at hl 2 rfl) ?_
    refine cVp (As := [.int i2]) (rest := []) S Y (x_X12_isOne (l := l) I hB) cw_X12_isOne km12_323 (I.opo (k := 0) (j := 0) (by decide) rfl).choose_spec.1 ok_X12.1 rfl rfl ⟨Nat.le_of_ble_eq_true rfl, Nat.le_of_ble_eq_true rfl⟩ hl.1 rfl (Nat.le_of_ble_eq_true rfl) ⟨Nat.le_of_ble_eq_true rfl, Nat.le_of_ble_eq_true rfl⟩ dX12_canSwear_10 (fun r_16353 H locs er_16353 Y => ?_)
    refine lv_if_eq (tgt := 37) hx hb dX12_canSwear_13 (by decide) (fun c_16354 => ?_) (fun c_16354 => ?_)
    · have B_16355 : bn 0 0 r_16353 := bn_w (bn_eq c_16354 (show bn 0 0 (0 : Int32) from bn_k (by decide))) (by decide)
      refine lv_iconst (v := 0) hx hb dX12_canSwear_37 (by decide) ?_
      exact prI (post := fun r L1 f1 => ((bn 0 1 r ∧ (¬ r = 0 → bn 0 5 i1) ∧ (¬ r = 0 → bn 0 5 i2) ∧ (¬ r = 0 → SH (spM (IA sl pl 13 dh w) pi px pa) nnM G ad L f))) ∧ L1 = L ∧ f1 = f) S Y rfl (by decide) (by decide) hA1 ⟨⟨bn_k (by decide), fun h => absurd rfl h, fun h => absurd rfl h, fun h => absurd rfl h⟩, rfl, rfl⟩ dX12_canSwear_38
    · have B_16356 : bn 0 5 i2 := bn_w (bn_i (bn_any i2) (er_16353.2 c_16354)) (by decide)
      have B_16357 : bn 1 1 r_16353 := bn_w (bn_nel c_16354 er_16353.1 (show bn 0 0 (0 : Int32) from bn_k (by decide))) (by decide)
      refine lv_iload_n hx hb dX12_canSwear_16 rfl (lv_at hl 1 rfl) ?_
      refine lv_iload_n hx hb dX12_canSwear_17 rfl (lv_at hl 2 rfl) ?_
      refine lv_icmp_eq (tgt := 37) hx hb dX12_canSwear_18 (by decide) (fun c_16358 => ?_) (fun c_16358 => ?_)
      · refine lv_iconst (v := 0) hx hb dX12_canSwear_37 (by decide) ?_
        exact prI (post := fun r L1 f1 => ((bn 0 1 r ∧ (¬ r = 0 → bn 0 5 i1) ∧ (¬ r = 0 → bn 0 5 i2) ∧ (¬ r = 0 → SH (spM (IA sl pl 13 dh w) pi px pa) nnM G ad L f))) ∧ L1 = L ∧ f1 = f) S Y rfl (by decide) (by decide) hA1 ⟨⟨bn_k (by decide), fun h => absurd rfl h, fun h => absurd rfl h, fun h => absurd rfl h⟩, rfl, rfl⟩ dX12_canSwear_38
      · refine lv_aload_n hx hb dX12_canSwear_21 rfl (lv_at hl 0 rfl) ?_
        obtain ⟨v_16359, v_16361, v_16363, v_16365, v_16367, v_16369, v_16371, v_16373, v_16374, v_16376, v_16378, v_16380, v_16382, v_16384, v_16386, v_16388, v_16390, v_16392, p_ad_0_0, b_16360, b_16362, b_16364, b_16366, b_16368, b_16370, b_16372, b_16375, b_16377, b_16379, b_16381, b_16383, b_16385, b_16387, b_16389, b_16391, b_16393⟩ := opnM_0 (j := 0) I (by decide)
        have p_ad_0_0 : pt L f (ad 0 0) (.inr (12, [.ref (ad 1 0), .ref (ad 2 0), .ref (ad 3 0), .ref (ad 4 0), .int v_16359, .int v_16361, .int v_16363, .int v_16365, .int v_16367, .int v_16369, .int v_16371, .long v_16373, .int v_16374, .int v_16376, .int v_16378, .ref (ad 5 0), .ref (ad 6 0), .int v_16380, .int v_16382, .int v_16384, .int v_16386, .int v_16388, .ref (ad 7 0), .ref (ad 8 0), .ref (ad 9 0), .int v_16390, .ref (ad 10 0), .ref (ad 11 0), .ref (ad 12 0), .ref (ad 13 0), .int v_16392, .ref (ad 14 0)])) := p_ad_0_0
        refine pg_get S Y ok_X12 0 (by decide) kf12_7 (v := .ref (ad 1 0)) p_ad_0_0 rfl dX12_canSwear_22 ?_
        refine lv_bipush (v := 13) hx hb dX12_canSwear_25 (by decide) ?_
        obtain ⟨g_16394, p_ad_1_0, o_16395⟩ := I.opi (k := 1) (j := 0) (by decide) rfl
        have p_ad_1_0 : pt L f (ad 1 0) (.inl (G.2 0, 10568, .inl g_16394)) := p_ad_1_0
        obtain ⟨v_16396, ev_16396⟩ : ∃ z, z = g_16394 (13 : Int32).toNatClampNeg := ⟨_, rfl⟩
        refine pg_iald S Y (v := v_16396) p_ad_1_0 (by unfold vp_in; decide) ev_16396.symm dX12_canSwear_27 ?_
        have bv_16396 : bn 0 14 v_16396 := bn_eq ev_16396 (bn_w (a' := 0) (b' := 14) (IA_13 o_16395) ⟨by decide, by have h9 := hB; unfold BBp at h9; omega⟩)
        refine lv_bipush (v := 14) hx hb dX12_canSwear_28 (by decide) ?_
        refine lv_icmp_ge (tgt := 37) hx hb dX12_canSwear_30 (by decide) (fun c_16397 => ?_) (fun c_16397 => ?_)
        · have B_16398 : bn 14 14 v_16396 := bn_w (bn_ler c_16397 (show bn 14 14 (14 : Int32) from bn_k (by decide)) bv_16396) (by decide)
          refine lv_iconst (v := 0) hx hb dX12_canSwear_37 (by decide) ?_
          exact prI (post := fun r L1 f1 => ((bn 0 1 r ∧ (¬ r = 0 → bn 0 5 i1) ∧ (¬ r = 0 → bn 0 5 i2) ∧ (¬ r = 0 → SH (spM (IA sl pl 13 dh w) pi px pa) nnM G ad L f))) ∧ L1 = L ∧ f1 = f) S Y rfl (by decide) (by decide) hA1 ⟨⟨bn_k (by decide), fun h => absurd rfl h, fun h => absurd rfl h, fun h => absurd rfl h⟩, rfl, rfl⟩ dX12_canSwear_38
        · have B_16399 : bn 0 13 v_16396 := bn_w (bn_gtr c_16397 (show bn 14 14 (14 : Int32) from bn_k (by decide)) bv_16396) (by decide)
          refine lv_iconst (v := 1) hx hb dX12_canSwear_33 (by decide) ?_
          refine lv_goto (tgt := 38) hx hb dX12_canSwear_34 (by decide) ?_
          exact prI (post := fun r L1 f1 => ((bn 0 1 r ∧ (¬ r = 0 → bn 0 5 i1) ∧ (¬ r = 0 → bn 0 5 i2) ∧ (¬ r = 0 → SH (spM (IA sl pl 13 dh w) pi px pa) nnM G ad L f))) ∧ L1 = L ∧ f1 = f) S Y rfl (by decide) (by decide) hA1 ⟨⟨bn_k (by decide), fun _ => bn_w B_16351 (by decide), fun _ => bn_w B_16356 (by decide), fun _ => by have o_16400 : (IA sl pl 13 dh w) g_16394 := (IA_oh o_16395 (by rw [show g_16394 13 = v_16396 from ev_16396.symm]; exact bn_w B_16399 (by decide))); have I := I.castS (sp' := spM (IA sl pl 13 dh w) pi px pa) (k := 1) (j := 0) (by decide) p_ad_1_0 (okE_a (g := g_16394) o_16400) pAC; exact I⟩, rfl, rfl⟩ dX12_canSwear_38
set_option maxHeartbeats 4000000 in
set_option maxRecDepth 100000 in
theorem x_X12_swearNow {l : Launch} {G : GG}  {L : List Nat} {f : HF} {ad : Nat → Nat → Nat} {sl : Int} {pl : Int} {dh : Int} {w : Int × Int} {pi : (Nat → Int32) → Prop} {px : (Nat → Int32) → Prop} {pa : (Nat → Int32) → Prop} {i1 i2 i3 i4 : Int32} (I : SH (spM (IA sl pl 13 dh w) pi px pa) nnM G ad L f) (hB : BBp sl pl 13 dh w) (b_i2 : bn 0 5 i2) : PMi l yX12_swearNow cX12_swearNow 6 .int 1 0 0 G [.ref (ad 0 0), .int i1, .int i2, .int i3, .int i4] L f (fun r L1 f1 => SH (spM (IA sl pl 14 dh w) pi px pa) nnM G ad L1 f1) := by
  refine PMi.of (post := fun r L1 f1 => SH (spM (IA sl pl 14 dh w) pi px pa) nnM G ad L1 f1) (own := RX12) (by decide) rfl (Nat.le_of_ble_eq_true rfl) (fun sz p e s m args below meth c A ls hA1 hname S Y hl => ?_)
  have hx := S.hx
  have hb := S.hb
  have hl : lv_has ls 6 [(0, .ref (ad 0 0)), (1, .int i1), (2, .int i2), (3, .int i3), (4, .int i4)] := hl
  refine lv_aload_n hx hb dX12_swearNow_0 rfl (lv_at hl 0 rfl) ?_
  obtain ⟨v_16667, v_16669, v_16671, v_16673, v_16675, v_16677, v_16679, v_16681, v_16682, v_16684, v_16686, v_16688, v_16690, v_16692, v_16694, v_16696, v_16698, v_16700, p_ad_0_0, b_16668, b_16670, b_16672, b_16674, b_16676, b_16678, b_16680, b_16683, b_16685, b_16687, b_16689, b_16691, b_16693, b_16695, b_16697, b_16699, b_16701⟩ := opnM_0 (j := 0) I (by decide)
  have p_ad_0_0 : pt L f (ad 0 0) (.inr (12, [.ref (ad 1 0), .ref (ad 2 0), .ref (ad 3 0), .ref (ad 4 0), .int v_16667, .int v_16669, .int v_16671, .int v_16673, .int v_16675, .int v_16677, .int v_16679, .long v_16681, .int v_16682, .int v_16684, .int v_16686, .ref (ad 5 0), .ref (ad 6 0), .int v_16688, .int v_16690, .int v_16692, .int v_16694, .int v_16696, .ref (ad 7 0), .ref (ad 8 0), .ref (ad 9 0), .int v_16698, .ref (ad 10 0), .ref (ad 11 0), .ref (ad 12 0), .ref (ad 13 0), .int v_16700, .ref (ad 14 0)])) := p_ad_0_0
  refine pg_get S Y ok_X12 0 (by decide) kf12_7 (v := .ref (ad 1 0)) p_ad_0_0 rfl dX12_swearNow_1 ?_
  refine lv_bipush (v := 13) hx hb dX12_swearNow_4 (by decide) ?_
  obtain ⟨g_16702, p_ad_1_0, o_16703⟩ := I.opi (k := 1) (j := 0) (by decide) rfl
  have p_ad_1_0 : pt L f (ad 1 0) (.inl (G.2 0, 10568, .inl g_16702)) := p_ad_1_0
  obtain ⟨v_16704, ev_16704⟩ : ∃ z, z = g_16702 (13 : Int32).toNatClampNeg := ⟨_, rfl⟩
  refine pg_iald S Y (v := v_16704) p_ad_1_0 (by unfold vp_in; decide) ev_16704.symm dX12_swearNow_6 ?_
  have bv_16704 : bn 0 13 v_16704 := bn_eq ev_16704 (IA_13 o_16703)
  refine lv_istore (lv' := [(5, .int v_16704), (0, .ref (ad 0 0)), (1, .int i1), (2, .int i2), (3, .int i3), (4, .int i4)]) hx hb dX12_swearNow_7 hl (by decide) rfl (fun ls hl => ?_)
  refine lv_aload_n hx hb dX12_swearNow_9 rfl (lv_at hl 1 rfl) ?_
  refine lv_iload hx hb dX12_swearNow_10 (lv_at hl 0 rfl) ?_
  refine lv_iconst (v := 0) hx hb dX12_swearNow_12 (by decide) ?_
  refine lv_iload_n hx hb dX12_swearNow_13 rfl (lv_at hl 2 rfl) ?_
  refine cVv (As := [.int v_16704, .int 0, .int i1]) (rest := []) S Y (x_X12_put (l := l) I hB (bn_w bv_16704 (by decide)) (bn_w (show bn 0 0 (0 : Int32) from bn_k (by decide)) (by decide)) (fun h => absurd h (by decide))) cw_X12_put km12_326 p_ad_0_0 ok_X12.1 rfl rfl ⟨Nat.le_of_ble_eq_true rfl, Nat.le_of_ble_eq_true rfl⟩ hl.1 rfl (Nat.le_of_ble_eq_true rfl) ⟨Nat.le_of_ble_eq_true rfl, Nat.le_of_ble_eq_true rfl⟩ dX12_swearNow_14 (fun L_16705 f_16706 H locs I Y => ?_)
  refine lv_aload_n hx hb dX12_swearNow_17 rfl (lv_at hl 1 rfl) ?_
  refine lv_iload hx hb dX12_swearNow_18 (lv_at hl 0 rfl) ?_
  refine lv_iconst (v := 1) hx hb dX12_swearNow_20 (by decide) ?_
  refine lv_iload_n hx hb dX12_swearNow_21 rfl (lv_at hl 3 rfl) ?_
  refine cVv (As := [.int v_16704, .int 1, .int i2]) (rest := []) S Y (x_X12_put (l := l) I hB (bn_w bv_16704 (by decide)) (bn_w (show bn 1 1 (1 : Int32) from bn_k (by decide)) (by decide)) (fun _ => bn_w b_i2 (by decide))) cw_X12_put km12_326 (I.opo (k := 0) (j := 0) (by decide) rfl).choose_spec.1 ok_X12.1 rfl rfl ⟨Nat.le_of_ble_eq_true rfl, Nat.le_of_ble_eq_true rfl⟩ hl.1 rfl (Nat.le_of_ble_eq_true rfl) ⟨Nat.le_of_ble_eq_true rfl, Nat.le_of_ble_eq_true rfl⟩ dX12_swearNow_22 (fun L_16707 f_16708 H locs I Y => ?_)
  refine lv_aload_n hx hb dX12_swearNow_25 rfl (lv_at hl 1 rfl) ?_
  refine lv_iload hx hb dX12_swearNow_26 (lv_at hl 0 rfl) ?_
  refine lv_iconst (v := 2) hx hb dX12_swearNow_28 (by decide) ?_
  refine lv_iload_n hx hb dX12_swearNow_29 rfl (lv_at hl 4 rfl) ?_
  refine cVv (As := [.int v_16704, .int 2, .int i3]) (rest := []) S Y (x_X12_put (l := l) I hB (bn_w bv_16704 (by decide)) (bn_w (show bn 2 2 (2 : Int32) from bn_k (by decide)) (by decide)) (fun h => absurd h (by decide))) cw_X12_put km12_326 (I.opo (k := 0) (j := 0) (by decide) rfl).choose_spec.1 ok_X12.1 rfl rfl ⟨Nat.le_of_ble_eq_true rfl, Nat.le_of_ble_eq_true rfl⟩ hl.1 rfl (Nat.le_of_ble_eq_true rfl) ⟨Nat.le_of_ble_eq_true rfl, Nat.le_of_ble_eq_true rfl⟩ dX12_swearNow_30 (fun L_16709 f_16710 H locs I Y => ?_)
  refine lv_aload_n hx hb dX12_swearNow_33 rfl (lv_at hl 1 rfl) ?_
  refine lv_iload hx hb dX12_swearNow_34 (lv_at hl 0 rfl) ?_
  refine lv_iconst (v := 3) hx hb dX12_swearNow_36 (by decide) ?_
  refine lv_iload hx hb dX12_swearNow_37 (lv_at hl 5 rfl) ?_
  refine cVv (As := [.int v_16704, .int 3, .int i4]) (rest := []) S Y (x_X12_put (l := l) I hB (bn_w bv_16704 (by decide)) (bn_w (show bn 3 3 (3 : Int32) from bn_k (by decide)) (by decide)) (fun h => absurd h (by decide))) cw_X12_put km12_326 (I.opo (k := 0) (j := 0) (by decide) rfl).choose_spec.1 ok_X12.1 rfl rfl ⟨Nat.le_of_ble_eq_true rfl, Nat.le_of_ble_eq_true rfl⟩ hl.1 rfl (Nat.le_of_ble_eq_true rfl) ⟨Nat.le_of_ble_eq_true rfl, Nat.le_of_ble_eq_true rfl⟩ dX12_swearNow_39 (fun L_16711 f_16712 H locs I Y => ?_)
  refine lv_aload_n hx hb dX12_swearNow_42 rfl (lv_at hl 1 rfl) ?_
  refine lv_iload hx hb dX12_swearNow_43 (lv_at hl 0 rfl) ?_
  refine lv_iconst (v := 4) hx hb dX12_swearNow_45 (by decide) ?_
  refine lv_iconst (v := 0) hx hb dX12_swearNow_46 (by decide) ?_
  refine cVv (As := [.int v_16704, .int 4, .int 0]) (rest := []) S Y (x_X12_put (l := l) I hB (bn_w bv_16704 (by decide)) (bn_w (show bn 4 4 (4 : Int32) from bn_k (by decide)) (by decide)) (fun h => absurd h (by decide))) cw_X12_put km12_326 (I.opo (k := 0) (j := 0) (by decide) rfl).choose_spec.1 ok_X12.1 rfl rfl ⟨Nat.le_of_ble_eq_true rfl, Nat.le_of_ble_eq_true rfl⟩ hl.1 rfl (Nat.le_of_ble_eq_true rfl) ⟨Nat.le_of_ble_eq_true rfl, Nat.le_of_ble_eq_true rfl⟩ dX12_swearNow_47 (fun L_16713 f_16714 H locs I Y => ?_)
  refine lv_aload_n hx hb dX12_swearNow_50 rfl (lv_at hl 1 rfl) ?_
  refine lv_iload hx hb dX12_swearNow_51 (lv_at hl 0 rfl) ?_
  refine lv_iconst (v := 5) hx hb dX12_swearNow_53 (by decide) ?_
  refine lv_iconst (v := 0) hx hb dX12_swearNow_54 (by decide) ?_
  refine cVv (As := [.int v_16704, .int 5, .int 0]) (rest := []) S Y (x_X12_put (l := l) I hB (bn_w bv_16704 (by decide)) (bn_w (show bn 5 5 (5 : Int32) from bn_k (by decide)) (by decide)) (fun h => absurd h (by decide))) cw_X12_put km12_326 (I.opo (k := 0) (j := 0) (by decide) rfl).choose_spec.1 ok_X12.1 rfl rfl ⟨Nat.le_of_ble_eq_true rfl, Nat.le_of_ble_eq_true rfl⟩ hl.1 rfl (Nat.le_of_ble_eq_true rfl) ⟨Nat.le_of_ble_eq_true rfl, Nat.le_of_ble_eq_true rfl⟩ dX12_swearNow_55 (fun L_16715 f_16716 H locs I Y => ?_)
  refine lv_aload_n hx hb dX12_swearNow_58 rfl (lv_at hl 1 rfl) ?_
  refine lv_iload hx hb dX12_swearNow_59 (lv_at hl 0 rfl) ?_
  refine lv_bipush (v := 6) hx hb dX12_swearNow_61 (by decide) ?_
  refine lv_aload_n hx hb dX12_swearNow_63 rfl (lv_at hl 1 rfl) ?_
  obtain ⟨v_16717, v_16719, v_16721, v_16723, v_16725, v_16727, v_16729, v_16731, v_16732, v_16734, v_16736, v_16738, v_16740, v_16742, v_16744, v_16746, v_16748, v_16750, p_ad_0_0, b_16718, b_16720, b_16722, b_16724, b_16726, b_16728, b_16730, b_16733, b_16735, b_16737, b_16739, b_16741, b_16743, b_16745, b_16747, b_16749, b_16751⟩ := opnM_0 (j := 0) I (by decide)
  have p_ad_0_0 : pt L_16715 f_16716 (ad 0 0) (.inr (12, [.ref (ad 1 0), .ref (ad 2 0), .ref (ad 3 0), .ref (ad 4 0), .int v_16717, .int v_16719, .int v_16721, .int v_16723, .int v_16725, .int v_16727, .int v_16729, .long v_16731, .int v_16732, .int v_16734, .int v_16736, .ref (ad 5 0), .ref (ad 6 0), .int v_16738, .int v_16740, .int v_16742, .int v_16744, .int v_16746, .ref (ad 7 0), .ref (ad 8 0), .ref (ad 9 0), .int v_16748, .ref (ad 10 0), .ref (ad 11 0), .ref (ad 12 0), .ref (ad 13 0), .int v_16750, .ref (ad 14 0)])) := p_ad_0_0
  refine pg_get S Y ok_X12 0 (by decide) kf12_7 (v := .ref (ad 1 0)) p_ad_0_0 rfl dX12_swearNow_64 ?_
  refine lv_bipush (v := 10) hx hb dX12_swearNow_67 (by decide) ?_
  obtain ⟨g_16752, p_ad_1_0, o_16753⟩ := I.opi (k := 1) (j := 0) (by decide) rfl
  have p_ad_1_0 : pt L_16715 f_16716 (ad 1 0) (.inl (G.2 0, 10568, .inl g_16752)) := p_ad_1_0
  obtain ⟨v_16754, ev_16754⟩ : ∃ z, z = g_16752 (10 : Int32).toNatClampNeg := ⟨_, rfl⟩
  refine pg_iald S Y (v := v_16754) p_ad_1_0 (by unfold vp_in; decide) ev_16754.symm dX12_swearNow_69 ?_
  have bv_16754 : bn 0 9999 v_16754 := bn_eq ev_16754 (bn_w (a' := 0) (b' := 9999) (IA_10 o_16753) ⟨by decide, by have h9 := hB; unfold BBp at h9; omega⟩)
  refine cVv (As := [.int v_16704, .int 6, .int v_16754]) (rest := []) S Y (x_X12_put (l := l) I hB (bn_w bv_16704 (by decide)) (bn_w (show bn 6 6 (6 : Int32) from bn_k (by decide)) (by decide)) (fun h => absurd h (by decide))) cw_X12_put km12_326 p_ad_0_0 ok_X12.1 rfl rfl ⟨Nat.le_of_ble_eq_true rfl, Nat.le_of_ble_eq_true rfl⟩ hl.1 rfl (Nat.le_of_ble_eq_true rfl) ⟨Nat.le_of_ble_eq_true rfl, Nat.le_of_ble_eq_true rfl⟩ dX12_swearNow_70 (fun L_16755 f_16756 H locs I Y => ?_)
  refine lv_aload_n hx hb dX12_swearNow_73 rfl (lv_at hl 1 rfl) ?_
  obtain ⟨v_16757, v_16759, v_16761, v_16763, v_16765, v_16767, v_16769, v_16771, v_16772, v_16774, v_16776, v_16778, v_16780, v_16782, v_16784, v_16786, v_16788, v_16790, p_ad_0_0, b_16758, b_16760, b_16762, b_16764, b_16766, b_16768, b_16770, b_16773, b_16775, b_16777, b_16779, b_16781, b_16783, b_16785, b_16787, b_16789, b_16791⟩ := opnM_0 (j := 0) I (by decide)
  have p_ad_0_0 : pt L_16755 f_16756 (ad 0 0) (.inr (12, [.ref (ad 1 0), .ref (ad 2 0), .ref (ad 3 0), .ref (ad 4 0), .int v_16757, .int v_16759, .int v_16761, .int v_16763, .int v_16765, .int v_16767, .int v_16769, .long v_16771, .int v_16772, .int v_16774, .int v_16776, .ref (ad 5 0), .ref (ad 6 0), .int v_16778, .int v_16780, .int v_16782, .int v_16784, .int v_16786, .ref (ad 7 0), .ref (ad 8 0), .ref (ad 9 0), .int v_16788, .ref (ad 10 0), .ref (ad 11 0), .ref (ad 12 0), .ref (ad 13 0), .int v_16790, .ref (ad 14 0)])) := p_ad_0_0
  refine pg_get S Y ok_X12 0 (by decide) kf12_7 (v := .ref (ad 1 0)) p_ad_0_0 rfl dX12_swearNow_74 ?_
  refine lv_bipush (v := 13) hx hb dX12_swearNow_77 (by decide) ?_
  refine lv_dup2_11 hx hb dX12_swearNow_79 rfl rfl ?_
  obtain ⟨g_16792, p_ad_1_0, o_16793⟩ := I.opi (k := 1) (j := 0) (by decide) rfl
  have p_ad_1_0 : pt L_16755 f_16756 (ad 1 0) (.inl (G.2 0, 10568, .inl g_16792)) := p_ad_1_0
  obtain ⟨v_16794, ev_16794⟩ : ∃ z, z = g_16792 (13 : Int32).toNatClampNeg := ⟨_, rfl⟩
  refine pg_iald S Y (v := v_16794) p_ad_1_0 (by unfold vp_in; decide) ev_16794.symm dX12_swearNow_80 ?_
  have bv_16794 : bn 0 13 v_16794 := bn_eq ev_16794 (IA_13 o_16793)
  refine lv_iconst (v := 1) hx hb dX12_swearNow_81 (by decide) ?_
  refine lv_iadd hx hb dX12_swearNow_82 ?_
  refine lv_topi (fun x_16795 ex_16795 => ?_)
  refine pg_iast S Y p_ad_1_0 (by unfold vp_in; decide) dX12_swearNow_83 (fun f_16797 H locs ef_16797 Y => ?_)
  obtain ⟨g_16796, eg_16796⟩ : ∃ z, z = upd (g_16792) (13 : Int32).toNatClampNeg x_16795 := ⟨_, rfl⟩
  rw [← eg_16796] at ef_16797
  have p_ad_0_0 := p_ad_0_0.up ef_16797 (I.ne (k := 0) (j := 0) (k' := 1) (j' := 0) (by decide) (by decide) (Or.inl (by decide)))
  have p_ad_1_0 := p_ad_1_0.me ef_16797
  have o_16798 : (IA sl pl 14 dh w) g_16796 := (by rw [eg_16796]; exact IA_oc o_16793 (bn_w (bn_eq ex_16795 (bn_add bv_16794 (show bn 1 1 (1 : Int32) from bn_k (by decide)) (by decide))) (by decide)))
  have I := I.upS (sp' := spM (IA sl pl 14 dh w) pi px pa) (k := 1) (j := 0) (by decide) ef_16797 (okE_a (g := g_16796) o_16798) pAC
  have q_16799 : g_16796 (13 : Int32).toNatClampNeg = x_16795 := by rw [eg_16796]; exact pk_us
  refine lv_iload hx hb dX12_swearNow_84 (lv_at hl 0 rfl) ?_
  exact prI (post := fun r L1 f1 => SH (spM (IA sl pl 14 dh w) pi px pa) nnM G ad L1 f1) S Y rfl (by decide) (by decide) hA1 I dX12_swearNow_86
set_option maxHeartbeats 4000000 in
set_option maxRecDepth 100000 in
theorem x_X12_one {l : Launch} {G : GG}  {L : List Nat} {f : HF} {ad : Nat → Nat → Nat} {w : Int × Int} {pi : (Nat → Int32) → Prop} {px : (Nat → Int32) → Prop} {pa : (Nat → Int32) → Prop} {i1 i2 : Int32} (I : SH (spM (IA 0 0 14 9999 w) pi px pa) nnM G ad L f) (hB : BBp 0 0 14 9999 w) : PMi l yX12_one cX12_one 3 .int 1 0 0 G [.ref (ad 0 0), .int i1, .int i2] L f (fun r L1 f1 => SH (spM (IA 0 0 14 9999 w) pi px pa) nnM G ad L1 f1) := by
  refine PMi.of (post := fun r L1 f1 => SH (spM (IA 0 0 14 9999 w) pi px pa) nnM G ad L1 f1) (own := RX12) (by decide) rfl (Nat.le_of_ble_eq_true rfl) (fun sz p e s m args below meth c A ls hA1 hname S Y hl => ?_)
  have hx := S.hx
  have hb := S.hb
  have hl : lv_has ls 3 [(0, .ref (ad 0 0)), (1, .int i1), (2, .int i2)] := hl
  refine lv_iload_n hx hb dX12_one_0 rfl (lv_at hl 1 rfl) ?_
  refine lv_iconst (v := 0) hx hb dX12_one_1 (by decide) ?_
  refine lv_bipush (v := 9) hx hb dX12_one_2 (by decide) ?_
  refine cSp (As := [.int i1, .int 0, .int 9]) (rest := []) S Y (x_X12_isIn (l := l) ) cw_X12_isIn km12_69 rfl ⟨Nat.le_of_ble_eq_true rfl, Nat.le_of_ble_eq_true rfl⟩ hl.1 rfl (Nat.le_of_ble_eq_true rfl) ⟨Nat.le_of_ble_eq_true rfl, Nat.le_of_ble_eq_true rfl⟩ dX12_one_4 (fun r_16942 H locs er_16942 Y => ?_)
  refine lv_if_eq (tgt := 31) hx hb dX12_one_7 (by decide) (fun c_16943 => ?_) (fun c_16943 => ?_)
  · have B_16944 : bn 0 0 r_16942 := bn_w (bn_eq c_16943 (show bn 0 0 (0 : Int32) from bn_k (by decide))) (by decide)
    refine lv_iconst (v := (-1)) hx hb dX12_one_31 (by decide) ?_
    exact prI (post := fun r L1 f1 => SH (spM (IA 0 0 14 9999 w) pi px pa) nnM G ad L1 f1) S Y rfl (by decide) (by decide) hA1 I dX12_one_32
  · have B_16945 : bn 0 9 i1 := bn_w (bn_i (bn_any i1) (bn_btw (er_16942.2 c_16943).1 (er_16942.2 c_16943).2 (show bn 0 0 (0 : Int32) from bn_k (by decide)) (show bn 9 9 (9 : Int32) from bn_k (by decide)))) (by decide)
    have B_16946 : bn 1 1 r_16942 := bn_w (bn_nel c_16943 er_16942.1 (show bn 0 0 (0 : Int32) from bn_k (by decide))) (by decide)
    refine lv_iload_n hx hb dX12_one_10 rfl (lv_at hl 2 rfl) ?_
    refine lv_iconst (v := 0) hx hb dX12_one_11 (by decide) ?_
    refine lv_bipush (v := 99) hx hb dX12_one_12 (by decide) ?_
    refine cSp (As := [.int i2, .int 0, .int 99]) (rest := []) S Y (x_X12_isIn (l := l) ) cw_X12_isIn km12_69 rfl ⟨Nat.le_of_ble_eq_true rfl, Nat.le_of_ble_eq_true rfl⟩ hl.1 rfl (Nat.le_of_ble_eq_true rfl) ⟨Nat.le_of_ble_eq_true rfl, Nat.le_of_ble_eq_true rfl⟩ dX12_one_14 (fun r_16947 H locs er_16947 Y => ?_)
    refine lv_if_eq (tgt := 31) hx hb dX12_one_17 (by decide) (fun c_16948 => ?_) (fun c_16948 => ?_)
    · have B_16949 : bn 0 0 r_16947 := bn_w (bn_eq c_16948 (show bn 0 0 (0 : Int32) from bn_k (by decide))) (by decide)
      refine lv_iconst (v := (-1)) hx hb dX12_one_31 (by decide) ?_
      exact prI (post := fun r L1 f1 => SH (spM (IA 0 0 14 9999 w) pi px pa) nnM G ad L1 f1) S Y rfl (by decide) (by decide) hA1 I dX12_one_32
    · have B_16950 : bn 0 99 i2 := bn_w (bn_i (bn_any i2) (bn_btw (er_16947.2 c_16948).1 (er_16947.2 c_16948).2 (show bn 0 0 (0 : Int32) from bn_k (by decide)) (show bn 99 99 (99 : Int32) from bn_k (by decide)))) (by decide)
      have B_16951 : bn 1 1 r_16947 := bn_w (bn_nel c_16948 er_16947.1 (show bn 0 0 (0 : Int32) from bn_k (by decide))) (by decide)
      refine lv_aload_n hx hb dX12_one_20 rfl (lv_at hl 0 rfl) ?_
      obtain ⟨v_16952, v_16954, v_16956, v_16958, v_16960, v_16962, v_16964, v_16966, v_16967, v_16969, v_16971, v_16973, v_16975, v_16977, v_16979, v_16981, v_16983, v_16985, p_ad_0_0, b_16953, b_16955, b_16957, b_16959, b_16961, b_16963, b_16965, b_16968, b_16970, b_16972, b_16974, b_16976, b_16978, b_16980, b_16982, b_16984, b_16986⟩ := opnM_0 (j := 0) I (by decide)
      have p_ad_0_0 : pt L f (ad 0 0) (.inr (12, [.ref (ad 1 0), .ref (ad 2 0), .ref (ad 3 0), .ref (ad 4 0), .int v_16952, .int v_16954, .int v_16956, .int v_16958, .int v_16960, .int v_16962, .int v_16964, .long v_16966, .int v_16967, .int v_16969, .int v_16971, .ref (ad 5 0), .ref (ad 6 0), .int v_16973, .int v_16975, .int v_16977, .int v_16979, .int v_16981, .ref (ad 7 0), .ref (ad 8 0), .ref (ad 9 0), .int v_16983, .ref (ad 10 0), .ref (ad 11 0), .ref (ad 12 0), .ref (ad 13 0), .int v_16985, .ref (ad 14 0)])) := p_ad_0_0
      refine pg_get S Y ok_X12 0 (by decide) kf12_7 (v := .ref (ad 1 0)) p_ad_0_0 rfl dX12_one_21 ?_
      refine lv_iconst (v := 0) hx hb dX12_one_24 (by decide) ?_
      obtain ⟨g_16987, p_ad_1_0, o_16988⟩ := I.opi (k := 1) (j := 0) (by decide) rfl
      have p_ad_1_0 : pt L f (ad 1 0) (.inl (G.2 0, 10568, .inl g_16987)) := p_ad_1_0
      obtain ⟨v_16989, ev_16989⟩ : ∃ z, z = g_16987 (0 : Int32).toNatClampNeg := ⟨_, rfl⟩
      refine pg_iald S Y (v := v_16989) p_ad_1_0 (by unfold vp_in; decide) ev_16989.symm dX12_one_25 ?_
      have bv_16989 : bn 0 6 v_16989 := bn_eq ev_16989 (IA_0 o_16988)
      refine lv_bipush (v := 6) hx hb dX12_one_26 (by decide) ?_
      refine lv_icmp_ne (tgt := 33) hx hb dX12_one_28 (by decide) (fun c_16990 => ?_) (fun c_16990 => ?_)
      · have B_16991 : bn 0 5 v_16989 := bn_w (bn_neu c_16990 bv_16989 (show bn 6 6 (6 : Int32) from bn_k (by decide))) (by decide)
        refine lv_aload_n hx hb dX12_one_33 rfl (lv_at hl 0 rfl) ?_
        refine pg_get S Y ok_X12 0 (by decide) kf12_7 (v := .ref (ad 1 0)) p_ad_0_0 rfl dX12_one_34 ?_
        refine lv_bipush (v := 114) hx hb dX12_one_37 (by decide) ?_
        refine lv_iconst (v := 2) hx hb dX12_one_39 (by decide) ?_
        refine lv_aload_n hx hb dX12_one_40 rfl (lv_at hl 0 rfl) ?_
        refine pg_get S Y ok_X12 0 (by decide) kf12_7 (v := .ref (ad 1 0)) p_ad_0_0 rfl dX12_one_41 ?_
        refine lv_iconst (v := 0) hx hb dX12_one_44 (by decide) ?_
        refine pg_iald S Y (v := v_16989) p_ad_1_0 (by unfold vp_in; decide) ev_16989.symm dX12_one_45 ?_
        refine lv_imul hx hb dX12_one_46 ?_
        refine lv_topi (fun x_16993 ex_16993 => ?_)
        refine lv_iadd hx hb dX12_one_47 ?_
        refine lv_topi (fun x_16994 ex_16994 => ?_)
        refine lv_iload_n hx hb dX12_one_48 rfl (lv_at hl 1 rfl) ?_
        refine pg_iast S Y p_ad_1_0 (vp_bn (bn_eq ex_16994 (bn_add (show bn 114 114 (114 : Int32) from bn_k (by decide)) (bn_eq ex_16993 (bn_mul (show bn 2 2 (2 : Int32) from bn_k (by decide)) B_16991 (by decide))) (by decide))) (by decide)) dX12_one_49 (fun f_16996 H locs ef_16996 Y => ?_)
        obtain ⟨g_16995, eg_16995⟩ : ∃ z, z = upd (g_16987) (x_16994 : Int32).toNatClampNeg i1 := ⟨_, rfl⟩
        rw [← eg_16995] at ef_16996
        have p_ad_0_0 := p_ad_0_0.up ef_16996 (I.ne (k := 0) (j := 0) (k' := 1) (j' := 0) (by decide) (by decide) (Or.inl (by decide)))
        have p_ad_1_0 := p_ad_1_0.me ef_16996
        have o_16997 : (IA 0 0 14 9999 w) g_16995 := (by rw [eg_16995]; exact (IA_free o_16988 (fr_of (bn_eq ex_16994 (bn_add (show bn 114 114 (114 : Int32) from bn_k (by decide)) (bn_eq ex_16993 (bn_mul (show bn 2 2 (2 : Int32) from bn_k (by decide)) B_16991 (by decide))) (by decide))) (by decide))))
        have I := I.up (k := 1) (j := 0) (by decide) ef_16996 (okE_a (g := g_16995) o_16997)
        have q_16998 : g_16995 (0 : Int32).toNatClampNeg = v_16989 := by rw [eg_16995]; exact (pk_un (nq_of (bn_eq ex_16994 (bn_add (show bn 114 114 (114 : Int32) from bn_k (by decide)) (bn_eq ex_16993 (bn_mul (show bn 2 2 (2 : Int32) from bn_k (by decide)) B_16991 (by decide))) (by decide))) (by decide))).trans ev_16989.symm
        refine lv_aload_n hx hb dX12_one_50 rfl (lv_at hl 0 rfl) ?_
        refine pg_get S Y ok_X12 0 (by decide) kf12_7 (v := .ref (ad 1 0)) p_ad_0_0 rfl dX12_one_51 ?_
        refine lv_bipush (v := 114) hx hb dX12_one_54 (by decide) ?_
        refine lv_iconst (v := 2) hx hb dX12_one_56 (by decide) ?_
        refine lv_aload_n hx hb dX12_one_57 rfl (lv_at hl 0 rfl) ?_
        refine pg_get S Y ok_X12 0 (by decide) kf12_7 (v := .ref (ad 1 0)) p_ad_0_0 rfl dX12_one_58 ?_
        refine lv_iconst (v := 0) hx hb dX12_one_61 (by decide) ?_
        refine pg_iald S Y (v := v_16989) p_ad_1_0 (by unfold vp_in; decide) q_16998 dX12_one_62 ?_
        refine lv_imul hx hb dX12_one_63 ?_
        refine lv_topi (fun x_16999 ex_16999 => ?_)
        refine lv_iadd hx hb dX12_one_64 ?_
        refine lv_topi (fun x_17000 ex_17000 => ?_)
        refine lv_iconst (v := 1) hx hb dX12_one_65 (by decide) ?_
        refine lv_iadd hx hb dX12_one_66 ?_
        refine lv_topi (fun x_17001 ex_17001 => ?_)
        have B_17002 : bn 115 125 x_17001 := bn_w (bn_eq ex_17001 (bn_add (bn_eq ex_17000 (bn_add (show bn 114 114 (114 : Int32) from bn_k (by decide)) (bn_eq ex_16999 (bn_mul (show bn 2 2 (2 : Int32) from bn_k (by decide)) B_16991 (by decide))) (by decide))) (show bn 1 1 (1 : Int32) from bn_k (by decide)) (by decide))) (by decide)
        refine lv_iload_n hx hb dX12_one_67 rfl (lv_at hl 2 rfl) ?_
        refine pg_iast S Y p_ad_1_0 (vp_bn B_17002 (by decide)) dX12_one_68 (fun f_17004 H locs ef_17004 Y => ?_)
        obtain ⟨g_17003, eg_17003⟩ : ∃ z, z = upd (g_16995) (x_17001 : Int32).toNatClampNeg i2 := ⟨_, rfl⟩
        rw [← eg_17003] at ef_17004
        have p_ad_0_0 := p_ad_0_0.up ef_17004 (I.ne (k := 0) (j := 0) (k' := 1) (j' := 0) (by decide) (by decide) (Or.inl (by decide)))
        have p_ad_1_0 := p_ad_1_0.me ef_17004
        have o_17005 : (IA 0 0 14 9999 w) g_17003 := (by rw [eg_17003]; exact (IA_free o_16997 (fr_of B_17002 (by decide))))
        have I := I.up (k := 1) (j := 0) (by decide) ef_17004 (okE_a (g := g_17003) o_17005)
        have q_17006 : g_17003 (0 : Int32).toNatClampNeg = v_16989 := by rw [eg_17003]; exact (pk_un (nq_of B_17002 (by decide))).trans q_16998
        refine lv_aload_n hx hb dX12_one_69 rfl (lv_at hl 0 rfl) ?_
        refine pg_get S Y ok_X12 0 (by decide) kf12_7 (v := .ref (ad 1 0)) p_ad_0_0 rfl dX12_one_70 ?_
        refine lv_iconst (v := 0) hx hb dX12_one_73 (by decide) ?_
        refine lv_dup2_11 hx hb dX12_one_74 rfl rfl ?_
        refine pg_iald S Y (v := v_16989) p_ad_1_0 (by unfold vp_in; decide) q_17006 dX12_one_75 ?_
        refine lv_iconst (v := 1) hx hb dX12_one_76 (by decide) ?_
        refine lv_iadd hx hb dX12_one_77 ?_
        refine lv_topi (fun x_17007 ex_17007 => ?_)
        refine pg_iast S Y p_ad_1_0 (by unfold vp_in; decide) dX12_one_78 (fun f_17009 H locs ef_17009 Y => ?_)
        obtain ⟨g_17008, eg_17008⟩ : ∃ z, z = upd (g_17003) (0 : Int32).toNatClampNeg x_17007 := ⟨_, rfl⟩
        rw [← eg_17008] at ef_17009
        have p_ad_0_0 := p_ad_0_0.up ef_17009 (I.ne (k := 0) (j := 0) (k' := 1) (j' := 0) (by decide) (by decide) (Or.inl (by decide)))
        have p_ad_1_0 := p_ad_1_0.me ef_17009
        have o_17010 : (IA 0 0 14 9999 w) g_17008 := (by rw [eg_17008]; exact (IA_s0 o_17005 (bn_w (bn_eq ex_17007 (bn_add B_16991 (show bn 1 1 (1 : Int32) from bn_k (by decide)) (by decide))) (by decide))))
        have I := I.up (k := 1) (j := 0) (by decide) ef_17009 (okE_a (g := g_17008) o_17010)
        have q_17011 : g_17008 (0 : Int32).toNatClampNeg = x_17007 := by rw [eg_17008]; exact pk_us
        refine lv_aload_n hx hb dX12_one_79 rfl (lv_at hl 0 rfl) ?_
        refine pg_get S Y ok_X12 0 (by decide) kf12_7 (v := .ref (ad 1 0)) p_ad_0_0 rfl dX12_one_80 ?_
        refine lv_iconst (v := 0) hx hb dX12_one_83 (by decide) ?_
        refine pg_iald S Y (v := x_17007) p_ad_1_0 (by unfold vp_in; decide) q_17011 dX12_one_84 ?_
        refine lv_iconst (v := 1) hx hb dX12_one_85 (by decide) ?_
        refine lv_isub hx hb dX12_one_86 ?_
        refine lv_topi (fun x_17012 ex_17012 => ?_)
        exact prI (post := fun r L1 f1 => SH (spM (IA 0 0 14 9999 w) pi px pa) nnM G ad L1 f1) S Y rfl (by decide) (by decide) hA1 I dX12_one_87
      · have B_16992 : bn 6 6 v_16989 := bn_w (bn_eq c_16990 (show bn 6 6 (6 : Int32) from bn_k (by decide))) (by decide)
        refine lv_iconst (v := (-1)) hx hb dX12_one_31 (by decide) ?_
        exact prI (post := fun r L1 f1 => SH (spM (IA 0 0 14 9999 w) pi px pa) nnM G ad L1 f1) S Y rfl (by decide) (by decide) hA1 I dX12_one_32
set_option maxHeartbeats 4000000 in
set_option maxRecDepth 100000 in
theorem x_X12_kneelNow {l : Launch} {G : GG}  {L : List Nat} {f : HF} {ad : Nat → Nat → Nat} {sl : Int} {pl : Int} {oh : Int} {dh : Int} {w : Int × Int} {pi : (Nat → Int32) → Prop} {g0 : Nat → Int32} {pa : (Nat → Int32) → Prop} {i1 : Int32} (I : SH (spM (IA sl pl oh dh w) pi (EQ g0) pa) nnM G ad L f) (hB : BBp sl pl oh dh w) (hX : TX g0) : PMv l yX12_kneelNow cX12_kneelNow 3 7 0 0 G [.ref (ad 0 0), .int i1] L f (fun L1 f1 => SH (spM (IA sl pl oh dh w) pi (EQ g0) pa) nnM G ad L1 f1) := by
  refine PMv.of (post := fun L1 f1 => SH (spM (IA sl pl oh dh w) pi (EQ g0) pa) nnM G ad L1 f1) (own := RX12) (by decide) rfl (Nat.le_of_ble_eq_true rfl) (fun sz p e s m args below meth c A ls hA1 hname S Y hl => ?_)
  have hx := S.hx
  have hb := S.hb
  have hl : lv_has ls 3 [(0, .ref (ad 0 0)), (1, .int i1)] := hl
  have J_2 : ∀ (n2 : Nat) (y2_2 : Int32) (L_2 : List Nat) (f_2 : HF) (H : Heap) (locs : List Loc) (ls : Array Slot), (SH (spM (IA sl pl oh dh w) pi (EQ g0) pa) nnM G ad L_2 f_2) → (bn 0 14 y2_2) → (((14 : Int) - y2_2.toInt).toNat = n2) → (DY G A s [] L_2 f_2 H locs) → (lv_has ls 3 [(0, .ref (ad 0 0)), (1, .int i1), (2, .int y2_2)]) → W p l e (rmD 7 0 0) s m args below meth c H locs (0) (0) (MQ below (va_Qv (fun (u : List Nat × HF) => (fun L1 f1 => SH (spM (IA sl pl oh dh w) pi (EQ g0) pa) nnM G ad L1 f1) u.1 u.2) (fun u t => pOut G (va_A (va_pl L f) sz) u.1 u.2 t) (va_A (va_pl L f) sz)) args s 0 0 A) (F0 m 2 ls []) := by
    intro n2
    induction n2 using Nat.strongRecOn with
    | _ n2 ih2 =>
      intro y2_2 L_2 f_2 H locs ls I b_y2_2 hm2 Y hl
      refine lv_iload_n hx hb dX12_kneelNow_2 rfl (lv_at hl 2 rfl) ?_
      refine lv_aload_n hx hb dX12_kneelNow_3 rfl (lv_at hl 0 rfl) ?_
      obtain ⟨v_17839, v_17841, v_17843, v_17845, v_17847, v_17849, v_17851, v_17853, v_17854, v_17856, v_17858, v_17860, v_17862, v_17864, v_17866, v_17868, v_17870, v_17872, p_ad_0_0, b_17840, b_17842, b_17844, b_17846, b_17848, b_17850, b_17852, b_17855, b_17857, b_17859, b_17861, b_17863, b_17865, b_17867, b_17869, b_17871, b_17873⟩ := opnM_0 (j := 0) I (by decide)
      have p_ad_0_0 : pt L_2 f_2 (ad 0 0) (.inr (12, [.ref (ad 1 0), .ref (ad 2 0), .ref (ad 3 0), .ref (ad 4 0), .int v_17839, .int v_17841, .int v_17843, .int v_17845, .int v_17847, .int v_17849, .int v_17851, .long v_17853, .int v_17854, .int v_17856, .int v_17858, .ref (ad 5 0), .ref (ad 6 0), .int v_17860, .int v_17862, .int v_17864, .int v_17866, .int v_17868, .ref (ad 7 0), .ref (ad 8 0), .ref (ad 9 0), .int v_17870, .ref (ad 10 0), .ref (ad 11 0), .ref (ad 12 0), .ref (ad 13 0), .int v_17872, .ref (ad 14 0)])) := p_ad_0_0
      refine pg_get S Y ok_X12 0 (by decide) kf12_7 (v := .ref (ad 1 0)) p_ad_0_0 rfl dX12_kneelNow_4 ?_
      refine lv_bipush (v := 13) hx hb dX12_kneelNow_7 (by decide) ?_
      obtain ⟨g_17874, p_ad_1_0, o_17875⟩ := I.opi (k := 1) (j := 0) (by decide) rfl
      have p_ad_1_0 : pt L_2 f_2 (ad 1 0) (.inl (G.2 0, 10568, .inl g_17874)) := p_ad_1_0
      obtain ⟨v_17876, ev_17876⟩ : ∃ z, z = g_17874 (13 : Int32).toNatClampNeg := ⟨_, rfl⟩
      refine pg_iald S Y (v := v_17876) p_ad_1_0 (by unfold vp_in; decide) ev_17876.symm dX12_kneelNow_9 ?_
      have bv_17876 : bn 0 14 v_17876 := bn_eq ev_17876 (bn_w (a' := 0) (b' := 14) (IA_13 o_17875) ⟨by decide, by have h9 := hB; unfold BBp at h9; omega⟩)
      refine lv_icmp_ge (tgt := 70) hx hb dX12_kneelNow_10 (by decide) (fun c_17877 => ?_) (fun c_17877 => ?_)
      · exact prV (post := fun L1 f1 => SH (spM (IA sl pl oh dh w) pi (EQ g0) pa) nnM G ad L1 f1) S Y (by decide) (by decide) hA1 I dX12_kneelNow_70
      · have B_17878 : bn 1 14 v_17876 := bn_w (bn_gtl c_17877 bv_17876 b_y2_2) (by decide)
        have B_17879 : bn 0 13 y2_2 := bn_w (bn_gtr c_17877 bv_17876 b_y2_2) (by decide)
        refine lv_aload_n hx hb dX12_kneelNow_13 rfl (lv_at hl 0 rfl) ?_
        refine lv_iload_n hx hb dX12_kneelNow_14 rfl (lv_at hl 2 rfl) ?_
        refine lv_iconst (v := 1) hx hb dX12_kneelNow_15 (by decide) ?_
        refine cVp (As := [.int y2_2, .int 1]) (rest := []) S Y (x_X12_getON (l := l) I hB (bn_w B_17879 (by decide)) (bn_w (show bn 1 1 (1 : Int32) from bn_k (by decide)) (by decide))) cw_X12_get km12_73 p_ad_0_0 ok_X12.1 rfl rfl ⟨Nat.le_of_ble_eq_true rfl, Nat.le_of_ble_eq_true rfl⟩ hl.1 rfl (Nat.le_of_ble_eq_true rfl) ⟨Nat.le_of_ble_eq_true rfl, Nat.le_of_ble_eq_true rfl⟩ dX12_kneelNow_16 (fun r_17880 H locs er_17880 Y => ?_)
        refine lv_iload_n hx hb dX12_kneelNow_19 rfl (lv_at hl 1 rfl) ?_
        refine lv_icmp_ne (tgt := 64) hx hb dX12_kneelNow_20 (by decide) (fun c_17881 => ?_) (fun c_17881 => ?_)
        · obtain ⟨x_17882, ex_17882⟩ : ∃ z : Int32, z = y2_2 + 1 := ⟨_, rfl⟩
          refine lv_iinc (v := x_17882) (lv' := [(2, .int x_17882), (0, .ref (ad 0 0)), (1, .int i1)]) hx hb dX12_kneelNow_64 hl (k := 2) rfl (by rw [ex_17882]; rfl) (by decide) rfl (fun ls hl => ?_)
          refine lv_goto (tgt := 2) hx hb dX12_kneelNow_67 (by decide) ?_
          exact ih2 _ (by rw [← hm2]; exact ms_up (m := 1) ex_17882 (show bn 1 1 (1 : Int32) from bn_k (by decide)) B_17879 (bn_w (bn_eq ex_17882 (bn_add B_17879 (show bn 1 1 (1 : Int32) from bn_k (by decide)) (by decide))) (by decide) : bn 0 14 x_17882) (by decide)) x_17882 _ _  _ _ _ I (bn_w (bn_eq ex_17882 (bn_add B_17879 (show bn 1 1 (1 : Int32) from bn_k (by decide)) (by decide))) (by decide)) rfl Y (lv_sub hl [1, 2, 0] rfl)
        · refine lv_aload_n hx hb dX12_kneelNow_23 rfl (lv_at hl 0 rfl) ?_
          refine lv_iload_n hx hb dX12_kneelNow_24 rfl (lv_at hl 2 rfl) ?_
          refine lv_iconst (v := 4) hx hb dX12_kneelNow_25 (by decide) ?_
          refine cVp (As := [.int y2_2, .int 4]) (rest := []) S Y (x_X12_get (l := l) I hB (bn_w B_17879 (by decide)) (bn_w (show bn 4 4 (4 : Int32) from bn_k (by decide)) (by decide))) cw_X12_get km12_73 p_ad_0_0 ok_X12.1 rfl rfl ⟨Nat.le_of_ble_eq_true rfl, Nat.le_of_ble_eq_true rfl⟩ hl.1 rfl (Nat.le_of_ble_eq_true rfl) ⟨Nat.le_of_ble_eq_true rfl, Nat.le_of_ble_eq_true rfl⟩ dX12_kneelNow_26 (fun r_17883 H locs er_17883 Y => ?_)
          refine lv_iconst (v := 2) hx hb dX12_kneelNow_29 (by decide) ?_
          refine lv_icmp_eq (tgt := 64) hx hb dX12_kneelNow_30 (by decide) (fun c_17884 => ?_) (fun c_17884 => ?_)
          · have B_17885 : bn 2 2 r_17883 := bn_w (bn_eq c_17884 (show bn 2 2 (2 : Int32) from bn_k (by decide))) (by decide)
            obtain ⟨x_17886, ex_17886⟩ : ∃ z : Int32, z = y2_2 + 1 := ⟨_, rfl⟩
            refine lv_iinc (v := x_17886) (lv' := [(2, .int x_17886), (0, .ref (ad 0 0)), (1, .int i1)]) hx hb dX12_kneelNow_64 hl (k := 2) rfl (by rw [ex_17886]; rfl) (by decide) rfl (fun ls hl => ?_)
            refine lv_goto (tgt := 2) hx hb dX12_kneelNow_67 (by decide) ?_
            exact ih2 _ (by rw [← hm2]; exact ms_up (m := 1) ex_17886 (show bn 1 1 (1 : Int32) from bn_k (by decide)) B_17879 (bn_w (bn_eq ex_17886 (bn_add B_17879 (show bn 1 1 (1 : Int32) from bn_k (by decide)) (by decide))) (by decide) : bn 0 14 x_17886) (by decide)) x_17886 _ _  _ _ _ I (bn_w (bn_eq ex_17886 (bn_add B_17879 (show bn 1 1 (1 : Int32) from bn_k (by decide)) (by decide))) (by decide)) rfl Y (lv_sub hl [1, 2, 0] rfl)
          · refine lv_aload_n hx hb dX12_kneelNow_33 rfl (lv_at hl 0 rfl) ?_
            refine lv_iload_n hx hb dX12_kneelNow_34 rfl (lv_at hl 2 rfl) ?_
            refine lv_iconst (v := 5) hx hb dX12_kneelNow_35 (by decide) ?_
            refine lv_aload_n hx hb dX12_kneelNow_36 rfl (lv_at hl 0 rfl) ?_
            refine lv_iload_n hx hb dX12_kneelNow_37 rfl (lv_at hl 2 rfl) ?_
            refine lv_iconst (v := 5) hx hb dX12_kneelNow_38 (by decide) ?_
            refine cVp (As := [.int y2_2, .int 5]) (rest := [.int 5, .int y2_2, .ref (ad 0 0)]) S Y (x_X12_get (l := l) I hB (bn_w B_17879 (by decide)) (bn_w (show bn 5 5 (5 : Int32) from bn_k (by decide)) (by decide))) cw_X12_get km12_73 p_ad_0_0 ok_X12.1 rfl rfl ⟨Nat.le_of_ble_eq_true rfl, Nat.le_of_ble_eq_true rfl⟩ hl.1 rfl (Nat.le_of_ble_eq_true rfl) ⟨Nat.le_of_ble_eq_true rfl, Nat.le_of_ble_eq_true rfl⟩ dX12_kneelNow_39 (fun r_17887 H locs er_17887 Y => ?_)
            refine lv_aload_n hx hb dX12_kneelNow_42 rfl (lv_at hl 0 rfl) ?_
            refine lv_aload_n hx hb dX12_kneelNow_43 rfl (lv_at hl 0 rfl) ?_
            refine pg_get S Y ok_X12 0 (by decide) kf12_7 (v := .ref (ad 1 0)) p_ad_0_0 rfl dX12_kneelNow_44 ?_
            refine lv_iconst (v := 2) hx hb dX12_kneelNow_47 (by decide) ?_
            obtain ⟨v_17888, ev_17888⟩ : ∃ z, z = g_17874 (2 : Int32).toNatClampNeg := ⟨_, rfl⟩
            refine pg_iald S Y (v := v_17888) p_ad_1_0 (by unfold vp_in; decide) ev_17888.symm dX12_kneelNow_48 ?_
            have bv_17888 : bn (-1) 3 v_17888 := bn_eq ev_17888 (IA_2 o_17875)
            refine lv_iload_n hx hb dX12_kneelNow_49 rfl (lv_at hl 2 rfl) ?_
            refine cVi (As := [.int v_17888, .int y2_2]) (rest := [.int r_17887, .int 5, .int y2_2, .ref (ad 0 0)]) S Y (x_X12_wearsOf (l := l) I hB hX (bn_w bv_17888 (by decide)) (bn_w B_17879 (by decide))) cw_X12_wearsOf km12_342 p_ad_0_0 ok_X12.1 rfl rfl ⟨Nat.le_of_ble_eq_true rfl, Nat.le_of_ble_eq_true rfl⟩ hl.1 rfl (Nat.le_of_ble_eq_true rfl) ⟨Nat.le_of_ble_eq_true rfl, Nat.le_of_ble_eq_true rfl⟩ dX12_kneelNow_50 (fun r_17891 L_17889 f_17890 H locs I Y => ?_)
            refine lv_iadd hx hb dX12_kneelNow_53 ?_
            refine lv_topi (fun x_17892 ex_17892 => ?_)
            refine lv_i2l hx hb dX12_kneelNow_54 rfl ?_
            refine lv_topl (fun x_17893 ex_17893 => ?_)
            refine lv_iconst (v := 0) hx hb dX12_kneelNow_55 (by decide) ?_
            refine lv_bipush (v := 99) hx hb dX12_kneelNow_56 (by decide) ?_
            refine cSp (As := [.long x_17893, .int 0, .int 99]) (rest := [.int 5, .int y2_2, .ref (ad 0 0)]) S Y (x_X12_cut (l := l) ) cw_X12_cut km12_292 rfl ⟨Nat.le_of_ble_eq_true rfl, Nat.le_of_ble_eq_true rfl⟩ hl.1 rfl (Nat.le_of_ble_eq_true rfl) ⟨Nat.le_of_ble_eq_true rfl, Nat.le_of_ble_eq_true rfl⟩ dX12_kneelNow_58 (fun r_17894 H locs er_17894 Y => ?_)
            refine cVv (As := [.int y2_2, .int 5, .int r_17894]) (rest := []) S Y (x_X12_put (l := l) I hB (bn_w B_17879 (by decide)) (bn_w (show bn 5 5 (5 : Int32) from bn_k (by decide)) (by decide)) (fun h => absurd h (by decide))) cw_X12_put km12_326 (I.opo (k := 0) (j := 0) (by decide) rfl).choose_spec.1 ok_X12.1 rfl rfl ⟨Nat.le_of_ble_eq_true rfl, Nat.le_of_ble_eq_true rfl⟩ hl.1 rfl (Nat.le_of_ble_eq_true rfl) ⟨Nat.le_of_ble_eq_true rfl, Nat.le_of_ble_eq_true rfl⟩ dX12_kneelNow_61 (fun L_17895 f_17896 H locs I Y => ?_)
            obtain ⟨x_17897, ex_17897⟩ : ∃ z : Int32, z = y2_2 + 1 := ⟨_, rfl⟩
            refine lv_iinc (v := x_17897) (lv' := [(2, .int x_17897), (0, .ref (ad 0 0)), (1, .int i1)]) hx hb dX12_kneelNow_64 hl (k := 2) rfl (by rw [ex_17897]; rfl) (by decide) rfl (fun ls hl => ?_)
            refine lv_goto (tgt := 2) hx hb dX12_kneelNow_67 (by decide) ?_
            exact ih2 _ (by rw [← hm2]; exact ms_up (m := 1) ex_17897 (show bn 1 1 (1 : Int32) from bn_k (by decide)) B_17879 (bn_w (bn_eq ex_17897 (bn_add B_17879 (show bn 1 1 (1 : Int32) from bn_k (by decide)) (by decide))) (by decide) : bn 0 14 x_17897) (by decide)) x_17897 _ _  _ _ _ I (bn_w (bn_eq ex_17897 (bn_add B_17879 (show bn 1 1 (1 : Int32) from bn_k (by decide)) (by decide))) (by decide)) rfl Y (lv_sub hl [1, 2, 0] rfl)
  refine lv_iconst (v := 0) hx hb dX12_kneelNow_0 (by decide) ?_
  refine lv_istore_n (lv' := [(2, .int 0), (0, .ref (ad 0 0)), (1, .int i1)]) hx hb dX12_kneelNow_1 rfl hl (by decide) rfl (fun ls hl => ?_)
  exact J_2 _ 0 _ _  _ _ _ I (bn_w (show bn 0 0 (0 : Int32) from bn_k (by decide)) (by decide)) rfl Y (lv_sub hl [1, 2, 0] rfl)
set_option maxHeartbeats 4000000 in
set_option maxRecDepth 100000 in
theorem x_X12_skateNow {l : Launch} {G : GG}  {L : List Nat} {f : HF} {ad : Nat → Nat → Nat} {sl : Int} {pl : Int} {oh : Int} {dh : Int} {w : Int × Int} {pi : (Nat → Int32) → Prop} {g0 : Nat → Int32} {pa : (Nat → Int32) → Prop} {i1 i2 : Int32} (I : SH (spM (IA sl pl oh dh w) pi (EQ g0) pa) nnM G ad L f) (hB : BBp sl pl oh dh w) (hX : TX g0) : PMv l yX12_skateNow cX12_skateNow 4 1 0 0 G [.ref (ad 0 0), .int i1, .int i2] L f (fun L1 f1 => SH (spM (IA sl pl oh dh w) pi (EQ g0) pa) nnM G ad L1 f1) := by
  refine PMv.of (post := fun L1 f1 => SH (spM (IA sl pl oh dh w) pi (EQ g0) pa) nnM G ad L1 f1) (own := RX12) (by decide) rfl (Nat.le_of_ble_eq_true rfl) (fun sz p e s m args below meth c A ls hA1 hname S Y hl => ?_)
  have hx := S.hx
  have hb := S.hb
  have hl : lv_has ls 4 [(0, .ref (ad 0 0)), (1, .int i1), (2, .int i2)] := hl
  have J_2 : ∀ (n2 : Nat) (y2_3 : Int32) (L_2 : List Nat) (f_2 : HF) (H : Heap) (locs : List Loc) (ls : Array Slot), (SH (spM (IA sl pl oh dh w) pi (EQ g0) pa) nnM G ad L_2 f_2) → (bn 0 14 y2_3) → (((14 : Int) - y2_3.toInt).toNat = n2) → (DY G A s [] L_2 f_2 H locs) → (lv_has ls 4 [(0, .ref (ad 0 0)), (1, .int i1), (2, .int i2), (3, .int y2_3)]) → W p l e (rmD 1 0 0) s m args below meth c H locs (0) (0) (MQ below (va_Qv (fun (u : List Nat × HF) => (fun L1 f1 => SH (spM (IA sl pl oh dh w) pi (EQ g0) pa) nnM G ad L1 f1) u.1 u.2) (fun u t => pOut G (va_A (va_pl L f) sz) u.1 u.2 t) (va_A (va_pl L f) sz)) args s 0 0 A) (F0 m 2 ls []) := by
    intro n2
    induction n2 using Nat.strongRecOn with
    | _ n2 ih2 =>
      intro y2_3 L_2 f_2 H locs ls I b_y2_3 hm2 Y hl
      refine lv_iload_n hx hb dX12_skateNow_2 rfl (lv_at hl 3 rfl) ?_
      refine lv_aload_n hx hb dX12_skateNow_3 rfl (lv_at hl 0 rfl) ?_
      obtain ⟨v_18654, v_18656, v_18658, v_18660, v_18662, v_18664, v_18666, v_18668, v_18669, v_18671, v_18673, v_18675, v_18677, v_18679, v_18681, v_18683, v_18685, v_18687, p_ad_0_0, b_18655, b_18657, b_18659, b_18661, b_18663, b_18665, b_18667, b_18670, b_18672, b_18674, b_18676, b_18678, b_18680, b_18682, b_18684, b_18686, b_18688⟩ := opnM_0 (j := 0) I (by decide)
      have p_ad_0_0 : pt L_2 f_2 (ad 0 0) (.inr (12, [.ref (ad 1 0), .ref (ad 2 0), .ref (ad 3 0), .ref (ad 4 0), .int v_18654, .int v_18656, .int v_18658, .int v_18660, .int v_18662, .int v_18664, .int v_18666, .long v_18668, .int v_18669, .int v_18671, .int v_18673, .ref (ad 5 0), .ref (ad 6 0), .int v_18675, .int v_18677, .int v_18679, .int v_18681, .int v_18683, .ref (ad 7 0), .ref (ad 8 0), .ref (ad 9 0), .int v_18685, .ref (ad 10 0), .ref (ad 11 0), .ref (ad 12 0), .ref (ad 13 0), .int v_18687, .ref (ad 14 0)])) := p_ad_0_0
      refine pg_get S Y ok_X12 0 (by decide) kf12_7 (v := .ref (ad 1 0)) p_ad_0_0 rfl dX12_skateNow_4 ?_
      refine lv_bipush (v := 13) hx hb dX12_skateNow_7 (by decide) ?_
      obtain ⟨g_18689, p_ad_1_0, o_18690⟩ := I.opi (k := 1) (j := 0) (by decide) rfl
      have p_ad_1_0 : pt L_2 f_2 (ad 1 0) (.inl (G.2 0, 10568, .inl g_18689)) := p_ad_1_0
      obtain ⟨v_18691, ev_18691⟩ : ∃ z, z = g_18689 (13 : Int32).toNatClampNeg := ⟨_, rfl⟩
      refine pg_iald S Y (v := v_18691) p_ad_1_0 (by unfold vp_in; decide) ev_18691.symm dX12_skateNow_9 ?_
      have bv_18691 : bn 0 14 v_18691 := bn_eq ev_18691 (bn_w (a' := 0) (b' := 14) (IA_13 o_18690) ⟨by decide, by have h9 := hB; unfold BBp at h9; omega⟩)
      refine lv_icmp_ge (tgt := 61) hx hb dX12_skateNow_10 (by decide) (fun c_18692 => ?_) (fun c_18692 => ?_)
      · exact prV (post := fun L1 f1 => SH (spM (IA sl pl oh dh w) pi (EQ g0) pa) nnM G ad L1 f1) S Y (by decide) (by decide) hA1 I dX12_skateNow_61
      · have B_18693 : bn 1 14 v_18691 := bn_w (bn_gtl c_18692 bv_18691 b_y2_3) (by decide)
        have B_18694 : bn 0 13 y2_3 := bn_w (bn_gtr c_18692 bv_18691 b_y2_3) (by decide)
        refine lv_aload_n hx hb dX12_skateNow_13 rfl (lv_at hl 0 rfl) ?_
        refine lv_iload_n hx hb dX12_skateNow_14 rfl (lv_at hl 3 rfl) ?_
        refine lv_iconst (v := 1) hx hb dX12_skateNow_15 (by decide) ?_
        refine cVp (As := [.int y2_3, .int 1]) (rest := []) S Y (x_X12_getON (l := l) I hB (bn_w B_18694 (by decide)) (bn_w (show bn 1 1 (1 : Int32) from bn_k (by decide)) (by decide))) cw_X12_get km12_73 p_ad_0_0 ok_X12.1 rfl rfl ⟨Nat.le_of_ble_eq_true rfl, Nat.le_of_ble_eq_true rfl⟩ hl.1 rfl (Nat.le_of_ble_eq_true rfl) ⟨Nat.le_of_ble_eq_true rfl, Nat.le_of_ble_eq_true rfl⟩ dX12_skateNow_16 (fun r_18695 H locs er_18695 Y => ?_)
        refine lv_iload_n hx hb dX12_skateNow_19 rfl (lv_at hl 1 rfl) ?_
        refine lv_icmp_ne (tgt := 55) hx hb dX12_skateNow_20 (by decide) (fun c_18696 => ?_) (fun c_18696 => ?_)
        · obtain ⟨x_18697, ex_18697⟩ : ∃ z : Int32, z = y2_3 + 1 := ⟨_, rfl⟩
          refine lv_iinc (v := x_18697) (lv' := [(3, .int x_18697), (0, .ref (ad 0 0)), (1, .int i1), (2, .int i2)]) hx hb dX12_skateNow_55 hl (k := 3) rfl (by rw [ex_18697]; rfl) (by decide) rfl (fun ls hl => ?_)
          refine lv_goto (tgt := 2) hx hb dX12_skateNow_58 (by decide) ?_
          exact ih2 _ (by rw [← hm2]; exact ms_up (m := 1) ex_18697 (show bn 1 1 (1 : Int32) from bn_k (by decide)) B_18694 (bn_w (bn_eq ex_18697 (bn_add B_18694 (show bn 1 1 (1 : Int32) from bn_k (by decide)) (by decide))) (by decide) : bn 0 14 x_18697) (by decide)) x_18697 _ _  _ _ _ I (bn_w (bn_eq ex_18697 (bn_add B_18694 (show bn 1 1 (1 : Int32) from bn_k (by decide)) (by decide))) (by decide)) rfl Y (lv_sub hl [1, 2, 3, 0] rfl)
        · refine lv_aload_n hx hb dX12_skateNow_23 rfl (lv_at hl 0 rfl) ?_
          refine lv_iload_n hx hb dX12_skateNow_24 rfl (lv_at hl 3 rfl) ?_
          refine lv_iconst (v := 2) hx hb dX12_skateNow_25 (by decide) ?_
          refine cVp (As := [.int y2_3, .int 2]) (rest := []) S Y (x_X12_get (l := l) I hB (bn_w B_18694 (by decide)) (bn_w (show bn 2 2 (2 : Int32) from bn_k (by decide)) (by decide))) cw_X12_get km12_73 p_ad_0_0 ok_X12.1 rfl rfl ⟨Nat.le_of_ble_eq_true rfl, Nat.le_of_ble_eq_true rfl⟩ hl.1 rfl (Nat.le_of_ble_eq_true rfl) ⟨Nat.le_of_ble_eq_true rfl, Nat.le_of_ble_eq_true rfl⟩ dX12_skateNow_26 (fun r_18698 H locs er_18698 Y => ?_)
          refine lv_iload_n hx hb dX12_skateNow_29 rfl (lv_at hl 2 rfl) ?_
          refine lv_icmp_ne (tgt := 55) hx hb dX12_skateNow_30 (by decide) (fun c_18699 => ?_) (fun c_18699 => ?_)
          · obtain ⟨x_18700, ex_18700⟩ : ∃ z : Int32, z = y2_3 + 1 := ⟨_, rfl⟩
            refine lv_iinc (v := x_18700) (lv' := [(3, .int x_18700), (0, .ref (ad 0 0)), (1, .int i1), (2, .int i2)]) hx hb dX12_skateNow_55 hl (k := 3) rfl (by rw [ex_18700]; rfl) (by decide) rfl (fun ls hl => ?_)
            refine lv_goto (tgt := 2) hx hb dX12_skateNow_58 (by decide) ?_
            exact ih2 _ (by rw [← hm2]; exact ms_up (m := 1) ex_18700 (show bn 1 1 (1 : Int32) from bn_k (by decide)) B_18694 (bn_w (bn_eq ex_18700 (bn_add B_18694 (show bn 1 1 (1 : Int32) from bn_k (by decide)) (by decide))) (by decide) : bn 0 14 x_18700) (by decide)) x_18700 _ _  _ _ _ I (bn_w (bn_eq ex_18700 (bn_add B_18694 (show bn 1 1 (1 : Int32) from bn_k (by decide)) (by decide))) (by decide)) rfl Y (lv_sub hl [1, 2, 3, 0] rfl)
          · refine lv_aload_n hx hb dX12_skateNow_33 rfl (lv_at hl 0 rfl) ?_
            refine lv_iload_n hx hb dX12_skateNow_34 rfl (lv_at hl 3 rfl) ?_
            refine lv_iconst (v := 5) hx hb dX12_skateNow_35 (by decide) ?_
            refine lv_aload_n hx hb dX12_skateNow_36 rfl (lv_at hl 0 rfl) ?_
            refine lv_iload_n hx hb dX12_skateNow_37 rfl (lv_at hl 3 rfl) ?_
            refine lv_iconst (v := 5) hx hb dX12_skateNow_38 (by decide) ?_
            refine cVp (As := [.int y2_3, .int 5]) (rest := [.int 5, .int y2_3, .ref (ad 0 0)]) S Y (x_X12_get (l := l) I hB (bn_w B_18694 (by decide)) (bn_w (show bn 5 5 (5 : Int32) from bn_k (by decide)) (by decide))) cw_X12_get km12_73 p_ad_0_0 ok_X12.1 rfl rfl ⟨Nat.le_of_ble_eq_true rfl, Nat.le_of_ble_eq_true rfl⟩ hl.1 rfl (Nat.le_of_ble_eq_true rfl) ⟨Nat.le_of_ble_eq_true rfl, Nat.le_of_ble_eq_true rfl⟩ dX12_skateNow_39 (fun r_18701 H locs er_18701 Y => ?_)
            refine lv_bipush (v := 30) hx hb dX12_skateNow_42 (by decide) ?_
            refine lv_iadd hx hb dX12_skateNow_44 ?_
            refine lv_topi (fun x_18702 ex_18702 => ?_)
            refine lv_i2l hx hb dX12_skateNow_45 rfl ?_
            refine lv_topl (fun x_18703 ex_18703 => ?_)
            refine lv_iconst (v := 0) hx hb dX12_skateNow_46 (by decide) ?_
            refine lv_bipush (v := 99) hx hb dX12_skateNow_47 (by decide) ?_
            refine cSp (As := [.long x_18703, .int 0, .int 99]) (rest := [.int 5, .int y2_3, .ref (ad 0 0)]) S Y (x_X12_cut (l := l) ) cw_X12_cut km12_292 rfl ⟨Nat.le_of_ble_eq_true rfl, Nat.le_of_ble_eq_true rfl⟩ hl.1 rfl (Nat.le_of_ble_eq_true rfl) ⟨Nat.le_of_ble_eq_true rfl, Nat.le_of_ble_eq_true rfl⟩ dX12_skateNow_49 (fun r_18704 H locs er_18704 Y => ?_)
            refine cVv (As := [.int y2_3, .int 5, .int r_18704]) (rest := []) S Y (x_X12_put (l := l) I hB (bn_w B_18694 (by decide)) (bn_w (show bn 5 5 (5 : Int32) from bn_k (by decide)) (by decide)) (fun h => absurd h (by decide))) cw_X12_put km12_326 p_ad_0_0 ok_X12.1 rfl rfl ⟨Nat.le_of_ble_eq_true rfl, Nat.le_of_ble_eq_true rfl⟩ hl.1 rfl (Nat.le_of_ble_eq_true rfl) ⟨Nat.le_of_ble_eq_true rfl, Nat.le_of_ble_eq_true rfl⟩ dX12_skateNow_52 (fun L_18705 f_18706 H locs I Y => ?_)
            obtain ⟨x_18707, ex_18707⟩ : ∃ z : Int32, z = y2_3 + 1 := ⟨_, rfl⟩
            refine lv_iinc (v := x_18707) (lv' := [(3, .int x_18707), (0, .ref (ad 0 0)), (1, .int i1), (2, .int i2)]) hx hb dX12_skateNow_55 hl (k := 3) rfl (by rw [ex_18707]; rfl) (by decide) rfl (fun ls hl => ?_)
            refine lv_goto (tgt := 2) hx hb dX12_skateNow_58 (by decide) ?_
            exact ih2 _ (by rw [← hm2]; exact ms_up (m := 1) ex_18707 (show bn 1 1 (1 : Int32) from bn_k (by decide)) B_18694 (bn_w (bn_eq ex_18707 (bn_add B_18694 (show bn 1 1 (1 : Int32) from bn_k (by decide)) (by decide))) (by decide) : bn 0 14 x_18707) (by decide)) x_18707 _ _  _ _ _ I (bn_w (bn_eq ex_18707 (bn_add B_18694 (show bn 1 1 (1 : Int32) from bn_k (by decide)) (by decide))) (by decide)) rfl Y (lv_sub hl [1, 2, 3, 0] rfl)
  refine lv_iconst (v := 0) hx hb dX12_skateNow_0 (by decide) ?_
  refine lv_istore_n (lv' := [(3, .int 0), (0, .ref (ad 0 0)), (1, .int i1), (2, .int i2)]) hx hb dX12_skateNow_1 rfl hl (by decide) rfl (fun ls hl => ?_)
  exact J_2 _ 0 _ _  _ _ _ I (bn_w (show bn 0 0 (0 : Int32) from bn_k (by decide)) (by decide)) rfl Y (lv_sub hl [1, 2, 3, 0] rfl)
set_option maxHeartbeats 4000000 in
set_option maxRecDepth 100000 in
theorem x_X12_pass {l : Launch} {G : GG}  {L : List Nat} {f : HF} {ad : Nat → Nat → Nat} {pl : Int} {oh : Int} {w : Int × Int} {pi : (Nat → Int32) → Prop} {g0 : Nat → Int32} {pa : (Nat → Int32) → Prop} (I : SH (spM (IA 0 pl oh 9998 w) pi (EQ g0) pa) nnM G ad L f) (hB : BBp 0 pl oh 9998 w) (hX : TX g0) : PMv l yX12_pass cX12_pass 2 8 0 0 G [.ref (ad 0 0)] L f (fun L1 f1 => SH (spM (IA 0 pl oh 9999 w) pi (EQ g0) pa) nnM G ad L1 f1) := by
  refine PMv.of (post := fun L1 f1 => SH (spM (IA 0 pl oh 9999 w) pi (EQ g0) pa) nnM G ad L1 f1) (own := RX12) (by decide) rfl (Nat.le_of_ble_eq_true rfl) (fun sz p e s m args below meth c A ls hA1 hname S Y hl => ?_)
  have hx := S.hx
  have hb := S.hb
  have hl : lv_has ls 2 [(0, .ref (ad 0 0))] := hl
  have J_2 : ∀ (n2 : Nat) (y2_1 : Int32) (L_2 : List Nat) (f_2 : HF) (H : Heap) (locs : List Loc) (ls : Array Slot), (SH (spM (IA y2_1.toInt pl oh 9998 w) pi (EQ g0) pa) nnM G ad L_2 f_2) → (bn 0 6 y2_1) → (((6 : Int) - y2_1.toInt).toNat = n2) → (DY G A s [] L_2 f_2 H locs) → (lv_has ls 2 [(0, .ref (ad 0 0)), (1, .int y2_1)]) → W p l e (rmD 8 0 0) s m args below meth c H locs (0) (0) (MQ below (va_Qv (fun (u : List Nat × HF) => (fun L1 f1 => SH (spM (IA 0 pl oh 9999 w) pi (EQ g0) pa) nnM G ad L1 f1) u.1 u.2) (fun u t => pOut G (va_A (va_pl L f) sz) u.1 u.2 t) (va_A (va_pl L f) sz)) args s 0 0 A) (F0 m 2 ls []) := by
    intro n2
    induction n2 using Nat.strongRecOn with
    | _ n2 ih2 =>
      intro y2_1 L_2 f_2 H locs ls I b_y2_1 hm2 Y hl
      refine lv_iload_n hx hb dX12_pass_2 rfl (lv_at hl 1 rfl) ?_
      refine lv_aload_n hx hb dX12_pass_3 rfl (lv_at hl 0 rfl) ?_
      obtain ⟨v_19772, v_19774, v_19776, v_19778, v_19780, v_19782, v_19784, v_19786, v_19787, v_19789, v_19791, v_19793, v_19795, v_19797, v_19799, v_19801, v_19803, v_19805, p_ad_0_0, b_19773, b_19775, b_19777, b_19779, b_19781, b_19783, b_19785, b_19788, b_19790, b_19792, b_19794, b_19796, b_19798, b_19800, b_19802, b_19804, b_19806⟩ := opnM_0 (j := 0) I (by decide)
      have p_ad_0_0 : pt L_2 f_2 (ad 0 0) (.inr (12, [.ref (ad 1 0), .ref (ad 2 0), .ref (ad 3 0), .ref (ad 4 0), .int v_19772, .int v_19774, .int v_19776, .int v_19778, .int v_19780, .int v_19782, .int v_19784, .long v_19786, .int v_19787, .int v_19789, .int v_19791, .ref (ad 5 0), .ref (ad 6 0), .int v_19793, .int v_19795, .int v_19797, .int v_19799, .int v_19801, .ref (ad 7 0), .ref (ad 8 0), .ref (ad 9 0), .int v_19803, .ref (ad 10 0), .ref (ad 11 0), .ref (ad 12 0), .ref (ad 13 0), .int v_19805, .ref (ad 14 0)])) := p_ad_0_0
      refine pg_get S Y ok_X12 0 (by decide) kf12_7 (v := .ref (ad 1 0)) p_ad_0_0 rfl dX12_pass_4 ?_
      refine lv_iconst (v := 0) hx hb dX12_pass_7 (by decide) ?_
      obtain ⟨g_19807, p_ad_1_0, o_19808⟩ := I.opi (k := 1) (j := 0) (by decide) rfl
      have p_ad_1_0 : pt L_2 f_2 (ad 1 0) (.inl (G.2 0, 10568, .inl g_19807)) := p_ad_1_0
      obtain ⟨v_19809, ev_19809⟩ : ∃ z, z = g_19807 (0 : Int32).toNatClampNeg := ⟨_, rfl⟩
      refine pg_iald S Y (v := v_19809) p_ad_1_0 (by unfold vp_in; decide) ev_19809.symm dX12_pass_8 ?_
      have bv_19809 : bn 0 6 v_19809 := bn_eq ev_19809 (bn_w (a' := 0) (b' := 6) (IA_0 o_19808) ⟨by have h9 := (BB_s hB b_y2_1.2); unfold BBp at h9; omega, by decide⟩)
      refine lv_icmp_ge (tgt := 102) hx hb dX12_pass_9 (by decide) (fun c_19810 => ?_) (fun c_19810 => ?_)
      · refine lv_aload_n hx hb dX12_pass_102 rfl (lv_at hl 0 rfl) ?_
        refine pg_get S Y ok_X12 0 (by decide) kf12_7 (v := .ref (ad 1 0)) p_ad_0_0 rfl dX12_pass_103 ?_
        refine lv_bipush (v := 10) hx hb dX12_pass_106 (by decide) ?_
        refine lv_dup2_11 hx hb dX12_pass_108 rfl rfl ?_
        obtain ⟨v_19813, ev_19813⟩ : ∃ z, z = g_19807 (10 : Int32).toNatClampNeg := ⟨_, rfl⟩
        refine pg_iald S Y (v := v_19813) p_ad_1_0 (by unfold vp_in; decide) ev_19813.symm dX12_pass_109 ?_
        have bv_19813 : bn 0 9998 v_19813 := bn_eq ev_19813 (IA_10 o_19808)
        refine lv_iconst (v := 1) hx hb dX12_pass_110 (by decide) ?_
        refine lv_iadd hx hb dX12_pass_111 ?_
        refine lv_topi (fun x_19814 ex_19814 => ?_)
        refine pg_iast S Y p_ad_1_0 (by unfold vp_in; decide) dX12_pass_112 (fun f_19816 H locs ef_19816 Y => ?_)
        obtain ⟨g_19815, eg_19815⟩ : ∃ z, z = upd (g_19807) (10 : Int32).toNatClampNeg x_19814 := ⟨_, rfl⟩
        rw [← eg_19815] at ef_19816
        have p_ad_0_0 := p_ad_0_0.up ef_19816 (I.ne (k := 0) (j := 0) (k' := 1) (j' := 0) (by decide) (by decide) (Or.inl (by decide)))
        have p_ad_1_0 := p_ad_1_0.me ef_19816
        have o_19817 : (IA 0 pl oh 9999 w) g_19815 := (by rw [eg_19815]; refine IA_day o_19808 (bn_w (bn_eq ex_19814 (bn_add bv_19813 (show bn 1 1 (1 : Int32) from bn_k (by decide)) (by decide))) (by decide)) ?_; have z1 := la_add ex_19814 rfl rfl bv_19813 (show bn 1 1 (1 : Int32) from bn_k (by decide)) (by decide); have z3 : g_19807 10 = v_19813 := ev_19813.symm; have z4 := b_y2_1.2; rw [z3]; rw [show (1 : Int32).toInt = 1 from rfl] at z1; omega)
        have I := I.upS (sp' := spM (IA 0 pl oh 9999 w) pi (EQ g0) pa) (k := 1) (j := 0) (by decide) ef_19816 (okE_a (g := g_19815) o_19817) pAC
        have q_19818 : g_19815 (0 : Int32).toNatClampNeg = v_19809 := by rw [eg_19815]; exact (pk_un (by decide)).trans ev_19809.symm
        have q_19819 : g_19815 (10 : Int32).toNatClampNeg = x_19814 := by rw [eg_19815]; exact pk_us
        refine lv_aload_n hx hb dX12_pass_113 rfl (lv_at hl 0 rfl) ?_
        refine pg_get S Y ok_X12 0 (by decide) kf12_7 (v := .ref (ad 1 0)) p_ad_0_0 rfl dX12_pass_114 ?_
        refine lv_bipush (v := 11) hx hb dX12_pass_117 (by decide) ?_
        refine lv_aload_n hx hb dX12_pass_119 rfl (lv_at hl 0 rfl) ?_
        refine pg_get S Y ok_X12 0 (by decide) kf12_7 (v := .ref (ad 1 0)) p_ad_0_0 rfl dX12_pass_120 ?_
        refine lv_bipush (v := 12) hx hb dX12_pass_123 (by decide) ?_
        obtain ⟨v_19820, ev_19820⟩ : ∃ z, z = g_19815 (12 : Int32).toNatClampNeg := ⟨_, rfl⟩
        refine pg_iald S Y (v := v_19820) p_ad_1_0 (by unfold vp_in; decide) ev_19820.symm dX12_pass_125 ?_
        refine lv_bipush (v := 10) hx hb dX12_pass_126 (by decide) ?_
        refine lv_irem hx hb dX12_pass_128 (by decide) ?_
        refine lv_topi (fun x_19821 ex_19821 => ?_)
        refine pg_iast S Y p_ad_1_0 (by unfold vp_in; decide) dX12_pass_129 (fun f_19823 H locs ef_19823 Y => ?_)
        obtain ⟨g_19822, eg_19822⟩ : ∃ z, z = upd (g_19815) (11 : Int32).toNatClampNeg x_19821 := ⟨_, rfl⟩
        rw [← eg_19822] at ef_19823
        have p_ad_0_0 := p_ad_0_0.up ef_19823 (I.ne (k := 0) (j := 0) (k' := 1) (j' := 0) (by decide) (by decide) (Or.inl (by decide)))
        have p_ad_1_0 := p_ad_1_0.me ef_19823
        have o_19824 : (IA 0 pl oh 9999 w) g_19822 := (by rw [eg_19822]; exact (IA_free o_19817 (by unfold frC; decide)))
        have I := I.up (k := 1) (j := 0) (by decide) ef_19823 (okE_a (g := g_19822) o_19824)
        have q_19825 : g_19822 (0 : Int32).toNatClampNeg = v_19809 := by rw [eg_19822]; exact (pk_un (by decide)).trans q_19818
        have q_19826 : g_19822 (10 : Int32).toNatClampNeg = x_19814 := by rw [eg_19822]; exact (pk_un (by decide)).trans q_19819
        have q_19827 : g_19822 (12 : Int32).toNatClampNeg = v_19820 := by rw [eg_19822]; exact (pk_un (by decide)).trans ev_19820.symm
        have q_19828 : g_19822 (11 : Int32).toNatClampNeg = x_19821 := by rw [eg_19822]; exact pk_us
        refine lv_aload_n hx hb dX12_pass_130 rfl (lv_at hl 0 rfl) ?_
        refine cVv (As := []) (rest := []) S Y (x_X12_anew (l := l) I (BB_s (BB_dh hB (by decide)) (by decide))) cw_X12_anew km12_320 p_ad_0_0 ok_X12.1 rfl rfl ⟨Nat.le_of_ble_eq_true rfl, Nat.le_of_ble_eq_true rfl⟩ hl.1 rfl (Nat.le_of_ble_eq_true rfl) ⟨Nat.le_of_ble_eq_true rfl, Nat.le_of_ble_eq_true rfl⟩ dX12_pass_131 (fun L_19829 f_19830 H locs I Y => ?_)
        exact prV (post := fun L1 f1 => SH (spM (IA 0 pl oh 9999 w) pi (EQ g0) pa) nnM G ad L1 f1) S Y (by decide) (by decide) hA1 I dX12_pass_134
      · have B_19811 : bn 1 6 v_19809 := bn_w (bn_gtl c_19810 bv_19809 b_y2_1) (by decide)
        have B_19812 : bn 0 5 y2_1 := bn_w (bn_gtr c_19810 bv_19809 b_y2_1) (by decide)
        refine lv_aload_n hx hb dX12_pass_12 rfl (lv_at hl 0 rfl) ?_
        refine pg_get S Y ok_X12 26 (by decide) kf12_50 (v := .ref (ad 10 0)) p_ad_0_0 rfl dX12_pass_13 ?_
        refine lv_iload_n hx hb dX12_pass_16 rfl (lv_at hl 1 rfl) ?_
        refine lv_aload_n hx hb dX12_pass_17 rfl (lv_at hl 0 rfl) ?_
        refine lv_iload_n hx hb dX12_pass_18 rfl (lv_at hl 1 rfl) ?_
        refine cVi (As := [.int y2_1]) (rest := [.int y2_1, .ref (ad 10 0)]) S Y (x_X12_acheOf (l := l) I (BB_s hB b_y2_1.2) hX) cw_X12_acheOf km12_317 p_ad_0_0 ok_X12.1 rfl rfl ⟨Nat.le_of_ble_eq_true rfl, Nat.le_of_ble_eq_true rfl⟩ hl.1 rfl (Nat.le_of_ble_eq_true rfl) ⟨Nat.le_of_ble_eq_true rfl, Nat.le_of_ble_eq_true rfl⟩ dX12_pass_19 (fun r_19833 L_19831 f_19832 H locs I Y => ?_)
        obtain ⟨g_19834, p_ad_10_0, o_19835⟩ := I.opi (k := 10) (j := 0) (by decide) rfl
        have p_ad_10_0 : pt L_19831 f_19832 (ad 10 0) (.inl (G.2 0, 6, .inl g_19834)) := p_ad_10_0
        refine pg_iast S Y p_ad_10_0 (vp_bn B_19812 (by decide)) dX12_pass_22 (fun f_19837 H locs ef_19837 Y => ?_)
        obtain ⟨g_19836, eg_19836⟩ : ∃ z, z = upd (g_19834) (y2_1 : Int32).toNatClampNeg r_19833 := ⟨_, rfl⟩
        rw [← eg_19836] at ef_19837
        have p_ad_10_0 := p_ad_10_0.me ef_19837
        have o_19838 : True := trivial
        have I := I.up (k := 10) (j := 0) (by decide) ef_19837 (okE_a (g := g_19836) o_19838)
        refine lv_aload_n hx hb dX12_pass_23 rfl (lv_at hl 0 rfl) ?_
        obtain ⟨v_19839, v_19841, v_19843, v_19845, v_19847, v_19849, v_19851, v_19853, v_19854, v_19856, v_19858, v_19860, v_19862, v_19864, v_19866, v_19868, v_19870, v_19872, p_ad_0_0, b_19840, b_19842, b_19844, b_19846, b_19848, b_19850, b_19852, b_19855, b_19857, b_19859, b_19861, b_19863, b_19865, b_19867, b_19869, b_19871, b_19873⟩ := opnM_0 (j := 0) I (by decide)
        have p_ad_0_0 : pt L_19831 f_19837 (ad 0 0) (.inr (12, [.ref (ad 1 0), .ref (ad 2 0), .ref (ad 3 0), .ref (ad 4 0), .int v_19839, .int v_19841, .int v_19843, .int v_19845, .int v_19847, .int v_19849, .int v_19851, .long v_19853, .int v_19854, .int v_19856, .int v_19858, .ref (ad 5 0), .ref (ad 6 0), .int v_19860, .int v_19862, .int v_19864, .int v_19866, .int v_19868, .ref (ad 7 0), .ref (ad 8 0), .ref (ad 9 0), .int v_19870, .ref (ad 10 0), .ref (ad 11 0), .ref (ad 12 0), .ref (ad 13 0), .int v_19872, .ref (ad 14 0)])) := p_ad_0_0
        refine pg_get S Y ok_X12 26 (by decide) kf12_50 (v := .ref (ad 10 0)) p_ad_0_0 rfl dX12_pass_24 ?_
        refine lv_iload_n hx hb dX12_pass_27 rfl (lv_at hl 1 rfl) ?_
        obtain ⟨v_19874, ev_19874⟩ : ∃ z, z = g_19836 (y2_1 : Int32).toNatClampNeg := ⟨_, rfl⟩
        refine pg_iald S Y (v := v_19874) p_ad_10_0 (vp_bn B_19812 (by decide)) ev_19874.symm dX12_pass_28 ?_
        refine lv_if_eq (tgt := 96) hx hb dX12_pass_29 (by decide) (fun c_19875 => ?_) (fun c_19875 => ?_)
        · have B_19876 : bn 0 0 v_19874 := bn_w (bn_eq c_19875 (show bn 0 0 (0 : Int32) from bn_k (by decide))) (by decide)
          obtain ⟨x_19877, ex_19877⟩ : ∃ z : Int32, z = y2_1 + 1 := ⟨_, rfl⟩
          refine lv_iinc (v := x_19877) (lv' := [(1, .int x_19877), (0, .ref (ad 0 0))]) hx hb dX12_pass_96 hl (k := 1) rfl (by rw [ex_19877]; rfl) (by decide) rfl (fun ls hl => ?_)
          refine lv_goto (tgt := 2) hx hb dX12_pass_99 (by decide) ?_
          have I : SH (spM (IA x_19877.toInt pl oh 9998 w) pi (EQ g0) pa) nnM G ad L_19831 f_19837 := SHpA I (fun g h => IA_sm h (by have z9 := (la_add ex_19877 (rfl : y2_1.toInt = y2_1.toInt) (show (1 : Int32).toInt = 1 from rfl) B_19812 (show bn 1 1 (1 : Int32) from bn_k (by decide)) (by decide)); omega))
          exact ih2 _ (by rw [← hm2]; exact ms_up (m := 1) ex_19877 (show bn 1 1 (1 : Int32) from bn_k (by decide)) B_19812 (bn_w (bn_eq ex_19877 (bn_add B_19812 (show bn 1 1 (1 : Int32) from bn_k (by decide)) (by decide))) (by decide) : bn 0 6 x_19877) (by decide)) x_19877 _ _  _ _ _ I (bn_w (bn_eq ex_19877 (bn_add B_19812 (show bn 1 1 (1 : Int32) from bn_k (by decide)) (by decide))) (by decide)) rfl Y (lv_sub hl [1, 0] rfl)
        · refine lv_aload_n hx hb dX12_pass_32 rfl (lv_at hl 0 rfl) ?_
          refine pg_get S Y ok_X12 25 (by decide) kf12_46 (v := .int v_19870) p_ad_0_0 rfl dX12_pass_33 ?_
          refine lv_if_ne (tgt := 42) hx hb dX12_pass_36 (by decide) (fun c_19878 => ?_) (fun c_19878 => ?_)
          · have B_19879 : bn 1 1 v_19870 := bn_w (bn_nel c_19878 b_19871 (show bn 0 0 (0 : Int32) from bn_k (by decide))) (by decide)
            refine lv_aload_n hx hb dX12_pass_42 rfl (lv_at hl 0 rfl) ?_
            refine pg_get S Y ok_X12 0 (by decide) kf12_7 (v := .ref (ad 1 0)) p_ad_0_0 rfl dX12_pass_43 ?_
            refine lv_sipush (v := 3328) hx hb dX12_pass_46 (by decide) ?_
            refine lv_aload_n hx hb dX12_pass_49 rfl (lv_at hl 0 rfl) ?_
            refine pg_get S Y ok_X12 0 (by decide) kf12_7 (v := .ref (ad 1 0)) p_ad_0_0 rfl dX12_pass_50 ?_
            refine lv_bipush (v := 14) hx hb dX12_pass_53 (by decide) ?_
            obtain ⟨g_19881, p_ad_1_0, o_19882⟩ := I.opi (k := 1) (j := 0) (by decide) rfl
            have p_ad_1_0 : pt L_19831 f_19837 (ad 1 0) (.inl (G.2 0, 10568, .inl g_19881)) := p_ad_1_0
            obtain ⟨v_19883, ev_19883⟩ : ∃ z, z = g_19881 (14 : Int32).toNatClampNeg := ⟨_, rfl⟩
            refine pg_iald S Y (v := v_19883) p_ad_1_0 (by unfold vp_in; decide) ev_19883.symm dX12_pass_55 ?_
            have bv_19883 : bn 0 60000 v_19883 := bn_eq ev_19883 (IA_14 o_19882 (by have h9 := (BB_s hB b_y2_1.2); unfold BBp at h9; omega) (by have h9 := (BB_s hB b_y2_1.2); unfold BBp at h9; omega))
            refine lv_sipush (v := 7240) hx hb dX12_pass_56 (by decide) ?_
            refine lv_irem hx hb dX12_pass_59 (by decide) ?_
            refine lv_topi (fun x_19884 ex_19884 => ?_)
            refine lv_iadd hx hb dX12_pass_60 ?_
            refine lv_topi (fun x_19885 ex_19885 => ?_)
            refine lv_aload_n hx hb dX12_pass_61 rfl (lv_at hl 0 rfl) ?_
            refine pg_get S Y ok_X12 0 (by decide) kf12_7 (v := .ref (ad 1 0)) p_ad_0_0 rfl dX12_pass_62 ?_
            refine lv_bipush (v := 10) hx hb dX12_pass_65 (by decide) ?_
            obtain ⟨v_19886, ev_19886⟩ : ∃ z, z = g_19881 (10 : Int32).toNatClampNeg := ⟨_, rfl⟩
            refine pg_iald S Y (v := v_19886) p_ad_1_0 (by unfold vp_in; decide) ev_19886.symm dX12_pass_67 ?_
            have bv_19886 : bn 0 9998 v_19886 := bn_eq ev_19886 (IA_10 o_19882)
            refine lv_bipush (v := 8) hx hb dX12_pass_68 (by decide) ?_
            refine lv_imul hx hb dX12_pass_70 ?_
            refine lv_topi (fun x_19887 ex_19887 => ?_)
            refine lv_iload_n hx hb dX12_pass_71 rfl (lv_at hl 1 rfl) ?_
            refine lv_iadd hx hb dX12_pass_72 ?_
            refine lv_topi (fun x_19888 ex_19888 => ?_)
            refine lv_sipush (v := 2000) hx hb dX12_pass_73 (by decide) ?_
            refine lv_imul hx hb dX12_pass_76 ?_
            refine lv_topi (fun x_19889 ex_19889 => ?_)
            refine lv_aload_n hx hb dX12_pass_77 rfl (lv_at hl 0 rfl) ?_
            refine pg_get S Y ok_X12 26 (by decide) kf12_50 (v := .ref (ad 10 0)) p_ad_0_0 rfl dX12_pass_78 ?_
            refine lv_iload_n hx hb dX12_pass_81 rfl (lv_at hl 1 rfl) ?_
            obtain ⟨v_19890, ev_19890⟩ : ∃ z, z = g_19836 (y2_1 : Int32).toNatClampNeg := ⟨_, rfl⟩
            refine pg_iald S Y (v := v_19890) p_ad_10_0 (vp_bn B_19812 (by decide)) ev_19890.symm dX12_pass_82 ?_
            refine lv_iadd hx hb dX12_pass_83 ?_
            refine lv_topi (fun x_19891 ex_19891 => ?_)
            refine pg_iast S Y p_ad_1_0 (vp_bn (bn_eq ex_19885 (bn_add (show bn 3328 3328 (3328 : Int32) from bn_k (by decide)) (bn_eq ex_19884 (bn_rem bv_19883 (show bn 7240 7240 (7240 : Int32) from bn_k (by decide)) (by decide))) (by decide))) (by decide)) dX12_pass_84 (fun f_19893 H locs ef_19893 Y => ?_)
            obtain ⟨g_19892, eg_19892⟩ : ∃ z, z = upd (g_19881) (x_19885 : Int32).toNatClampNeg x_19891 := ⟨_, rfl⟩
            rw [← eg_19892] at ef_19893
            have p_ad_10_0 := p_ad_10_0.up ef_19893 (I.ne (k := 10) (j := 0) (k' := 1) (j' := 0) (by decide) (by decide) (Or.inl (by decide)))
            have p_ad_0_0 := p_ad_0_0.up ef_19893 (I.ne (k := 0) (j := 0) (k' := 1) (j' := 0) (by decide) (by decide) (Or.inl (by decide)))
            have p_ad_1_0 := p_ad_1_0.me ef_19893
            have o_19894 : (IA y2_1.toInt pl oh 9998 w) g_19892 := (by rw [eg_19892]; exact (IA_free o_19882 (fr_of (bn_eq ex_19885 (bn_add (show bn 3328 3328 (3328 : Int32) from bn_k (by decide)) (bn_eq ex_19884 (bn_rem bv_19883 (show bn 7240 7240 (7240 : Int32) from bn_k (by decide)) (by decide))) (by decide))) (by decide))))
            have I := I.up (k := 1) (j := 0) (by decide) ef_19893 (okE_a (g := g_19892) o_19894)
            have q_19895 : g_19892 (14 : Int32).toNatClampNeg = v_19883 := by rw [eg_19892]; exact (pk_un (nq_of (bn_eq ex_19885 (bn_add (show bn 3328 3328 (3328 : Int32) from bn_k (by decide)) (bn_eq ex_19884 (bn_rem bv_19883 (show bn 7240 7240 (7240 : Int32) from bn_k (by decide)) (by decide))) (by decide))) (by decide))).trans ev_19883.symm
            have q_19896 : g_19892 (10 : Int32).toNatClampNeg = v_19886 := by rw [eg_19892]; exact (pk_un (nq_of (bn_eq ex_19885 (bn_add (show bn 3328 3328 (3328 : Int32) from bn_k (by decide)) (bn_eq ex_19884 (bn_rem bv_19883 (show bn 7240 7240 (7240 : Int32) from bn_k (by decide)) (by decide))) (by decide))) (by decide))).trans ev_19886.symm
            refine lv_aload_n hx hb dX12_pass_85 rfl (lv_at hl 0 rfl) ?_
            refine pg_get S Y ok_X12 0 (by decide) kf12_7 (v := .ref (ad 1 0)) p_ad_0_0 rfl dX12_pass_86 ?_
            refine lv_bipush (v := 14) hx hb dX12_pass_89 (by decide) ?_
            refine lv_dup2_11 hx hb dX12_pass_91 rfl rfl ?_
            refine pg_iald S Y (v := v_19883) p_ad_1_0 (by unfold vp_in; decide) q_19895 dX12_pass_92 ?_
            refine lv_iconst (v := 1) hx hb dX12_pass_93 (by decide) ?_
            refine lv_iadd hx hb dX12_pass_94 ?_
            refine lv_topi (fun x_19897 ex_19897 => ?_)
            refine pg_iast S Y p_ad_1_0 (by unfold vp_in; decide) dX12_pass_95 (fun f_19899 H locs ef_19899 Y => ?_)
            obtain ⟨g_19898, eg_19898⟩ : ∃ z, z = upd (g_19892) (14 : Int32).toNatClampNeg x_19897 := ⟨_, rfl⟩
            rw [← eg_19898] at ef_19899
            have p_ad_10_0 := p_ad_10_0.up ef_19899 (I.ne (k := 10) (j := 0) (k' := 1) (j' := 0) (by decide) (by decide) (Or.inl (by decide)))
            have p_ad_0_0 := p_ad_0_0.up ef_19899 (I.ne (k := 0) (j := 0) (k' := 1) (j' := 0) (by decide) (by decide) (Or.inl (by decide)))
            have p_ad_1_0 := p_ad_1_0.me ef_19899
            have o_19900 : (IA (y2_1.toInt + 1) pl oh 9998 w) g_19898 := (by rw [eg_19898]; refine IA_wr o_19894 ?_ ?_ <;> (have z1 := la_add ex_19897 rfl rfl bv_19883 (show bn 1 1 (1 : Int32) from bn_k (by decide)) (by decide); have z2 := (IA_ld o_19894).2.2.2.1; have z3 : g_19892 14 = v_19883 := q_19895; have z4 := (bv_19883).1; rw [show 10 + 4 = 14 from rfl, z3] at z2; rw [show (1 : Int32).toInt = 1 from rfl] at z1; omega))
            have I := I.upS (sp' := spM (IA (y2_1.toInt + 1) pl oh 9998 w) pi (EQ g0) pa) (k := 1) (j := 0) (by decide) ef_19899 (okE_a (g := g_19898) o_19900) pAC
            have q_19901 : g_19898 (10 : Int32).toNatClampNeg = v_19886 := by rw [eg_19898]; exact (pk_un (by decide)).trans q_19896
            have q_19902 : g_19898 (14 : Int32).toNatClampNeg = x_19897 := by rw [eg_19898]; exact pk_us
            obtain ⟨x_19903, ex_19903⟩ : ∃ z : Int32, z = y2_1 + 1 := ⟨_, rfl⟩
            refine lv_iinc (v := x_19903) (lv' := [(1, .int x_19903), (0, .ref (ad 0 0))]) hx hb dX12_pass_96 hl (k := 1) rfl (by rw [ex_19903]; rfl) (by decide) rfl (fun ls hl => ?_)
            refine lv_goto (tgt := 2) hx hb dX12_pass_99 (by decide) ?_
            have I : SH (spM (IA x_19903.toInt pl oh 9998 w) pi (EQ g0) pa) nnM G ad L_19831 f_19899 := SHpA I (fun g h => IA_sm h (by have z9 := (la_add ex_19903 (rfl : y2_1.toInt = y2_1.toInt) (show (1 : Int32).toInt = 1 from rfl) B_19812 (show bn 1 1 (1 : Int32) from bn_k (by decide)) (by decide)); omega))
            exact ih2 _ (by rw [← hm2]; exact ms_up (m := 1) ex_19903 (show bn 1 1 (1 : Int32) from bn_k (by decide)) B_19812 (bn_w (bn_eq ex_19903 (bn_add B_19812 (show bn 1 1 (1 : Int32) from bn_k (by decide)) (by decide))) (by decide) : bn 0 6 x_19903) (by decide)) x_19903 _ _  _ _ _ I (bn_w (bn_eq ex_19903 (bn_add B_19812 (show bn 1 1 (1 : Int32) from bn_k (by decide)) (by decide))) (by decide)) rfl Y (lv_sub hl [1, 0] rfl)
          · have B_19880 : bn 0 0 v_19870 := bn_w (bn_eq c_19878 (show bn 0 0 (0 : Int32) from bn_k (by decide))) (by decide)
            refine lv_goto (tgt := 96) hx hb dX12_pass_39 (by decide) ?_
            obtain ⟨x_19904, ex_19904⟩ : ∃ z : Int32, z = y2_1 + 1 := ⟨_, rfl⟩
            refine lv_iinc (v := x_19904) (lv' := [(1, .int x_19904), (0, .ref (ad 0 0))]) hx hb dX12_pass_96 hl (k := 1) rfl (by rw [ex_19904]; rfl) (by decide) rfl (fun ls hl => ?_)
            refine lv_goto (tgt := 2) hx hb dX12_pass_99 (by decide) ?_
            have I : SH (spM (IA x_19904.toInt pl oh 9998 w) pi (EQ g0) pa) nnM G ad L_19831 f_19837 := SHpA I (fun g h => IA_sm h (by have z9 := (la_add ex_19904 (rfl : y2_1.toInt = y2_1.toInt) (show (1 : Int32).toInt = 1 from rfl) B_19812 (show bn 1 1 (1 : Int32) from bn_k (by decide)) (by decide)); omega))
            exact ih2 _ (by rw [← hm2]; exact ms_up (m := 1) ex_19904 (show bn 1 1 (1 : Int32) from bn_k (by decide)) B_19812 (bn_w (bn_eq ex_19904 (bn_add B_19812 (show bn 1 1 (1 : Int32) from bn_k (by decide)) (by decide))) (by decide) : bn 0 6 x_19904) (by decide)) x_19904 _ _  _ _ _ I (bn_w (bn_eq ex_19904 (bn_add B_19812 (show bn 1 1 (1 : Int32) from bn_k (by decide)) (by decide))) (by decide)) rfl Y (lv_sub hl [1, 0] rfl)
  refine lv_iconst (v := 0) hx hb dX12_pass_0 (by decide) ?_
  refine lv_istore_n (lv' := [(1, .int 0), (0, .ref (ad 0 0))]) hx hb dX12_pass_1 rfl hl (by decide) rfl (fun ls hl => ?_)
  have I : SH (spM (IA (0 : Int32).toInt pl oh 9998 w) pi (EQ g0) pa) nnM G ad L f := I
  exact J_2 _ 0 _ _  _ _ _ I (bn_w (show bn 0 0 (0 : Int32) from bn_k (by decide)) (by decide)) rfl Y (lv_sub hl [1, 0] rfl)
