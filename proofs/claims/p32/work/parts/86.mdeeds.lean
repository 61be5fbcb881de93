theorem dX12_canSwear_0 : decode cX12_canSwear 0 = .ok (.aload_n 0, 1) := by decide +kernel
theorem dX12_canSwear_1 : decode cX12_canSwear 1 = .ok (.iload_n 1, 1) := by decide +kernel
theorem dX12_canSwear_2 : decode cX12_canSwear 2 = .ok (.invokevirtual 323, 3) := by decide +kernel
theorem cw_X12_isOne : CWv yX12_isOne cX12_isOne 2 (some .boolean) 1 := ⟨⟨⟨List.mem_of_getElem? (i := 137) (by decide +kernel), by decide +kernel⟩, ⟨List.mem_of_getElem? (i := 1788) (by decide +kernel), by decide +kernel⟩, by decide +kernel⟩, ⟨List.mem_of_getElem? (i := 1787) (by decide +kernel), by decide +kernel⟩, ⟨List.mem_of_getElem? (i := 79) (by decide +kernel), by decide +kernel⟩⟩
theorem km12_323 : inW (Cond.methodLink RX12 323 yX12_isOne) := ⟨List.mem_of_getElem? (i := 1785) (by decide +kernel), by decide +kernel⟩
theorem dX12_canSwear_5 : decode cX12_canSwear 5 = .ok (.ifCond .eq 32, 3) := by decide +kernel
theorem dX12_canSwear_37 : decode cX12_canSwear 37 = .ok (.iconst 0, 1) := by decide +kernel
theorem dX12_canSwear_38 : decode cX12_canSwear 38 = .ok (.ireturn, 1) := by decide +kernel
theorem dX12_canSwear_8 : decode cX12_canSwear 8 = .ok (.aload_n 0, 1) := by decide +kernel
theorem dX12_canSwear_9 : decode cX12_canSwear 9 = .ok (.iload_n 2, 1) := by decide +kernel
theorem dX12_canSwear_10 : decode cX12_canSwear 10 = .ok (.invokevirtual 323, 3) := by decide +kernel
theorem dX12_canSwear_13 : decode cX12_canSwear 13 = .ok (.ifCond .eq 24, 3) := by decide +kernel
theorem dX12_canSwear_16 : decode cX12_canSwear 16 = .ok (.iload_n 1, 1) := by decide +kernel
theorem dX12_canSwear_17 : decode cX12_canSwear 17 = .ok (.iload_n 2, 1) := by decide +kernel
theorem dX12_canSwear_18 : decode cX12_canSwear 18 = .ok (.if_icmp .eq 19, 3) := by decide +kernel
theorem dX12_canSwear_21 : decode cX12_canSwear 21 = .ok (.aload_n 0, 1) := by decide +kernel
theorem dX12_canSwear_22 : decode cX12_canSwear 22 = .ok (.getfield 7, 3) := by decide +kernel
theorem dX12_canSwear_25 : decode cX12_canSwear 25 = .ok (.bipush 13, 2) := by decide +kernel
theorem dX12_canSwear_27 : decode cX12_canSwear 27 = .ok (.iaload, 1) := by decide +kernel
theorem dX12_canSwear_28 : decode cX12_canSwear 28 = .ok (.bipush 14, 2) := by decide +kernel
theorem dX12_canSwear_30 : decode cX12_canSwear 30 = .ok (.if_icmp .ge 7, 3) := by decide +kernel
theorem dX12_canSwear_33 : decode cX12_canSwear 33 = .ok (.iconst 1, 1) := by decide +kernel
theorem dX12_canSwear_34 : decode cX12_canSwear 34 = .ok (.goto 4, 3) := by decide +kernel
theorem dX12_swearNow_0 : decode cX12_swearNow 0 = .ok (.aload_n 0, 1) := by decide +kernel
theorem dX12_swearNow_1 : decode cX12_swearNow 1 = .ok (.getfield 7, 3) := by decide +kernel
theorem dX12_swearNow_4 : decode cX12_swearNow 4 = .ok (.bipush 13, 2) := by decide +kernel
theorem dX12_swearNow_6 : decode cX12_swearNow 6 = .ok (.iaload, 1) := by decide +kernel
theorem dX12_swearNow_7 : decode cX12_swearNow 7 = .ok (.istore 5, 2) := by decide +kernel
theorem dX12_swearNow_9 : decode cX12_swearNow 9 = .ok (.aload_n 0, 1) := by decide +kernel
theorem dX12_swearNow_10 : decode cX12_swearNow 10 = .ok (.iload 5, 2) := by decide +kernel
theorem dX12_swearNow_12 : decode cX12_swearNow 12 = .ok (.iconst 0, 1) := by decide +kernel
theorem dX12_swearNow_13 : decode cX12_swearNow 13 = .ok (.iload_n 1, 1) := by decide +kernel
theorem dX12_swearNow_14 : decode cX12_swearNow 14 = .ok (.invokevirtual 326, 3) := by decide +kernel
theorem cw_X12_put : CWv yX12_put cX12_put 4 none 3 := ⟨⟨⟨List.mem_of_getElem? (i := 137) (by decide +kernel), by decide +kernel⟩, ⟨List.mem_of_getElem? (i := 1800) (by decide +kernel), by decide +kernel⟩, by decide +kernel⟩, ⟨List.mem_of_getElem? (i := 1799) (by decide +kernel), by decide +kernel⟩, ⟨List.mem_of_getElem? (i := 82) (by decide +kernel), by decide +kernel⟩⟩
theorem km12_326 : inW (Cond.methodLink RX12 326 yX12_put) := ⟨List.mem_of_getElem? (i := 1797) (by decide +kernel), by decide +kernel⟩
theorem dX12_swearNow_17 : decode cX12_swearNow 17 = .ok (.aload_n 0, 1) := by decide +kernel
theorem dX12_swearNow_18 : decode cX12_swearNow 18 = .ok (.iload 5, 2) := by decide +kernel
theorem dX12_swearNow_20 : decode cX12_swearNow 20 = .ok (.iconst 1, 1) := by decide +kernel
theorem dX12_swearNow_21 : decode cX12_swearNow 21 = .ok (.iload_n 2, 1) := by decide +kernel
theorem dX12_swearNow_22 : decode cX12_swearNow 22 = .ok (.invokevirtual 326, 3) := by decide +kernel
theorem dX12_swearNow_25 : decode cX12_swearNow 25 = .ok (.aload_n 0, 1) := by decide +kernel
theorem dX12_swearNow_26 : decode cX12_swearNow 26 = .ok (.iload 5, 2) := by decide +kernel
theorem dX12_swearNow_28 : decode cX12_swearNow 28 = .ok (.iconst 2, 1) := by decide +kernel
theorem dX12_swearNow_29 : decode cX12_swearNow 29 = .ok (.iload_n 3, 1) := by decide +kernel
theorem dX12_swearNow_30 : decode cX12_swearNow 30 = .ok (.invokevirtual 326, 3) := by decide +kernel
theorem dX12_swearNow_33 : decode cX12_swearNow 33 = .ok (.aload_n 0, 1) := by decide +kernel
theorem dX12_swearNow_34 : decode cX12_swearNow 34 = .ok (.iload 5, 2) := by decide +kernel
theorem dX12_swearNow_36 : decode cX12_swearNow 36 = .ok (.iconst 3, 1) := by decide +kernel
theorem dX12_swearNow_37 : decode cX12_swearNow 37 = .ok (.iload 4, 2) := by decide +kernel
theorem dX12_swearNow_39 : decode cX12_swearNow 39 = .ok (.invokevirtual 326, 3) := by decide +kernel
theorem dX12_swearNow_42 : decode cX12_swearNow 42 = .ok (.aload_n 0, 1) := by decide +kernel
theorem dX12_swearNow_43 : decode cX12_swearNow 43 = .ok (.iload 5, 2) := by decide +kernel
theorem dX12_swearNow_45 : decode cX12_swearNow 45 = .ok (.iconst 4, 1) := by decide +kernel
theorem dX12_swearNow_46 : decode cX12_swearNow 46 = .ok (.iconst 0, 1) := by decide +kernel
theorem dX12_swearNow_47 : decode cX12_swearNow 47 = .ok (.invokevirtual 326, 3) := by decide +kernel
theorem dX12_swearNow_50 : decode cX12_swearNow 50 = .ok (.aload_n 0, 1) := by decide +kernel
theorem dX12_swearNow_51 : decode cX12_swearNow 51 = .ok (.iload 5, 2) := by decide +kernel
theorem dX12_swearNow_53 : decode cX12_swearNow 53 = .ok (.iconst 5, 1) := by decide +kernel
theorem dX12_swearNow_54 : decode cX12_swearNow 54 = .ok (.iconst 0, 1) := by decide +kernel
theorem dX12_swearNow_55 : decode cX12_swearNow 55 = .ok (.invokevirtual 326, 3) := by decide +kernel
theorem dX12_swearNow_58 : decode cX12_swearNow 58 = .ok (.aload_n 0, 1) := by decide +kernel
theorem dX12_swearNow_59 : decode cX12_swearNow 59 = .ok (.iload 5, 2) := by decide +kernel
theorem dX12_swearNow_61 : decode cX12_swearNow 61 = .ok (.bipush 6, 2) := by decide +kernel
theorem dX12_swearNow_63 : decode cX12_swearNow 63 = .ok (.aload_n 0, 1) := by decide +kernel
theorem dX12_swearNow_64 : decode cX12_swearNow 64 = .ok (.getfield 7, 3) := by decide +kernel
theorem dX12_swearNow_67 : decode cX12_swearNow 67 = .ok (.bipush 10, 2) := by decide +kernel
theorem dX12_swearNow_69 : decode cX12_swearNow 69 = .ok (.iaload, 1) := by decide +kernel
theorem dX12_swearNow_70 : decode cX12_swearNow 70 = .ok (.invokevirtual 326, 3) := by decide +kernel
theorem dX12_swearNow_73 : decode cX12_swearNow 73 = .ok (.aload_n 0, 1) := by decide +kernel
theorem dX12_swearNow_74 : decode cX12_swearNow 74 = .ok (.getfield 7, 3) := by decide +kernel
theorem dX12_swearNow_77 : decode cX12_swearNow 77 = .ok (.bipush 13, 2) := by decide +kernel
theorem dX12_swearNow_79 : decode cX12_swearNow 79 = .ok (.dup2, 1) := by decide +kernel
theorem dX12_swearNow_80 : decode cX12_swearNow 80 = .ok (.iaload, 1) := by decide +kernel
theorem dX12_swearNow_81 : decode cX12_swearNow 81 = .ok (.iconst 1, 1) := by decide +kernel
theorem dX12_swearNow_82 : decode cX12_swearNow 82 = .ok (.iadd, 1) := by decide +kernel
theorem dX12_swearNow_83 : decode cX12_swearNow 83 = .ok (.iastore, 1) := by decide +kernel
theorem dX12_swearNow_84 : decode cX12_swearNow 84 = .ok (.iload 5, 2) := by decide +kernel
theorem dX12_swearNow_86 : decode cX12_swearNow 86 = .ok (.ireturn, 1) := by decide +kernel
theorem dX12_one_0 : decode cX12_one 0 = .ok (.iload_n 1, 1) := by decide +kernel
theorem dX12_one_1 : decode cX12_one 1 = .ok (.iconst 0, 1) := by decide +kernel
theorem dX12_one_2 : decode cX12_one 2 = .ok (.bipush 9, 2) := by decide +kernel
theorem dX12_one_4 : decode cX12_one 4 = .ok (.invokestatic 69, 3) := by decide +kernel
theorem dX12_one_7 : decode cX12_one 7 = .ok (.ifCond .eq 24, 3) := by decide +kernel
theorem dX12_one_31 : decode cX12_one 31 = .ok (.iconst (-1), 1) := by decide +kernel
theorem dX12_one_32 : decode cX12_one 32 = .ok (.ireturn, 1) := by decide +kernel
theorem dX12_one_10 : decode cX12_one 10 = .ok (.iload_n 2, 1) := by decide +kernel
theorem dX12_one_11 : decode cX12_one 11 = .ok (.iconst 0, 1) := by decide +kernel
theorem dX12_one_12 : decode cX12_one 12 = .ok (.bipush 99, 2) := by decide +kernel
theorem dX12_one_14 : decode cX12_one 14 = .ok (.invokestatic 69, 3) := by decide +kernel
theorem dX12_one_17 : decode cX12_one 17 = .ok (.ifCond .eq 14, 3) := by decide +kernel
theorem dX12_one_20 : decode cX12_one 20 = .ok (.aload_n 0, 1) := by decide +kernel
theorem dX12_one_21 : decode cX12_one 21 = .ok (.getfield 7, 3) := by decide +kernel
theorem dX12_one_24 : decode cX12_one 24 = .ok (.iconst 0, 1) := by decide +kernel
theorem dX12_one_25 : decode cX12_one 25 = .ok (.iaload, 1) := by decide +kernel
theorem dX12_one_26 : decode cX12_one 26 = .ok (.bipush 6, 2) := by decide +kernel
theorem dX12_one_28 : decode cX12_one 28 = .ok (.if_icmp .ne 5, 3) := by decide +kernel
theorem dX12_one_33 : decode cX12_one 33 = .ok (.aload_n 0, 1) := by decide +kernel
theorem dX12_one_34 : decode cX12_one 34 = .ok (.getfield 7, 3) := by decide +kernel
theorem dX12_one_37 : decode cX12_one 37 = .ok (.bipush 114, 2) := by decide +kernel
theorem dX12_one_39 : decode cX12_one 39 = .ok (.iconst 2, 1) := by decide +kernel
theorem dX12_one_40 : decode cX12_one 40 = .ok (.aload_n 0, 1) := by decide +kernel
theorem dX12_one_41 : decode cX12_one 41 = .ok (.getfield 7, 3) := by decide +kernel
theorem dX12_one_44 : decode cX12_one 44 = .ok (.iconst 0, 1) := by decide +kernel
theorem dX12_one_45 : decode cX12_one 45 = .ok (.iaload, 1) := by decide +kernel
theorem dX12_one_46 : decode cX12_one 46 = .ok (.imul, 1) := by decide +kernel
theorem dX12_one_47 : decode cX12_one 47 = .ok (.iadd, 1) := by decide +kernel
theorem dX12_one_48 : decode cX12_one 48 = .ok (.iload_n 1, 1) := by decide +kernel
theorem dX12_one_49 : decode cX12_one 49 = .ok (.iastore, 1) := by decide +kernel
theorem dX12_one_50 : decode cX12_one 50 = .ok (.aload_n 0, 1) := by decide +kernel
theorem dX12_one_51 : decode cX12_one 51 = .ok (.getfield 7, 3) := by decide +kernel
theorem dX12_one_54 : decode cX12_one 54 = .ok (.bipush 114, 2) := by decide +kernel
theorem dX12_one_56 : decode cX12_one 56 = .ok (.iconst 2, 1) := by decide +kernel
theorem dX12_one_57 : decode cX12_one 57 = .ok (.aload_n 0, 1) := by decide +kernel
theorem dX12_one_58 : decode cX12_one 58 = .ok (.getfield 7, 3) := by decide +kernel
theorem dX12_one_61 : decode cX12_one 61 = .ok (.iconst 0, 1) := by decide +kernel
theorem dX12_one_62 : decode cX12_one 62 = .ok (.iaload, 1) := by decide +kernel
theorem dX12_one_63 : decode cX12_one 63 = .ok (.imul, 1) := by decide +kernel
theorem dX12_one_64 : decode cX12_one 64 = .ok (.iadd, 1) := by decide +kernel
theorem dX12_one_65 : decode cX12_one 65 = .ok (.iconst 1, 1) := by decide +kernel
theorem dX12_one_66 : decode cX12_one 66 = .ok (.iadd, 1) := by decide +kernel
theorem dX12_one_67 : decode cX12_one 67 = .ok (.iload_n 2, 1) := by decide +kernel
theorem dX12_one_68 : decode cX12_one 68 = .ok (.iastore, 1) := by decide +kernel
theorem dX12_one_69 : decode cX12_one 69 = .ok (.aload_n 0, 1) := by decide +kernel
theorem dX12_one_70 : decode cX12_one 70 = .ok (.getfield 7, 3) := by decide +kernel
theorem dX12_one_73 : decode cX12_one 73 = .ok (.iconst 0, 1) := by decide +kernel
theorem dX12_one_74 : decode cX12_one 74 = .ok (.dup2, 1) := by decide +kernel
theorem dX12_one_75 : decode cX12_one 75 = .ok (.iaload, 1) := by decide +kernel
theorem dX12_one_76 : decode cX12_one 76 = .ok (.iconst 1, 1) := by decide +kernel
theorem dX12_one_77 : decode cX12_one 77 = .ok (.iadd, 1) := by decide +kernel
theorem dX12_one_78 : decode cX12_one 78 = .ok (.iastore, 1) := by decide +kernel
theorem dX12_one_79 : decode cX12_one 79 = .ok (.aload_n 0, 1) := by decide +kernel
theorem dX12_one_80 : decode cX12_one 80 = .ok (.getfield 7, 3) := by decide +kernel
theorem dX12_one_83 : decode cX12_one 83 = .ok (.iconst 0, 1) := by decide +kernel
theorem dX12_one_84 : decode cX12_one 84 = .ok (.iaload, 1) := by decide +kernel
theorem dX12_one_85 : decode cX12_one 85 = .ok (.iconst 1, 1) := by decide +kernel
theorem dX12_one_86 : decode cX12_one 86 = .ok (.isub, 1) := by decide +kernel
theorem dX12_one_87 : decode cX12_one 87 = .ok (.ireturn, 1) := by decide +kernel
theorem dX12_kneelNow_0 : decode cX12_kneelNow 0 = .ok (.iconst 0, 1) := by decide +kernel
theorem dX12_kneelNow_1 : decode cX12_kneelNow 1 = .ok (.istore_n 2, 1) := by decide +kernel
theorem dX12_kneelNow_2 : decode cX12_kneelNow 2 = .ok (.iload_n 2, 1) := by decide +kernel
theorem dX12_kneelNow_3 : decode cX12_kneelNow 3 = .ok (.aload_n 0, 1) := by decide +kernel
theorem dX12_kneelNow_4 : decode cX12_kneelNow 4 = .ok (.getfield 7, 3) := by decide +kernel
theorem dX12_kneelNow_7 : decode cX12_kneelNow 7 = .ok (.bipush 13, 2) := by decide +kernel
theorem dX12_kneelNow_9 : decode cX12_kneelNow 9 = .ok (.iaload, 1) := by decide +kernel
theorem dX12_kneelNow_10 : decode cX12_kneelNow 10 = .ok (.if_icmp .ge 60, 3) := by decide +kernel
theorem dX12_kneelNow_70 : decode cX12_kneelNow 70 = .ok (.return_, 1) := by decide +kernel
theorem dX12_kneelNow_13 : decode cX12_kneelNow 13 = .ok (.aload_n 0, 1) := by decide +kernel
theorem dX12_kneelNow_14 : decode cX12_kneelNow 14 = .ok (.iload_n 2, 1) := by decide +kernel
theorem dX12_kneelNow_15 : decode cX12_kneelNow 15 = .ok (.iconst 1, 1) := by decide +kernel
theorem dX12_kneelNow_16 : decode cX12_kneelNow 16 = .ok (.invokevirtual 73, 3) := by decide +kernel
theorem dX12_kneelNow_19 : decode cX12_kneelNow 19 = .ok (.iload_n 1, 1) := by decide +kernel
theorem dX12_kneelNow_20 : decode cX12_kneelNow 20 = .ok (.if_icmp .ne 44, 3) := by decide +kernel
theorem dX12_kneelNow_64 : decode cX12_kneelNow 64 = .ok (.iinc 2 1, 3) := by decide +kernel
theorem dX12_kneelNow_67 : decode cX12_kneelNow 67 = .ok (.goto (-65), 3) := by decide +kernel
theorem dX12_kneelNow_23 : decode cX12_kneelNow 23 = .ok (.aload_n 0, 1) := by decide +kernel
theorem dX12_kneelNow_24 : decode cX12_kneelNow 24 = .ok (.iload_n 2, 1) := by decide +kernel
theorem dX12_kneelNow_25 : decode cX12_kneelNow 25 = .ok (.iconst 4, 1) := by decide +kernel
theorem dX12_kneelNow_26 : decode cX12_kneelNow 26 = .ok (.invokevirtual 73, 3) := by decide +kernel
theorem dX12_kneelNow_29 : decode cX12_kneelNow 29 = .ok (.iconst 2, 1) := by decide +kernel
theorem dX12_kneelNow_30 : decode cX12_kneelNow 30 = .ok (.if_icmp .eq 34, 3) := by decide +kernel
theorem dX12_kneelNow_33 : decode cX12_kneelNow 33 = .ok (.aload_n 0, 1) := by decide +kernel
theorem dX12_kneelNow_34 : decode cX12_kneelNow 34 = .ok (.iload_n 2, 1) := by decide +kernel
theorem dX12_kneelNow_35 : decode cX12_kneelNow 35 = .ok (.iconst 5, 1) := by decide +kernel
theorem dX12_kneelNow_36 : decode cX12_kneelNow 36 = .ok (.aload_n 0, 1) := by decide +kernel
theorem dX12_kneelNow_37 : decode cX12_kneelNow 37 = .ok (.iload_n 2, 1) := by decide +kernel
theorem dX12_kneelNow_38 : decode cX12_kneelNow 38 = .ok (.iconst 5, 1) := by decide +kernel
theorem dX12_kneelNow_39 : decode cX12_kneelNow 39 = .ok (.invokevirtual 73, 3) := by decide +kernel
theorem dX12_kneelNow_42 : decode cX12_kneelNow 42 = .ok (.aload_n 0, 1) := by decide +kernel
theorem dX12_kneelNow_43 : decode cX12_kneelNow 43 = .ok (.aload_n 0, 1) := by decide +kernel
theorem dX12_kneelNow_44 : decode cX12_kneelNow 44 = .ok (.getfield 7, 3) := by decide +kernel
theorem dX12_kneelNow_47 : decode cX12_kneelNow 47 = .ok (.iconst 2, 1) := by decide +kernel
theorem dX12_kneelNow_48 : decode cX12_kneelNow 48 = .ok (.iaload, 1) := by decide +kernel
theorem dX12_kneelNow_49 : decode cX12_kneelNow 49 = .ok (.iload_n 2, 1) := by decide +kernel
theorem dX12_kneelNow_50 : decode cX12_kneelNow 50 = .ok (.invokevirtual 342, 3) := by decide +kernel
theorem cw_X12_wearsOf : CWv yX12_wearsOf cX12_wearsOf 3 (some .int) 2 := ⟨⟨⟨List.mem_of_getElem? (i := 137) (by decide +kernel), by decide +kernel⟩, ⟨List.mem_of_getElem? (i := 1828) (by decide +kernel), by decide +kernel⟩, by decide +kernel⟩, ⟨List.mem_of_getElem? (i := 1827) (by decide +kernel), by decide +kernel⟩, ⟨List.mem_of_getElem? (i := 86) (by decide +kernel), by decide +kernel⟩⟩
theorem km12_342 : inW (Cond.methodLink RX12 342 yX12_wearsOf) := ⟨List.mem_of_getElem? (i := 1825) (by decide +kernel), by decide +kernel⟩
theorem dX12_kneelNow_53 : decode cX12_kneelNow 53 = .ok (.iadd, 1) := by decide +kernel
theorem dX12_kneelNow_54 : decode cX12_kneelNow 54 = .ok (.i2l, 1) := by decide +kernel
theorem dX12_kneelNow_55 : decode cX12_kneelNow 55 = .ok (.iconst 0, 1) := by decide +kernel
theorem dX12_kneelNow_56 : decode cX12_kneelNow 56 = .ok (.bipush 99, 2) := by decide +kernel
theorem dX12_kneelNow_58 : decode cX12_kneelNow 58 = .ok (.invokestatic 292, 3) := by decide +kernel
theorem dX12_kneelNow_61 : decode cX12_kneelNow 61 = .ok (.invokevirtual 326, 3) := by decide +kernel
theorem dX12_skateNow_0 : decode cX12_skateNow 0 = .ok (.iconst 0, 1) := by decide +kernel
theorem dX12_skateNow_1 : decode cX12_skateNow 1 = .ok (.istore_n 3, 1) := by decide +kernel
theorem dX12_skateNow_2 : decode cX12_skateNow 2 = .ok (.iload_n 3, 1) := by decide +kernel
theorem dX12_skateNow_3 : decode cX12_skateNow 3 = .ok (.aload_n 0, 1) := by decide +kernel
theorem dX12_skateNow_4 : decode cX12_skateNow 4 = .ok (.getfield 7, 3) := by decide +kernel
theorem dX12_skateNow_7 : decode cX12_skateNow 7 = .ok (.bipush 13, 2) := by decide +kernel
theorem dX12_skateNow_9 : decode cX12_skateNow 9 = .ok (.iaload, 1) := by decide +kernel
theorem dX12_skateNow_10 : decode cX12_skateNow 10 = .ok (.if_icmp .ge 51, 3) := by decide +kernel
theorem dX12_skateNow_61 : decode cX12_skateNow 61 = .ok (.return_, 1) := by decide +kernel
theorem dX12_skateNow_13 : decode cX12_skateNow 13 = .ok (.aload_n 0, 1) := by decide +kernel
theorem dX12_skateNow_14 : decode cX12_skateNow 14 = .ok (.iload_n 3, 1) := by decide +kernel
theorem dX12_skateNow_15 : decode cX12_skateNow 15 = .ok (.iconst 1, 1) := by decide +kernel
theorem dX12_skateNow_16 : decode cX12_skateNow 16 = .ok (.invokevirtual 73, 3) := by decide +kernel
theorem dX12_skateNow_19 : decode cX12_skateNow 19 = .ok (.iload_n 1, 1) := by decide +kernel
theorem dX12_skateNow_20 : decode cX12_skateNow 20 = .ok (.if_icmp .ne 35, 3) := by decide +kernel
theorem dX12_skateNow_55 : decode cX12_skateNow 55 = .ok (.iinc 3 1, 3) := by decide +kernel
theorem dX12_skateNow_58 : decode cX12_skateNow 58 = .ok (.goto (-56), 3) := by decide +kernel
theorem dX12_skateNow_23 : decode cX12_skateNow 23 = .ok (.aload_n 0, 1) := by decide +kernel
theorem dX12_skateNow_24 : decode cX12_skateNow 24 = .ok (.iload_n 3, 1) := by decide +kernel
theorem dX12_skateNow_25 : decode cX12_skateNow 25 = .ok (.iconst 2, 1) := by decide +kernel
theorem dX12_skateNow_26 : decode cX12_skateNow 26 = .ok (.invokevirtual 73, 3) := by decide +kernel
theorem dX12_skateNow_29 : decode cX12_skateNow 29 = .ok (.iload_n 2, 1) := by decide +kernel
theorem dX12_skateNow_30 : decode cX12_skateNow 30 = .ok (.if_icmp .ne 25, 3) := by decide +kernel
theorem dX12_skateNow_33 : decode cX12_skateNow 33 = .ok (.aload_n 0, 1) := by decide +kernel
theorem dX12_skateNow_34 : decode cX12_skateNow 34 = .ok (.iload_n 3, 1) := by decide +kernel
theorem dX12_skateNow_35 : decode cX12_skateNow 35 = .ok (.iconst 5, 1) := by decide +kernel
theorem dX12_skateNow_36 : decode cX12_skateNow 36 = .ok (.aload_n 0, 1) := by decide +kernel
theorem dX12_skateNow_37 : decode cX12_skateNow 37 = .ok (.iload_n 3, 1) := by decide +kernel
theorem dX12_skateNow_38 : decode cX12_skateNow 38 = .ok (.iconst 5, 1) := by decide +kernel
theorem dX12_skateNow_39 : decode cX12_skateNow 39 = .ok (.invokevirtual 73, 3) := by decide +kernel
theorem dX12_skateNow_42 : decode cX12_skateNow 42 = .ok (.bipush 30, 2) := by decide +kernel
theorem dX12_skateNow_44 : decode cX12_skateNow 44 = .ok (.iadd, 1) := by decide +kernel
theorem dX12_skateNow_45 : decode cX12_skateNow 45 = .ok (.i2l, 1) := by decide +kernel
theorem dX12_skateNow_46 : decode cX12_skateNow 46 = .ok (.iconst 0, 1) := by decide +kernel
theorem dX12_skateNow_47 : decode cX12_skateNow 47 = .ok (.bipush 99, 2) := by decide +kernel
theorem dX12_skateNow_49 : decode cX12_skateNow 49 = .ok (.invokestatic 292, 3) := by decide +kernel
theorem dX12_skateNow_52 : decode cX12_skateNow 52 = .ok (.invokevirtual 326, 3) := by decide +kernel
theorem dX12_pass_0 : decode cX12_pass 0 = .ok (.iconst 0, 1) := by decide +kernel
theorem dX12_pass_1 : decode cX12_pass 1 = .ok (.istore_n 1, 1) := by decide +kernel
theorem dX12_pass_2 : decode cX12_pass 2 = .ok (.iload_n 1, 1) := by decide +kernel
theorem dX12_pass_3 : decode cX12_pass 3 = .ok (.aload_n 0, 1) := by decide +kernel
theorem dX12_pass_4 : decode cX12_pass 4 = .ok (.getfield 7, 3) := by decide +kernel
theorem dX12_pass_7 : decode cX12_pass 7 = .ok (.iconst 0, 1) := by decide +kernel
theorem dX12_pass_8 : decode cX12_pass 8 = .ok (.iaload, 1) := by decide +kernel
theorem dX12_pass_9 : decode cX12_pass 9 = .ok (.if_icmp .ge 93, 3) := by decide +kernel
theorem dX12_pass_102 : decode cX12_pass 102 = .ok (.aload_n 0, 1) := by decide +kernel
theorem dX12_pass_103 : decode cX12_pass 103 = .ok (.getfield 7, 3) := by decide +kernel
theorem dX12_pass_106 : decode cX12_pass 106 = .ok (.bipush 10, 2) := by decide +kernel
theorem dX12_pass_108 : decode cX12_pass 108 = .ok (.dup2, 1) := by decide +kernel
theorem dX12_pass_109 : decode cX12_pass 109 = .ok (.iaload, 1) := by decide +kernel
theorem dX12_pass_110 : decode cX12_pass 110 = .ok (.iconst 1, 1) := by decide +kernel
theorem dX12_pass_111 : decode cX12_pass 111 = .ok (.iadd, 1) := by decide +kernel
theorem dX12_pass_112 : decode cX12_pass 112 = .ok (.iastore, 1) := by decide +kernel
theorem dX12_pass_113 : decode cX12_pass 113 = .ok (.aload_n 0, 1) := by decide +kernel
theorem dX12_pass_114 : decode cX12_pass 114 = .ok (.getfield 7, 3) := by decide +kernel
theorem dX12_pass_117 : decode cX12_pass 117 = .ok (.bipush 11, 2) := by decide +kernel
theorem dX12_pass_119 : decode cX12_pass 119 = .ok (.aload_n 0, 1) := by decide +kernel
theorem dX12_pass_120 : decode cX12_pass 120 = .ok (.getfield 7, 3) := by decide +kernel
theorem dX12_pass_123 : decode cX12_pass 123 = .ok (.bipush 12, 2) := by decide +kernel
theorem dX12_pass_125 : decode cX12_pass 125 = .ok (.iaload, 1) := by decide +kernel
theorem dX12_pass_126 : decode cX12_pass 126 = .ok (.bipush 10, 2) := by decide +kernel
theorem dX12_pass_128 : decode cX12_pass 128 = .ok (.irem, 1) := by decide +kernel
theorem dX12_pass_129 : decode cX12_pass 129 = .ok (.iastore, 1) := by decide +kernel
theorem dX12_pass_130 : decode cX12_pass 130 = .ok (.aload_n 0, 1) := by decide +kernel
theorem dX12_pass_131 : decode cX12_pass 131 = .ok (.invokevirtual 320, 3) := by decide +kernel
theorem cw_X12_anew : CWv yX12_anew cX12_anew 1 none 0 := ⟨⟨⟨List.mem_of_getElem? (i := 137) (by decide +kernel), by decide +kernel⟩, ⟨List.mem_of_getElem? (i := 1928) (by decide +kernel), by decide +kernel⟩, by decide +kernel⟩, ⟨List.mem_of_getElem? (i := 1927) (by decide +kernel), by decide +kernel⟩, ⟨List.mem_of_getElem? (i := 103) (by decide +kernel), by decide +kernel⟩⟩
theorem km12_320 : inW (Cond.methodLink RX12 320 yX12_anew) := ⟨List.mem_of_getElem? (i := 1925) (by decide +kernel), by decide +kernel⟩
theorem dX12_pass_134 : decode cX12_pass 134 = .ok (.return_, 1) := by decide +kernel
theorem dX12_pass_12 : decode cX12_pass 12 = .ok (.aload_n 0, 1) := by decide +kernel
theorem dX12_pass_13 : decode cX12_pass 13 = .ok (.getfield 50, 3) := by decide +kernel
theorem kf12_50 : inW (Cond.fieldLink RX12 50 "KneeOathsModel" "achedNow" "[I") := ⟨List.mem_of_getElem? (i := 1524) (by decide +kernel), by decide +kernel⟩
theorem dX12_pass_16 : decode cX12_pass 16 = .ok (.iload_n 1, 1) := by decide +kernel
theorem dX12_pass_17 : decode cX12_pass 17 = .ok (.aload_n 0, 1) := by decide +kernel
theorem dX12_pass_18 : decode cX12_pass 18 = .ok (.iload_n 1, 1) := by decide +kernel
theorem dX12_pass_19 : decode cX12_pass 19 = .ok (.invokevirtual 317, 3) := by decide +kernel
theorem cw_X12_acheOf : CWv yX12_acheOf cX12_acheOf 4 (some .int) 1 := ⟨⟨⟨List.mem_of_getElem? (i := 137) (by decide +kernel), by decide +kernel⟩, ⟨List.mem_of_getElem? (i := 1920) (by decide +kernel), by decide +kernel⟩, by decide +kernel⟩, ⟨List.mem_of_getElem? (i := 1919) (by decide +kernel), by decide +kernel⟩, ⟨List.mem_of_getElem? (i := 101) (by decide +kernel), by decide +kernel⟩⟩
theorem km12_317 : inW (Cond.methodLink RX12 317 yX12_acheOf) := ⟨List.mem_of_getElem? (i := 1917) (by decide +kernel), by decide +kernel⟩
theorem dX12_pass_22 : decode cX12_pass 22 = .ok (.iastore, 1) := by decide +kernel
theorem dX12_pass_23 : decode cX12_pass 23 = .ok (.aload_n 0, 1) := by decide +kernel
theorem dX12_pass_24 : decode cX12_pass 24 = .ok (.getfield 50, 3) := by decide +kernel
theorem dX12_pass_27 : decode cX12_pass 27 = .ok (.iload_n 1, 1) := by decide +kernel
theorem dX12_pass_28 : decode cX12_pass 28 = .ok (.iaload, 1) := by decide +kernel
theorem dX12_pass_29 : decode cX12_pass 29 = .ok (.ifCond .eq 67, 3) := by decide +kernel
theorem dX12_pass_96 : decode cX12_pass 96 = .ok (.iinc 1 1, 3) := by decide +kernel
theorem dX12_pass_99 : decode cX12_pass 99 = .ok (.goto (-97), 3) := by decide +kernel
theorem dX12_pass_32 : decode cX12_pass 32 = .ok (.aload_n 0, 1) := by decide +kernel
theorem dX12_pass_33 : decode cX12_pass 33 = .ok (.getfield 46, 3) := by decide +kernel
theorem kf12_46 : inW (Cond.fieldLink RX12 46 "KneeOathsModel" "isWritten" "Z") := ⟨List.mem_of_getElem? (i := 1523) (by decide +kernel), by decide +kernel⟩
theorem dX12_pass_36 : decode cX12_pass 36 = .ok (.ifCond .ne 6, 3) := by decide +kernel
theorem dX12_pass_42 : decode cX12_pass 42 = .ok (.aload_n 0, 1) := by decide +kernel
theorem dX12_pass_43 : decode cX12_pass 43 = .ok (.getfield 7, 3) := by decide +kernel
theorem dX12_pass_46 : decode cX12_pass 46 = .ok (.sipush 3328, 3) := by decide +kernel
theorem dX12_pass_49 : decode cX12_pass 49 = .ok (.aload_n 0, 1) := by decide +kernel
theorem dX12_pass_50 : decode cX12_pass 50 = .ok (.getfield 7, 3) := by decide +kernel
theorem dX12_pass_53 : decode cX12_pass 53 = .ok (.bipush 14, 2) := by decide +kernel
theorem dX12_pass_55 : decode cX12_pass 55 = .ok (.iaload, 1) := by decide +kernel
theorem dX12_pass_56 : decode cX12_pass 56 = .ok (.sipush 7240, 3) := by decide +kernel
theorem dX12_pass_59 : decode cX12_pass 59 = .ok (.irem, 1) := by decide +kernel
theorem dX12_pass_60 : decode cX12_pass 60 = .ok (.iadd, 1) := by decide +kernel
theorem dX12_pass_61 : decode cX12_pass 61 = .ok (.aload_n 0, 1) := by decide +kernel
theorem dX12_pass_62 : decode cX12_pass 62 = .ok (.getfield 7, 3) := by decide +kernel
theorem dX12_pass_65 : decode cX12_pass 65 = .ok (.bipush 10, 2) := by decide +kernel
theorem dX12_pass_67 : decode cX12_pass 67 = .ok (.iaload, 1) := by decide +kernel
theorem dX12_pass_68 : decode cX12_pass 68 = .ok (.bipush 8, 2) := by decide +kernel
theorem dX12_pass_70 : decode cX12_pass 70 = .ok (.imul, 1) := by decide +kernel
theorem dX12_pass_71 : decode cX12_pass 71 = .ok (.iload_n 1, 1) := by decide +kernel
theorem dX12_pass_72 : decode cX12_pass 72 = .ok (.iadd, 1) := by decide +kernel
theorem dX12_pass_73 : decode cX12_pass 73 = .ok (.sipush 2000, 3) := by decide +kernel
theorem dX12_pass_76 : decode cX12_pass 76 = .ok (.imul, 1) := by decide +kernel
theorem dX12_pass_77 : decode cX12_pass 77 = .ok (.aload_n 0, 1) := by decide +kernel
theorem dX12_pass_78 : decode cX12_pass 78 = .ok (.getfield 50, 3) := by decide +kernel
theorem dX12_pass_81 : decode cX12_pass 81 = .ok (.iload_n 1, 1) := by decide +kernel
theorem dX12_pass_82 : decode cX12_pass 82 = .ok (.iaload, 1) := by decide +kernel
theorem dX12_pass_83 : decode cX12_pass 83 = .ok (.iadd, 1) := by decide +kernel
theorem dX12_pass_84 : decode cX12_pass 84 = .ok (.iastore, 1) := by decide +kernel
theorem dX12_pass_85 : decode cX12_pass 85 = .ok (.aload_n 0, 1) := by decide +kernel
theorem dX12_pass_86 : decode cX12_pass 86 = .ok (.getfield 7, 3) := by decide +kernel
theorem dX12_pass_89 : decode cX12_pass 89 = .ok (.bipush 14, 2) := by decide +kernel
theorem dX12_pass_91 : decode cX12_pass 91 = .ok (.dup2, 1) := by decide +kernel
theorem dX12_pass_92 : decode cX12_pass 92 = .ok (.iaload, 1) := by decide +kernel
theorem dX12_pass_93 : decode cX12_pass 93 = .ok (.iconst 1, 1) := by decide +kernel
theorem dX12_pass_94 : decode cX12_pass 94 = .ok (.iadd, 1) := by decide +kernel
theorem dX12_pass_95 : decode cX12_pass 95 = .ok (.iastore, 1) := by decide +kernel
theorem dX12_pass_39 : decode cX12_pass 39 = .ok (.goto 57, 3) := by decide +kernel
section BBR
variable {sl pl oh dh s2 oh2 dh2 pl2 : Int} {w : Int × Int}
theorem BB_s (h : BBp sl pl oh dh w) (q : s2 ≤ 6) : BBp s2 pl oh dh w := by unfold BBp at *; omega
theorem BB_oh (h : BBp sl pl oh dh w) (q : oh2 ≤ 14) : BBp sl pl oh2 dh w := by unfold BBp at *; omega
theorem BB_dh (h : BBp sl pl oh dh w) (q : dh2 ≤ 9999) : BBp sl pl oh dh2 w := by unfold BBp at *; omega
theorem BB_pl (h : BBp sl pl oh dh w) (q : 0 ≤ pl2) : BBp sl pl2 oh dh w := by unfold BBp at *; omega
end BBR
set_option maxHeartbeats 4000000 in
set_option maxRecDepth 100000 in
theorem x_X12_canSwear {l : Launch} {G : GG}  {L : List Nat} {f : HF} {ad : Nat → Nat → Nat} {sl : Int} {pl : Int} {oh : Int} {dh : Int} {w : Int × Int} {pi : (Nat → Int32) → Prop} {px : (Nat → Int32) → Prop} {pa : (Nat → Int32) → Prop} {i1 i2 : Int32} (I : SH (spM (IA sl pl oh dh w) pi px pa) nnM G ad L f) (hB : BBp sl pl oh dh w) : PMp l yX12_canSwear cX12_canSwear 3 .boolean 2 0 0 G [.ref (ad 0 0), .int i1, .int i2] L f (fun r => (bn 0 1 r ∧ (¬ r = 0 → bn 0 5 i1) ∧ (¬ r = 0 → bn 0 5 i2) ∧ (¬ r = 0 → SH (spM (IA sl pl 13 dh w) pi px pa) nnM G ad L f))) := by
  refine PMi.of (post := fun r L1 f1 => ((bn 0 1 r ∧ (¬ r = 0 → bn 0 5 i1) ∧ (¬ r = 0 → bn 0 5 i2) ∧ (¬ r = 0 → SH (spM (IA sl pl 13 dh w) pi px pa) nnM G ad L f))) ∧ L1 = L ∧ f1 = f) (own := RX12) (by decide) rfl (Nat.le_of_ble_eq_true rfl) (fun sz p e s m args below meth c A ls hA1 hname S Y hl => ?_)
  have hx := S.hx
  have hb := S.hb
  have hl : lv_has ls 3 [(0, .ref (ad 0 0)), (1, .int i1), (2, .int i2)] := hl
  refine lv_aload_n hx hb dX12_canSwear_0 rfl (lv_at hl 0 rfl) ?_
  refine lv_iload_n hx hb dX12_canSwear_1 rfl (lv_at hl 1 rfl) ?_
  refine cVp (As := [.int i1]) (rest := []) S Y (x_X12_isOne (l := l) I hB) cw_X12_isOne km12_323 (I.opo (k := 0) (j := 0) (by decide) rfl).choose_spec.1 ok_X12.1 rfl rfl ⟨Nat.le_of_ble_eq_true rfl, Nat.le_of_ble_eq_true rfl⟩ hl.1 rfl (Nat.le_of_ble_eq_true rfl) ⟨Nat.le_of_ble_eq_true rfl, Nat.le_of_ble_eq_true rfl⟩ dX12_canSwear_2 (fun r_15900 H locs er_15900 Y => ?_)
  refine lv_if_eq (tgt := 37) hx hb dX12_canSwear_5 (by decide) (fun c_15901 => ?_) (fun c_15901 => ?_)
  · have B_15902 : bn 0 0 r_15900 := bn_w (bn_eq c_15901 (show bn 0 0 (0 : Int32) from bn_k (by decide))) (by decide)
    refine lv_iconst (v := 0) hx hb dX12_canSwear_37 (by decide) ?_
    exact prI (post := fun r L1 f1 => ((bn 0 1 r ∧ (¬ r = 0 → bn 0 5 i1) ∧ (¬ r = 0 → bn 0 5 i2) ∧ (¬ r = 0 → SH (spM (IA sl pl 13 dh w) pi px pa) nnM G ad L f))) ∧ L1 = L ∧ f1 = f) S Y rfl (by decide) (by decide) hA1 ⟨⟨bn_k (by decide), fun h => absurd rfl h, fun h => absurd rfl h, fun h => absurd rfl h⟩, rfl, rfl⟩ dX12_canSwear_38
  · have B_15903 : bn 0 5 i1 := bn_w (bn_i (bn_any i1) (er_15900.2 c_15901)) (by decide)
    have B_15904 : bn 1 1 r_15900 := bn_w (bn_nel c_15901 er_15900.1 (show bn 0 0 (0 : Int32) from bn_k (by decide))) (by decide)
    refine lv_aload_n hx hb dX12_canSwear_8 rfl (lv_at hl 0 rfl) ?_
    refine lv_iload_n hx hb dX12_canSwear_9 rfl (lv_at hl 2 rfl) ?_
    refine cVp (As := [.int i2]) (rest := []) S Y (x_X12_isOne (l := l) I hB) cw_X12_isOne km12_323 (I.opo (k := 0) (j := 0) (by decide) rfl).choose_spec.1 ok_X12.1 rfl rfl ⟨Nat.le_of_ble_eq_true rfl, Nat.le_of_ble_eq_true rfl⟩ hl.1 rfl (Nat.le_of_ble_eq_true rfl) ⟨Nat.le_of_ble_eq_true rfl, Nat.le_of_ble_eq_true rfl⟩ dX12_canSwear_10 (fun r_15905 H locs er_15905 Y => ?_)
    refine lv_if_eq (tgt := 37) hx hb dX12_canSwear_13 (by decide) (fun c_15906 => ?_) (fun c_15906 => ?_)
    · have B_15907 : bn 0 0 r_15905 := bn_w (bn_eq c_15906 (show bn 0 0 (0 : Int32) from bn_k (by decide))) (by decide)
      refine lv_iconst (v := 0) hx hb dX12_canSwear_37 (by decide) ?_
      exact prI (post := fun r L1 f1 => ((bn 0 1 r ∧ (¬ r = 0 → bn 0 5 i1) ∧ (¬ r = 0 → bn 0 5 i2) ∧ (¬ r = 0 → SH (spM (IA sl pl 13 dh w) pi px pa) nnM G ad L f))) ∧ L1 = L ∧ f1 = f) S Y rfl (by decide) (by decide) hA1 ⟨⟨bn_k (by decide), fun h => absurd rfl h, fun h => absurd rfl h, fun h => absurd rfl h⟩, rfl, rfl⟩ dX12_canSwear_38
    · have B_15908 : bn 0 5 i2 := bn_w (bn_i (bn_any i2) (er_15905.2 c_15906)) (by decide)
      have B_15909 : bn 1 1 r_15905 := bn_w (bn_nel c_15906 er_15905.1 (show bn 0 0 (0 : Int32) from bn_k (by decide))) (by decide)
      refine lv_iload_n hx hb dX12_canSwear_16 rfl (lv_at hl 1 rfl) ?_
      refine lv_iload_n hx hb dX12_canSwear_17 rfl (lv_at hl 2 rfl) ?_
      refine lv_icmp_eq (tgt := 37) hx hb dX12_canSwear_18 (by decide) (fun c_15910 => ?_) (fun c_15910 => ?_)
      · refine lv_iconst (v := 0) hx hb dX12_canSwear_37 (by decide) ?_
        exact prI (post := fun r L1 f1 => ((bn 0 1 r ∧ (¬ r = 0 → bn 0 5 i1) ∧ (¬ r = 0 → bn 0 5 i2) ∧ (¬ r = 0 → SH (spM (IA sl pl 13 dh w) pi px pa) nnM G ad L f))) ∧ L1 = L ∧ f1 = f) S Y rfl (by decide) (by decide) hA1 ⟨⟨bn_k (by decide), fun h => absurd rfl h, fun h => absurd rfl h, fun h => absurd rfl h⟩, rfl, rfl⟩ dX12_canSwear_38
      · refine lv_aload_n hx hb dX12_canSwear_21 rfl (lv_at hl 0 rfl) ?_
        obtain ⟨v_15911, v_15913, v_15915, v_15917, v_15919, v_15921, v_15923, v_15925, v_15926, v_15928, v_15930, v_15932, v_15934, v_15936, v_15938, v_15940, v_15942, v_15944, p_ad_0_0, b_15912, b_15914, b_15916, b_15918, b_15920, b_15922, b_15924, b_15927, b_15929, b_15931, b_15933, b_15935, b_15937, b_15939, b_15941, b_15943, b_15945⟩ := opnM_0 (j := 0) I (by decide)
        have p_ad_0_0 : pt L f (ad 0 0) (.inr (12, [.ref (ad 1 0), .ref (ad 2 0), .ref (ad 3 0), .ref (ad 4 0), .int v_15911, .int v_15913, .int v_15915, .int v_15917, .int v_15919, .int v_15921, .int v_15923, .long v_15925, .int v_15926, .int v_15928, .int v_15930, .ref (ad 5 0), .ref (ad 6 0), .int v_15932, .int v_15934, .int v_15936, .int v_15938, .int v_15940, .ref (ad 7 0), .ref (ad 8 0), .ref (ad 9 0), .int v_15942, .ref (ad 10 0), .ref (ad 11 0), .ref (ad 12 0), .ref (ad 13 0), .int v_15944, .ref (ad 14 0)])) := p_ad_0_0
        refine pg_get S Y ok_X12 0 (by decide) kf12_7 (v := .ref (ad 1 0)) p_ad_0_0 rfl dX12_canSwear_22 ?_
        refine lv_bipush (v := 13) hx hb dX12_canSwear_25 (by decide) ?_
        obtain ⟨g_15946, p_ad_1_0, o_15947⟩ := I.opi (k := 1) (j := 0) (by decide) rfl
        have p_ad_1_0 : pt L f (ad 1 0) (.inl (G.2 0, 10568, .inl g_15946)) := p_ad_1_0
        obtain ⟨v_15948, ev_15948⟩ : ∃ z, z = g_15946 (13 : Int32).toNatClampNeg := ⟨_, rfl⟩
        refine pg_iald S Y (v := v_15948) p_ad_1_0 (by unfold vp_in; decide) ev_15948.symm dX12_canSwear_27 ?_
        have bv_15948 : bn 0 14 v_15948 := bn_eq ev_15948 (bn_w (a' := 0) (b' := 14) (IA_13 o_15947) ⟨by decide, by have h9 := hB; unfold BBp at h9; omega⟩)
        refine lv_bipush (v := 14) hx hb dX12_canSwear_28 (by decide) ?_
        refine lv_icmp_ge (tgt := 37) hx hb dX12_canSwear_30 (by decide) (fun c_15949 => ?_) (fun c_15949 => ?_)
        · have B_15950 : bn 14 14 v_15948 := bn_w (bn_ler c_15949 (show bn 14 14 (14 : Int32) from bn_k (by decide)) bv_15948) (by decide)
          refine lv_iconst (v := 0) hx hb dX12_canSwear_37 (by decide) ?_
          exact prI (post := fun r L1 f1 => ((bn 0 1 r ∧ (¬ r = 0 → bn 0 5 i1) ∧ (¬ r = 0 → bn 0 5 i2) ∧ (¬ r = 0 → SH (spM (IA sl pl 13 dh w) pi px pa) nnM G ad L f))) ∧ L1 = L ∧ f1 = f) S Y rfl (by decide) (by decide) hA1 ⟨⟨bn_k (by decide), fun h => absurd rfl h, fun h => absurd rfl h, fun h => absurd rfl h⟩, rfl, rfl⟩ dX12_canSwear_38
        · have B_15951 : bn 0 13 v_15948 := bn_w (bn_gtr c_15949 (show bn 14 14 (14 : Int32) from bn_k (by decide)) bv_15948) (by decide)
          refine lv_iconst (v := 1) hx hb dX12_canSwear_33 (by decide) ?_
          refine lv_goto (tgt := 38) hx hb dX12_canSwear_34 (by decide) ?_
          exact prI (post := fun r L1 f1 => ((bn 0 1 r ∧ (¬ r = 0 → bn 0 5 i1) ∧ (¬ r = 0 → bn 0 5 i2) ∧ (¬ r = 0 → SH (spM (IA sl pl 13 dh w) pi px pa) nnM G ad L f))) ∧ L1 = L ∧ f1 = f) S Y rfl (by decide) (by decide) hA1 ⟨⟨bn_k (by decide), fun _ => bn_w B_15903 (by decide), fun _ => bn_w B_15908 (by decide), fun _ => by have o_15952 : (IA sl pl 13 dh w) g_15946 := (IA_oh o_15947 (by rw [show g_15946 13 = v_15948 from ev_15948.symm]; exact bn_w B_15951 (by decide))); have I := I.castS (sp' := spM (IA sl pl 13 dh w) pi px pa) (k := 1) (j := 0) (by decide) p_ad_1_0 (okE_a (g := g_15946) o_15952) pAC; exact I⟩, rfl, rfl⟩ dX12_canSwear_38
set_option maxHeartbeats 4000000 in
set_option maxRecDepth 100000 in
theorem x_X12_swearNow {l : Launch} {G : GG}  {L : List Nat} {f : HF} {ad : Nat → Nat → Nat} {sl : Int} {pl : Int} {dh : Int} {w : Int × Int} {pi : (Nat → Int32) → Prop} {px : (Nat → Int32) → Prop} {pa : (Nat → Int32) → Prop} {i1 i2 i3 i4 : Int32} (I : SH (spM (IA sl pl 13 dh w) pi px pa) nnM G ad L f) (hB : BBp sl pl 13 dh w) (b_i2 : bn 0 5 i2) : PMi l yX12_swearNow cX12_swearNow 6 .int 1 0 0 G [.ref (ad 0 0), .int i1, .int i2, .int i3, .int i4] L f (fun r L1 f1 => SH (spM (IA sl pl 14 dh w) pi px pa) nnM G ad L1 f1) := by
  refine PMi.of (post := fun r L1 f1 => SH (spM (IA sl pl 14 dh w) pi px pa) nnM G ad L1 f1) (own := RX12) (by decide) rfl (Nat.le_of_ble_eq_true rfl) (fun sz p e s m args below meth c A ls hA1 hname S Y hl => ?_)
  have hx := S.hx
  have hb := S.hb
  have hl : lv_has ls 6 [(0, .ref (ad 0 0)), (1, .int i1), (2, .int i2), (3, .int i3), (4, .int i4)] := hl
  refine lv_aload_n hx hb dX12_swearNow_0 rfl (lv_at hl 0 rfl) ?_
  obtain ⟨v_16219, v_16221, v_16223, v_16225, v_16227, v_16229, v_16231, v_16233, v_16234, v_16236, v_16238, v_16240, v_16242, v_16244, v_16246, v_16248, v_16250, v_16252, p_ad_0_0, b_16220, b_16222, b_16224, b_16226, b_16228, b_16230, b_16232, b_16235, b_16237, b_16239, b_16241, b_16243, b_16245, b_16247, b_16249, b_16251, b_16253⟩ := opnM_0 (j := 0) I (by decide)
  have p_ad_0_0 : pt L f (ad 0 0) (.inr (12, [.ref (ad 1 0), .ref (ad 2 0), .ref (ad 3 0), .ref (ad 4 0), .int v_16219, .int v_16221, .int v_16223, .int v_16225, .int v_16227, .int v_16229, .int v_16231, .long v_16233, .int v_16234, .int v_16236, .int v_16238, .ref (ad 5 0), .ref (ad 6 0), .int v_16240, .int v_16242, .int v_16244, .int v_16246, .int v_16248, .ref (ad 7 0), .ref (ad 8 0), .ref (ad 9 0), .int v_16250, .ref (ad 10 0), .ref (ad 11 0), .ref (ad 12 0), .ref (ad 13 0), .int v_16252, .ref (ad 14 0)])) := p_ad_0_0
  refine pg_get S Y ok_X12 0 (by decide) kf12_7 (v := .ref (ad 1 0)) p_ad_0_0 rfl dX12_swearNow_1 ?_
  refine lv_bipush (v := 13) hx hb dX12_swearNow_4 (by decide) ?_
  obtain ⟨g_16254, p_ad_1_0, o_16255⟩ := I.opi (k := 1) (j := 0) (by decide) rfl
  have p_ad_1_0 : pt L f (ad 1 0) (.inl (G.2 0, 10568, .inl g_16254)) := p_ad_1_0
  obtain ⟨v_16256, ev_16256⟩ : ∃ z, z = g_16254 (13 : Int32).toNatClampNeg := ⟨_, rfl⟩
  refine pg_iald S Y (v := v_16256) p_ad_1_0 (by unfold vp_in; decide) ev_16256.symm dX12_swearNow_6 ?_
  have bv_16256 : bn 0 13 v_16256 := bn_eq ev_16256 (IA_13 o_16255)
  refine lv_istore (lv' := [(5, .int v_16256), (0, .ref (ad 0 0)), (1, .int i1), (2, .int i2), (3, .int i3), (4, .int i4)]) hx hb dX12_swearNow_7 hl (by decide) rfl (fun ls hl => ?_)
  refine lv_aload_n hx hb dX12_swearNow_9 rfl (lv_at hl 1 rfl) ?_
  refine lv_iload hx hb dX12_swearNow_10 (lv_at hl 0 rfl) ?_
  refine lv_iconst (v := 0) hx hb dX12_swearNow_12 (by decide) ?_
  refine lv_iload_n hx hb dX12_swearNow_13 rfl (lv_at hl 2 rfl) ?_
  refine cVv (As := [.int v_16256, .int 0, .int i1]) (rest := []) S Y (x_X12_put (l := l) I hB (bn_w bv_16256 (by decide)) (bn_w (show bn 0 0 (0 : Int32) from bn_k (by decide)) (by decide)) (fun h => absurd h (by decide))) cw_X12_put km12_326 p_ad_0_0 ok_X12.1 rfl rfl ⟨Nat.le_of_ble_eq_true rfl, Nat.le_of_ble_eq_true rfl⟩ hl.1 rfl (Nat.le_of_ble_eq_true rfl) ⟨Nat.le_of_ble_eq_true rfl, Nat.le_of_ble_eq_true rfl⟩ dX12_swearNow_14 (fun L_16257 f_16258 H locs I Y => ?_)
  refine lv_aload_n hx hb dX12_swearNow_17 rfl (lv_at hl 1 rfl) ?_
  refine lv_iload hx hb dX12_swearNow_18 (lv_at hl 0 rfl) ?_
  refine lv_iconst (v := 1) hx hb dX12_swearNow_20 (by decide) ?_
  refine lv_iload_n hx hb dX12_swearNow_21 rfl (lv_at hl 3 rfl) ?_
  refine cVv (As := [.int v_16256, .int 1, .int i2]) (rest := []) S Y (x_X12_put (l := l) I hB (bn_w bv_16256 (by decide)) (bn_w (show bn 1 1 (1 : Int32) from bn_k (by decide)) (by decide)) (fun _ => bn_w b_i2 (by decide))) cw_X12_put km12_326 (I.opo (k := 0) (j := 0) (by decide) rfl).choose_spec.1 ok_X12.1 rfl rfl ⟨Nat.le_of_ble_eq_true rfl, Nat.le_of_ble_eq_true rfl⟩ hl.1 rfl (Nat.le_of_ble_eq_true rfl) ⟨Nat.le_of_ble_eq_true rfl, Nat.le_of_ble_eq_true rfl⟩ dX12_swearNow_22 (fun L_16259 f_16260 H locs I Y => ?_)
  refine lv_aload_n hx hb dX12_swearNow_25 rfl (lv_at hl 1 rfl) ?_
  refine lv_iload hx hb dX12_swearNow_26 (lv_at hl 0 rfl) ?_
  refine lv_iconst (v := 2) hx hb dX12_swearNow_28 (by decide) ?_
  refine lv_iload_n hx hb dX12_swearNow_29 rfl (lv_at hl 4 rfl) ?_
  refine cVv (As := [.int v_16256, .int 2, .int i3]) (rest := []) S Y (x_X12_put (l := l) I hB (bn_w bv_16256 (by decide)) (bn_w (show bn 2 2 (2 : Int32) from bn_k (by decide)) (by decide)) (fun h => absurd h (by decide))) cw_X12_put km12_326 (I.opo (k := 0) (j := 0) (by decide) rfl).choose_spec.1 ok_X12.1 rfl rfl ⟨Nat.le_of_ble_eq_true rfl, Nat.le_of_ble_eq_true rfl⟩ hl.1 rfl (Nat.le_of_ble_eq_true rfl) ⟨Nat.le_of_ble_eq_true rfl, Nat.le_of_ble_eq_true rfl⟩ dX12_swearNow_30 (fun L_16261 f_16262 H locs I Y => ?_)
  refine lv_aload_n hx hb dX12_swearNow_33 rfl (lv_at hl 1 rfl) ?_
  refine lv_iload hx hb dX12_swearNow_34 (lv_at hl 0 rfl) ?_
  refine lv_iconst (v := 3) hx hb dX12_swearNow_36 (by decide) ?_
  refine lv_iload hx hb dX12_swearNow_37 (lv_at hl 5 rfl) ?_
  refine cVv (As := [.int v_16256, .int 3, .int i4]) (rest := []) S Y (x_X12_put (l := l) I hB (bn_w bv_16256 (by decide)) (bn_w (show bn 3 3 (3 : Int32) from bn_k (by decide)) (by decide)) (fun h => absurd h (by decide))) cw_X12_put km12_326 (I.opo (k := 0) (j := 0) (by decide) rfl).choose_spec.1 ok_X12.1 rfl rfl ⟨Nat.le_of_ble_eq_true rfl, Nat.le_of_ble_eq_true rfl⟩ hl.1 rfl (Nat.le_of_ble_eq_true rfl) ⟨Nat.le_of_ble_eq_true rfl, Nat.le_of_ble_eq_true rfl⟩ dX12_swearNow_39 (fun L_16263 f_16264 H locs I Y => ?_)
  refine lv_aload_n hx hb dX12_swearNow_42 rfl (lv_at hl 1 rfl) ?_
  refine lv_iload hx hb dX12_swearNow_43 (lv_at hl 0 rfl) ?_
  refine lv_iconst (v := 4) hx hb dX12_swearNow_45 (by decide) ?_
  refine lv_iconst (v := 0) hx hb dX12_swearNow_46 (by decide) ?_
  refine cVv (As := [.int v_16256, .int 4, .int 0]) (rest := []) S Y (x_X12_put (l := l) I hB (bn_w bv_16256 (by decide)) (bn_w (show bn 4 4 (4 : Int32) from bn_k (by decide)) (by decide)) (fun h => absurd h (by decide))) cw_X12_put km12_326 (I.opo (k := 0) (j := 0) (by decide) rfl).choose_spec.1 ok_X12.1 rfl rfl ⟨Nat.le_of_ble_eq_true rfl, Nat.le_of_ble_eq_true rfl⟩ hl.1 rfl (Nat.le_of_ble_eq_true rfl) ⟨Nat.le_of_ble_eq_true rfl, Nat.le_of_ble_eq_true rfl⟩ dX12_swearNow_47 (fun L_16265 f_16266 H locs I Y => ?_)
  refine lv_aload_n hx hb dX12_swearNow_50 rfl (lv_at hl 1 rfl) ?_
  refine lv_iload hx hb dX12_swearNow_51 (lv_at hl 0 rfl) ?_
  refine lv_iconst (v := 5) hx hb dX12_swearNow_53 (by decide) ?_
  refine lv_iconst (v := 0) hx hb dX12_swearNow_54 (by decide) ?_
  refine cVv (As := [.int v_16256, .int 5, .int 0]) (rest := []) S Y (x_X12_put (l := l) I hB (bn_w bv_16256 (by decide)) (bn_w (show bn 5 5 (5 : Int32) from bn_k (by decide)) (by decide)) (fun h => absurd h (by decide))) cw_X12_put km12_326 (I.opo (k := 0) (j := 0) (by decide) rfl).choose_spec.1 ok_X12.1 rfl rfl ⟨Nat.le_of_ble_eq_true rfl, Nat.le_of_ble_eq_true rfl⟩ hl.1 rfl (Nat.le_of_ble_eq_true rfl) ⟨Nat.le_of_ble_eq_true rfl, Nat.le_of_ble_eq_true rfl⟩ dX12_swearNow_55 (fun L_16267 f_16268 H locs I Y => ?_)
  refine lv_aload_n hx hb dX12_swearNow_58 rfl (lv_at hl 1 rfl) ?_
  refine lv_iload hx hb dX12_swearNow_59 (lv_at hl 0 rfl) ?_
  refine lv_bipush (v := 6) hx hb dX12_swearNow_61 (by decide) ?_
  refine lv_aload_n hx hb dX12_swearNow_63 rfl (lv_at hl 1 rfl) ?_
  obtain ⟨v_16269, v_16271, v_16273, v_16275, v_16277, v_16279, v_16281, v_16283, v_16284, v_16286, v_16288, v_16290, v_16292, v_16294, v_16296, v_16298, v_16300, v_16302, p_ad_0_0, b_16270, b_16272, b_16274, b_16276, b_16278, b_16280, b_16282, b_16285, b_16287, b_16289, b_16291, b_16293, b_16295, b_16297, b_16299, b_16301, b_16303⟩ := opnM_0 (j := 0) I (by decide)
  have p_ad_0_0 : pt L_16267 f_16268 (ad 0 0) (.inr (12, [.ref (ad 1 0), .ref (ad 2 0), .ref (ad 3 0), .ref (ad 4 0), .int v_16269, .int v_16271, .int v_16273, .int v_16275, .int v_16277, .int v_16279, .int v_16281, .long v_16283, .int v_16284, .int v_16286, .int v_16288, .ref (ad 5 0), .ref (ad 6 0), .int v_16290, .int v_16292, .int v_16294, .int v_16296, .int v_16298, .ref (ad 7 0), .ref (ad 8 0), .ref (ad 9 0), .int v_16300, .ref (ad 10 0), .ref (ad 11 0), .ref (ad 12 0), .ref (ad 13 0), .int v_16302, .ref (ad 14 0)])) := p_ad_0_0
  refine pg_get S Y ok_X12 0 (by decide) kf12_7 (v := .ref (ad 1 0)) p_ad_0_0 rfl dX12_swearNow_64 ?_
  refine lv_bipush (v := 10) hx hb dX12_swearNow_67 (by decide) ?_
  obtain ⟨g_16304, p_ad_1_0, o_16305⟩ := I.opi (k := 1) (j := 0) (by decide) rfl
  have p_ad_1_0 : pt L_16267 f_16268 (ad 1 0) (.inl (G.2 0, 10568, .inl g_16304)) := p_ad_1_0
  obtain ⟨v_16306, ev_16306⟩ : ∃ z, z = g_16304 (10 : Int32).toNatClampNeg := ⟨_, rfl⟩
  refine pg_iald S Y (v := v_16306) p_ad_1_0 (by unfold vp_in; decide) ev_16306.symm dX12_swearNow_69 ?_
  have bv_16306 : bn 0 9999 v_16306 := bn_eq ev_16306 (bn_w (a' := 0) (b' := 9999) (IA_10 o_16305) ⟨by decide, by have h9 := hB; unfold BBp at h9; omega⟩)
  refine cVv (As := [.int v_16256, .int 6, .int v_16306]) (rest := []) S Y (x_X12_put (l := l) I hB (bn_w bv_16256 (by decide)) (bn_w (show bn 6 6 (6 : Int32) from bn_k (by decide)) (by decide)) (fun h => absurd h (by decide))) cw_X12_put km12_326 p_ad_0_0 ok_X12.1 rfl rfl ⟨Nat.le_of_ble_eq_true rfl, Nat.le_of_ble_eq_true rfl⟩ hl.1 rfl (Nat.le_of_ble_eq_true rfl) ⟨Nat.le_of_ble_eq_true rfl, Nat.le_of_ble_eq_true rfl⟩ dX12_swearNow_70 (fun L_16307 f_16308 H locs I Y => ?_)
  refine lv_aload_n hx hb dX12_swearNow_73 rfl (lv_at hl 1 rfl) ?_
  obtain ⟨v_16309, v_16311, v_16313, v_16315, v_16317, v_16319, v_16321, v_16323, v_16324, v_16326, v_16328, v_16330, v_16332, v_16334, v_16336, v_16338, v_16340, v_16342, p_ad_0_0, b_16310, b_16312, b_16314, b_16316, b_16318, b_16320, b_16322, b_16325, b_16327, b_16329, b_16331, b_16333, b_16335, b_16337, b_16339, b_16341, b_16343⟩ := opnM_0 (j := 0) I (by decide)
  have p_ad_0_0 : pt L_16307 f_16308 (ad 0 0) (.inr (12, [.ref (ad 1 0), .ref (ad 2 0), .ref (ad 3 0), .ref (ad 4 0), .int v_16309, .int v_16311, .int v_16313, .int v_16315, .int v_16317, .int v_16319, .int v_16321, .long v_16323, .int v_16324, .int v_16326, .int v_16328, .ref (ad 5 0), .ref (ad 6 0), .int v_16330, .int v_16332, .int v_16334, .int v_16336, .int v_16338, .ref (ad 7 0), .ref (ad 8 0), .ref (ad 9 0), .int v_16340, .ref (ad 10 0), .ref (ad 11 0), .ref (ad 12 0), .ref (ad 13 0), .int v_16342, .ref (ad 14 0)])) := p_ad_0_0
  refine pg_get S Y ok_X12 0 (by decide) kf12_7 (v := .ref (ad 1 0)) p_ad_0_0 rfl dX12_swearNow_74 ?_
  refine lv_bipush (v := 13) hx hb dX12_swearNow_77 (by decide) ?_
  refine lv_dup2_11 hx hb dX12_swearNow_79 rfl rfl ?_
  obtain ⟨g_16344, p_ad_1_0, o_16345⟩ := I.opi (k := 1) (j := 0) (by decide) rfl
  have p_ad_1_0 : pt L_16307 f_16308 (ad 1 0) (.inl (G.2 0, 10568, .inl g_16344)) := p_ad_1_0
  obtain ⟨v_16346, ev_16346⟩ : ∃ z, z = g_16344 (13 : Int32).toNatClampNeg := ⟨_, rfl⟩
  refine pg_iald S Y (v := v_16346) p_ad_1_0 (by unfold vp_in; decide) ev_16346.symm dX12_swearNow_80 ?_
  have bv_16346 : bn 0 13 v_16346 := bn_eq ev_16346 (IA_13 o_16345)
  refine lv_iconst (v := 1) hx hb dX12_swearNow_81 (by decide) ?_
  refine lv_iadd hx hb dX12_swearNow_82 ?_
  refine lv_topi (fun x_16347 ex_16347 => ?_)
  refine pg_iast S Y p_ad_1_0 (by unfold vp_in; decide) dX12_swearNow_83 (fun f_16349 H locs ef_16349 Y => ?_)
  obtain ⟨g_16348, eg_16348⟩ : ∃ z, z = upd (g_16344) (13 : Int32).toNatClampNeg x_16347 := ⟨_, rfl⟩
  rw [← eg_16348] at ef_16349
  have p_ad_0_0 := p_ad_0_0.up ef_16349 (I.ne (k := 0) (j := 0) (k' := 1) (j' := 0) (by decide) (by decide) (Or.inl (by decide)))
  have p_ad_1_0 := p_ad_1_0.me ef_16349
  have o_16350 : (IA sl pl 14 dh w) g_16348 := (by rw [eg_16348]; exact IA_oc o_16345 (bn_w (bn_eq ex_16347 (bn_add bv_16346 (show bn 1 1 (1 : Int32) from bn_k (by decide)) (by decide))) (by decide)))
  have I := I.upS (sp' := spM (IA sl pl 14 dh w) pi px pa) (k := 1) (j := 0) (by decide) ef_16349 (okE_a (g := g_16348) o_16350) pAC
  have q_16351 : g_16348 (13 : Int32).toNatClampNeg = x_16347 := by rw [eg_16348]; exact pk_us
  refine lv_iload hx hb dX12_swearNow_84 (lv_at hl 0 rfl) ?_
  exact prI (post := fun r L1 f1 => SH (spM (IA sl pl 14 dh w) pi px pa) nnM G ad L1 f1) S Y rfl (by decide) (by decide) hA1 I dX12_swearNow_86
set_option maxHeartbeats 4000000 in
set_option maxRecDepth 100000 in
theorem x_X12_one {l : Launch} {G : GG}  {L : List Nat} {f : HF} {ad : Nat → Nat → Nat} {w : Int × Int} {pi : (Nat → Int32) → Prop} {px : (Nat → Int32) → Prop} {pa : (Nat → Int32) → Prop} {i1 i2 : Int32} (I : SH (spM (IA 0 0 14 9999 w) pi px pa) nnM G ad L f) (hB : BBp 0 0 14 9999 w) : PMi l yX12_one cX12_one 3 .int 1 0 0 G [.ref (ad 0 0), .int i1, .int i2] L f (fun r L1 f1 => SH (spM (IA 0 0 14 9999 w) pi px pa) nnM G ad L1 f1) := by
  refine PMi.of (post := fun r L1 f1 => SH (spM (IA 0 0 14 9999 w) pi px pa) nnM G ad L1 f1) (own := RX12) (by decide) rfl (Nat.le_of_ble_eq_true rfl) (fun sz p e s m args below meth c A ls hA1 hname S Y hl => ?_)
  have hx := S.hx
  have hb := S.hb
  have hl : lv_has ls 3 [(0, .ref (ad 0 0)), (1, .int i1), (2, .int i2)] := hl
  refine lv_iload_n hx hb dX12_one_0 rfl (lv_at hl 1 rfl) ?_
  refine lv_iconst (v := 0) hx hb dX12_one_1 (by decide) ?_
  refine lv_bipush (v := 9) hx hb dX12_one_2 (by decide) ?_
  refine cSp (As := [.int i1, .int 0, .int 9]) (rest := []) S Y (x_X12_isIn (l := l) ) cw_X12_isIn km12_69 rfl ⟨Nat.le_of_ble_eq_true rfl, Nat.le_of_ble_eq_true rfl⟩ hl.1 rfl (Nat.le_of_ble_eq_true rfl) ⟨Nat.le_of_ble_eq_true rfl, Nat.le_of_ble_eq_true rfl⟩ dX12_one_4 (fun r_16494 H locs er_16494 Y => ?_)
  refine lv_if_eq (tgt := 31) hx hb dX12_one_7 (by decide) (fun c_16495 => ?_) (fun c_16495 => ?_)
  · have B_16496 : bn 0 0 r_16494 := bn_w (bn_eq c_16495 (show bn 0 0 (0 : Int32) from bn_k (by decide))) (by decide)
    refine lv_iconst (v := (-1)) hx hb dX12_one_31 (by decide) ?_
    exact prI (post := fun r L1 f1 => SH (spM (IA 0 0 14 9999 w) pi px pa) nnM G ad L1 f1) S Y rfl (by decide) (by decide) hA1 I dX12_one_32
  · have B_16497 : bn 0 9 i1 := bn_w (bn_i (bn_any i1) (bn_btw (er_16494.2 c_16495).1 (er_16494.2 c_16495).2 (show bn 0 0 (0 : Int32) from bn_k (by decide)) (show bn 9 9 (9 : Int32) from bn_k (by decide)))) (by decide)
    have B_16498 : bn 1 1 r_16494 := bn_w (bn_nel c_16495 er_16494.1 (show bn 0 0 (0 : Int32) from bn_k (by decide))) (by decide)
    refine lv_iload_n hx hb dX12_one_10 rfl (lv_at hl 2 rfl) ?_
    refine lv_iconst (v := 0) hx hb dX12_one_11 (by decide) ?_
    refine lv_bipush (v := 99) hx hb dX12_one_12 (by decide) ?_
    refine cSp (As := [.int i2, .int 0, .int 99]) (rest := []) S Y (x_X12_isIn (l := l) ) cw_X12_isIn km12_69 rfl ⟨Nat.le_of_ble_eq_true rfl, Nat.le_of_ble_eq_true rfl⟩ hl.1 rfl (Nat.le_of_ble_eq_true rfl) ⟨Nat.le_of_ble_eq_true rfl, Nat.le_of_ble_eq_true rfl⟩ dX12_one_14 (fun r_16499 H locs er_16499 Y => ?_)
    refine lv_if_eq (tgt := 31) hx hb dX12_one_17 (by decide) (fun c_16500 => ?_) (fun c_16500 => ?_)
    · have B_16501 : bn 0 0 r_16499 := bn_w (bn_eq c_16500 (show bn 0 0 (0 : Int32) from bn_k (by decide))) (by decide)
      refine lv_iconst (v := (-1)) hx hb dX12_one_31 (by decide) ?_
      exact prI (post := fun r L1 f1 => SH (spM (IA 0 0 14 9999 w) pi px pa) nnM G ad L1 f1) S Y rfl (by decide) (by decide) hA1 I dX12_one_32
    · have B_16502 : bn 0 99 i2 := bn_w (bn_i (bn_any i2) (bn_btw (er_16499.2 c_16500).1 (er_16499.2 c_16500).2 (show bn 0 0 (0 : Int32) from bn_k (by decide)) (show bn 99 99 (99 : Int32) from bn_k (by decide)))) (by decide)
      have B_16503 : bn 1 1 r_16499 := bn_w (bn_nel c_16500 er_16499.1 (show bn 0 0 (0 : Int32) from bn_k (by decide))) (by decide)
      refine lv_aload_n hx hb dX12_one_20 rfl (lv_at hl 0 rfl) ?_
      obtain ⟨v_16504, v_16506, v_16508, v_16510, v_16512, v_16514, v_16516, v_16518, v_16519, v_16521, v_16523, v_16525, v_16527, v_16529, v_16531, v_16533, v_16535, v_16537, p_ad_0_0, b_16505, b_16507, b_16509, b_16511, b_16513, b_16515, b_16517, b_16520, b_16522, b_16524, b_16526, b_16528, b_16530, b_16532, b_16534, b_16536, b_16538⟩ := opnM_0 (j := 0) I (by decide)
      have p_ad_0_0 : pt L f (ad 0 0) (.inr (12, [.ref (ad 1 0), .ref (ad 2 0), .ref (ad 3 0), .ref (ad 4 0), .int v_16504, .int v_16506, .int v_16508, .int v_16510, .int v_16512, .int v_16514, .int v_16516, .long v_16518, .int v_16519, .int v_16521, .int v_16523, .ref (ad 5 0), .ref (ad 6 0), .int v_16525, .int v_16527, .int v_16529, .int v_16531, .int v_16533, .ref (ad 7 0), .ref (ad 8 0), .ref (ad 9 0), .int v_16535, .ref (ad 10 0), .ref (ad 11 0), .ref (ad 12 0), .ref (ad 13 0), .int v_16537, .ref (ad 14 0)])) := p_ad_0_0
      refine pg_get S Y ok_X12 0 (by decide) kf12_7 (v := .ref (ad 1 0)) p_ad_0_0 rfl dX12_one_21 ?_
      refine lv_iconst (v := 0) hx hb dX12_one_24 (by decide) ?_
      obtain ⟨g_16539, p_ad_1_0, o_16540⟩ := I.opi (k := 1) (j := 0) (by decide) rfl
      have p_ad_1_0 : pt L f (ad 1 0) (.inl (G.2 0, 10568, .inl g_16539)) := p_ad_1_0
      obtain ⟨v_16541, ev_16541⟩ : ∃ z, z = g_16539 (0 : Int32).toNatClampNeg := ⟨_, rfl⟩
      refine pg_iald S Y (v := v_16541) p_ad_1_0 (by unfold vp_in; decide) ev_16541.symm dX12_one_25 ?_
      have bv_16541 : bn 0 6 v_16541 := bn_eq ev_16541 (IA_0 o_16540)
      refine lv_bipush (v := 6) hx hb dX12_one_26 (by decide) ?_
      refine lv_icmp_ne (tgt := 33) hx hb dX12_one_28 (by decide) (fun c_16542 => ?_) (fun c_16542 => ?_)
      · have B_16543 : bn 0 5 v_16541 := bn_w (bn_neu c_16542 bv_16541 (show bn 6 6 (6 : Int32) from bn_k (by decide))) (by decide)
        refine lv_aload_n hx hb dX12_one_33 rfl (lv_at hl 0 rfl) ?_
        refine pg_get S Y ok_X12 0 (by decide) kf12_7 (v := .ref (ad 1 0)) p_ad_0_0 rfl dX12_one_34 ?_
        refine lv_bipush (v := 114) hx hb dX12_one_37 (by decide) ?_
        refine lv_iconst (v := 2) hx hb dX12_one_39 (by decide) ?_
        refine lv_aload_n hx hb dX12_one_40 rfl (lv_at hl 0 rfl) ?_
        refine pg_get S Y ok_X12 0 (by decide) kf12_7 (v := .ref (ad 1 0)) p_ad_0_0 rfl dX12_one_41 ?_
        refine lv_iconst (v := 0) hx hb dX12_one_44 (by decide) ?_
        refine pg_iald S Y (v := v_16541) p_ad_1_0 (by unfold vp_in; decide) ev_16541.symm dX12_one_45 ?_
        refine lv_imul hx hb dX12_one_46 ?_
        refine lv_topi (fun x_16545 ex_16545 => ?_)
        refine lv_iadd hx hb dX12_one_47 ?_
        refine lv_topi (fun x_16546 ex_16546 => ?_)
        refine lv_iload_n hx hb dX12_one_48 rfl (lv_at hl 1 rfl) ?_
        refine pg_iast S Y p_ad_1_0 (vp_bn (bn_eq ex_16546 (bn_add (show bn 114 114 (114 : Int32) from bn_k (by decide)) (bn_eq ex_16545 (bn_mul (show bn 2 2 (2 : Int32) from bn_k (by decide)) B_16543 (by decide))) (by decide))) (by decide)) dX12_one_49 (fun f_16548 H locs ef_16548 Y => ?_)
        obtain ⟨g_16547, eg_16547⟩ : ∃ z, z = upd (g_16539) (x_16546 : Int32).toNatClampNeg i1 := ⟨_, rfl⟩
        rw [← eg_16547] at ef_16548
        have p_ad_0_0 := p_ad_0_0.up ef_16548 (I.ne (k := 0) (j := 0) (k' := 1) (j' := 0) (by decide) (by decide) (Or.inl (by decide)))
        have p_ad_1_0 := p_ad_1_0.me ef_16548
        have o_16549 : (IA 0 0 14 9999 w) g_16547 := (by rw [eg_16547]; exact (IA_free o_16540 (fr_of (bn_eq ex_16546 (bn_add (show bn 114 114 (114 : Int32) from bn_k (by decide)) (bn_eq ex_16545 (bn_mul (show bn 2 2 (2 : Int32) from bn_k (by decide)) B_16543 (by decide))) (by decide))) (by decide))))
        have I := I.up (k := 1) (j := 0) (by decide) ef_16548 (okE_a (g := g_16547) o_16549)
        have q_16550 : g_16547 (0 : Int32).toNatClampNeg = v_16541 := by rw [eg_16547]; exact (pk_un (nq_of (bn_eq ex_16546 (bn_add (show bn 114 114 (114 : Int32) from bn_k (by decide)) (bn_eq ex_16545 (bn_mul (show bn 2 2 (2 : Int32) from bn_k (by decide)) B_16543 (by decide))) (by decide))) (by decide))).trans ev_16541.symm
        refine lv_aload_n hx hb dX12_one_50 rfl (lv_at hl 0 rfl) ?_
        refine pg_get S Y ok_X12 0 (by decide) kf12_7 (v := .ref (ad 1 0)) p_ad_0_0 rfl dX12_one_51 ?_
        refine lv_bipush (v := 114) hx hb dX12_one_54 (by decide) ?_
        refine lv_iconst (v := 2) hx hb dX12_one_56 (by decide) ?_
        refine lv_aload_n hx hb dX12_one_57 rfl (lv_at hl 0 rfl) ?_
        refine pg_get S Y ok_X12 0 (by decide) kf12_7 (v := .ref (ad 1 0)) p_ad_0_0 rfl dX12_one_58 ?_
        refine lv_iconst (v := 0) hx hb dX12_one_61 (by decide) ?_
        refine pg_iald S Y (v := v_16541) p_ad_1_0 (by unfold vp_in; decide) q_16550 dX12_one_62 ?_
        refine lv_imul hx hb dX12_one_63 ?_
        refine lv_topi (fun x_16551 ex_16551 => ?_)
        refine lv_iadd hx hb dX12_one_64 ?_
        refine lv_topi (fun x_16552 ex_16552 => ?_)
        refine lv_iconst (v := 1) hx hb dX12_one_65 (by decide) ?_
        refine lv_iadd hx hb dX12_one_66 ?_
        refine lv_topi (fun x_16553 ex_16553 => ?_)
        have B_16554 : bn 115 125 x_16553 := bn_w (bn_eq ex_16553 (bn_add (bn_eq ex_16552 (bn_add (show bn 114 114 (114 : Int32) from bn_k (by decide)) (bn_eq ex_16551 (bn_mul (show bn 2 2 (2 : Int32) from bn_k (by decide)) B_16543 (by decide))) (by decide))) (show bn 1 1 (1 : Int32) from bn_k (by decide)) (by decide))) (by decide)
        refine lv_iload_n hx hb dX12_one_67 rfl (lv_at hl 2 rfl) ?_
        refine pg_iast S Y p_ad_1_0 (vp_bn B_16554 (by decide)) dX12_one_68 (fun f_16556 H locs ef_16556 Y => ?_)
        obtain ⟨g_16555, eg_16555⟩ : ∃ z, z = upd (g_16547) (x_16553 : Int32).toNatClampNeg i2 := ⟨_, rfl⟩
        rw [← eg_16555] at ef_16556
        have p_ad_0_0 := p_ad_0_0.up ef_16556 (I.ne (k := 0) (j := 0) (k' := 1) (j' := 0) (by decide) (by decide) (Or.inl (by decide)))
        have p_ad_1_0 := p_ad_1_0.me ef_16556
        have o_16557 : (IA 0 0 14 9999 w) g_16555 := (by rw [eg_16555]; exact (IA_free o_16549 (fr_of B_16554 (by decide))))
        have I := I.up (k := 1) (j := 0) (by decide) ef_16556 (okE_a (g := g_16555) o_16557)
        have q_16558 : g_16555 (0 : Int32).toNatClampNeg = v_16541 := by rw [eg_16555]; exact (pk_un (nq_of B_16554 (by decide))).trans q_16550
        refine lv_aload_n hx hb dX12_one_69 rfl (lv_at hl 0 rfl) ?_
        refine pg_get S Y ok_X12 0 (by decide) kf12_7 (v := .ref (ad 1 0)) p_ad_0_0 rfl dX12_one_70 ?_
        refine lv_iconst (v := 0) hx hb dX12_one_73 (by decide) ?_
        refine lv_dup2_11 hx hb dX12_one_74 rfl rfl ?_
        refine pg_iald S Y (v := v_16541) p_ad_1_0 (by unfold vp_in; decide) q_16558 dX12_one_75 ?_
        refine lv_iconst (v := 1) hx hb dX12_one_76 (by decide) ?_
        refine lv_iadd hx hb dX12_one_77 ?_
        refine lv_topi (fun x_16559 ex_16559 => ?_)
        refine pg_iast S Y p_ad_1_0 (by unfold vp_in; decide) dX12_one_78 (fun f_16561 H locs ef_16561 Y => ?_)
        obtain ⟨g_16560, eg_16560⟩ : ∃ z, z = upd (g_16555) (0 : Int32).toNatClampNeg x_16559 := ⟨_, rfl⟩
        rw [← eg_16560] at ef_16561
        have p_ad_0_0 := p_ad_0_0.up ef_16561 (I.ne (k := 0) (j := 0) (k' := 1) (j' := 0) (by decide) (by decide) (Or.inl (by decide)))
        have p_ad_1_0 := p_ad_1_0.me ef_16561
        have o_16562 : (IA 0 0 14 9999 w) g_16560 := (by rw [eg_16560]; exact (IA_s0 o_16557 (bn_w (bn_eq ex_16559 (bn_add B_16543 (show bn 1 1 (1 : Int32) from bn_k (by decide)) (by decide))) (by decide))))
        have I := I.up (k := 1) (j := 0) (by decide) ef_16561 (okE_a (g := g_16560) o_16562)
        have q_16563 : g_16560 (0 : Int32).toNatClampNeg = x_16559 := by rw [eg_16560]; exact pk_us
        refine lv_aload_n hx hb dX12_one_79 rfl (lv_at hl 0 rfl) ?_
        refine pg_get S Y ok_X12 0 (by decide) kf12_7 (v := .ref (ad 1 0)) p_ad_0_0 rfl dX12_one_80 ?_
        refine lv_iconst (v := 0) hx hb dX12_one_83 (by decide) ?_
        refine pg_iald S Y (v := x_16559) p_ad_1_0 (by unfold vp_in; decide) q_16563 dX12_one_84 ?_
        refine lv_iconst (v := 1) hx hb dX12_one_85 (by decide) ?_
        refine lv_isub hx hb dX12_one_86 ?_
        refine lv_topi (fun x_16564 ex_16564 => ?_)
        exact prI (post := fun r L1 f1 => SH (spM (IA 0 0 14 9999 w) pi px pa) nnM G ad L1 f1) S Y rfl (by decide) (by decide) hA1 I dX12_one_87
      · have B_16544 : bn 6 6 v_16541 := bn_w (bn_eq c_16542 (show bn 6 6 (6 : Int32) from bn_k (by decide))) (by decide)
        refine lv_iconst (v := (-1)) hx hb dX12_one_31 (by decide) ?_
        exact prI (post := fun r L1 f1 => SH (spM (IA 0 0 14 9999 w) pi px pa) nnM G ad L1 f1) S Y rfl (by decide) (by decide) hA1 I dX12_one_32
set_option maxHeartbeats 4000000 in
set_option maxRecDepth 100000 in
theorem x_X12_kneelNow {l : Launch} {G : GG}  {L : List Nat} {f : HF} {ad : Nat → Nat → Nat} {sl : Int} {pl : Int} {oh : Int} {dh : Int} {w : Int × Int} {pi : (Nat → Int32) → Prop} {g0 : Nat → Int32} {pa : (Nat → Int32) → Prop} {i1 : Int32} (I : SH (spM (IA sl pl oh dh w) pi (EQ g0) pa) nnM G ad L f) (hB : BBp sl pl oh dh w) (hX : TX g0) : PMv l yX12_kneelNow cX12_kneelNow 3 7 0 0 G [.ref (ad 0 0), .int i1] L f (fun L1 f1 => SH (spM (IA sl pl oh dh w) pi (EQ g0) pa) nnM G ad L1 f1) := by
  refine PMv.of (post := fun L1 f1 => SH (spM (IA sl pl oh dh w) pi (EQ g0) pa) nnM G ad L1 f1) (own := RX12) (by decide) rfl (Nat.le_of_ble_eq_true rfl) (fun sz p e s m args below meth c A ls hA1 hname S Y hl => ?_)
  have hx := S.hx
  have hb := S.hb
  have hl : lv_has ls 3 [(0, .ref (ad 0 0)), (1, .int i1)] := hl
  have J_2 : ∀ (n2 : Nat) (y2_2 : Int32) (L_2 : List Nat) (f_2 : HF) (H : Heap) (locs : List Loc) (ls : Array Slot), (SH (spM (IA sl pl oh dh w) pi (EQ g0) pa) nnM G ad L_2 f_2) → (bn 0 14 y2_2) → (((14 : Int) - y2_2.toInt).toNat = n2) → (DY G A s [] L_2 f_2 H locs) → (lv_has ls 3 [(0, .ref (ad 0 0)), (1, .int i1), (2, .int y2_2)]) → W p l e (rmD 7 0 0) s m args below meth c H locs (0) (0) (MQ below (va_Qv (fun (u : List Nat × HF) => (fun L1 f1 => SH (spM (IA sl pl oh dh w) pi (EQ g0) pa) nnM G ad L1 f1) u.1 u.2) (fun u t => pOut G (va_A (va_pl L f) sz) u.1 u.2 t) (va_A (va_pl L f) sz)) args s 0 0 A) (F0 m 2 ls []) := by
    intro n2
    induction n2 using Nat.strongRecOn with
    | _ n2 ih2 =>
      intro y2_2 L_2 f_2 H locs ls I b_y2_2 hm2 Y hl
      refine lv_iload_n hx hb dX12_kneelNow_2 rfl (lv_at hl 2 rfl) ?_
      refine lv_aload_n hx hb dX12_kneelNow_3 rfl (lv_at hl 0 rfl) ?_
      obtain ⟨v_17391, v_17393, v_17395, v_17397, v_17399, v_17401, v_17403, v_17405, v_17406, v_17408, v_17410, v_17412, v_17414, v_17416, v_17418, v_17420, v_17422, v_17424, p_ad_0_0, b_17392, b_17394, b_17396, b_17398, b_17400, b_17402, b_17404, b_17407, b_17409, b_17411, b_17413, b_17415, b_17417, b_17419, b_17421, b_17423, b_17425⟩ := opnM_0 (j := 0) I (by decide)
      have p_ad_0_0 : pt L_2 f_2 (ad 0 0) (.inr (12, [.ref (ad 1 0), .ref (ad 2 0), .ref (ad 3 0), .ref (ad 4 0), .int v_17391, .int v_17393, .int v_17395, .int v_17397, .int v_17399, .int v_17401, .int v_17403, .long v_17405, .int v_17406, .int v_17408, .int v_17410, .ref (ad 5 0), .ref (ad 6 0), .int v_17412, .int v_17414, .int v_17416, .int v_17418, .int v_17420, .ref (ad 7 0), .ref (ad 8 0), .ref (ad 9 0), .int v_17422, .ref (ad 10 0), .ref (ad 11 0), .ref (ad 12 0), .ref (ad 13 0), .int v_17424, .ref (ad 14 0)])) := p_ad_0_0
      refine pg_get S Y ok_X12 0 (by decide) kf12_7 (v := .ref (ad 1 0)) p_ad_0_0 rfl dX12_kneelNow_4 ?_
      refine lv_bipush (v := 13) hx hb dX12_kneelNow_7 (by decide) ?_
      obtain ⟨g_17426, p_ad_1_0, o_17427⟩ := I.opi (k := 1) (j := 0) (by decide) rfl
      have p_ad_1_0 : pt L_2 f_2 (ad 1 0) (.inl (G.2 0, 10568, .inl g_17426)) := p_ad_1_0
      obtain ⟨v_17428, ev_17428⟩ : ∃ z, z = g_17426 (13 : Int32).toNatClampNeg := ⟨_, rfl⟩
      refine pg_iald S Y (v := v_17428) p_ad_1_0 (by unfold vp_in; decide) ev_17428.symm dX12_kneelNow_9 ?_
      have bv_17428 : bn 0 14 v_17428 := bn_eq ev_17428 (bn_w (a' := 0) (b' := 14) (IA_13 o_17427) ⟨by decide, by have h9 := hB; unfold BBp at h9; omega⟩)
      refine lv_icmp_ge (tgt := 70) hx hb dX12_kneelNow_10 (by decide) (fun c_17429 => ?_) (fun c_17429 => ?_)
      · exact prV (post := fun L1 f1 => SH (spM (IA sl pl oh dh w) pi (EQ g0) pa) nnM G ad L1 f1) S Y (by decide) (by decide) hA1 I dX12_kneelNow_70
      · have B_17430 : bn 1 14 v_17428 := bn_w (bn_gtl c_17429 bv_17428 b_y2_2) (by decide)
        have B_17431 : bn 0 13 y2_2 := bn_w (bn_gtr c_17429 bv_17428 b_y2_2) (by decide)
        refine lv_aload_n hx hb dX12_kneelNow_13 rfl (lv_at hl 0 rfl) ?_
        refine lv_iload_n hx hb dX12_kneelNow_14 rfl (lv_at hl 2 rfl) ?_
        refine lv_iconst (v := 1) hx hb dX12_kneelNow_15 (by decide) ?_
        refine cVp (As := [.int y2_2, .int 1]) (rest := []) S Y (x_X12_getON (l := l) I hB (bn_w B_17431 (by decide)) (bn_w (show bn 1 1 (1 : Int32) from bn_k (by decide)) (by decide))) cw_X12_get km12_73 p_ad_0_0 ok_X12.1 rfl rfl ⟨Nat.le_of_ble_eq_true rfl, Nat.le_of_ble_eq_true rfl⟩ hl.1 rfl (Nat.le_of_ble_eq_true rfl) ⟨Nat.le_of_ble_eq_true rfl, Nat.le_of_ble_eq_true rfl⟩ dX12_kneelNow_16 (fun r_17432 H locs er_17432 Y => ?_)
        refine lv_iload_n hx hb dX12_kneelNow_19 rfl (lv_at hl 1 rfl) ?_
        refine lv_icmp_ne (tgt := 64) hx hb dX12_kneelNow_20 (by decide) (fun c_17433 => ?_) (fun c_17433 => ?_)
        · obtain ⟨x_17434, ex_17434⟩ : ∃ z : Int32, z = y2_2 + 1 := ⟨_, rfl⟩
          refine lv_iinc (v := x_17434) (lv' := [(2, .int x_17434), (0, .ref (ad 0 0)), (1, .int i1)]) hx hb dX12_kneelNow_64 hl (k := 2) rfl (by rw [ex_17434]; rfl) (by decide) rfl (fun ls hl => ?_)
          refine lv_goto (tgt := 2) hx hb dX12_kneelNow_67 (by decide) ?_
          exact ih2 _ (by rw [← hm2]; exact ms_up (m := 1) ex_17434 (show bn 1 1 (1 : Int32) from bn_k (by decide)) B_17431 (bn_w (bn_eq ex_17434 (bn_add B_17431 (show bn 1 1 (1 : Int32) from bn_k (by decide)) (by decide))) (by decide) : bn 0 14 x_17434) (by decide)) x_17434 _ _  _ _ _ I (bn_w (bn_eq ex_17434 (bn_add B_17431 (show bn 1 1 (1 : Int32) from bn_k (by decide)) (by decide))) (by decide)) rfl Y (lv_sub hl [1, 2, 0] rfl)
        · refine lv_aload_n hx hb dX12_kneelNow_23 rfl (lv_at hl 0 rfl) ?_
          refine lv_iload_n hx hb dX12_kneelNow_24 rfl (lv_at hl 2 rfl) ?_
          refine lv_iconst (v := 4) hx hb dX12_kneelNow_25 (by decide) ?_
          refine cVp (As := [.int y2_2, .int 4]) (rest := []) S Y (x_X12_get (l := l) I hB (bn_w B_17431 (by decide)) (bn_w (show bn 4 4 (4 : Int32) from bn_k (by decide)) (by decide))) cw_X12_get km12_73 p_ad_0_0 ok_X12.1 rfl rfl ⟨Nat.le_of_ble_eq_true rfl, Nat.le_of_ble_eq_true rfl⟩ hl.1 rfl (Nat.le_of_ble_eq_true rfl) ⟨Nat.le_of_ble_eq_true rfl, Nat.le_of_ble_eq_true rfl⟩ dX12_kneelNow_26 (fun r_17435 H locs er_17435 Y => ?_)
          refine lv_iconst (v := 2) hx hb dX12_kneelNow_29 (by decide) ?_
          refine lv_icmp_eq (tgt := 64) hx hb dX12_kneelNow_30 (by decide) (fun c_17436 => ?_) (fun c_17436 => ?_)
          · have B_17437 : bn 2 2 r_17435 := bn_w (bn_eq c_17436 (show bn 2 2 (2 : Int32) from bn_k (by decide))) (by decide)
            obtain ⟨x_17438, ex_17438⟩ : ∃ z : Int32, z = y2_2 + 1 := ⟨_, rfl⟩
            refine lv_iinc (v := x_17438) (lv' := [(2, .int x_17438), (0, .ref (ad 0 0)), (1, .int i1)]) hx hb dX12_kneelNow_64 hl (k := 2) rfl (by rw [ex_17438]; rfl) (by decide) rfl (fun ls hl => ?_)
            refine lv_goto (tgt := 2) hx hb dX12_kneelNow_67 (by decide) ?_
            exact ih2 _ (by rw [← hm2]; exact ms_up (m := 1) ex_17438 (show bn 1 1 (1 : Int32) from bn_k (by decide)) B_17431 (bn_w (bn_eq ex_17438 (bn_add B_17431 (show bn 1 1 (1 : Int32) from bn_k (by decide)) (by decide))) (by decide) : bn 0 14 x_17438) (by decide)) x_17438 _ _  _ _ _ I (bn_w (bn_eq ex_17438 (bn_add B_17431 (show bn 1 1 (1 : Int32) from bn_k (by decide)) (by decide))) (by decide)) rfl Y (lv_sub hl [1, 2, 0] rfl)
          · refine lv_aload_n hx hb dX12_kneelNow_33 rfl (lv_at hl 0 rfl) ?_
            refine lv_iload_n hx hb dX12_kneelNow_34 rfl (lv_at hl 2 rfl) ?_
            refine lv_iconst (v := 5) hx hb dX12_kneelNow_35 (by decide) ?_
            refine lv_aload_n hx hb dX12_kneelNow_36 rfl (lv_at hl 0 rfl) ?_
            refine lv_iload_n hx hb dX12_kneelNow_37 rfl (lv_at hl 2 rfl) ?_
            refine lv_iconst (v := 5) hx hb dX12_kneelNow_38 (by decide) ?_
            refine cVp (As := [.int y2_2, .int 5]) (rest := [.int 5, .int y2_2, .ref (ad 0 0)]) S Y (x_X12_get (l := l) I hB (bn_w B_17431 (by decide)) (bn_w (show bn 5 5 (5 : Int32) from bn_k (by decide)) (by decide))) cw_X12_get km12_73 p_ad_0_0 ok_X12.1 rfl rfl ⟨Nat.le_of_ble_eq_true rfl, Nat.le_of_ble_eq_true rfl⟩ hl.1 rfl (Nat.le_of_ble_eq_true rfl) ⟨Nat.le_of_ble_eq_true rfl, Nat.le_of_ble_eq_true rfl⟩ dX12_kneelNow_39 (fun r_17439 H locs er_17439 Y => ?_)
            refine lv_aload_n hx hb dX12_kneelNow_42 rfl (lv_at hl 0 rfl) ?_
            refine lv_aload_n hx hb dX12_kneelNow_43 rfl (lv_at hl 0 rfl) ?_
            refine pg_get S Y ok_X12 0 (by decide) kf12_7 (v := .ref (ad 1 0)) p_ad_0_0 rfl dX12_kneelNow_44 ?_
            refine lv_iconst (v := 2) hx hb dX12_kneelNow_47 (by decide) ?_
            obtain ⟨v_17440, ev_17440⟩ : ∃ z, z = g_17426 (2 : Int32).toNatClampNeg := ⟨_, rfl⟩
            refine pg_iald S Y (v := v_17440) p_ad_1_0 (by unfold vp_in; decide) ev_17440.symm dX12_kneelNow_48 ?_
            have bv_17440 : bn (-1) 3 v_17440 := bn_eq ev_17440 (IA_2 o_17427)
            refine lv_iload_n hx hb dX12_kneelNow_49 rfl (lv_at hl 2 rfl) ?_
            refine cVi (As := [.int v_17440, .int y2_2]) (rest := [.int r_17439, .int 5, .int y2_2, .ref (ad 0 0)]) S Y (x_X12_wearsOf (l := l) I hB hX (bn_w bv_17440 (by decide)) (bn_w B_17431 (by decide))) cw_X12_wearsOf km12_342 p_ad_0_0 ok_X12.1 rfl rfl ⟨Nat.le_of_ble_eq_true rfl, Nat.le_of_ble_eq_true rfl⟩ hl.1 rfl (Nat.le_of_ble_eq_true rfl) ⟨Nat.le_of_ble_eq_true rfl, Nat.le_of_ble_eq_true rfl⟩ dX12_kneelNow_50 (fun r_17443 L_17441 f_17442 H locs I Y => ?_)
            refine lv_iadd hx hb dX12_kneelNow_53 ?_
            refine lv_topi (fun x_17444 ex_17444 => ?_)
            refine lv_i2l hx hb dX12_kneelNow_54 rfl ?_
            refine lv_topl (fun x_17445 ex_17445 => ?_)
            refine lv_iconst (v := 0) hx hb dX12_kneelNow_55 (by decide) ?_
            refine lv_bipush (v := 99) hx hb dX12_kneelNow_56 (by decide) ?_
            refine cSp (As := [.long x_17445, .int 0, .int 99]) (rest := [.int 5, .int y2_2, .ref (ad 0 0)]) S Y (x_X12_cut (l := l) ) cw_X12_cut km12_292 rfl ⟨Nat.le_of_ble_eq_true rfl, Nat.le_of_ble_eq_true rfl⟩ hl.1 rfl (Nat.le_of_ble_eq_true rfl) ⟨Nat.le_of_ble_eq_true rfl, Nat.le_of_ble_eq_true rfl⟩ dX12_kneelNow_58 (fun r_17446 H locs er_17446 Y => ?_)
            refine cVv (As := [.int y2_2, .int 5, .int r_17446]) (rest := []) S Y (x_X12_put (l := l) I hB (bn_w B_17431 (by decide)) (bn_w (show bn 5 5 (5 : Int32) from bn_k (by decide)) (by decide)) (fun h => absurd h (by decide))) cw_X12_put km12_326 (I.opo (k := 0) (j := 0) (by decide) rfl).choose_spec.1 ok_X12.1 rfl rfl ⟨Nat.le_of_ble_eq_true rfl, Nat.le_of_ble_eq_true rfl⟩ hl.1 rfl (Nat.le_of_ble_eq_true rfl) ⟨Nat.le_of_ble_eq_true rfl, Nat.le_of_ble_eq_true rfl⟩ dX12_kneelNow_61 (fun L_17447 f_17448 H locs I Y => ?_)
            obtain ⟨x_17449, ex_17449⟩ : ∃ z : Int32, z = y2_2 + 1 := ⟨_, rfl⟩
            refine lv_iinc (v := x_17449) (lv' := [(2, .int x_17449), (0, .ref (ad 0 0)), (1, .int i1)]) hx hb dX12_kneelNow_64 hl (k := 2) rfl (by rw [ex_17449]; rfl) (by decide) rfl (fun ls hl => ?_)
            refine lv_goto (tgt := 2) hx hb dX12_kneelNow_67 (by decide) ?_
            exact ih2 _ (by rw [← hm2]; exact ms_up (m := 1) ex_17449 (show bn 1 1 (1 : Int32) from bn_k (by decide)) B_17431 (bn_w (bn_eq ex_17449 (bn_add B_17431 (show bn 1 1 (1 : Int32) from bn_k (by decide)) (by decide))) (by decide) : bn 0 14 x_17449) (by decide)) x_17449 _ _  _ _ _ I (bn_w (bn_eq ex_17449 (bn_add B_17431 (show bn 1 1 (1 : Int32) from bn_k (by decide)) (by decide))) (by decide)) rfl Y (lv_sub hl [1, 2, 0] rfl)
  refine lv_iconst (v := 0) hx hb dX12_kneelNow_0 (by decide) ?_
  refine lv_istore_n (lv' := [(2, .int 0), (0, .ref (ad 0 0)), (1, .int i1)]) hx hb dX12_kneelNow_1 rfl hl (by decide) rfl (fun ls hl => ?_)
  exact J_2 _ 0 _ _  _ _ _ I (bn_w (show bn 0 0 (0 : Int32) from bn_k (by decide)) (by decide)) rfl Y (lv_sub hl [1, 2, 0] rfl)
set_option maxHeartbeats 4000000 in
set_option maxRecDepth 100000 in
theorem x_X12_skateNow {l : Launch} {G : GG}  {L : List Nat} {f : HF} {ad : Nat → Nat → Nat} {sl : Int} {pl : Int} {oh : Int} {dh : Int} {w : Int × Int} {pi : (Nat → Int32) → Prop} {g0 : Nat → Int32} {pa : (Nat → Int32) → Prop} {i1 i2 : Int32} (I : SH (spM (IA sl pl oh dh w) pi (EQ g0) pa) nnM G ad L f) (hB : BBp sl pl oh dh w) (hX : TX g0) : PMv l yX12_skateNow cX12_skateNow 4 1 0 0 G [.ref (ad 0 0), .int i1, .int i2] L f (fun L1 f1 => SH (spM (IA sl pl oh dh w) pi (EQ g0) pa) nnM G ad L1 f1) := by
  refine PMv.of (post := fun L1 f1 => SH (spM (IA sl pl oh dh w) pi (EQ g0) pa) nnM G ad L1 f1) (own := RX12) (by decide) rfl (Nat.le_of_ble_eq_true rfl) (fun sz p e s m args below meth c A ls hA1 hname S Y hl => ?_)
  have hx := S.hx
  have hb := S.hb
  have hl : lv_has ls 4 [(0, .ref (ad 0 0)), (1, .int i1), (2, .int i2)] := hl
  have J_2 : ∀ (n2 : Nat) (y2_3 : Int32) (L_2 : List Nat) (f_2 : HF) (H : Heap) (locs : List Loc) (ls : Array Slot), (SH (spM (IA sl pl oh dh w) pi (EQ g0) pa) nnM G ad L_2 f_2) → (bn 0 14 y2_3) → (((14 : Int) - y2_3.toInt).toNat = n2) → (DY G A s [] L_2 f_2 H locs) → (lv_has ls 4 [(0, .ref (ad 0 0)), (1, .int i1), (2, .int i2), (3, .int y2_3)]) → W p l e (rmD 1 0 0) s m args below meth c H locs (0) (0) (MQ below (va_Qv (fun (u : List Nat × HF) => (fun L1 f1 => SH (spM (IA sl pl oh dh w) pi (EQ g0) pa) nnM G ad L1 f1) u.1 u.2) (fun u t => pOut G (va_A (va_pl L f) sz) u.1 u.2 t) (va_A (va_pl L f) sz)) args s 0 0 A) (F0 m 2 ls []) := by
    intro n2
    induction n2 using Nat.strongRecOn with
    | _ n2 ih2 =>
      intro y2_3 L_2 f_2 H locs ls I b_y2_3 hm2 Y hl
      refine lv_iload_n hx hb dX12_skateNow_2 rfl (lv_at hl 3 rfl) ?_
      refine lv_aload_n hx hb dX12_skateNow_3 rfl (lv_at hl 0 rfl) ?_
      obtain ⟨v_18206, v_18208, v_18210, v_18212, v_18214, v_18216, v_18218, v_18220, v_18221, v_18223, v_18225, v_18227, v_18229, v_18231, v_18233, v_18235, v_18237, v_18239, p_ad_0_0, b_18207, b_18209, b_18211, b_18213, b_18215, b_18217, b_18219, b_18222, b_18224, b_18226, b_18228, b_18230, b_18232, b_18234, b_18236, b_18238, b_18240⟩ := opnM_0 (j := 0) I (by decide)
      have p_ad_0_0 : pt L_2 f_2 (ad 0 0) (.inr (12, [.ref (ad 1 0), .ref (ad 2 0), .ref (ad 3 0), .ref (ad 4 0), .int v_18206, .int v_18208, .int v_18210, .int v_18212, .int v_18214, .int v_18216, .int v_18218, .long v_18220, .int v_18221, .int v_18223, .int v_18225, .ref (ad 5 0), .ref (ad 6 0), .int v_18227, .int v_18229, .int v_18231, .int v_18233, .int v_18235, .ref (ad 7 0), .ref (ad 8 0), .ref (ad 9 0), .int v_18237, .ref (ad 10 0), .ref (ad 11 0), .ref (ad 12 0), .ref (ad 13 0), .int v_18239, .ref (ad 14 0)])) := p_ad_0_0
      refine pg_get S Y ok_X12 0 (by decide) kf12_7 (v := .ref (ad 1 0)) p_ad_0_0 rfl dX12_skateNow_4 ?_
      refine lv_bipush (v := 13) hx hb dX12_skateNow_7 (by decide) ?_
      obtain ⟨g_18241, p_ad_1_0, o_18242⟩ := I.opi (k := 1) (j := 0) (by decide) rfl
      have p_ad_1_0 : pt L_2 f_2 (ad 1 0) (.inl (G.2 0, 10568, .inl g_18241)) := p_ad_1_0
      obtain ⟨v_18243, ev_18243⟩ : ∃ z, z = g_18241 (13 : Int32).toNatClampNeg := ⟨_, rfl⟩
      refine pg_iald S Y (v := v_18243) p_ad_1_0 (by unfold vp_in; decide) ev_18243.symm dX12_skateNow_9 ?_
      have bv_18243 : bn 0 14 v_18243 := bn_eq ev_18243 (bn_w (a' := 0) (b' := 14) (IA_13 o_18242) ⟨by decide, by have h9 := hB; unfold BBp at h9; omega⟩)
      refine lv_icmp_ge (tgt := 61) hx hb dX12_skateNow_10 (by decide) (fun c_18244 => ?_) (fun c_18244 => ?_)
      · exact prV (post := fun L1 f1 => SH (spM (IA sl pl oh dh w) pi (EQ g0) pa) nnM G ad L1 f1) S Y (by decide) (by decide) hA1 I dX12_skateNow_61
      · have B_18245 : bn 1 14 v_18243 := bn_w (bn_gtl c_18244 bv_18243 b_y2_3) (by decide)
        have B_18246 : bn 0 13 y2_3 := bn_w (bn_gtr c_18244 bv_18243 b_y2_3) (by decide)
        refine lv_aload_n hx hb dX12_skateNow_13 rfl (lv_at hl 0 rfl) ?_
        refine lv_iload_n hx hb dX12_skateNow_14 rfl (lv_at hl 3 rfl) ?_
        refine lv_iconst (v := 1) hx hb dX12_skateNow_15 (by decide) ?_
        refine cVp (As := [.int y2_3, .int 1]) (rest := []) S Y (x_X12_getON (l := l) I hB (bn_w B_18246 (by decide)) (bn_w (show bn 1 1 (1 : Int32) from bn_k (by decide)) (by decide))) cw_X12_get km12_73 p_ad_0_0 ok_X12.1 rfl rfl ⟨Nat.le_of_ble_eq_true rfl, Nat.le_of_ble_eq_true rfl⟩ hl.1 rfl (Nat.le_of_ble_eq_true rfl) ⟨Nat.le_of_ble_eq_true rfl, Nat.le_of_ble_eq_true rfl⟩ dX12_skateNow_16 (fun r_18247 H locs er_18247 Y => ?_)
        refine lv_iload_n hx hb dX12_skateNow_19 rfl (lv_at hl 1 rfl) ?_
        refine lv_icmp_ne (tgt := 55) hx hb dX12_skateNow_20 (by decide) (fun c_18248 => ?_) (fun c_18248 => ?_)
        · obtain ⟨x_18249, ex_18249⟩ : ∃ z : Int32, z = y2_3 + 1 := ⟨_, rfl⟩
          refine lv_iinc (v := x_18249) (lv' := [(3, .int x_18249), (0, .ref (ad 0 0)), (1, .int i1), (2, .int i2)]) hx hb dX12_skateNow_55 hl (k := 3) rfl (by rw [ex_18249]; rfl) (by decide) rfl (fun ls hl => ?_)
          refine lv_goto (tgt := 2) hx hb dX12_skateNow_58 (by decide) ?_
          exact ih2 _ (by rw [← hm2]; exact ms_up (m := 1) ex_18249 (show bn 1 1 (1 : Int32) from bn_k (by decide)) B_18246 (bn_w (bn_eq ex_18249 (bn_add B_18246 (show bn 1 1 (1 : Int32) from bn_k (by decide)) (by decide))) (by decide) : bn 0 14 x_18249) (by decide)) x_18249 _ _  _ _ _ I (bn_w (bn_eq ex_18249 (bn_add B_18246 (show bn 1 1 (1 : Int32) from bn_k (by decide)) (by decide))) (by decide)) rfl Y (lv_sub hl [1, 2, 3, 0] rfl)
        · refine lv_aload_n hx hb dX12_skateNow_23 rfl (lv_at hl 0 rfl) ?_
          refine lv_iload_n hx hb dX12_skateNow_24 rfl (lv_at hl 3 rfl) ?_
          refine lv_iconst (v := 2) hx hb dX12_skateNow_25 (by decide) ?_
          refine cVp (As := [.int y2_3, .int 2]) (rest := []) S Y (x_X12_get (l := l) I hB (bn_w B_18246 (by decide)) (bn_w (show bn 2 2 (2 : Int32) from bn_k (by decide)) (by decide))) cw_X12_get km12_73 p_ad_0_0 ok_X12.1 rfl rfl ⟨Nat.le_of_ble_eq_true rfl, Nat.le_of_ble_eq_true rfl⟩ hl.1 rfl (Nat.le_of_ble_eq_true rfl) ⟨Nat.le_of_ble_eq_true rfl, Nat.le_of_ble_eq_true rfl⟩ dX12_skateNow_26 (fun r_18250 H locs er_18250 Y => ?_)
          refine lv_iload_n hx hb dX12_skateNow_29 rfl (lv_at hl 2 rfl) ?_
          refine lv_icmp_ne (tgt := 55) hx hb dX12_skateNow_30 (by decide) (fun c_18251 => ?_) (fun c_18251 => ?_)
          · obtain ⟨x_18252, ex_18252⟩ : ∃ z : Int32, z = y2_3 + 1 := ⟨_, rfl⟩
            refine lv_iinc (v := x_18252) (lv' := [(3, .int x_18252), (0, .ref (ad 0 0)), (1, .int i1), (2, .int i2)]) hx hb dX12_skateNow_55 hl (k := 3) rfl (by rw [ex_18252]; rfl) (by decide) rfl (fun ls hl => ?_)
            refine lv_goto (tgt := 2) hx hb dX12_skateNow_58 (by decide) ?_
            exact ih2 _ (by rw [← hm2]; exact ms_up (m := 1) ex_18252 (show bn 1 1 (1 : Int32) from bn_k (by decide)) B_18246 (bn_w (bn_eq ex_18252 (bn_add B_18246 (show bn 1 1 (1 : Int32) from bn_k (by decide)) (by decide))) (by decide) : bn 0 14 x_18252) (by decide)) x_18252 _ _  _ _ _ I (bn_w (bn_eq ex_18252 (bn_add B_18246 (show bn 1 1 (1 : Int32) from bn_k (by decide)) (by decide))) (by decide)) rfl Y (lv_sub hl [1, 2, 3, 0] rfl)
          · refine lv_aload_n hx hb dX12_skateNow_33 rfl (lv_at hl 0 rfl) ?_
            refine lv_iload_n hx hb dX12_skateNow_34 rfl (lv_at hl 3 rfl) ?_
            refine lv_iconst (v := 5) hx hb dX12_skateNow_35 (by decide) ?_
            refine lv_aload_n hx hb dX12_skateNow_36 rfl (lv_at hl 0 rfl) ?_
            refine lv_iload_n hx hb dX12_skateNow_37 rfl (lv_at hl 3 rfl) ?_
            refine lv_iconst (v := 5) hx hb dX12_skateNow_38 (by decide) ?_
            refine cVp (As := [.int y2_3, .int 5]) (rest := [.int 5, .int y2_3, .ref (ad 0 0)]) S Y (x_X12_get (l := l) I hB (bn_w B_18246 (by decide)) (bn_w (show bn 5 5 (5 : Int32) from bn_k (by decide)) (by decide))) cw_X12_get km12_73 p_ad_0_0 ok_X12.1 rfl rfl ⟨Nat.le_of_ble_eq_true rfl, Nat.le_of_ble_eq_true rfl⟩ hl.1 rfl (Nat.le_of_ble_eq_true rfl) ⟨Nat.le_of_ble_eq_true rfl, Nat.le_of_ble_eq_true rfl⟩ dX12_skateNow_39 (fun r_18253 H locs er_18253 Y => ?_)
            refine lv_bipush (v := 30) hx hb dX12_skateNow_42 (by decide) ?_
            refine lv_iadd hx hb dX12_skateNow_44 ?_
            refine lv_topi (fun x_18254 ex_18254 => ?_)
            refine lv_i2l hx hb dX12_skateNow_45 rfl ?_
            refine lv_topl (fun x_18255 ex_18255 => ?_)
            refine lv_iconst (v := 0) hx hb dX12_skateNow_46 (by decide) ?_
            refine lv_bipush (v := 99) hx hb dX12_skateNow_47 (by decide) ?_
            refine cSp (As := [.long x_18255, .int 0, .int 99]) (rest := [.int 5, .int y2_3, .ref (ad 0 0)]) S Y (x_X12_cut (l := l) ) cw_X12_cut km12_292 rfl ⟨Nat.le_of_ble_eq_true rfl, Nat.le_of_ble_eq_true rfl⟩ hl.1 rfl (Nat.le_of_ble_eq_true rfl) ⟨Nat.le_of_ble_eq_true rfl, Nat.le_of_ble_eq_true rfl⟩ dX12_skateNow_49 (fun r_18256 H locs er_18256 Y => ?_)
            refine cVv (As := [.int y2_3, .int 5, .int r_18256]) (rest := []) S Y (x_X12_put (l := l) I hB (bn_w B_18246 (by decide)) (bn_w (show bn 5 5 (5 : Int32) from bn_k (by decide)) (by decide)) (fun h => absurd h (by decide))) cw_X12_put km12_326 p_ad_0_0 ok_X12.1 rfl rfl ⟨Nat.le_of_ble_eq_true rfl, Nat.le_of_ble_eq_true rfl⟩ hl.1 rfl (Nat.le_of_ble_eq_true rfl) ⟨Nat.le_of_ble_eq_true rfl, Nat.le_of_ble_eq_true rfl⟩ dX12_skateNow_52 (fun L_18257 f_18258 H locs I Y => ?_)
            obtain ⟨x_18259, ex_18259⟩ : ∃ z : Int32, z = y2_3 + 1 := ⟨_, rfl⟩
            refine lv_iinc (v := x_18259) (lv' := [(3, .int x_18259), (0, .ref (ad 0 0)), (1, .int i1), (2, .int i2)]) hx hb dX12_skateNow_55 hl (k := 3) rfl (by rw [ex_18259]; rfl) (by decide) rfl (fun ls hl => ?_)
            refine lv_goto (tgt := 2) hx hb dX12_skateNow_58 (by decide) ?_
            exact ih2 _ (by rw [← hm2]; exact ms_up (m := 1) ex_18259 (show bn 1 1 (1 : Int32) from bn_k (by decide)) B_18246 (bn_w (bn_eq ex_18259 (bn_add B_18246 (show bn 1 1 (1 : Int32) from bn_k (by decide)) (by decide))) (by decide) : bn 0 14 x_18259) (by decide)) x_18259 _ _  _ _ _ I (bn_w (bn_eq ex_18259 (bn_add B_18246 (show bn 1 1 (1 : Int32) from bn_k (by decide)) (by decide))) (by decide)) rfl Y (lv_sub hl [1, 2, 3, 0] rfl)
  refine lv_iconst (v := 0) hx hb dX12_skateNow_0 (by decide) ?_
  refine lv_istore_n (lv' := [(3, .int 0), (0, .ref (ad 0 0)), (1, .int i1), (2, .int i2)]) hx hb dX12_skateNow_1 rfl hl (by decide) rfl (fun ls hl => ?_)
  exact J_2 _ 0 _ _  _ _ _ I (bn_w (show bn 0 0 (0 : Int32) from bn_k (by decide)) (by decide)) rfl Y (lv_sub hl [1, 2, 3, 0] rfl)
set_option maxHeartbeats 4000000 in
set_option maxRecDepth 100000 in
theorem x_X12_pass {l : Launch} {G : GG}  {L : List Nat} {f : HF} {ad : Nat → Nat → Nat} {pl : Int} {oh : Int} {w : Int × Int} {pi : (Nat → Int32) → Prop} {g0 : Nat → Int32} {pa : (Nat → Int32) → Prop} (I : SH (spM (IA 0 pl oh 9998 w) pi (EQ g0) pa) nnM G ad L f) (hB : BBp 0 pl oh 9998 w) (hX : TX g0) : PMv l yX12_pass cX12_pass 2 8 0 0 G [.ref (ad 0 0)] L f (fun L1 f1 => SH (spM (IA 0 pl oh 9999 w) pi (EQ g0) pa) nnM G ad L1 f1) := by
  refine PMv.of (post := fun L1 f1 => SH (spM (IA 0 pl oh 9999 w) pi (EQ g0) pa) nnM G ad L1 f1) (own := RX12) (by decide) rfl (Nat.le_of_ble_eq_true rfl) (fun sz p e s m args below meth c A ls hA1 hname S Y hl => ?_)
  have hx := S.hx
  have hb := S.hb
  have hl : lv_has ls 2 [(0, .ref (ad 0 0))] := hl
  have J_2 : ∀ (n2 : Nat) (y2_1 : Int32) (L_2 : List Nat) (f_2 : HF) (H : Heap) (locs : List Loc) (ls : Array Slot), (SH (spM (IA y2_1.toInt pl oh 9998 w) pi (EQ g0) pa) nnM G ad L_2 f_2) → (bn 0 6 y2_1) → (((6 : Int) - y2_1.toInt).toNat = n2) → (DY G A s [] L_2 f_2 H locs) → (lv_has ls 2 [(0, .ref (ad 0 0)), (1, .int y2_1)]) → W p l e (rmD 8 0 0) s m args below meth c H locs (0) (0) (MQ below (va_Qv (fun (u : List Nat × HF) => (fun L1 f1 => SH (spM (IA 0 pl oh 9999 w) pi (EQ g0) pa) nnM G ad L1 f1) u.1 u.2) (fun u t => pOut G (va_A (va_pl L f) sz) u.1 u.2 t) (va_A (va_pl L f) sz)) args s 0 0 A) (F0 m 2 ls []) := by
    intro n2
    induction n2 using Nat.strongRecOn with
    | _ n2 ih2 =>
      intro y2_1 L_2 f_2 H locs ls I b_y2_1 hm2 Y hl
      refine lv_iload_n hx hb dX12_pass_2 rfl (lv_at hl 1 rfl) ?_
      refine lv_aload_n hx hb dX12_pass_3 rfl (lv_at hl 0 rfl) ?_
      obtain ⟨v_19324, v_19326, v_19328, v_19330, v_19332, v_19334, v_19336, v_19338, v_19339, v_19341, v_19343, v_19345, v_19347, v_19349, v_19351, v_19353, v_19355, v_19357, p_ad_0_0, b_19325, b_19327, b_19329, b_19331, b_19333, b_19335, b_19337, b_19340, b_19342, b_19344, b_19346, b_19348, b_19350, b_19352, b_19354, b_19356, b_19358⟩ := opnM_0 (j := 0) I (by decide)
      have p_ad_0_0 : pt L_2 f_2 (ad 0 0) (.inr (12, [.ref (ad 1 0), .ref (ad 2 0), .ref (ad 3 0), .ref (ad 4 0), .int v_19324, .int v_19326, .int v_19328, .int v_19330, .int v_19332, .int v_19334, .int v_19336, .long v_19338, .int v_19339, .int v_19341, .int v_19343, .ref (ad 5 0), .ref (ad 6 0), .int v_19345, .int v_19347, .int v_19349, .int v_19351, .int v_19353, .ref (ad 7 0), .ref (ad 8 0), .ref (ad 9 0), .int v_19355, .ref (ad 10 0), .ref (ad 11 0), .ref (ad 12 0), .ref (ad 13 0), .int v_19357, .ref (ad 14 0)])) := p_ad_0_0
      refine pg_get S Y ok_X12 0 (by decide) kf12_7 (v := .ref (ad 1 0)) p_ad_0_0 rfl dX12_pass_4 ?_
      refine lv_iconst (v := 0) hx hb dX12_pass_7 (by decide) ?_
      obtain ⟨g_19359, p_ad_1_0, o_19360⟩ := I.opi (k := 1) (j := 0) (by decide) rfl
      have p_ad_1_0 : pt L_2 f_2 (ad 1 0) (.inl (G.2 0, 10568, .inl g_19359)) := p_ad_1_0
      obtain ⟨v_19361, ev_19361⟩ : ∃ z, z = g_19359 (0 : Int32).toNatClampNeg := ⟨_, rfl⟩
      refine pg_iald S Y (v := v_19361) p_ad_1_0 (by unfold vp_in; decide) ev_19361.symm dX12_pass_8 ?_
      have bv_19361 : bn 0 6 v_19361 := bn_eq ev_19361 (bn_w (a' := 0) (b' := 6) (IA_0 o_19360) ⟨by have h9 := (BB_s hB b_y2_1.2); unfold BBp at h9; omega, by decide⟩)
      refine lv_icmp_ge (tgt := 102) hx hb dX12_pass_9 (by decide) (fun c_19362 => ?_) (fun c_19362 => ?_)
      · refine lv_aload_n hx hb dX12_pass_102 rfl (lv_at hl 0 rfl) ?_
        refine pg_get S Y ok_X12 0 (by decide) kf12_7 (v := .ref (ad 1 0)) p_ad_0_0 rfl dX12_pass_103 ?_
        refine lv_bipush (v := 10) hx hb dX12_pass_106 (by decide) ?_
        refine lv_dup2_11 hx hb dX12_pass_108 rfl rfl ?_
        obtain ⟨v_19365, ev_19365⟩ : ∃ z, z = g_19359 (10 : Int32).toNatClampNeg := ⟨_, rfl⟩
        refine pg_iald S Y (v := v_19365) p_ad_1_0 (by unfold vp_in; decide) ev_19365.symm dX12_pass_109 ?_
        have bv_19365 : bn 0 9998 v_19365 := bn_eq ev_19365 (IA_10 o_19360)
        refine lv_iconst (v := 1) hx hb dX12_pass_110 (by decide) ?_
        refine lv_iadd hx hb dX12_pass_111 ?_
        refine lv_topi (fun x_19366 ex_19366 => ?_)
        refine pg_iast S Y p_ad_1_0 (by unfold vp_in; decide) dX12_pass_112 (fun f_19368 H locs ef_19368 Y => ?_)
        obtain ⟨g_19367, eg_19367⟩ : ∃ z, z = upd (g_19359) (10 : Int32).toNatClampNeg x_19366 := ⟨_, rfl⟩
        rw [← eg_19367] at ef_19368
        have p_ad_0_0 := p_ad_0_0.up ef_19368 (I.ne (k := 0) (j := 0) (k' := 1) (j' := 0) (by decide) (by decide) (Or.inl (by decide)))
        have p_ad_1_0 := p_ad_1_0.me ef_19368
        have o_19369 : (IA 0 pl oh 9999 w) g_19367 := (by rw [eg_19367]; refine IA_day o_19360 (bn_w (bn_eq ex_19366 (bn_add bv_19365 (show bn 1 1 (1 : Int32) from bn_k (by decide)) (by decide))) (by decide)) ?_; have z1 := la_add ex_19366 rfl rfl bv_19365 (show bn 1 1 (1 : Int32) from bn_k (by decide)) (by decide); have z3 : g_19359 10 = v_19365 := ev_19365.symm; have z4 := b_y2_1.2; rw [z3]; rw [show (1 : Int32).toInt = 1 from rfl] at z1; omega)
        have I := I.upS (sp' := spM (IA 0 pl oh 9999 w) pi (EQ g0) pa) (k := 1) (j := 0) (by decide) ef_19368 (okE_a (g := g_19367) o_19369) pAC
        have q_19370 : g_19367 (0 : Int32).toNatClampNeg = v_19361 := by rw [eg_19367]; exact (pk_un (by decide)).trans ev_19361.symm
        have q_19371 : g_19367 (10 : Int32).toNatClampNeg = x_19366 := by rw [eg_19367]; exact pk_us
        refine lv_aload_n hx hb dX12_pass_113 rfl (lv_at hl 0 rfl) ?_
        refine pg_get S Y ok_X12 0 (by decide) kf12_7 (v := .ref (ad 1 0)) p_ad_0_0 rfl dX12_pass_114 ?_
        refine lv_bipush (v := 11) hx hb dX12_pass_117 (by decide) ?_
        refine lv_aload_n hx hb dX12_pass_119 rfl (lv_at hl 0 rfl) ?_
        refine pg_get S Y ok_X12 0 (by decide) kf12_7 (v := .ref (ad 1 0)) p_ad_0_0 rfl dX12_pass_120 ?_
        refine lv_bipush (v := 12) hx hb dX12_pass_123 (by decide) ?_
        obtain ⟨v_19372, ev_19372⟩ : ∃ z, z = g_19367 (12 : Int32).toNatClampNeg := ⟨_, rfl⟩
        refine pg_iald S Y (v := v_19372) p_ad_1_0 (by unfold vp_in; decide) ev_19372.symm dX12_pass_125 ?_
        refine lv_bipush (v := 10) hx hb dX12_pass_126 (by decide) ?_
        refine lv_irem hx hb dX12_pass_128 (by decide) ?_
        refine lv_topi (fun x_19373 ex_19373 => ?_)
        refine pg_iast S Y p_ad_1_0 (by unfold vp_in; decide) dX12_pass_129 (fun f_19375 H locs ef_19375 Y => ?_)
        obtain ⟨g_19374, eg_19374⟩ : ∃ z, z = upd (g_19367) (11 : Int32).toNatClampNeg x_19373 := ⟨_, rfl⟩
        rw [← eg_19374] at ef_19375
        have p_ad_0_0 := p_ad_0_0.up ef_19375 (I.ne (k := 0) (j := 0) (k' := 1) (j' := 0) (by decide) (by decide) (Or.inl (by decide)))
        have p_ad_1_0 := p_ad_1_0.me ef_19375
        have o_19376 : (IA 0 pl oh 9999 w) g_19374 := (by rw [eg_19374]; exact (IA_free o_19369 (by unfold frC; decide)))
        have I := I.up (k := 1) (j := 0) (by decide) ef_19375 (okE_a (g := g_19374) o_19376)
        have q_19377 : g_19374 (0 : Int32).toNatClampNeg = v_19361 := by rw [eg_19374]; exact (pk_un (by decide)).trans q_19370
        have q_19378 : g_19374 (10 : Int32).toNatClampNeg = x_19366 := by rw [eg_19374]; exact (pk_un (by decide)).trans q_19371
        have q_19379 : g_19374 (12 : Int32).toNatClampNeg = v_19372 := by rw [eg_19374]; exact (pk_un (by decide)).trans ev_19372.symm
        have q_19380 : g_19374 (11 : Int32).toNatClampNeg = x_19373 := by rw [eg_19374]; exact pk_us
        refine lv_aload_n hx hb dX12_pass_130 rfl (lv_at hl 0 rfl) ?_
        refine cVv (As := []) (rest := []) S Y (x_X12_anew (l := l) I (BB_s (BB_dh hB (by decide)) (by decide))) cw_X12_anew km12_320 p_ad_0_0 ok_X12.1 rfl rfl ⟨Nat.le_of_ble_eq_true rfl, Nat.le_of_ble_eq_true rfl⟩ hl.1 rfl (Nat.le_of_ble_eq_true rfl) ⟨Nat.le_of_ble_eq_true rfl, Nat.le_of_ble_eq_true rfl⟩ dX12_pass_131 (fun L_19381 f_19382 H locs I Y => ?_)
        exact prV (post := fun L1 f1 => SH (spM (IA 0 pl oh 9999 w) pi (EQ g0) pa) nnM G ad L1 f1) S Y (by decide) (by decide) hA1 I dX12_pass_134
      · have B_19363 : bn 1 6 v_19361 := bn_w (bn_gtl c_19362 bv_19361 b_y2_1) (by decide)
        have B_19364 : bn 0 5 y2_1 := bn_w (bn_gtr c_19362 bv_19361 b_y2_1) (by decide)
        refine lv_aload_n hx hb dX12_pass_12 rfl (lv_at hl 0 rfl) ?_
        refine pg_get S Y ok_X12 26 (by decide) kf12_50 (v := .ref (ad 10 0)) p_ad_0_0 rfl dX12_pass_13 ?_
        refine lv_iload_n hx hb dX12_pass_16 rfl (lv_at hl 1 rfl) ?_
        refine lv_aload_n hx hb dX12_pass_17 rfl (lv_at hl 0 rfl) ?_
        refine lv_iload_n hx hb dX12_pass_18 rfl (lv_at hl 1 rfl) ?_
        refine cVi (As := [.int y2_1]) (rest := [.int y2_1, .ref (ad 10 0)]) S Y (x_X12_acheOf (l := l) I (BB_s hB b_y2_1.2) hX) cw_X12_acheOf km12_317 p_ad_0_0 ok_X12.1 rfl rfl ⟨Nat.le_of_ble_eq_true rfl, Nat.le_of_ble_eq_true rfl⟩ hl.1 rfl (Nat.le_of_ble_eq_true rfl) ⟨Nat.le_of_ble_eq_true rfl, Nat.le_of_ble_eq_true rfl⟩ dX12_pass_19 (fun r_19385 L_19383 f_19384 H locs I Y => ?_)
        obtain ⟨g_19386, p_ad_10_0, o_19387⟩ := I.opi (k := 10) (j := 0) (by decide) rfl
        have p_ad_10_0 : pt L_19383 f_19384 (ad 10 0) (.inl (G.2 0, 6, .inl g_19386)) := p_ad_10_0
        refine pg_iast S Y p_ad_10_0 (vp_bn B_19364 (by decide)) dX12_pass_22 (fun f_19389 H locs ef_19389 Y => ?_)
        obtain ⟨g_19388, eg_19388⟩ : ∃ z, z = upd (g_19386) (y2_1 : Int32).toNatClampNeg r_19385 := ⟨_, rfl⟩
        rw [← eg_19388] at ef_19389
        have p_ad_10_0 := p_ad_10_0.me ef_19389
        have o_19390 : True := trivial
        have I := I.up (k := 10) (j := 0) (by decide) ef_19389 (okE_a (g := g_19388) o_19390)
        refine lv_aload_n hx hb dX12_pass_23 rfl (lv_at hl 0 rfl) ?_
        obtain ⟨v_19391, v_19393, v_19395, v_19397, v_19399, v_19401, v_19403, v_19405, v_19406, v_19408, v_19410, v_19412, v_19414, v_19416, v_19418, v_19420, v_19422, v_19424, p_ad_0_0, b_19392, b_19394, b_19396, b_19398, b_19400, b_19402, b_19404, b_19407, b_19409, b_19411, b_19413, b_19415, b_19417, b_19419, b_19421, b_19423, b_19425⟩ := opnM_0 (j := 0) I (by decide)
        have p_ad_0_0 : pt L_19383 f_19389 (ad 0 0) (.inr (12, [.ref (ad 1 0), .ref (ad 2 0), .ref (ad 3 0), .ref (ad 4 0), .int v_19391, .int v_19393, .int v_19395, .int v_19397, .int v_19399, .int v_19401, .int v_19403, .long v_19405, .int v_19406, .int v_19408, .int v_19410, .ref (ad 5 0), .ref (ad 6 0), .int v_19412, .int v_19414, .int v_19416, .int v_19418, .int v_19420, .ref (ad 7 0), .ref (ad 8 0), .ref (ad 9 0), .int v_19422, .ref (ad 10 0), .ref (ad 11 0), .ref (ad 12 0), .ref (ad 13 0), .int v_19424, .ref (ad 14 0)])) := p_ad_0_0
        refine pg_get S Y ok_X12 26 (by decide) kf12_50 (v := .ref (ad 10 0)) p_ad_0_0 rfl dX12_pass_24 ?_
        refine lv_iload_n hx hb dX12_pass_27 rfl (lv_at hl 1 rfl) ?_
        obtain ⟨v_19426, ev_19426⟩ : ∃ z, z = g_19388 (y2_1 : Int32).toNatClampNeg := ⟨_, rfl⟩
        refine pg_iald S Y (v := v_19426) p_ad_10_0 (vp_bn B_19364 (by decide)) ev_19426.symm dX12_pass_28 ?_
        refine lv_if_eq (tgt := 96) hx hb dX12_pass_29 (by decide) (fun c_19427 => ?_) (fun c_19427 => ?_)
        · have B_19428 : bn 0 0 v_19426 := bn_w (bn_eq c_19427 (show bn 0 0 (0 : Int32) from bn_k (by decide))) (by decide)
          obtain ⟨x_19429, ex_19429⟩ : ∃ z : Int32, z = y2_1 + 1 := ⟨_, rfl⟩
          refine lv_iinc (v := x_19429) (lv' := [(1, .int x_19429), (0, .ref (ad 0 0))]) hx hb dX12_pass_96 hl (k := 1) rfl (by rw [ex_19429]; rfl) (by decide) rfl (fun ls hl => ?_)
          refine lv_goto (tgt := 2) hx hb dX12_pass_99 (by decide) ?_
          have I : SH (spM (IA x_19429.toInt pl oh 9998 w) pi (EQ g0) pa) nnM G ad L_19383 f_19389 := SHpA I (fun g h => IA_sm h (by have z9 := (la_add ex_19429 (rfl : y2_1.toInt = y2_1.toInt) (show (1 : Int32).toInt = 1 from rfl) B_19364 (show bn 1 1 (1 : Int32) from bn_k (by decide)) (by decide)); omega))
          exact ih2 _ (by rw [← hm2]; exact ms_up (m := 1) ex_19429 (show bn 1 1 (1 : Int32) from bn_k (by decide)) B_19364 (bn_w (bn_eq ex_19429 (bn_add B_19364 (show bn 1 1 (1 : Int32) from bn_k (by decide)) (by decide))) (by decide) : bn 0 6 x_19429) (by decide)) x_19429 _ _  _ _ _ I (bn_w (bn_eq ex_19429 (bn_add B_19364 (show bn 1 1 (1 : Int32) from bn_k (by decide)) (by decide))) (by decide)) rfl Y (lv_sub hl [1, 0] rfl)
        · refine lv_aload_n hx hb dX12_pass_32 rfl (lv_at hl 0 rfl) ?_
          refine pg_get S Y ok_X12 25 (by decide) kf12_46 (v := .int v_19422) p_ad_0_0 rfl dX12_pass_33 ?_
          refine lv_if_ne (tgt := 42) hx hb dX12_pass_36 (by decide) (fun c_19430 => ?_) (fun c_19430 => ?_)
          · have B_19431 : bn 1 1 v_19422 := bn_w (bn_nel c_19430 b_19423 (show bn 0 0 (0 : Int32) from bn_k (by decide))) (by decide)
            refine lv_aload_n hx hb dX12_pass_42 rfl (lv_at hl 0 rfl) ?_
            refine pg_get S Y ok_X12 0 (by decide) kf12_7 (v := .ref (ad 1 0)) p_ad_0_0 rfl dX12_pass_43 ?_
            refine lv_sipush (v := 3328) hx hb dX12_pass_46 (by decide) ?_
            refine lv_aload_n hx hb dX12_pass_49 rfl (lv_at hl 0 rfl) ?_
            refine pg_get S Y ok_X12 0 (by decide) kf12_7 (v := .ref (ad 1 0)) p_ad_0_0 rfl dX12_pass_50 ?_
            refine lv_bipush (v := 14) hx hb dX12_pass_53 (by decide) ?_
            obtain ⟨g_19433, p_ad_1_0, o_19434⟩ := I.opi (k := 1) (j := 0) (by decide) rfl
            have p_ad_1_0 : pt L_19383 f_19389 (ad 1 0) (.inl (G.2 0, 10568, .inl g_19433)) := p_ad_1_0
            obtain ⟨v_19435, ev_19435⟩ : ∃ z, z = g_19433 (14 : Int32).toNatClampNeg := ⟨_, rfl⟩
            refine pg_iald S Y (v := v_19435) p_ad_1_0 (by unfold vp_in; decide) ev_19435.symm dX12_pass_55 ?_
            have bv_19435 : bn 0 60000 v_19435 := bn_eq ev_19435 (IA_14 o_19434 (by have h9 := (BB_s hB b_y2_1.2); unfold BBp at h9; omega) (by have h9 := (BB_s hB b_y2_1.2); unfold BBp at h9; omega))
            refine lv_sipush (v := 7240) hx hb dX12_pass_56 (by decide) ?_
            refine lv_irem hx hb dX12_pass_59 (by decide) ?_
            refine lv_topi (fun x_19436 ex_19436 => ?_)
            refine lv_iadd hx hb dX12_pass_60 ?_
            refine lv_topi (fun x_19437 ex_19437 => ?_)
            refine lv_aload_n hx hb dX12_pass_61 rfl (lv_at hl 0 rfl) ?_
            refine pg_get S Y ok_X12 0 (by decide) kf12_7 (v := .ref (ad 1 0)) p_ad_0_0 rfl dX12_pass_62 ?_
            refine lv_bipush (v := 10) hx hb dX12_pass_65 (by decide) ?_
            obtain ⟨v_19438, ev_19438⟩ : ∃ z, z = g_19433 (10 : Int32).toNatClampNeg := ⟨_, rfl⟩
            refine pg_iald S Y (v := v_19438) p_ad_1_0 (by unfold vp_in; decide) ev_19438.symm dX12_pass_67 ?_
            have bv_19438 : bn 0 9998 v_19438 := bn_eq ev_19438 (IA_10 o_19434)
            refine lv_bipush (v := 8) hx hb dX12_pass_68 (by decide) ?_
            refine lv_imul hx hb dX12_pass_70 ?_
            refine lv_topi (fun x_19439 ex_19439 => ?_)
            refine lv_iload_n hx hb dX12_pass_71 rfl (lv_at hl 1 rfl) ?_
            refine lv_iadd hx hb dX12_pass_72 ?_
            refine lv_topi (fun x_19440 ex_19440 => ?_)
            refine lv_sipush (v := 2000) hx hb dX12_pass_73 (by decide) ?_
            refine lv_imul hx hb dX12_pass_76 ?_
            refine lv_topi (fun x_19441 ex_19441 => ?_)
            refine lv_aload_n hx hb dX12_pass_77 rfl (lv_at hl 0 rfl) ?_
            refine pg_get S Y ok_X12 26 (by decide) kf12_50 (v := .ref (ad 10 0)) p_ad_0_0 rfl dX12_pass_78 ?_
            refine lv_iload_n hx hb dX12_pass_81 rfl (lv_at hl 1 rfl) ?_
            obtain ⟨v_19442, ev_19442⟩ : ∃ z, z = g_19388 (y2_1 : Int32).toNatClampNeg := ⟨_, rfl⟩
            refine pg_iald S Y (v := v_19442) p_ad_10_0 (vp_bn B_19364 (by decide)) ev_19442.symm dX12_pass_82 ?_
            refine lv_iadd hx hb dX12_pass_83 ?_
            refine lv_topi (fun x_19443 ex_19443 => ?_)
            refine pg_iast S Y p_ad_1_0 (vp_bn (bn_eq ex_19437 (bn_add (show bn 3328 3328 (3328 : Int32) from bn_k (by decide)) (bn_eq ex_19436 (bn_rem bv_19435 (show bn 7240 7240 (7240 : Int32) from bn_k (by decide)) (by decide))) (by decide))) (by decide)) dX12_pass_84 (fun f_19445 H locs ef_19445 Y => ?_)
            obtain ⟨g_19444, eg_19444⟩ : ∃ z, z = upd (g_19433) (x_19437 : Int32).toNatClampNeg x_19443 := ⟨_, rfl⟩
            rw [← eg_19444] at ef_19445
            have p_ad_10_0 := p_ad_10_0.up ef_19445 (I.ne (k := 10) (j := 0) (k' := 1) (j' := 0) (by decide) (by decide) (Or.inl (by decide)))
            have p_ad_0_0 := p_ad_0_0.up ef_19445 (I.ne (k := 0) (j := 0) (k' := 1) (j' := 0) (by decide) (by decide) (Or.inl (by decide)))
            have p_ad_1_0 := p_ad_1_0.me ef_19445
            have o_19446 : (IA y2_1.toInt pl oh 9998 w) g_19444 := (by rw [eg_19444]; exact (IA_free o_19434 (fr_of (bn_eq ex_19437 (bn_add (show bn 3328 3328 (3328 : Int32) from bn_k (by decide)) (bn_eq ex_19436 (bn_rem bv_19435 (show bn 7240 7240 (7240 : Int32) from bn_k (by decide)) (by decide))) (by decide))) (by decide))))
            have I := I.up (k := 1) (j := 0) (by decide) ef_19445 (okE_a (g := g_19444) o_19446)
            have q_19447 : g_19444 (14 : Int32).toNatClampNeg = v_19435 := by rw [eg_19444]; exact (pk_un (nq_of (bn_eq ex_19437 (bn_add (show bn 3328 3328 (3328 : Int32) from bn_k (by decide)) (bn_eq ex_19436 (bn_rem bv_19435 (show bn 7240 7240 (7240 : Int32) from bn_k (by decide)) (by decide))) (by decide))) (by decide))).trans ev_19435.symm
            have q_19448 : g_19444 (10 : Int32).toNatClampNeg = v_19438 := by rw [eg_19444]; exact (pk_un (nq_of (bn_eq ex_19437 (bn_add (show bn 3328 3328 (3328 : Int32) from bn_k (by decide)) (bn_eq ex_19436 (bn_rem bv_19435 (show bn 7240 7240 (7240 : Int32) from bn_k (by decide)) (by decide))) (by decide))) (by decide))).trans ev_19438.symm
            refine lv_aload_n hx hb dX12_pass_85 rfl (lv_at hl 0 rfl) ?_
            refine pg_get S Y ok_X12 0 (by decide) kf12_7 (v := .ref (ad 1 0)) p_ad_0_0 rfl dX12_pass_86 ?_
            refine lv_bipush (v := 14) hx hb dX12_pass_89 (by decide) ?_
            refine lv_dup2_11 hx hb dX12_pass_91 rfl rfl ?_
            refine pg_iald S Y (v := v_19435) p_ad_1_0 (by unfold vp_in; decide) q_19447 dX12_pass_92 ?_
            refine lv_iconst (v := 1) hx hb dX12_pass_93 (by decide) ?_
            refine lv_iadd hx hb dX12_pass_94 ?_
            refine lv_topi (fun x_19449 ex_19449 => ?_)
            refine pg_iast S Y p_ad_1_0 (by unfold vp_in; decide) dX12_pass_95 (fun f_19451 H locs ef_19451 Y => ?_)
            obtain ⟨g_19450, eg_19450⟩ : ∃ z, z = upd (g_19444) (14 : Int32).toNatClampNeg x_19449 := ⟨_, rfl⟩
            rw [← eg_19450] at ef_19451
            have p_ad_10_0 := p_ad_10_0.up ef_19451 (I.ne (k := 10) (j := 0) (k' := 1) (j' := 0) (by decide) (by decide) (Or.inl (by decide)))
            have p_ad_0_0 := p_ad_0_0.up ef_19451 (I.ne (k := 0) (j := 0) (k' := 1) (j' := 0) (by decide) (by decide) (Or.inl (by decide)))
            have p_ad_1_0 := p_ad_1_0.me ef_19451
            have o_19452 : (IA (y2_1.toInt + 1) pl oh 9998 w) g_19450 := (by rw [eg_19450]; refine IA_wr o_19446 ?_ ?_ <;> (have z1 := la_add ex_19449 rfl rfl bv_19435 (show bn 1 1 (1 : Int32) from bn_k (by decide)) (by decide); have z2 := (IA_ld o_19446).2.2.2.1; have z3 : g_19444 14 = v_19435 := q_19447; have z4 := (bv_19435).1; rw [show 10 + 4 = 14 from rfl, z3] at z2; rw [show (1 : Int32).toInt = 1 from rfl] at z1; omega))
            have I := I.upS (sp' := spM (IA (y2_1.toInt + 1) pl oh 9998 w) pi (EQ g0) pa) (k := 1) (j := 0) (by decide) ef_19451 (okE_a (g := g_19450) o_19452) pAC
            have q_19453 : g_19450 (10 : Int32).toNatClampNeg = v_19438 := by rw [eg_19450]; exact (pk_un (by decide)).trans q_19448
            have q_19454 : g_19450 (14 : Int32).toNatClampNeg = x_19449 := by rw [eg_19450]; exact pk_us
            obtain ⟨x_19455, ex_19455⟩ : ∃ z : Int32, z = y2_1 + 1 := ⟨_, rfl⟩
            refine lv_iinc (v := x_19455) (lv' := [(1, .int x_19455), (0, .ref (ad 0 0))]) hx hb dX12_pass_96 hl (k := 1) rfl (by rw [ex_19455]; rfl) (by decide) rfl (fun ls hl => ?_)
            refine lv_goto (tgt := 2) hx hb dX12_pass_99 (by decide) ?_
            have I : SH (spM (IA x_19455.toInt pl oh 9998 w) pi (EQ g0) pa) nnM G ad L_19383 f_19451 := SHpA I (fun g h => IA_sm h (by have z9 := (la_add ex_19455 (rfl : y2_1.toInt = y2_1.toInt) (show (1 : Int32).toInt = 1 from rfl) B_19364 (show bn 1 1 (1 : Int32) from bn_k (by decide)) (by decide)); omega))
            exact ih2 _ (by rw [← hm2]; exact ms_up (m := 1) ex_19455 (show bn 1 1 (1 : Int32) from bn_k (by decide)) B_19364 (bn_w (bn_eq ex_19455 (bn_add B_19364 (show bn 1 1 (1 : Int32) from bn_k (by decide)) (by decide))) (by decide) : bn 0 6 x_19455) (by decide)) x_19455 _ _  _ _ _ I (bn_w (bn_eq ex_19455 (bn_add B_19364 (show bn 1 1 (1 : Int32) from bn_k (by decide)) (by decide))) (by decide)) rfl Y (lv_sub hl [1, 0] rfl)
          · have B_19432 : bn 0 0 v_19422 := bn_w (bn_eq c_19430 (show bn 0 0 (0 : Int32) from bn_k (by decide))) (by decide)
            refine lv_goto (tgt := 96) hx hb dX12_pass_39 (by decide) ?_
            obtain ⟨x_19456, ex_19456⟩ : ∃ z : Int32, z = y2_1 + 1 := ⟨_, rfl⟩
            refine lv_iinc (v := x_19456) (lv' := [(1, .int x_19456), (0, .ref (ad 0 0))]) hx hb dX12_pass_96 hl (k := 1) rfl (by rw [ex_19456]; rfl) (by decide) rfl (fun ls hl => ?_)
            refine lv_goto (tgt := 2) hx hb dX12_pass_99 (by decide) ?_
            have I : SH (spM (IA x_19456.toInt pl oh 9998 w) pi (EQ g0) pa) nnM G ad L_19383 f_19389 := SHpA I (fun g h => IA_sm h (by have z9 := (la_add ex_19456 (rfl : y2_1.toInt = y2_1.toInt) (show (1 : Int32).toInt = 1 from rfl) B_19364 (show bn 1 1 (1 : Int32) from bn_k (by decide)) (by decide)); omega))
            exact ih2 _ (by rw [← hm2]; exact ms_up (m := 1) ex_19456 (show bn 1 1 (1 : Int32) from bn_k (by decide)) B_19364 (bn_w (bn_eq ex_19456 (bn_add B_19364 (show bn 1 1 (1 : Int32) from bn_k (by decide)) (by decide))) (by decide) : bn 0 6 x_19456) (by decide)) x_19456 _ _  _ _ _ I (bn_w (bn_eq ex_19456 (bn_add B_19364 (show bn 1 1 (1 : Int32) from bn_k (by decide)) (by decide))) (by decide)) rfl Y (lv_sub hl [1, 0] rfl)
  refine lv_iconst (v := 0) hx hb dX12_pass_0 (by decide) ?_
  refine lv_istore_n (lv' := [(1, .int 0), (0, .ref (ad 0 0))]) hx hb dX12_pass_1 rfl hl (by decide) rfl (fun ls hl => ?_)
  have I : SH (spM (IA (0 : Int32).toInt pl oh 9998 w) pi (EQ g0) pa) nnM G ad L f := I
  exact J_2 _ 0 _ _  _ _ _ I (bn_w (show bn 0 0 (0 : Int32) from bn_k (by decide)) (by decide)) rfl Y (lv_sub hl [1, 0] rfl)
