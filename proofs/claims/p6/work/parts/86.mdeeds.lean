theorem dX12_canSwear_0 : decode cX12_canSwear 0 = .ok (.aload_n 0, 1) := by decide +kernel
theorem dX12_canSwear_1 : decode cX12_canSwear 1 = .ok (.iload_n 1, 1) := by decide +kernel
theorem dX12_canSwear_2 : decode cX12_canSwear 2 = .ok (.invokevirtual 323, 3) := by decide +kernel
theorem cw_X12_isOne : CWv yX12_isOne cX12_isOne 2 (some .boolean) 1 := ⟨⟨⟨List.mem_of_getElem? (i := 137) (by decide +kernel), by decide +kernel⟩, ⟨List.mem_of_getElem? (i := 1788) (by decide +kernel), by decide +kernel⟩, by decide +kernel⟩, ⟨List.mem_of_getElem? (i := 1787) (by decide +kernel), by decide +kernel⟩, ⟨List.mem_of_getElem? (i := 79) (by decide +kernel), by decide +kernel⟩⟩
theorem km12_323 : inW (Cond.methodLink RX12 323 yX12_isOne) := ⟨List.mem_of_getElem? (i := 1785) (by decide +kernel), by decide +kernel⟩
theorem dX12_canSwear_5 : decode cX12_canSwear 5 = .ok (.ifCond .eq 32, 3) := by decide +kernel
theorem dX12_canSwear_37 : decode cX12_canSwear 37 = .ok (.iconst 0, 1) := by decide +kernel
theorem dX12_canSwear_38 : decode cX12_canSwear 38 = .ok (.ireturn, 1) := by decide +kernel
theorem dX12_canSwear_8 : decode cX12_canSwear 8 = .ok (.aload_n 0, 1) := by decide +kernel
theorem dX12_canSwear_9 : decode cX12_canSwear 9 = .ok (.iload_n 2, 1) := by decide +kernel
theorem dX12_canSwear_10 : decode cX12_canSwear 10 = .ok (.invokevirtual 323, 3) := by decide +kernel
theorem dX12_canSwear_13 : decode cX12_canSwear 13 = .ok (.ifCond .eq 24, 3) := by decide +kernel
theorem dX12_canSwear_16 : decode cX12_canSwear 16 = .ok (.iload_n 1, 1) := by decide +kernel
theorem dX12_canSwear_17 : decode cX12_canSwear 17 = .ok (.iload_n 2, 1) := by decide +kernel
theorem dX12_canSwear_18 : decode cX12_canSwear 18 = .ok (.if_icmp .eq 19, 3) := by decide +kernel
theorem dX12_canSwear_21 : decode cX12_canSwear 21 = .ok (.aload_n 0, 1) := by decide +kernel
theorem dX12_canSwear_22 : decode cX12_canSwear 22 = .ok (.getfield 7, 3) := by decide +kernel
theorem dX12_canSwear_25 : decode cX12_canSwear 25 = .ok (.bipush 13, 2) := by decide +kernel
theorem dX12_canSwear_27 : decode cX12_canSwear 27 = .ok (.iaload, 1) := by decide +kernel
theorem dX12_canSwear_28 : decode cX12_canSwear 28 = .ok (.bipush 14, 2) := by decide +kernel
theorem dX12_canSwear_30 : decode cX12_canSwear 30 = .ok (.if_icmp .ge 7, 3) := by decide +kernel
theorem dX12_canSwear_33 : decode cX12_canSwear 33 = .ok (.iconst 1, 1) := by decide +kernel
theorem dX12_canSwear_34 : decode cX12_canSwear 34 = .ok (.goto 4, 3) := by decide +kernel
theorem dX12_swearNow_0 : decode cX12_swearNow 0 = .ok (.aload_n 0, 1) := by decide +kernel
theorem dX12_swearNow_1 : decode cX12_swearNow 1 = .ok (.getfield 7, 3) := by decide +kernel
theorem dX12_swearNow_4 : decode cX12_swearNow 4 = .ok (.bipush 13, 2) := by decide +kernel
theorem dX12_swearNow_6 : decode cX12_swearNow 6 = .ok (.iaload, 1) := by decide +kernel
theorem dX12_swearNow_7 : decode cX12_swearNow 7 = .ok (.istore 5, 2) := by decide +kernel
theorem dX12_swearNow_9 : decode cX12_swearNow 9 = .ok (.aload_n 0, 1) := by decide +kernel
theorem dX12_swearNow_10 : decode cX12_swearNow 10 = .ok (.iload 5, 2) := by decide +kernel
theorem dX12_swearNow_12 : decode cX12_swearNow 12 = .ok (.iconst 0, 1) := by decide +kernel
theorem dX12_swearNow_13 : decode cX12_swearNow 13 = .ok (.iload_n 1, 1) := by decide +kernel
theorem dX12_swearNow_14 : decode cX12_swearNow 14 = .ok (.invokevirtual 326, 3) := by decide +kernel
theorem cw_X12_put : CWv yX12_put cX12_put 4 none 3 := ⟨⟨⟨List.mem_of_getElem? (i := 137) (by decide +kernel), by decide +kernel⟩, ⟨List.mem_of_getElem? (i := 1800) (by decide +kernel), by decide +kernel⟩, by decide +kernel⟩, ⟨List.mem_of_getElem? (i := 1799) (by decide +kernel), by decide +kernel⟩, ⟨List.mem_of_getElem? (i := 82) (by decide +kernel), by decide +kernel⟩⟩
theorem km12_326 : inW (Cond.methodLink RX12 326 yX12_put) := ⟨List.mem_of_getElem? (i := 1797) (by decide +kernel), by decide +kernel⟩
theorem dX12_swearNow_17 : decode cX12_swearNow 17 = .ok (.aload_n 0, 1) := by decide +kernel
theorem dX12_swearNow_18 : decode cX12_swearNow 18 = .ok (.iload 5, 2) := by decide +kernel
theorem dX12_swearNow_20 : decode cX12_swearNow 20 = .ok (.iconst 1, 1) := by decide +kernel
theorem dX12_swearNow_21 : decode cX12_swearNow 21 = .ok (.iload_n 2, 1) := by decide +kernel
theorem dX12_swearNow_22 : decode cX12_swearNow 22 = .ok (.invokevirtual 326, 3) := by decide +kernel
theorem dX12_swearNow_25 : decode cX12_swearNow 25 = .ok (.aload_n 0, 1) := by decide +kernel
theorem dX12_swearNow_26 : decode cX12_swearNow 26 = .ok (.iload 5, 2) := by decide +kernel
theorem dX12_swearNow_28 : decode cX12_swearNow 28 = .ok (.iconst 2, 1) := by decide +kernel
theorem dX12_swearNow_29 : decode cX12_swearNow 29 = .ok (.iload_n 3, 1) := by decide +kernel
theorem dX12_swearNow_30 : decode cX12_swearNow 30 = .ok (.invokevirtual 326, 3) := by decide +kernel
theorem dX12_swearNow_33 : decode cX12_swearNow 33 = .ok (.aload_n 0, 1) := by decide +kernel
theorem dX12_swearNow_34 : decode cX12_swearNow 34 = .ok (.iload 5, 2) := by decide +kernel
theorem dX12_swearNow_36 : decode cX12_swearNow 36 = .ok (.iconst 3, 1) := by decide +kernel
theorem dX12_swearNow_37 : decode cX12_swearNow 37 = .ok (.iload 4, 2) := by decide +kernel
theorem dX12_swearNow_39 : decode cX12_swearNow 39 = .ok (.invokevirtual 326, 3) := by decide +kernel
theorem dX12_swearNow_42 : decode cX12_swearNow 42 = .ok (.aload_n 0, 1) := by decide +kernel
theorem dX12_swearNow_43 : decode cX12_swearNow 43 = .ok (.iload 5, 2) := by decide +kernel
theorem dX12_swearNow_45 : decode cX12_swearNow 45 = .ok (.iconst 4, 1) := by decide +kernel
theorem dX12_swearNow_46 : decode cX12_swearNow 46 = .ok (.iconst 0, 1) := by decide +kernel
theorem dX12_swearNow_47 : decode cX12_swearNow 47 = .ok (.invokevirtual 326, 3) := by decide +kernel
theorem dX12_swearNow_50 : decode cX12_swearNow 50 = .ok (.aload_n 0, 1) := by decide +kernel
theorem dX12_swearNow_51 : decode cX12_swearNow 51 = .ok (.iload 5, 2) := by decide +kernel
theorem dX12_swearNow_53 : decode cX12_swearNow 53 = .ok (.iconst 5, 1) := by decide +kernel
theorem dX12_swearNow_54 : decode cX12_swearNow 54 = .ok (.iconst 0, 1) := by decide +kernel
theorem dX12_swearNow_55 : decode cX12_swearNow 55 = .ok (.invokevirtual 326, 3) := by decide +kernel
theorem dX12_swearNow_58 : decode cX12_swearNow 58 = .ok (.aload_n 0, 1) := by decide +kernel
theorem dX12_swearNow_59 : decode cX12_swearNow 59 = .ok (.iload 5, 2) := by decide +kernel
theorem dX12_swearNow_61 : decode cX12_swearNow 61 = .ok (.bipush 6, 2) := by decide +kernel
theorem dX12_swearNow_63 : decode cX12_swearNow 63 = .ok (.aload_n 0, 1) := by decide +kernel
theorem dX12_swearNow_64 : decode cX12_swearNow 64 = .ok (.getfield 7, 3) := by decide +kernel
theorem dX12_swearNow_67 : decode cX12_swearNow 67 = .ok (.bipush 10, 2) := by decide +kernel
theorem dX12_swearNow_69 : decode cX12_swearNow 69 = .ok (.iaload, 1) := by decide +kernel
theorem dX12_swearNow_70 : decode cX12_swearNow 70 = .ok (.invokevirtual 326, 3) := by decide +kernel
theorem dX12_swearNow_73 : decode cX12_swearNow 73 = .ok (.aload_n 0, 1) := by decide +kernel
theorem dX12_swearNow_74 : decode cX12_swearNow 74 = .ok (.getfield 7, 3) := by decide +kernel
theorem dX12_swearNow_77 : decode cX12_swearNow 77 = .ok (.bipush 13, 2) := by decide +kernel
theorem dX12_swearNow_79 : decode cX12_swearNow 79 = .ok (.dup2, 1) := by decide +kernel
theorem dX12_swearNow_80 : decode cX12_swearNow 80 = .ok (.iaload, 1) := by decide +kernel
theorem dX12_swearNow_81 : decode cX12_swearNow 81 = .ok (.iconst 1, 1) := by decide +kernel
theorem dX12_swearNow_82 : decode cX12_swearNow 82 = .ok (.iadd, 1) := by decide +kernel
theorem dX12_swearNow_83 : decode cX12_swearNow 83 = .ok (.iastore, 1) := by decide +kernel
theorem dX12_swearNow_84 : decode cX12_swearNow 84 = .ok (.iload 5, 2) := by decide +kernel
theorem dX12_swearNow_86 : decode cX12_swearNow 86 = .ok (.ireturn, 1) := by decide +kernel
theorem dX12_one_0 : decode cX12_one 0 = .ok (.iload_n 1, 1) := by decide +kernel
theorem dX12_one_1 : decode cX12_one 1 = .ok (.iconst 0, 1) := by decide +kernel
theorem dX12_one_2 : decode cX12_one 2 = .ok (.bipush 9, 2) := by decide +kernel
theorem dX12_one_4 : decode cX12_one 4 = .ok (.invokestatic 69, 3) := by decide +kernel
theorem dX12_one_7 : decode cX12_one 7 = .ok (.ifCond .eq 24, 3) := by decide +kernel
theorem dX12_one_31 : decode cX12_one 31 = .ok (.iconst (-1), 1) := by decide +kernel
theorem dX12_one_32 : decode cX12_one 32 = .ok (.ireturn, 1) := by decide +kernel
theorem dX12_one_10 : decode cX12_one 10 = .ok (.iload_n 2, 1) := by decide +kernel
theorem dX12_one_11 : decode cX12_one 11 = .ok (.iconst 0, 1) := by decide +kernel
theorem dX12_one_12 : decode cX12_one 12 = .ok (.bipush 99, 2) := by decide +kernel
theorem dX12_one_14 : decode cX12_one 14 = .ok (.invokestatic 69, 3) := by decide +kernel
theorem dX12_one_17 : decode cX12_one 17 = .ok (.ifCond .eq 14, 3) := by decide +kernel
theorem dX12_one_20 : decode cX12_one 20 = .ok (.aload_n 0, 1) := by decide +kernel
theorem dX12_one_21 : decode cX12_one 21 = .ok (.getfield 7, 3) := by decide +kernel
theorem dX12_one_24 : decode cX12_one 24 = .ok (.iconst 0, 1) := by decide +kernel
theorem dX12_one_25 : decode cX12_one 25 = .ok (.iaload, 1) := by decide +kernel
theorem dX12_one_26 : decode cX12_one 26 = .ok (.bipush 6, 2) := by decide +kernel
theorem dX12_one_28 : decode cX12_one 28 = .ok (.if_icmp .ne 5, 3) := by decide +kernel
theorem dX12_one_33 : decode cX12_one 33 = .ok (.aload_n 0, 1) := by decide +kernel
theorem dX12_one_34 : decode cX12_one 34 = .ok (.getfield 7, 3) := by decide +kernel
theorem dX12_one_37 : decode cX12_one 37 = .ok (.bipush 114, 2) := by decide +kernel
theorem dX12_one_39 : decode cX12_one 39 = .ok (.iconst 2, 1) := by decide +kernel
theorem dX12_one_40 : decode cX12_one 40 = .ok (.aload_n 0, 1) := by decide +kernel
theorem dX12_one_41 : decode cX12_one 41 = .ok (.getfield 7, 3) := by decide +kernel
theorem dX12_one_44 : decode cX12_one 44 = .ok (.iconst 0, 1) := by decide +kernel
theorem dX12_one_45 : decode cX12_one 45 = .ok (.iaload, 1) := by decide +kernel
theorem dX12_one_46 : decode cX12_one 46 = .ok (.imul, 1) := by decide +kernel
theorem dX12_one_47 : decode cX12_one 47 = .ok (.iadd, 1) := by decide +kernel
theorem dX12_one_48 : decode cX12_one 48 = .ok (.iload_n 1, 1) := by decide +kernel
theorem dX12_one_49 : decode cX12_one 49 = .ok (.iastore, 1) := by decide +kernel
theorem dX12_one_50 : decode cX12_one 50 = .ok (.aload_n 0, 1) := by decide +kernel
theorem dX12_one_51 : decode cX12_one 51 = .ok (.getfield 7, 3) := by decide +kernel
theorem dX12_one_54 : decode cX12_one 54 = .ok (.bipush 114, 2) := by decide +kernel
theorem dX12_one_56 : decode cX12_one 56 = .ok (.iconst 2, 1) := by decide +kernel
theorem dX12_one_57 : decode cX12_one 57 = .ok (.aload_n 0, 1) := by decide +kernel
theorem dX12_one_58 : decode cX12_one 58 = .ok (.getfield 7, 3) := by decide +kernel
theorem dX12_one_61 : decode cX12_one 61 = .ok (.iconst 0, 1) := by decide +kernel
theorem dX12_one_62 : decode cX12_one 62 = .ok (.iaload, 1) := by decide +kernel
theorem dX12_one_63 : decode cX12_one 63 = .ok (.imul, 1) := by decide +kernel
theorem dX12_one_64 : decode cX12_one 64 = .ok (.iadd, 1) := by decide +kernel
theorem dX12_one_65 : decode cX12_one 65 = .ok (.iconst 1, 1) := by decide +kernel
theorem dX12_one_66 : decode cX12_one 66 = .ok (.iadd, 1) := by decide +kernel
theorem dX12_one_67 : decode cX12_one 67 = .ok (.iload_n 2, 1) := by decide +kernel
theorem dX12_one_68 : decode cX12_one 68 = .ok (.iastore, 1) := by decide +kernel
theorem dX12_one_69 : decode cX12_one 69 = .ok (.aload_n 0, 1) := by decide +kernel
theorem dX12_one_70 : decode cX12_one 70 = .ok (.getfield 7, 3) := by decide +kernel
theorem dX12_one_73 : decode cX12_one 73 = .ok (.iconst 0, 1) := by decide +kernel
theorem dX12_one_74 : decode cX12_one 74 = .ok (.dup2, 1) := by decide +kernel
theorem dX12_one_75 : decode cX12_one 75 = .ok (.iaload, 1) := by decide +kernel
theorem dX12_one_76 : decode cX12_one 76 = .ok (.iconst 1, 1) := by decide +kernel
theorem dX12_one_77 : decode cX12_one 77 = .ok (.iadd, 1) := by decide +kernel
theorem dX12_one_78 : decode cX12_one 78 = .ok (.iastore, 1) := by decide +kernel
theorem dX12_one_79 : decode cX12_one 79 = .ok (.aload_n 0, 1) := by decide +kernel
theorem dX12_one_80 : decode cX12_one 80 = .ok (.getfield 7, 3) := by decide +kernel
theorem dX12_one_83 : decode cX12_one 83 = .ok (.iconst 0, 1) := by decide +kernel
theorem dX12_one_84 : decode cX12_one 84 = .ok (.iaload, 1) := by decide +kernel
theorem dX12_one_85 : decode cX12_one 85 = .ok (.iconst 1, 1) := by decide +kernel
theorem dX12_one_86 : decode cX12_one 86 = .ok (.isub, 1) := by decide +kernel
theorem dX12_one_87 : decode cX12_one 87 = .ok (.ireturn, 1) := by decide +kernel
theorem dX12_kneelNow_0 : decode cX12_kneelNow 0 = .ok (.iconst 0, 1) := by decide +kernel
theorem dX12_kneelNow_1 : decode cX12_kneelNow 1 = .ok (.istore_n 2, 1) := by decide +kernel
theorem dX12_kneelNow_2 : decode cX12_kneelNow 2 = .ok (.iload_n 2, 1) := by decide +kernel
theorem dX12_kneelNow_3 : decode cX12_kneelNow 3 = .ok (.aload_n 0, 1) := by decide +kernel
theorem dX12_kneelNow_4 : decode cX12_kneelNow 4 = .ok (.getfield 7, 3) := by decide +kernel
theorem dX12_kneelNow_7 : decode cX12_kneelNow 7 = .ok (.bipush 13, 2) := by decide +kernel
theorem dX12_kneelNow_9 : decode cX12_kneelNow 9 = .ok (.iaload, 1) := by decide +kernel
theorem dX12_kneelNow_10 : decode cX12_kneelNow 10 = .ok (.if_icmp .ge 60, 3) := by decide +kernel
theorem dX12_kneelNow_70 : decode cX12_kneelNow 70 = .ok (.return_, 1) := by decide +kernel
theorem dX12_kneelNow_13 : decode cX12_kneelNow 13 = .ok (.aload_n 0, 1) := by decide +kernel
theorem dX12_kneelNow_14 : decode cX12_kneelNow 14 = .ok (.iload_n 2, 1) := by decide +kernel
theorem dX12_kneelNow_15 : decode cX12_kneelNow 15 = .ok (.iconst 1, 1) := by decide +kernel
theorem dX12_kneelNow_16 : decode cX12_kneelNow 16 = .ok (.invokevirtual 73, 3) := by decide +kernel
theorem dX12_kneelNow_19 : decode cX12_kneelNow 19 = .ok (.iload_n 1, 1) := by decide +kernel
theorem dX12_kneelNow_20 : decode cX12_kneelNow 20 = .ok (.if_icmp .ne 44, 3) := by decide +kernel
theorem dX12_kneelNow_64 : decode cX12_kneelNow 64 = .ok (.iinc 2 1, 3) := by decide +kernel
theorem dX12_kneelNow_67 : decode cX12_kneelNow 67 = .ok (.goto (-65), 3) := by decide +kernel
theorem dX12_kneelNow_23 : decode cX12_kneelNow 23 = .ok (.aload_n 0, 1) := by decide +kernel
theorem dX12_kneelNow_24 : decode cX12_kneelNow 24 = .ok (.iload_n 2, 1) := by decide +kernel
theorem dX12_kneelNow_25 : decode cX12_kneelNow 25 = .ok (.iconst 4, 1) := by decide +kernel
theorem dX12_kneelNow_26 : decode cX12_kneelNow 26 = .ok (.invokevirtual 73, 3) := by decide +kernel
theorem dX12_kneelNow_29 : decode cX12_kneelNow 29 = .ok (.iconst 2, 1) := by decide +kernel
theorem dX12_kneelNow_30 : decode cX12_kneelNow 30 = .ok (.if_icmp .eq 34, 3) := by decide +kernel
theorem dX12_kneelNow_33 : decode cX12_kneelNow 33 = .ok (.aload_n 0, 1) := by decide +kernel
theorem dX12_kneelNow_34 : decode cX12_kneelNow 34 = .ok (.iload_n 2, 1) := by decide +kernel
theorem dX12_kneelNow_35 : decode cX12_kneelNow 35 = .ok (.iconst 5, 1) := by decide +kernel
theorem dX12_kneelNow_36 : decode cX12_kneelNow 36 = .ok (.aload_n 0, 1) := by decide +kernel
theorem dX12_kneelNow_37 : decode cX12_kneelNow 37 = .ok (.iload_n 2, 1) := by decide +kernel
theorem dX12_kneelNow_38 : decode cX12_kneelNow 38 = .ok (.iconst 5, 1) := by decide +kernel
theorem dX12_kneelNow_39 : decode cX12_kneelNow 39 = .ok (.invokevirtual 73, 3) := by decide +kernel
theorem dX12_kneelNow_42 : decode cX12_kneelNow 42 = .ok (.aload_n 0, 1) := by decide +kernel
theorem dX12_kneelNow_43 : decode cX12_kneelNow 43 = .ok (.aload_n 0, 1) := by decide +kernel
theorem dX12_kneelNow_44 : decode cX12_kneelNow 44 = .ok (.getfield 7, 3) := by decide +kernel
theorem dX12_kneelNow_47 : decode cX12_kneelNow 47 = .ok (.iconst 2, 1) := by decide +kernel
theorem dX12_kneelNow_48 : decode cX12_kneelNow 48 = .ok (.iaload, 1) := by decide +kernel
theorem dX12_kneelNow_49 : decode cX12_kneelNow 49 = .ok (.iload_n 2, 1) := by decide +kernel
theorem dX12_kneelNow_50 : decode cX12_kneelNow 50 = .ok (.invokevirtual 342, 3) := by decide +kernel
theorem cw_X12_wearsOf : CWv yX12_wearsOf cX12_wearsOf 3 (some .int) 2 := ⟨⟨⟨List.mem_of_getElem? (i := 137) (by decide +kernel), by decide +kernel⟩, ⟨List.mem_of_getElem? (i := 1828) (by decide +kernel), by decide +kernel⟩, by decide +kernel⟩, ⟨List.mem_of_getElem? (i := 1827) (by decide +kernel), by decide +kernel⟩, ⟨List.mem_of_getElem? (i := 86) (by decide +kernel), by decide +kernel⟩⟩
theorem km12_342 : inW (Cond.methodLink RX12 342 yX12_wearsOf) := ⟨List.mem_of_getElem? (i := 1825) (by decide +kernel), by decide +kernel⟩
theorem dX12_kneelNow_53 : decode cX12_kneelNow 53 = .ok (.iadd, 1) := by decide +kernel
theorem dX12_kneelNow_54 : decode cX12_kneelNow 54 = .ok (.i2l, 1) := by decide +kernel
theorem dX12_kneelNow_55 : decode cX12_kneelNow 55 = .ok (.iconst 0, 1) := by decide +kernel
theorem dX12_kneelNow_56 : decode cX12_kneelNow 56 = .ok (.bipush 99, 2) := by decide +kernel
theorem dX12_kneelNow_58 : decode cX12_kneelNow 58 = .ok (.invokestatic 292, 3) := by decide +kernel
theorem dX12_kneelNow_61 : decode cX12_kneelNow 61 = .ok (.invokevirtual 326, 3) := by decide +kernel
theorem dX12_skateNow_0 : decode cX12_skateNow 0 = .ok (.iconst 0, 1) := by decide +kernel
theorem dX12_skateNow_1 : decode cX12_skateNow 1 = .ok (.istore_n 3, 1) := by decide +kernel
theorem dX12_skateNow_2 : decode cX12_skateNow 2 = .ok (.iload_n 3, 1) := by decide +kernel
theorem dX12_skateNow_3 : decode cX12_skateNow 3 = .ok (.aload_n 0, 1) := by decide +kernel
theorem dX12_skateNow_4 : decode cX12_skateNow 4 = .ok (.getfield 7, 3) := by decide +kernel
theorem dX12_skateNow_7 : decode cX12_skateNow 7 = .ok (.bipush 13, 2) := by decide +kernel
theorem dX12_skateNow_9 : decode cX12_skateNow 9 = .ok (.iaload, 1) := by decide +kernel
theorem dX12_skateNow_10 : decode cX12_skateNow 10 = .ok (.if_icmp .ge 51, 3) := by decide +kernel
theorem dX12_skateNow_61 : decode cX12_skateNow 61 = .ok (.return_, 1) := by decide +kernel
theorem dX12_skateNow_13 : decode cX12_skateNow 13 = .ok (.aload_n 0, 1) := by decide +kernel
theorem dX12_skateNow_14 : decode cX12_skateNow 14 = .ok (.iload_n 3, 1) := by decide +kernel
theorem dX12_skateNow_15 : decode cX12_skateNow 15 = .ok (.iconst 1, 1) := by decide +kernel
theorem dX12_skateNow_16 : decode cX12_skateNow 16 = .ok (.invokevirtual 73, 3) := by decide +kernel
theorem dX12_skateNow_19 : decode cX12_skateNow 19 = .ok (.iload_n 1, 1) := by decide +kernel
theorem dX12_skateNow_20 : decode cX12_skateNow 20 = .ok (.if_icmp .ne 35, 3) := by decide +kernel
theorem dX12_skateNow_55 : decode cX12_skateNow 55 = .ok (.iinc 3 1, 3) := by decide +kernel
theorem dX12_skateNow_58 : decode cX12_skateNow 58 = .ok (.goto (-56), 3) := by decide +kernel
theorem dX12_skateNow_23 : decode cX12_skateNow 23 = .ok (.aload_n 0, 1) := by decide +kernel
theorem dX12_skateNow_24 : decode cX12_skateNow 24 = .ok (.iload_n 3, 1) := by decide +kernel
theorem dX12_skateNow_25 : decode cX12_skateNow 25 = .ok (.iconst 2, 1) := by decide +kernel
theorem dX12_skateNow_26 : decode cX12_skateNow 26 = .ok (.invokevirtual 73, 3) := by decide +kernel
theorem dX12_skateNow_29 : decode cX12_skateNow 29 = .ok (.iload_n 2, 1) := by decide +kernel
theorem dX12_skateNow_30 : decode cX12_skateNow 30 = .ok (.if_icmp .ne 25, 3) := by decide +kernel
theorem dX12_skateNow_33 : decode cX12_skateNow 33 = .ok (.aload_n 0, 1) := by decide +kernel
theorem dX12_skateNow_34 : decode cX12_skateNow 34 = .ok (.iload_n 3, 1) := by decide +kernel
theorem dX12_skateNow_35 : decode cX12_skateNow 35 = .ok (.iconst 5, 1) := by decide +kernel
theorem dX12_skateNow_36 : decode cX12_skateNow 36 = .ok (.aload_n 0, 1) := by decide +kernel
theorem dX12_skateNow_37 : decode cX12_skateNow 37 = .ok (.iload_n 3, 1) := by decide +kernel
theorem dX12_skateNow_38 : decode cX12_skateNow 38 = .ok (.iconst 5, 1) := by decide +kernel
theorem dX12_skateNow_39 : decode cX12_skateNow 39 = .ok (.invokevirtual 73, 3) := by decide +kernel
theorem dX12_skateNow_42 : decode cX12_skateNow 42 = .ok (.bipush 30, 2) := by decide +kernel
theorem dX12_skateNow_44 : decode cX12_skateNow 44 = .ok (.iadd, 1) := by decide +kernel
theorem dX12_skateNow_45 : decode cX12_skateNow 45 = .ok (.i2l, 1) := by decide +kernel
theorem dX12_skateNow_46 : decode cX12_skateNow 46 = .ok (.iconst 0, 1) := by decide +kernel
theorem dX12_skateNow_47 : decode cX12_skateNow 47 = .ok (.bipush 99, 2) := by decide +kernel
theorem dX12_skateNow_49 : decode cX12_skateNow 49 = .ok (.invokestatic 292, 3) := by decide +kernel
theorem dX12_skateNow_52 : decode cX12_skateNow 52 = .ok (.invokevirtual 326, 3) := by decide +kernel
theorem dX12_pass_0 : decode cX12_pass 0 = .ok (.iconst 0, 1) := by decide +kernel
theorem dX12_pass_1 : decode cX12_pass 1 = .ok (.istore_n 1, 1) := by decide +kernel
theorem dX12_pass_2 : decode cX12_pass 2 = .ok (.iload_n 1, 1) := by decide +kernel
theorem dX12_pass_3 : decode cX12_pass 3 = .ok (.aload_n 0, 1) := by decide +kernel
theorem dX12_pass_4 : decode cX12_pass 4 = .ok (.getfield 7, 3) := by decide +kernel
theorem dX12_pass_7 : decode cX12_pass 7 = .ok (.iconst 0, 1) := by decide +kernel
theorem dX12_pass_8 : decode cX12_pass 8 = .ok (.iaload, 1) := by decide +kernel
theorem dX12_pass_9 : decode cX12_pass 9 = .ok (.if_icmp .ge 93, 3) := by decide +kernel
theorem dX12_pass_102 : decode cX12_pass 102 = .ok (.aload_n 0, 1) := by decide +kernel
theorem dX12_pass_103 : decode cX12_pass 103 = .ok (.getfield 7, 3) := by decide +kernel
theorem dX12_pass_106 : decode cX12_pass 106 = .ok (.bipush 10, 2) := by decide +kernel
theorem dX12_pass_108 : decode cX12_pass 108 = .ok (.dup2, 1) := by decide +kernel
theorem dX12_pass_109 : decode cX12_pass 109 = .ok (.iaload, 1) := by decide +kernel
theorem dX12_pass_110 : decode cX12_pass 110 = .ok (.iconst 1, 1) := by decide +kernel
theorem dX12_pass_111 : decode cX12_pass 111 = .ok (.iadd, 1) := by decide +kernel
theorem dX12_pass_112 : decode cX12_pass 112 = .ok (.iastore, 1) := by decide +kernel
theorem dX12_pass_113 : decode cX12_pass 113 = .ok (.aload_n 0, 1) := by decide +kernel
theorem dX12_pass_114 : decode cX12_pass 114 = .ok (.getfield 7, 3) := by decide +kernel
theorem dX12_pass_117 : decode cX12_pass 117 = .ok (.bipush 11, 2) := by decide +kernel
theorem dX12_pass_119 : decode cX12_pass 119 = .ok (.aload_n 0, 1) := by decide +kernel
theorem dX12_pass_120 : decode cX12_pass 120 = .ok (.getfield 7, 3) := by decide +kernel
theorem dX12_pass_123 : decode cX12_pass 123 = .ok (.bipush 12, 2) := by decide +kernel
theorem dX12_pass_125 : decode cX12_pass 125 = .ok (.iaload, 1) := by decide +kernel
theorem dX12_pass_126 : decode cX12_pass 126 = .ok (.bipush 10, 2) := by decide +kernel
theorem dX12_pass_128 : decode cX12_pass 128 = .ok (.irem, 1) := by decide +kernel
theorem dX12_pass_129 : decode cX12_pass 129 = .ok (.iastore, 1) := by decide +kernel
theorem dX12_pass_130 : decode cX12_pass 130 = .ok (.aload_n 0, 1) := by decide +kernel
theorem dX12_pass_131 : decode cX12_pass 131 = .ok (.invokevirtual 320, 3) := by decide +kernel
theorem cw_X12_anew : CWv yX12_anew cX12_anew 1 none 0 := ⟨⟨⟨List.mem_of_getElem? (i := 137) (by decide +kernel), by decide +kernel⟩, ⟨List.mem_of_getElem? (i := 1928) (by decide +kernel), by decide +kernel⟩, by decide +kernel⟩, ⟨List.mem_of_getElem? (i := 1927) (by decide +kernel), by decide +kernel⟩, ⟨List.mem_of_getElem? (i := 103) (by decide +kernel), by decide +kernel⟩⟩
theorem km12_320 : inW (Cond.methodLink RX12 320 yX12_anew) := ⟨List.mem_of_getElem? (i := 1925) (by decide +kernel), by decide +kernel⟩
theorem dX12_pass_134 : decode cX12_pass 134 = .ok (.return_, 1) := by decide +kernel
theorem dX12_pass_12 : decode cX12_pass 12 = .ok (.aload_n 0, 1) := by decide +kernel
theorem dX12_pass_13 : decode cX12_pass 13 = .ok (.getfield 50, 3) := by decide +kernel
theorem kf12_50 : inW (Cond.fieldLink RX12 50 "KneeOathsModel" "achedNow" "[I") := ⟨List.mem_of_getElem? (i := 1524) (by decide +kernel), by decide +kernel⟩
theorem dX12_pass_16 : decode cX12_pass 16 = .ok (.iload_n 1, 1) := by decide +kernel
theorem dX12_pass_17 : decode cX12_pass 17 = .ok (.aload_n 0, 1) := by decide +kernel
theorem dX12_pass_18 : decode cX12_pass 18 = .ok (.iload_n 1, 1) := by decide +kernel
theorem dX12_pass_19 : decode cX12_pass 19 = .ok (.invokevirtual 317, 3) := by decide +kernel
theorem cw_X12_acheOf : CWv yX12_acheOf cX12_acheOf 4 (some .int) 1 := ⟨⟨⟨List.mem_of_getElem? (i := 137) (by decide +kernel), by decide +kernel⟩, ⟨List.mem_of_getElem? (i := 1920) (by decide +kernel), by decide +kernel⟩, by decide +kernel⟩, ⟨List.mem_of_getElem? (i := 1919) (by decide +kernel), by decide +kernel⟩, ⟨List.mem_of_getElem? (i := 101) (by decide +kernel), by decide +kernel⟩⟩
theorem km12_317 : inW (Cond.methodLink RX12 317 yX12_acheOf) := ⟨List.mem_of_getElem? (i := 1917) (by decide +kernel), by decide +kernel⟩
theorem dX12_pass_22 : decode cX12_pass 22 = .ok (.iastore, 1) := by decide +kernel
theorem dX12_pass_23 : decode cX12_pass 23 = .ok (.aload_n 0, 1) := by decide +kernel
theorem dX12_pass_24 : decode cX12_pass 24 = .ok (.getfield 50, 3) := by decide +kernel
theorem dX12_pass_27 : decode cX12_pass 27 = .ok (.iload_n 1, 1) := by decide +kernel
theorem dX12_pass_28 : decode cX12_pass 28 = .ok (.iaload, 1) := by decide +kernel
theorem dX12_pass_29 : decode cX12_pass 29 = .ok (.ifCond .eq 67, 3) := by decide +kernel
theorem dX12_pass_96 : decode cX12_pass 96 = .ok (.iinc 1 1, 3) := by decide +kernel
theorem dX12_pass_99 : decode cX12_pass 99 = .ok (.goto (-97), 3) := by decide +kernel
theorem dX12_pass_32 : decode cX12_pass 32 = .ok (.aload_n 0, 1) := by decide +kernel
theorem dX12_pass_33 : decode cX12_pass 33 = .ok (.getfield 46, 3) := by decide +kernel
theorem kf12_46 : inW (Cond.fieldLink RX12 46 "KneeOathsModel" "isWritten" "Z") := ⟨List.mem_of_getElem? (i := 1523) (by decide +kernel), by decide +kernel⟩
theorem dX12_pass_36 : decode cX12_pass 36 = .ok (.ifCond .ne 6, 3) := by decide +kernel
theorem dX12_pass_42 : decode cX12_pass 42 = .ok (.aload_n 0, 1) := by decide +kernel
theorem dX12_pass_43 : decode cX12_pass 43 = .ok (.getfield 7, 3) := by decide +kernel
theorem dX12_pass_46 : decode cX12_pass 46 = .ok (.sipush 3328, 3) := by decide +kernel
theorem dX12_pass_49 : decode cX12_pass 49 = .ok (.aload_n 0, 1) := by decide +kernel
theorem dX12_pass_50 : decode cX12_pass 50 = .ok (.getfield 7, 3) := by decide +kernel
theorem dX12_pass_53 : decode cX12_pass 53 = .ok (.bipush 14, 2) := by decide +kernel
theorem dX12_pass_55 : decode cX12_pass 55 = .ok (.iaload, 1) := by decide +kernel
theorem dX12_pass_56 : decode cX12_pass 56 = .ok (.sipush 7240, 3) := by decide +kernel
theorem dX12_pass_59 : decode cX12_pass 59 = .ok (.irem, 1) := by decide +kernel
theorem dX12_pass_60 : decode cX12_pass 60 = .ok (.iadd, 1) := by decide +kernel
theorem dX12_pass_61 : decode cX12_pass 61 = .ok (.aload_n 0, 1) := by decide +kernel
theorem dX12_pass_62 : decode cX12_pass 62 = .ok (.getfield 7, 3) := by decide +kernel
theorem dX12_pass_65 : decode cX12_pass 65 = .ok (.bipush 10, 2) := by decide +kernel
theorem dX12_pass_67 : decode cX12_pass 67 = .ok (.iaload, 1) := by decide +kernel
theorem dX12_pass_68 : decode cX12_pass 68 = .ok (.bipush 8, 2) := by decide +kernel
theorem dX12_pass_70 : decode cX12_pass 70 = .ok (.imul, 1) := by decide +kernel
theorem dX12_pass_71 : decode cX12_pass 71 = .ok (.iload_n 1, 1) := by decide +kernel
theorem dX12_pass_72 : decode cX12_pass 72 = .ok (.iadd, 1) := by decide +kernel
theorem dX12_pass_73 : decode cX12_pass 73 = .ok (.sipush 2000, 3) := by decide +kernel
theorem dX12_pass_76 : decode cX12_pass 76 = .ok (.imul, 1) := by decide +kernel
theorem dX12_pass_77 : decode cX12_pass 77 = .ok (.aload_n 0, 1) := by decide +kernel
theorem dX12_pass_78 : decode cX12_pass 78 = .ok (.getfield 50, 3) := by decide +kernel
theorem dX12_pass_81 : decode cX12_pass 81 = .ok (.iload_n 1, 1) := by decide +kernel
theorem dX12_pass_82 : decode cX12_pass 82 = .ok (.iaload, 1) := by decide +kernel
theorem dX12_pass_83 : decode cX12_pass 83 = .ok (.iadd, 1) := by decide +kernel
theorem dX12_pass_84 : decode cX12_pass 84 = .ok (.iastore, 1) := by decide +kernel
theorem dX12_pass_85 : decode cX12_pass 85 = .ok (.aload_n 0, 1) := by decide +kernel
theorem dX12_pass_86 : decode cX12_pass 86 = .ok (.getfield 7, 3) := by decide +kernel
theorem dX12_pass_89 : decode cX12_pass 89 = .ok (.bipush 14, 2) := by decide +kernel
theorem dX12_pass_91 : decode cX12_pass 91 = .ok (.dup2, 1) := by decide +kernel
theorem dX12_pass_92 : decode cX12_pass 92 = .ok (.iaload, 1) := by decide +kernel
theorem dX12_pass_93 : decode cX12_pass 93 = .ok (.iconst 1, 1) := by decide +kernel
theorem dX12_pass_94 : decode cX12_pass 94 = .ok (.iadd, 1) := by decide +kernel
theorem dX12_pass_95 : decode cX12_pass 95 = .ok (.iastore, 1) := by decide +kernel
theorem dX12_pass_39 : decode cX12_pass 39 = .ok (.goto 57, 3) := by decide +kernel
theorem pt_fun {L : List Nat} {f : HF} {a n : Nat} {c : ClassId} {g g2 : Nat → Int32} (h : pt L f a (.inl (c, n, .inl g))) (h2 : pt L f a (.inl (c, n, .inl g2))) : g2 = g := by
  have e := h2.2.symm.trans h.2
  injection e with e
  injection e with e1 e2
  injection e2 with e3 e4
  injection e4
section BBR
variable {sl pl oh dh s2 oh2 dh2 pl2 : Int} {w : WW}
theorem BB_s (h : BBp sl pl oh dh w) (q : s2 ≤ 6) : BBp s2 pl oh dh w := by unfold BBp at *; omega
theorem BB_oh (h : BBp sl pl oh dh w) (q : oh2 ≤ 14) : BBp sl pl oh2 dh w := by unfold BBp at *; omega
theorem BB_dh (h : BBp sl pl oh dh w) (q : dh2 ≤ 9999) : BBp sl pl oh dh2 w := by unfold BBp at *; omega
theorem BB_pl (h : BBp sl pl oh dh w) (q : 0 ≤ pl2) : BBp sl pl2 oh dh w := by unfold BBp at *; omega
end BBR
set_option maxHeartbeats 4000000 in
set_option maxRecDepth 100000 in
theorem x_X12_canSwear {l : Launch} {G : GG}  {L : List Nat} {f : HF} {ad : Nat → Nat → Nat} {sl : Int} {pl : Int} {oh : Int} {dh : Int} {w : WW} {pi : PIT} {px : (Nat → Int32) → Prop} {pa : (Nat → Int32) → Prop} {i1 i2 : Int32} (I : SH (spM (IA sl pl oh dh w) pi px pa) nnM G ad L f) (hB : BBp sl pl oh dh w) : PMp l yX12_canSwear cX12_canSwear 3 .boolean 2 0 0 G [.ref (ad 0 0), .int i1, .int i2] L f (fun r => (bn 0 1 r ∧ (¬ r = 0 → bn 0 5 i1) ∧ (¬ r = 0 → bn 0 5 i2) ∧ (¬ r = 0 → ∀ g, pt L f (ad 1 0) (.inl (G.2 0, 10568, .inl g)) → bn 0 13 (g 13)))) := by
  refine PMi.of (post := fun r L1 f1 => ((bn 0 1 r ∧ (¬ r = 0 → bn 0 5 i1) ∧ (¬ r = 0 → bn 0 5 i2) ∧ (¬ r = 0 → ∀ g, pt L f (ad 1 0) (.inl (G.2 0, 10568, .inl g)) → bn 0 13 (g 13)))) ∧ L1 = L ∧ f1 = f) (own := RX12) (by decide) rfl (Nat.le_of_ble_eq_true rfl) (fun sz p e s m args below meth c A ls hA1 hname S Y hl => ?_)
  have hx := S.hx
  have hb := S.hb
  have hl : lv_has ls 3 [(0, .ref (ad 0 0)), (1, .int i1), (2, .int i2)] := hl
  refine lv_aload_n hx hb dX12_canSwear_0 rfl (lv_at hl 0 rfl) ?_
  refine lv_iload_n hx hb dX12_canSwear_1 rfl (lv_at hl 1 rfl) ?_
  refine cVp (As := [.int i1]) (rest := []) S Y (x_X12_isOne (l := l) I hB) cw_X12_isOne km12_323 (I.opo (k := 0) (j := 0) (by decide) rfl).choose_spec.1 ok_X12.1 rfl rfl ⟨Nat.le_of_ble_eq_true rfl, Nat.le_of_ble_eq_true rfl⟩ hl.1 rfl (Nat.le_of_ble_eq_true rfl) ⟨Nat.le_of_ble_eq_true rfl, Nat.le_of_ble_eq_true rfl⟩ dX12_canSwear_2 (fun r_16346 H locs er_16346 Y => ?_)
  refine lv_if_eq (tgt := 37) hx hb dX12_canSwear_5 (by decide) (fun c_16347 => ?_) (fun c_16347 => ?_)
  · have B_16348 : bn 0 0 r_16346 := bn_w (bn_eq c_16347 (show bn 0 0 (0 : Int32) from bn_k (by decide))) (by decide)
    refine lv_iconst (v := 0) hx hb dX12_canSwear_37 (by decide) ?_
    exact prI (post := fun r L1 f1 => ((bn 0 1 r ∧ (¬ r = 0 → bn 0 5 i1) ∧ (¬ r = 0 → bn 0 5 i2) ∧ (¬ r = 0 → ∀ g, pt L f (ad 1 0) (.inl (G.2 0, 10568, .inl g)) → bn 0 13 (g 13)))) ∧ L1 = L ∧ f1 = f) S Y rfl (by decide) (by decide) hA1 ⟨⟨bn_k (by decide), fun h => absurd rfl h, fun h => absurd rfl h, fun h => absurd rfl h⟩, rfl, rfl⟩ dX12_canSwear_38
  · have B_16349 : bn 0 5 i1 := bn_w (bn_i (bn_any i1) (er_16346.2 c_16347)) (by decide)
    have B_16350 : bn 1 1 r_16346 := bn_w (bn_nel c_16347 er_16346.1 (show bn 0 0 (0 : Int32) from bn_k (by decide))) (by decide)
    refine lv_aload_n hx hb dX12_canSwear_8 rfl (lv_at hl 0 rfl) ?_
    refine lv_iload_n hx hb dX12_canSwear_9 rfl (lv_at hl 2 rfl) ?_
    refine cVp (As := [.int i2]) (rest := []) S Y (x_X12_isOne (l := l) I hB) cw_X12_isOne km12_323 (I.opo (k := 0) (j := 0) (by decide) rfl).choose_spec.1 ok_X12.1 rfl rfl ⟨Nat.le_of_ble_eq_true rfl, Nat.le_of_ble_eq_true rfl⟩ hl.1 rfl (Nat.le_of_ble_eq_true rfl) ⟨Nat.le_of_ble_eq_true rfl, Nat.le_of_ble_eq_true rfl⟩ dX12_canSwear_10 (fun r_16351 H locs er_16351 Y => ?_)
    refine lv_if_eq (tgt := 37) hx hb dX12_canSwear_13 (by decide) (fun c_16352 => ?_) (fun c_16352 => ?_)
    · have B_16353 : bn 0 0 r_16351 := bn_w (bn_eq c_16352 (show bn 0 0 (0 : Int32) from bn_k (by decide))) (by decide)
      refine lv_iconst (v := 0) hx hb dX12_canSwear_37 (by decide) ?_
      exact prI (post := fun r L1 f1 => ((bn 0 1 r ∧ (¬ r = 0 → bn 0 5 i1) ∧ (¬ r = 0 → bn 0 5 i2) ∧ (¬ r = 0 → ∀ g, pt L f (ad 1 0) (.inl (G.2 0, 10568, .inl g)) → bn 0 13 (g 13)))) ∧ L1 = L ∧ f1 = f) S Y rfl (by decide) (by decide) hA1 ⟨⟨bn_k (by decide), fun h => absurd rfl h, fun h => absurd rfl h, fun h => absurd rfl h⟩, rfl, rfl⟩ dX12_canSwear_38
    · have B_16354 : bn 0 5 i2 := bn_w (bn_i (bn_any i2) (er_16351.2 c_16352)) (by decide)
      have B_16355 : bn 1 1 r_16351 := bn_w (bn_nel c_16352 er_16351.1 (show bn 0 0 (0 : Int32) from bn_k (by decide))) (by decide)
      refine lv_iload_n hx hb dX12_canSwear_16 rfl (lv_at hl 1 rfl) ?_
      refine lv_iload_n hx hb dX12_canSwear_17 rfl (lv_at hl 2 rfl) ?_
      refine lv_icmp_eq (tgt := 37) hx hb dX12_canSwear_18 (by decide) (fun c_16356 => ?_) (fun c_16356 => ?_)
      · refine lv_iconst (v := 0) hx hb dX12_canSwear_37 (by decide) ?_
        exact prI (post := fun r L1 f1 => ((bn 0 1 r ∧ (¬ r = 0 → bn 0 5 i1) ∧ (¬ r = 0 → bn 0 5 i2) ∧ (¬ r = 0 → ∀ g, pt L f (ad 1 0) (.inl (G.2 0, 10568, .inl g)) → bn 0 13 (g 13)))) ∧ L1 = L ∧ f1 = f) S Y rfl (by decide) (by decide) hA1 ⟨⟨bn_k (by decide), fun h => absurd rfl h, fun h => absurd rfl h, fun h => absurd rfl h⟩, rfl, rfl⟩ dX12_canSwear_38
      · refine lv_aload_n hx hb dX12_canSwear_21 rfl (lv_at hl 0 rfl) ?_
        obtain ⟨v_16357, v_16359, v_16361, v_16363, v_16365, v_16367, v_16369, v_16371, v_16372, v_16374, v_16376, v_16378, v_16380, v_16382, v_16384, v_16386, v_16388, v_16390, p_ad_0_0, b_16358, b_16360, b_16362, b_16364, b_16366, b_16368, b_16370, b_16373, b_16375, b_16377, b_16379, b_16381, b_16383, b_16385, b_16387, b_16389, b_16391⟩ := opnM_0 (j := 0) I (by decide)
        have p_ad_0_0 : pt L f (ad 0 0) (.inr (12, [.ref (ad 1 0), .ref (ad 2 0), .ref (ad 3 0), .ref (ad 4 0), .int v_16357, .int v_16359, .int v_16361, .int v_16363, .int v_16365, .int v_16367, .int v_16369, .long v_16371, .int v_16372, .int v_16374, .int v_16376, .ref (ad 5 0), .ref (ad 6 0), .int v_16378, .int v_16380, .int v_16382, .int v_16384, .int v_16386, .ref (ad 7 0), .ref (ad 8 0), .ref (ad 9 0), .int v_16388, .ref (ad 10 0), .ref (ad 11 0), .ref (ad 12 0), .ref (ad 13 0), .int v_16390, .ref (ad 14 0)])) := p_ad_0_0
        refine pg_get S Y ok_X12 0 (by decide) kf12_7 (v := .ref (ad 1 0)) p_ad_0_0 rfl dX12_canSwear_22 ?_
        refine lv_bipush (v := 13) hx hb dX12_canSwear_25 (by decide) ?_
        obtain ⟨g_16392, p_ad_1_0, o_16393⟩ := I.opi (k := 1) (j := 0) (by decide) rfl
        have p_ad_1_0 : pt L f (ad 1 0) (.inl (G.2 0, 10568, .inl g_16392)) := p_ad_1_0
        obtain ⟨v_16394, ev_16394⟩ : ∃ z, z = g_16392 (13 : Int32).toNatClampNeg := ⟨_, rfl⟩
        refine pg_iald S Y (v := v_16394) p_ad_1_0 (by unfold vp_in; decide) ev_16394.symm dX12_canSwear_27 ?_
        have bv_16394 : bn 0 14 v_16394 := bn_eq ev_16394 (bn_w (a' := 0) (b' := 14) (IA_13 o_16393) ⟨by decide, by have h9 := hB; unfold BBp at h9; omega⟩)
        refine lv_bipush (v := 14) hx hb dX12_canSwear_28 (by decide) ?_
        refine lv_icmp_ge (tgt := 37) hx hb dX12_canSwear_30 (by decide) (fun c_16395 => ?_) (fun c_16395 => ?_)
        · have B_16396 : bn 14 14 v_16394 := bn_w (bn_ler c_16395 (show bn 14 14 (14 : Int32) from bn_k (by decide)) bv_16394) (by decide)
          refine lv_iconst (v := 0) hx hb dX12_canSwear_37 (by decide) ?_
          exact prI (post := fun r L1 f1 => ((bn 0 1 r ∧ (¬ r = 0 → bn 0 5 i1) ∧ (¬ r = 0 → bn 0 5 i2) ∧ (¬ r = 0 → ∀ g, pt L f (ad 1 0) (.inl (G.2 0, 10568, .inl g)) → bn 0 13 (g 13)))) ∧ L1 = L ∧ f1 = f) S Y rfl (by decide) (by decide) hA1 ⟨⟨bn_k (by decide), fun h => absurd rfl h, fun h => absurd rfl h, fun h => absurd rfl h⟩, rfl, rfl⟩ dX12_canSwear_38
        · have B_16397 : bn 0 13 v_16394 := bn_w (bn_gtr c_16395 (show bn 14 14 (14 : Int32) from bn_k (by decide)) bv_16394) (by decide)
          refine lv_iconst (v := 1) hx hb dX12_canSwear_33 (by decide) ?_
          refine lv_goto (tgt := 38) hx hb dX12_canSwear_34 (by decide) ?_
          exact prI (post := fun r L1 f1 => ((bn 0 1 r ∧ (¬ r = 0 → bn 0 5 i1) ∧ (¬ r = 0 → bn 0 5 i2) ∧ (¬ r = 0 → ∀ g, pt L f (ad 1 0) (.inl (G.2 0, 10568, .inl g)) → bn 0 13 (g 13)))) ∧ L1 = L ∧ f1 = f) S Y rfl (by decide) (by decide) hA1 ⟨⟨bn_k (by decide), fun _ => bn_w B_16349 (by decide), fun _ => bn_w B_16354 (by decide), fun _ g9 p9 => by rw [pt_fun p_ad_1_0 p9, show g_16392 13 = v_16394 from ev_16394.symm]; exact bn_w B_16397 (by decide)⟩, rfl, rfl⟩ dX12_canSwear_38
set_option maxHeartbeats 4000000 in
set_option maxRecDepth 100000 in
theorem x_X12_swearNow {l : Launch} {G : GG}  {L : List Nat} {f : HF} {ad : Nat → Nat → Nat} {sl : Int} {pl : Int} {dh : Int} {w : WW} {pi : PIT} {px : (Nat → Int32) → Prop} {pa : (Nat → Int32) → Prop} {i1 i2 i3 i4 : Int32} (I : SH (spM (IA sl pl 13 dh w) pi px pa) nnM G ad L f) (hB : BBp sl pl 13 dh w) (b_i2 : bn 0 5 i2) : PMi l yX12_swearNow cX12_swearNow 6 .int 1 0 0 G [.ref (ad 0 0), .int i1, .int i2, .int i3, .int i4] L f (fun r L1 f1 => SH (spM (IA sl pl 14 dh w) pi px pa) nnM G ad L1 f1) := by
  refine PMi.of (post := fun r L1 f1 => SH (spM (IA sl pl 14 dh w) pi px pa) nnM G ad L1 f1) (own := RX12) (by decide) rfl (Nat.le_of_ble_eq_true rfl) (fun sz p e s m args below meth c A ls hA1 hname S Y hl => ?_)
  have hx := S.hx
  have hb := S.hb
  have hl : lv_has ls 6 [(0, .ref (ad 0 0)), (1, .int i1), (2, .int i2), (3, .int i3), (4, .int i4)] := hl
  refine lv_aload_n hx hb dX12_swearNow_0 rfl (lv_at hl 0 rfl) ?_
  obtain ⟨v_16664, v_16666, v_16668, v_16670, v_16672, v_16674, v_16676, v_16678, v_16679, v_16681, v_16683, v_16685, v_16687, v_16689, v_16691, v_16693, v_16695, v_16697, p_ad_0_0, b_16665, b_16667, b_16669, b_16671, b_16673, b_16675, b_16677, b_16680, b_16682, b_16684, b_16686, b_16688, b_16690, b_16692, b_16694, b_16696, b_16698⟩ := opnM_0 (j := 0) I (by decide)
  have p_ad_0_0 : pt L f (ad 0 0) (.inr (12, [.ref (ad 1 0), .ref (ad 2 0), .ref (ad 3 0), .ref (ad 4 0), .int v_16664, .int v_16666, .int v_16668, .int v_16670, .int v_16672, .int v_16674, .int v_16676, .long v_16678, .int v_16679, .int v_16681, .int v_16683, .ref (ad 5 0), .ref (ad 6 0), .int v_16685, .int v_16687, .int v_16689, .int v_16691, .int v_16693, .ref (ad 7 0), .ref (ad 8 0), .ref (ad 9 0), .int v_16695, .ref (ad 10 0), .ref (ad 11 0), .ref (ad 12 0), .ref (ad 13 0), .int v_16697, .ref (ad 14 0)])) := p_ad_0_0
  refine pg_get S Y ok_X12 0 (by decide) kf12_7 (v := .ref (ad 1 0)) p_ad_0_0 rfl dX12_swearNow_1 ?_
  refine lv_bipush (v := 13) hx hb dX12_swearNow_4 (by decide) ?_
  obtain ⟨g_16699, p_ad_1_0, o_16700⟩ := I.opi (k := 1) (j := 0) (by decide) rfl
  have p_ad_1_0 : pt L f (ad 1 0) (.inl (G.2 0, 10568, .inl g_16699)) := p_ad_1_0
  obtain ⟨v_16701, ev_16701⟩ : ∃ z, z = g_16699 (13 : Int32).toNatClampNeg := ⟨_, rfl⟩
  refine pg_iald S Y (v := v_16701) p_ad_1_0 (by unfold vp_in; decide) ev_16701.symm dX12_swearNow_6 ?_
  have bv_16701 : bn 0 13 v_16701 := bn_eq ev_16701 (IA_13 o_16700)
  refine lv_istore (lv' := [(5, .int v_16701), (0, .ref (ad 0 0)), (1, .int i1), (2, .int i2), (3, .int i3), (4, .int i4)]) hx hb dX12_swearNow_7 hl (by decide) rfl (fun ls hl => ?_)
  refine lv_aload_n hx hb dX12_swearNow_9 rfl (lv_at hl 1 rfl) ?_
  refine lv_iload hx hb dX12_swearNow_10 (lv_at hl 0 rfl) ?_
  refine lv_iconst (v := 0) hx hb dX12_swearNow_12 (by decide) ?_
  refine lv_iload_n hx hb dX12_swearNow_13 rfl (lv_at hl 2 rfl) ?_
  refine cVv (As := [.int v_16701, .int 0, .int i1]) (rest := []) S Y (x_X12_put (l := l) I hB (bn_w bv_16701 (by decide)) (bn_w (show bn 0 0 (0 : Int32) from bn_k (by decide)) (by decide)) (fun h => absurd h (by decide))) cw_X12_put km12_326 p_ad_0_0 ok_X12.1 rfl rfl ⟨Nat.le_of_ble_eq_true rfl, Nat.le_of_ble_eq_true rfl⟩ hl.1 rfl (Nat.le_of_ble_eq_true rfl) ⟨Nat.le_of_ble_eq_true rfl, Nat.le_of_ble_eq_true rfl⟩ dX12_swearNow_14 (fun L_16702 f_16703 H locs I Y => ?_)
  refine lv_aload_n hx hb dX12_swearNow_17 rfl (lv_at hl 1 rfl) ?_
  refine lv_iload hx hb dX12_swearNow_18 (lv_at hl 0 rfl) ?_
  refine lv_iconst (v := 1) hx hb dX12_swearNow_20 (by decide) ?_
  refine lv_iload_n hx hb dX12_swearNow_21 rfl (lv_at hl 3 rfl) ?_
  refine cVv (As := [.int v_16701, .int 1, .int i2]) (rest := []) S Y (x_X12_put (l := l) I hB (bn_w bv_16701 (by decide)) (bn_w (show bn 1 1 (1 : Int32) from bn_k (by decide)) (by decide)) (fun _ => bn_w b_i2 (by decide))) cw_X12_put km12_326 (I.opo (k := 0) (j := 0) (by decide) rfl).choose_spec.1 ok_X12.1 rfl rfl ⟨Nat.le_of_ble_eq_true rfl, Nat.le_of_ble_eq_true rfl⟩ hl.1 rfl (Nat.le_of_ble_eq_true rfl) ⟨Nat.le_of_ble_eq_true rfl, Nat.le_of_ble_eq_true rfl⟩ dX12_swearNow_22 (fun L_16704 f_16705 H locs I Y => ?_)
  refine lv_aload_n hx hb dX12_swearNow_25 rfl (lv_at hl 1 rfl) ?_
  refine lv_iload hx hb dX12_swearNow_26 (lv_at hl 0 rfl) ?_
  refine lv_iconst (v := 2) hx hb dX12_swearNow_28 (by decide) ?_
  refine lv_iload_n hx hb dX12_swearNow_29 rfl (lv_at hl 4 rfl) ?_
  refine cVv (As := [.int v_16701, .int 2, .int i3]) (rest := []) S Y (x_X12_put (l := l) I hB (bn_w bv_16701 (by decide)) (bn_w (show bn 2 2 (2 : Int32) from bn_k (by decide)) (by decide)) (fun h => absurd h (by decide))) cw_X12_put km12_326 (I.opo (k := 0) (j := 0) (by decide) rfl).choose_spec.1 ok_X12.1 rfl rfl ⟨Nat.le_of_ble_eq_true rfl, Nat.le_of_ble_eq_true rfl⟩ hl.1 rfl (Nat.le_of_ble_eq_true rfl) ⟨Nat.le_of_ble_eq_true rfl, Nat.le_of_ble_eq_true rfl⟩ dX12_swearNow_30 (fun L_16706 f_16707 H locs I Y => ?_)
  refine lv_aload_n hx hb dX12_swearNow_33 rfl (lv_at hl 1 rfl) ?_
  refine lv_iload hx hb dX12_swearNow_34 (lv_at hl 0 rfl) ?_
  refine lv_iconst (v := 3) hx hb dX12_swearNow_36 (by decide) ?_
  refine lv_iload hx hb dX12_swearNow_37 (lv_at hl 5 rfl) ?_
  refine cVv (As := [.int v_16701, .int 3, .int i4]) (rest := []) S Y (x_X12_put (l := l) I hB (bn_w bv_16701 (by decide)) (bn_w (show bn 3 3 (3 : Int32) from bn_k (by decide)) (by decide)) (fun h => absurd h (by decide))) cw_X12_put km12_326 (I.opo (k := 0) (j := 0) (by decide) rfl).choose_spec.1 ok_X12.1 rfl rfl ⟨Nat.le_of_ble_eq_true rfl, Nat.le_of_ble_eq_true rfl⟩ hl.1 rfl (Nat.le_of_ble_eq_true rfl) ⟨Nat.le_of_ble_eq_true rfl, Nat.le_of_ble_eq_true rfl⟩ dX12_swearNow_39 (fun L_16708 f_16709 H locs I Y => ?_)
  refine lv_aload_n hx hb dX12_swearNow_42 rfl (lv_at hl 1 rfl) ?_
  refine lv_iload hx hb dX12_swearNow_43 (lv_at hl 0 rfl) ?_
  refine lv_iconst (v := 4) hx hb dX12_swearNow_45 (by decide) ?_
  refine lv_iconst (v := 0) hx hb dX12_swearNow_46 (by decide) ?_
  refine cVv (As := [.int v_16701, .int 4, .int 0]) (rest := []) S Y (x_X12_put (l := l) I hB (bn_w bv_16701 (by decide)) (bn_w (show bn 4 4 (4 : Int32) from bn_k (by decide)) (by decide)) (fun h => absurd h (by decide))) cw_X12_put km12_326 (I.opo (k := 0) (j := 0) (by decide) rfl).choose_spec.1 ok_X12.1 rfl rfl ⟨Nat.le_of_ble_eq_true rfl, Nat.le_of_ble_eq_true rfl⟩ hl.1 rfl (Nat.le_of_ble_eq_true rfl) ⟨Nat.le_of_ble_eq_true rfl, Nat.le_of_ble_eq_true rfl⟩ dX12_swearNow_47 (fun L_16710 f_16711 H locs I Y => ?_)
  refine lv_aload_n hx hb dX12_swearNow_50 rfl (lv_at hl 1 rfl) ?_
  refine lv_iload hx hb dX12_swearNow_51 (lv_at hl 0 rfl) ?_
  refine lv_iconst (v := 5) hx hb dX12_swearNow_53 (by decide) ?_
  refine lv_iconst (v := 0) hx hb dX12_swearNow_54 (by decide) ?_
  refine cVv (As := [.int v_16701, .int 5, .int 0]) (rest := []) S Y (x_X12_put (l := l) I hB (bn_w bv_16701 (by decide)) (bn_w (show bn 5 5 (5 : Int32) from bn_k (by decide)) (by decide)) (fun h => absurd h (by decide))) cw_X12_put km12_326 (I.opo (k := 0) (j := 0) (by decide) rfl).choose_spec.1 ok_X12.1 rfl rfl ⟨Nat.le_of_ble_eq_true rfl, Nat.le_of_ble_eq_true rfl⟩ hl.1 rfl (Nat.le_of_ble_eq_true rfl) ⟨Nat.le_of_ble_eq_true rfl, Nat.le_of_ble_eq_true rfl⟩ dX12_swearNow_55 (fun L_16712 f_16713 H locs I Y => ?_)
  refine lv_aload_n hx hb dX12_swearNow_58 rfl (lv_at hl 1 rfl) ?_
  refine lv_iload hx hb dX12_swearNow_59 (lv_at hl 0 rfl) ?_
  refine lv_bipush (v := 6) hx hb dX12_swearNow_61 (by decide) ?_
  refine lv_aload_n hx hb dX12_swearNow_63 rfl (lv_at hl 1 rfl) ?_
  obtain ⟨v_16714, v_16716, v_16718, v_16720, v_16722, v_16724, v_16726, v_16728, v_16729, v_16731, v_16733, v_16735, v_16737, v_16739, v_16741, v_16743, v_16745, v_16747, p_ad_0_0, b_16715, b_16717, b_16719, b_16721, b_16723, b_16725, b_16727, b_16730, b_16732, b_16734, b_16736, b_16738, b_16740, b_16742, b_16744, b_16746, b_16748⟩ := opnM_0 (j := 0) I (by decide)
  have p_ad_0_0 : pt L_16712 f_16713 (ad 0 0) (.inr (12, [.ref (ad 1 0), .ref (ad 2 0), .ref (ad 3 0), .ref (ad 4 0), .int v_16714, .int v_16716, .int v_16718, .int v_16720, .int v_16722, .int v_16724, .int v_16726, .long v_16728, .int v_16729, .int v_16731, .int v_16733, .ref (ad 5 0), .ref (ad 6 0), .int v_16735, .int v_16737, .int v_16739, .int v_16741, .int v_16743, .ref (ad 7 0), .ref (ad 8 0), .ref (ad 9 0), .int v_16745, .ref (ad 10 0), .ref (ad 11 0), .ref (ad 12 0), .ref (ad 13 0), .int v_16747, .ref (ad 14 0)])) := p_ad_0_0
  refine pg_get S Y ok_X12 0 (by decide) kf12_7 (v := .ref (ad 1 0)) p_ad_0_0 rfl dX12_swearNow_64 ?_
  refine lv_bipush (v := 10) hx hb dX12_swearNow_67 (by decide) ?_
  obtain ⟨g_16749, p_ad_1_0, o_16750⟩ := I.opi (k := 1) (j := 0) (by decide) rfl
  have p_ad_1_0 : pt L_16712 f_16713 (ad 1 0) (.inl (G.2 0, 10568, .inl g_16749)) := p_ad_1_0
  obtain ⟨v_16751, ev_16751⟩ : ∃ z, z = g_16749 (10 : Int32).toNatClampNeg := ⟨_, rfl⟩
  refine pg_iald S Y (v := v_16751) p_ad_1_0 (by unfold vp_in; decide) ev_16751.symm dX12_swearNow_69 ?_
  have bv_16751 : bn 0 9999 v_16751 := bn_eq ev_16751 (bn_w (a' := 0) (b' := 9999) (IA_10 o_16750) ⟨by decide, by have h9 := hB; unfold BBp at h9; omega⟩)
  refine cVv (As := [.int v_16701, .int 6, .int v_16751]) (rest := []) S Y (x_X12_put (l := l) I hB (bn_w bv_16701 (by decide)) (bn_w (show bn 6 6 (6 : Int32) from bn_k (by decide)) (by decide)) (fun h => absurd h (by decide))) cw_X12_put km12_326 p_ad_0_0 ok_X12.1 rfl rfl ⟨Nat.le_of_ble_eq_true rfl, Nat.le_of_ble_eq_true rfl⟩ hl.1 rfl (Nat.le_of_ble_eq_true rfl) ⟨Nat.le_of_ble_eq_true rfl, Nat.le_of_ble_eq_true rfl⟩ dX12_swearNow_70 (fun L_16752 f_16753 H locs I Y => ?_)
  refine lv_aload_n hx hb dX12_swearNow_73 rfl (lv_at hl 1 rfl) ?_
  obtain ⟨v_16754, v_16756, v_16758, v_16760, v_16762, v_16764, v_16766, v_16768, v_16769, v_16771, v_16773, v_16775, v_16777, v_16779, v_16781, v_16783, v_16785, v_16787, p_ad_0_0, b_16755, b_16757, b_16759, b_16761, b_16763, b_16765, b_16767, b_16770, b_16772, b_16774, b_16776, b_16778, b_16780, b_16782, b_16784, b_16786, b_16788⟩ := opnM_0 (j := 0) I (by decide)
  have p_ad_0_0 : pt L_16752 f_16753 (ad 0 0) (.inr (12, [.ref (ad 1 0), .ref (ad 2 0), .ref (ad 3 0), .ref (ad 4 0), .int v_16754, .int v_16756, .int v_16758, .int v_16760, .int v_16762, .int v_16764, .int v_16766, .long v_16768, .int v_16769, .int v_16771, .int v_16773, .ref (ad 5 0), .ref (ad 6 0), .int v_16775, .int v_16777, .int v_16779, .int v_16781, .int v_16783, .ref (ad 7 0), .ref (ad 8 0), .ref (ad 9 0), .int v_16785, .ref (ad 10 0), .ref (ad 11 0), .ref (ad 12 0), .ref (ad 13 0), .int v_16787, .ref (ad 14 0)])) := p_ad_0_0
  refine pg_get S Y ok_X12 0 (by decide) kf12_7 (v := .ref (ad 1 0)) p_ad_0_0 rfl dX12_swearNow_74 ?_
  refine lv_bipush (v := 13) hx hb dX12_swearNow_77 (by decide) ?_
  refine lv_dup2_11 hx hb dX12_swearNow_79 rfl rfl ?_
  obtain ⟨g_16789, p_ad_1_0, o_16790⟩ := I.opi (k := 1) (j := 0) (by decide) rfl
  have p_ad_1_0 : pt L_16752 f_16753 (ad 1 0) (.inl (G.2 0, 10568, .inl g_16789)) := p_ad_1_0
  obtain ⟨v_16791, ev_16791⟩ : ∃ z, z = g_16789 (13 : Int32).toNatClampNeg := ⟨_, rfl⟩
  refine pg_iald S Y (v := v_16791) p_ad_1_0 (by unfold vp_in; decide) ev_16791.symm dX12_swearNow_80 ?_
  have bv_16791 : bn 0 13 v_16791 := bn_eq ev_16791 (IA_13 o_16790)
  refine lv_iconst (v := 1) hx hb dX12_swearNow_81 (by decide) ?_
  refine lv_iadd hx hb dX12_swearNow_82 ?_
  refine lv_topi (fun x_16792 ex_16792 => ?_)
  refine pg_iast S Y p_ad_1_0 (by unfold vp_in; decide) dX12_swearNow_83 (fun f_16794 H locs ef_16794 Y => ?_)
  obtain ⟨g_16793, eg_16793⟩ : ∃ z, z = upd (g_16789) (13 : Int32).toNatClampNeg x_16792 := ⟨_, rfl⟩
  rw [← eg_16793] at ef_16794
  have p_ad_0_0 := p_ad_0_0.up ef_16794 (I.ne (k := 0) (j := 0) (k' := 1) (j' := 0) (by decide) (by decide) (Or.inl (by decide)))
  have p_ad_1_0 := p_ad_1_0.me ef_16794
  have o_16795 : (IA sl pl 14 dh w) g_16793 := (by rw [eg_16793]; exact IA_oc o_16790 (bn_w (bn_eq ex_16792 (bn_add bv_16791 (show bn 1 1 (1 : Int32) from bn_k (by decide)) (by decide))) (by decide)))
  have I := I.upS (sp' := spM (IA sl pl 14 dh w) pi px pa) (k := 1) (j := 0) (by decide) ef_16794 (okE_a (g := g_16793) o_16795) pAC
  have q_16796 : g_16793 (13 : Int32).toNatClampNeg = x_16792 := by rw [eg_16793]; exact pk_us
  refine lv_iload hx hb dX12_swearNow_84 (lv_at hl 0 rfl) ?_
  exact prI (post := fun r L1 f1 => SH (spM (IA sl pl 14 dh w) pi px pa) nnM G ad L1 f1) S Y rfl (by decide) (by decide) hA1 I dX12_swearNow_86
set_option maxHeartbeats 4000000 in
set_option maxRecDepth 100000 in
theorem x_X12_one {l : Launch} {G : GG}  {L : List Nat} {f : HF} {ad : Nat → Nat → Nat} {w : WW} {pi : PIT} {px : (Nat → Int32) → Prop} {pa : (Nat → Int32) → Prop} {i1 i2 : Int32} (I : SH (spM (IA 0 0 14 9999 w) pi px pa) nnM G ad L f) (hB : BBp 0 0 14 9999 w) : PMi l yX12_one cX12_one 3 .int 1 0 0 G [.ref (ad 0 0), .int i1, .int i2] L f (fun r L1 f1 => SH (spM (IA 0 0 14 9999 w) pi px pa) nnM G ad L1 f1) := by
  refine PMi.of (post := fun r L1 f1 => SH (spM (IA 0 0 14 9999 w) pi px pa) nnM G ad L1 f1) (own := RX12) (by decide) rfl (Nat.le_of_ble_eq_true rfl) (fun sz p e s m args below meth c A ls hA1 hname S Y hl => ?_)
  have hx := S.hx
  have hb := S.hb
  have hl : lv_has ls 3 [(0, .ref (ad 0 0)), (1, .int i1), (2, .int i2)] := hl
  refine lv_iload_n hx hb dX12_one_0 rfl (lv_at hl 1 rfl) ?_
  refine lv_iconst (v := 0) hx hb dX12_one_1 (by decide) ?_
  refine lv_bipush (v := 9) hx hb dX12_one_2 (by decide) ?_
  refine cSp (As := [.int i1, .int 0, .int 9]) (rest := []) S Y (x_X12_isIn (l := l) ) cw_X12_isIn km12_69 rfl ⟨Nat.le_of_ble_eq_true rfl, Nat.le_of_ble_eq_true rfl⟩ hl.1 rfl (Nat.le_of_ble_eq_true rfl) ⟨Nat.le_of_ble_eq_true rfl, Nat.le_of_ble_eq_true rfl⟩ dX12_one_4 (fun r_16939 H locs er_16939 Y => ?_)
  refine lv_if_eq (tgt := 31) hx hb dX12_one_7 (by decide) (fun c_16940 => ?_) (fun c_16940 => ?_)
  · have B_16941 : bn 0 0 r_16939 := bn_w (bn_eq c_16940 (show bn 0 0 (0 : Int32) from bn_k (by decide))) (by decide)
    refine lv_iconst (v := (-1)) hx hb dX12_one_31 (by decide) ?_
    exact prI (post := fun r L1 f1 => SH (spM (IA 0 0 14 9999 w) pi px pa) nnM G ad L1 f1) S Y rfl (by decide) (by decide) hA1 I dX12_one_32
  · have B_16942 : bn 0 9 i1 := bn_w (bn_i (bn_any i1) (bn_btw (er_16939.2 c_16940).1 (er_16939.2 c_16940).2 (show bn 0 0 (0 : Int32) from bn_k (by decide)) (show bn 9 9 (9 : Int32) from bn_k (by decide)))) (by decide)
    have B_16943 : bn 1 1 r_16939 := bn_w (bn_nel c_16940 er_16939.1 (show bn 0 0 (0 : Int32) from bn_k (by decide))) (by decide)
    refine lv_iload_n hx hb dX12_one_10 rfl (lv_at hl 2 rfl) ?_
    refine lv_iconst (v := 0) hx hb dX12_one_11 (by decide) ?_
    refine lv_bipush (v := 99) hx hb dX12_one_12 (by decide) ?_
    refine cSp (As := [.int i2, .int 0, .int 99]) (rest := []) S Y (x_X12_isIn (l := l) ) cw_X12_isIn km12_69 rfl ⟨Nat.le_of_ble_eq_true rfl, Nat.le_of_ble_eq_true rfl⟩ hl.1 rfl (Nat.le_of_ble_eq_true rfl) ⟨Nat.le_of_ble_eq_true rfl, Nat.le_of_ble_eq_true rfl⟩ dX12_one_14 (fun r_16944 H locs er_16944 Y => ?_)
    refine lv_if_eq (tgt := 31) hx hb dX12_one_17 (by decide) (fun c_16945 => ?_) (fun c_16945 => ?_)
    · have B_16946 : bn 0 0 r_16944 := bn_w (bn_eq c_16945 (show bn 0 0 (0 : Int32) from bn_k (by decide))) (by decide)
      refine lv_iconst (v := (-1)) hx hb dX12_one_31 (by decide) ?_
      exact prI (post := fun r L1 f1 => SH (spM (IA 0 0 14 9999 w) pi px pa) nnM G ad L1 f1) S Y rfl (by decide) (by decide) hA1 I dX12_one_32
    · have B_16947 : bn 0 99 i2 := bn_w (bn_i (bn_any i2) (bn_btw (er_16944.2 c_16945).1 (er_16944.2 c_16945).2 (show bn 0 0 (0 : Int32) from bn_k (by decide)) (show bn 99 99 (99 : Int32) from bn_k (by decide)))) (by decide)
      have B_16948 : bn 1 1 r_16944 := bn_w (bn_nel c_16945 er_16944.1 (show bn 0 0 (0 : Int32) from bn_k (by decide))) (by decide)
      refine lv_aload_n hx hb dX12_one_20 rfl (lv_at hl 0 rfl) ?_
      obtain ⟨v_16949, v_16951, v_16953, v_16955, v_16957, v_16959, v_16961, v_16963, v_16964, v_16966, v_16968, v_16970, v_16972, v_16974, v_16976, v_16978, v_16980, v_16982, p_ad_0_0, b_16950, b_16952, b_16954, b_16956, b_16958, b_16960, b_16962, b_16965, b_16967, b_16969, b_16971, b_16973, b_16975, b_16977, b_16979, b_16981, b_16983⟩ := opnM_0 (j := 0) I (by decide)
      have p_ad_0_0 : pt L f (ad 0 0) (.inr (12, [.ref (ad 1 0), .ref (ad 2 0), .ref (ad 3 0), .ref (ad 4 0), .int v_16949, .int v_16951, .int v_16953, .int v_16955, .int v_16957, .int v_16959, .int v_16961, .long v_16963, .int v_16964, .int v_16966, .int v_16968, .ref (ad 5 0), .ref (ad 6 0), .int v_16970, .int v_16972, .int v_16974, .int v_16976, .int v_16978, .ref (ad 7 0), .ref (ad 8 0), .ref (ad 9 0), .int v_16980, .ref (ad 10 0), .ref (ad 11 0), .ref (ad 12 0), .ref (ad 13 0), .int v_16982, .ref (ad 14 0)])) := p_ad_0_0
      refine pg_get S Y ok_X12 0 (by decide) kf12_7 (v := .ref (ad 1 0)) p_ad_0_0 rfl dX12_one_21 ?_
      refine lv_iconst (v := 0) hx hb dX12_one_24 (by decide) ?_
      obtain ⟨g_16984, p_ad_1_0, o_16985⟩ := I.opi (k := 1) (j := 0) (by decide) rfl
      have p_ad_1_0 : pt L f (ad 1 0) (.inl (G.2 0, 10568, .inl g_16984)) := p_ad_1_0
      obtain ⟨v_16986, ev_16986⟩ : ∃ z, z = g_16984 (0 : Int32).toNatClampNeg := ⟨_, rfl⟩
      refine pg_iald S Y (v := v_16986) p_ad_1_0 (by unfold vp_in; decide) ev_16986.symm dX12_one_25 ?_
      have bv_16986 : bn 0 6 v_16986 := bn_eq ev_16986 (IA_0 o_16985)
      refine lv_bipush (v := 6) hx hb dX12_one_26 (by decide) ?_
      refine lv_icmp_ne (tgt := 33) hx hb dX12_one_28 (by decide) (fun c_16987 => ?_) (fun c_16987 => ?_)
      · have B_16988 : bn 0 5 v_16986 := bn_w (bn_neu c_16987 bv_16986 (show bn 6 6 (6 : Int32) from bn_k (by decide))) (by decide)
        refine lv_aload_n hx hb dX12_one_33 rfl (lv_at hl 0 rfl) ?_
        refine pg_get S Y ok_X12 0 (by decide) kf12_7 (v := .ref (ad 1 0)) p_ad_0_0 rfl dX12_one_34 ?_
        refine lv_bipush (v := 114) hx hb dX12_one_37 (by decide) ?_
        refine lv_iconst (v := 2) hx hb dX12_one_39 (by decide) ?_
        refine lv_aload_n hx hb dX12_one_40 rfl (lv_at hl 0 rfl) ?_
        refine pg_get S Y ok_X12 0 (by decide) kf12_7 (v := .ref (ad 1 0)) p_ad_0_0 rfl dX12_one_41 ?_
        refine lv_iconst (v := 0) hx hb dX12_one_44 (by decide) ?_
        refine pg_iald S Y (v := v_16986) p_ad_1_0 (by unfold vp_in; decide) ev_16986.symm dX12_one_45 ?_
        refine lv_imul hx hb dX12_one_46 ?_
        refine lv_topi (fun x_16990 ex_16990 => ?_)
        refine lv_iadd hx hb dX12_one_47 ?_
        refine lv_topi (fun x_16991 ex_16991 => ?_)
        refine lv_iload_n hx hb dX12_one_48 rfl (lv_at hl 1 rfl) ?_
        refine pg_iast S Y p_ad_1_0 (vp_bn (bn_eq ex_16991 (bn_add (show bn 114 114 (114 : Int32) from bn_k (by decide)) (bn_eq ex_16990 (bn_mul (show bn 2 2 (2 : Int32) from bn_k (by decide)) B_16988 (by decide))) (by decide))) (by decide)) dX12_one_49 (fun f_16993 H locs ef_16993 Y => ?_)
        obtain ⟨g_16992, eg_16992⟩ : ∃ z, z = upd (g_16984) (x_16991 : Int32).toNatClampNeg i1 := ⟨_, rfl⟩
        rw [← eg_16992] at ef_16993
        have p_ad_0_0 := p_ad_0_0.up ef_16993 (I.ne (k := 0) (j := 0) (k' := 1) (j' := 0) (by decide) (by decide) (Or.inl (by decide)))
        have p_ad_1_0 := p_ad_1_0.me ef_16993
        have o_16994 : (IA 0 0 14 9999 w) g_16992 := (by rw [eg_16992]; exact (IA_free o_16985 (fr_of (bn_eq ex_16991 (bn_add (show bn 114 114 (114 : Int32) from bn_k (by decide)) (bn_eq ex_16990 (bn_mul (show bn 2 2 (2 : Int32) from bn_k (by decide)) B_16988 (by decide))) (by decide))) (by decide))))
        have I := I.up (k := 1) (j := 0) (by decide) ef_16993 (okE_a (g := g_16992) o_16994)
        have q_16995 : g_16992 (0 : Int32).toNatClampNeg = v_16986 := by rw [eg_16992]; exact (pk_un (nq_of (bn_eq ex_16991 (bn_add (show bn 114 114 (114 : Int32) from bn_k (by decide)) (bn_eq ex_16990 (bn_mul (show bn 2 2 (2 : Int32) from bn_k (by decide)) B_16988 (by decide))) (by decide))) (by decide))).trans ev_16986.symm
        refine lv_aload_n hx hb dX12_one_50 rfl (lv_at hl 0 rfl) ?_
        refine pg_get S Y ok_X12 0 (by decide) kf12_7 (v := .ref (ad 1 0)) p_ad_0_0 rfl dX12_one_51 ?_
        refine lv_bipush (v := 114) hx hb dX12_one_54 (by decide) ?_
        refine lv_iconst (v := 2) hx hb dX12_one_56 (by decide) ?_
        refine lv_aload_n hx hb dX12_one_57 rfl (lv_at hl 0 rfl) ?_
        refine pg_get S Y ok_X12 0 (by decide) kf12_7 (v := .ref (ad 1 0)) p_ad_0_0 rfl dX12_one_58 ?_
        refine lv_iconst (v := 0) hx hb dX12_one_61 (by decide) ?_
        refine pg_iald S Y (v := v_16986) p_ad_1_0 (by unfold vp_in; decide) q_16995 dX12_one_62 ?_
        refine lv_imul hx hb dX12_one_63 ?_
        refine lv_topi (fun x_16996 ex_16996 => ?_)
        refine lv_iadd hx hb dX12_one_64 ?_
        refine lv_topi (fun x_16997 ex_16997 => ?_)
        refine lv_iconst (v := 1) hx hb dX12_one_65 (by decide) ?_
        refine lv_iadd hx hb dX12_one_66 ?_
        refine lv_topi (fun x_16998 ex_16998 => ?_)
        have B_16999 : bn 115 125 x_16998 := bn_w (bn_eq ex_16998 (bn_add (bn_eq ex_16997 (bn_add (show bn 114 114 (114 : Int32) from bn_k (by decide)) (bn_eq ex_16996 (bn_mul (show bn 2 2 (2 : Int32) from bn_k (by decide)) B_16988 (by decide))) (by decide))) (show bn 1 1 (1 : Int32) from bn_k (by decide)) (by decide))) (by decide)
        refine lv_iload_n hx hb dX12_one_67 rfl (lv_at hl 2 rfl) ?_
        refine pg_iast S Y p_ad_1_0 (vp_bn B_16999 (by decide)) dX12_one_68 (fun f_17001 H locs ef_17001 Y => ?_)
        obtain ⟨g_17000, eg_17000⟩ : ∃ z, z = upd (g_16992) (x_16998 : Int32).toNatClampNeg i2 := ⟨_, rfl⟩
        rw [← eg_17000] at ef_17001
        have p_ad_0_0 := p_ad_0_0.up ef_17001 (I.ne (k := 0) (j := 0) (k' := 1) (j' := 0) (by decide) (by decide) (Or.inl (by decide)))
        have p_ad_1_0 := p_ad_1_0.me ef_17001
        have o_17002 : (IA 0 0 14 9999 w) g_17000 := (by rw [eg_17000]; exact (IA_free o_16994 (fr_of B_16999 (by decide))))
        have I := I.up (k := 1) (j := 0) (by decide) ef_17001 (okE_a (g := g_17000) o_17002)
        have q_17003 : g_17000 (0 : Int32).toNatClampNeg = v_16986 := by rw [eg_17000]; exact (pk_un (nq_of B_16999 (by decide))).trans q_16995
        refine lv_aload_n hx hb dX12_one_69 rfl (lv_at hl 0 rfl) ?_
        refine pg_get S Y ok_X12 0 (by decide) kf12_7 (v := .ref (ad 1 0)) p_ad_0_0 rfl dX12_one_70 ?_
        refine lv_iconst (v := 0) hx hb dX12_one_73 (by decide) ?_
        refine lv_dup2_11 hx hb dX12_one_74 rfl rfl ?_
        refine pg_iald S Y (v := v_16986) p_ad_1_0 (by unfold vp_in; decide) q_17003 dX12_one_75 ?_
        refine lv_iconst (v := 1) hx hb dX12_one_76 (by decide) ?_
        refine lv_iadd hx hb dX12_one_77 ?_
        refine lv_topi (fun x_17004 ex_17004 => ?_)
        refine pg_iast S Y p_ad_1_0 (by unfold vp_in; decide) dX12_one_78 (fun f_17006 H locs ef_17006 Y => ?_)
        obtain ⟨g_17005, eg_17005⟩ : ∃ z, z = upd (g_17000) (0 : Int32).toNatClampNeg x_17004 := ⟨_, rfl⟩
        rw [← eg_17005] at ef_17006
        have p_ad_0_0 := p_ad_0_0.up ef_17006 (I.ne (k := 0) (j := 0) (k' := 1) (j' := 0) (by decide) (by decide) (Or.inl (by decide)))
        have p_ad_1_0 := p_ad_1_0.me ef_17006
        have o_17007 : (IA 0 0 14 9999 w) g_17005 := (by rw [eg_17005]; exact (IA_s0 o_17002 (bn_w (bn_eq ex_17004 (bn_add B_16988 (show bn 1 1 (1 : Int32) from bn_k (by decide)) (by decide))) (by decide))))
        have I := I.up (k := 1) (j := 0) (by decide) ef_17006 (okE_a (g := g_17005) o_17007)
        have q_17008 : g_17005 (0 : Int32).toNatClampNeg = x_17004 := by rw [eg_17005]; exact pk_us
        refine lv_aload_n hx hb dX12_one_79 rfl (lv_at hl 0 rfl) ?_
        refine pg_get S Y ok_X12 0 (by decide) kf12_7 (v := .ref (ad 1 0)) p_ad_0_0 rfl dX12_one_80 ?_
        refine lv_iconst (v := 0) hx hb dX12_one_83 (by decide) ?_
        refine pg_iald S Y (v := x_17004) p_ad_1_0 (by unfold vp_in; decide) q_17008 dX12_one_84 ?_
        refine lv_iconst (v := 1) hx hb dX12_one_85 (by decide) ?_
        refine lv_isub hx hb dX12_one_86 ?_
        refine lv_topi (fun x_17009 ex_17009 => ?_)
        exact prI (post := fun r L1 f1 => SH (spM (IA 0 0 14 9999 w) pi px pa) nnM G ad L1 f1) S Y rfl (by decide) (by decide) hA1 I dX12_one_87
      · have B_16989 : bn 6 6 v_16986 := bn_w (bn_eq c_16987 (show bn 6 6 (6 : Int32) from bn_k (by decide))) (by decide)
        refine lv_iconst (v := (-1)) hx hb dX12_one_31 (by decide) ?_
        exact prI (post := fun r L1 f1 => SH (spM (IA 0 0 14 9999 w) pi px pa) nnM G ad L1 f1) S Y rfl (by decide) (by decide) hA1 I dX12_one_32
set_option maxHeartbeats 4000000 in
set_option maxRecDepth 100000 in
theorem x_X12_kneelNow {l : Launch} {G : GG}  {L : List Nat} {f : HF} {ad : Nat → Nat → Nat} {sl : Int} {pl : Int} {oh : Int} {dh : Int} {w : WW} {pi : PIT} {g0 : Nat → Int32} {pa : (Nat → Int32) → Prop} {i1 : Int32} (I : SH (spM (IA sl pl oh dh w) pi (EQ g0) pa) nnM G ad L f) (hB : BBp sl pl oh dh w) (hX : TX g0) : PMv l yX12_kneelNow cX12_kneelNow 3 7 0 0 G [.ref (ad 0 0), .int i1] L f (fun L1 f1 => SH (spM (IA sl pl oh dh w) pi (EQ g0) pa) nnM G ad L1 f1) := by
  refine PMv.of (post := fun L1 f1 => SH (spM (IA sl pl oh dh w) pi (EQ g0) pa) nnM G ad L1 f1) (own := RX12) (by decide) rfl (Nat.le_of_ble_eq_true rfl) (fun sz p e s m args below meth c A ls hA1 hname S Y hl => ?_)
  have hx := S.hx
  have hb := S.hb
  have hl : lv_has ls 3 [(0, .ref (ad 0 0)), (1, .int i1)] := hl
  have J_2 : ∀ (n2 : Nat) (y2_2 : Int32) (L_2 : List Nat) (f_2 : HF) (H : Heap) (locs : List Loc) (ls : Array Slot), (SH (spM (IA sl pl oh dh w) pi (EQ g0) pa) nnM G ad L_2 f_2) → (bn 0 14 y2_2) → (((14 : Int) - y2_2.toInt).toNat = n2) → (DY G A s [] L_2 f_2 H locs) → (lv_has ls 3 [(0, .ref (ad 0 0)), (1, .int i1), (2, .int y2_2)]) → W p l e (rmD 7 0 0) s m args below meth c H locs (0) (0) (MQ below (va_Qv (fun (u : List Nat × HF) => (fun L1 f1 => SH (spM (IA sl pl oh dh w) pi (EQ g0) pa) nnM G ad L1 f1) u.1 u.2) (fun u t => pOut G (va_A (va_pl L f) sz) u.1 u.2 t) (va_A (va_pl L f) sz)) args s 0 0 A) (F0 m 2 ls []) := by
    intro n2
    induction n2 using Nat.strongRecOn with
    | _ n2 ih2 =>
      intro y2_2 L_2 f_2 H locs ls I b_y2_2 hm2 Y hl
      refine lv_iload_n hx hb dX12_kneelNow_2 rfl (lv_at hl 2 rfl) ?_
      refine lv_aload_n hx hb dX12_kneelNow_3 rfl (lv_at hl 0 rfl) ?_
      obtain ⟨v_17836, v_17838, v_17840, v_17842, v_17844, v_17846, v_17848, v_17850, v_17851, v_17853, v_17855, v_17857, v_17859, v_17861, v_17863, v_17865, v_17867, v_17869, p_ad_0_0, b_17837, b_17839, b_17841, b_17843, b_17845, b_17847, b_17849, b_17852, b_17854, b_17856, b_17858, b_17860, b_17862, b_17864, b_17866, b_17868, b_17870⟩ := opnM_0 (j := 0) I (by decide)
      have p_ad_0_0 : pt L_2 f_2 (ad 0 0) (.inr (12, [.ref (ad 1 0), .ref (ad 2 0), .ref (ad 3 0), .ref (ad 4 0), .int v_17836, .int v_17838, .int v_17840, .int v_17842, .int v_17844, .int v_17846, .int v_17848, .long v_17850, .int v_17851, .int v_17853, .int v_17855, .ref (ad 5 0), .ref (ad 6 0), .int v_17857, .int v_17859, .int v_17861, .int v_17863, .int v_17865, .ref (ad 7 0), .ref (ad 8 0), .ref (ad 9 0), .int v_17867, .ref (ad 10 0), .ref (ad 11 0), .ref (ad 12 0), .ref (ad 13 0), .int v_17869, .ref (ad 14 0)])) := p_ad_0_0
      refine pg_get S Y ok_X12 0 (by decide) kf12_7 (v := .ref (ad 1 0)) p_ad_0_0 rfl dX12_kneelNow_4 ?_
      refine lv_bipush (v := 13) hx hb dX12_kneelNow_7 (by decide) ?_
      obtain ⟨g_17871, p_ad_1_0, o_17872⟩ := I.opi (k := 1) (j := 0) (by decide) rfl
      have p_ad_1_0 : pt L_2 f_2 (ad 1 0) (.inl (G.2 0, 10568, .inl g_17871)) := p_ad_1_0
      obtain ⟨v_17873, ev_17873⟩ : ∃ z, z = g_17871 (13 : Int32).toNatClampNeg := ⟨_, rfl⟩
      refine pg_iald S Y (v := v_17873) p_ad_1_0 (by unfold vp_in; decide) ev_17873.symm dX12_kneelNow_9 ?_
      have bv_17873 : bn 0 14 v_17873 := bn_eq ev_17873 (bn_w (a' := 0) (b' := 14) (IA_13 o_17872) ⟨by decide, by have h9 := hB; unfold BBp at h9; omega⟩)
      refine lv_icmp_ge (tgt := 70) hx hb dX12_kneelNow_10 (by decide) (fun c_17874 => ?_) (fun c_17874 => ?_)
      · exact prV (post := fun L1 f1 => SH (spM (IA sl pl oh dh w) pi (EQ g0) pa) nnM G ad L1 f1) S Y (by decide) (by decide) hA1 I dX12_kneelNow_70
      · have B_17875 : bn 1 14 v_17873 := bn_w (bn_gtl c_17874 bv_17873 b_y2_2) (by decide)
        have B_17876 : bn 0 13 y2_2 := bn_w (bn_gtr c_17874 bv_17873 b_y2_2) (by decide)
        refine lv_aload_n hx hb dX12_kneelNow_13 rfl (lv_at hl 0 rfl) ?_
        refine lv_iload_n hx hb dX12_kneelNow_14 rfl (lv_at hl 2 rfl) ?_
        refine lv_iconst (v := 1) hx hb dX12_kneelNow_15 (by decide) ?_
        refine cVp (As := [.int y2_2, .int 1]) (rest := []) S Y (x_X12_getON (l := l) I hB (bn_w B_17876 (by decide)) (bn_w (show bn 1 1 (1 : Int32) from bn_k (by decide)) (by decide))) cw_X12_get km12_73 p_ad_0_0 ok_X12.1 rfl rfl ⟨Nat.le_of_ble_eq_true rfl, Nat.le_of_ble_eq_true rfl⟩ hl.1 rfl (Nat.le_of_ble_eq_true rfl) ⟨Nat.le_of_ble_eq_true rfl, Nat.le_of_ble_eq_true rfl⟩ dX12_kneelNow_16 (fun r_17877 H locs er_17877 Y => ?_)
        refine lv_iload_n hx hb dX12_kneelNow_19 rfl (lv_at hl 1 rfl) ?_
        refine lv_icmp_ne (tgt := 64) hx hb dX12_kneelNow_20 (by decide) (fun c_17878 => ?_) (fun c_17878 => ?_)
        · obtain ⟨x_17879, ex_17879⟩ : ∃ z : Int32, z = y2_2 + 1 := ⟨_, rfl⟩
          refine lv_iinc (v := x_17879) (lv' := [(2, .int x_17879), (0, .ref (ad 0 0)), (1, .int i1)]) hx hb dX12_kneelNow_64 hl (k := 2) rfl (by rw [ex_17879]; rfl) (by decide) rfl (fun ls hl => ?_)
          refine lv_goto (tgt := 2) hx hb dX12_kneelNow_67 (by decide) ?_
          exact ih2 _ (by rw [← hm2]; exact ms_up (m := 1) ex_17879 (show bn 1 1 (1 : Int32) from bn_k (by decide)) B_17876 (bn_w (bn_eq ex_17879 (bn_add B_17876 (show bn 1 1 (1 : Int32) from bn_k (by decide)) (by decide))) (by decide) : bn 0 14 x_17879) (by decide)) x_17879 _ _  _ _ _ I (bn_w (bn_eq ex_17879 (bn_add B_17876 (show bn 1 1 (1 : Int32) from bn_k (by decide)) (by decide))) (by decide)) rfl Y (lv_sub hl [1, 2, 0] rfl)
        · refine lv_aload_n hx hb dX12_kneelNow_23 rfl (lv_at hl 0 rfl) ?_
          refine lv_iload_n hx hb dX12_kneelNow_24 rfl (lv_at hl 2 rfl) ?_
          refine lv_iconst (v := 4) hx hb dX12_kneelNow_25 (by decide) ?_
          refine cVp (As := [.int y2_2, .int 4]) (rest := []) S Y (x_X12_get (l := l) I hB (bn_w B_17876 (by decide)) (bn_w (show bn 4 4 (4 : Int32) from bn_k (by decide)) (by decide))) cw_X12_get km12_73 p_ad_0_0 ok_X12.1 rfl rfl ⟨Nat.le_of_ble_eq_true rfl, Nat.le_of_ble_eq_true rfl⟩ hl.1 rfl (Nat.le_of_ble_eq_true rfl) ⟨Nat.le_of_ble_eq_true rfl, Nat.le_of_ble_eq_true rfl⟩ dX12_kneelNow_26 (fun r_17880 H locs er_17880 Y => ?_)
          refine lv_iconst (v := 2) hx hb dX12_kneelNow_29 (by decide) ?_
          refine lv_icmp_eq (tgt := 64) hx hb dX12_kneelNow_30 (by decide) (fun c_17881 => ?_) (fun c_17881 => ?_)
          · have B_17882 : bn 2 2 r_17880 := bn_w (bn_eq c_17881 (show bn 2 2 (2 : Int32) from bn_k (by decide))) (by decide)
            obtain ⟨x_17883, ex_17883⟩ : ∃ z : Int32, z = y2_2 + 1 := ⟨_, rfl⟩
            refine lv_iinc (v := x_17883) (lv' := [(2, .int x_17883), (0, .ref (ad 0 0)), (1, .int i1)]) hx hb dX12_kneelNow_64 hl (k := 2) rfl (by rw [ex_17883]; rfl) (by decide) rfl (fun ls hl => ?_)
            refine lv_goto (tgt := 2) hx hb dX12_kneelNow_67 (by decide) ?_
            exact ih2 _ (by rw [← hm2]; exact ms_up (m := 1) ex_17883 (show bn 1 1 (1 : Int32) from bn_k (by decide)) B_17876 (bn_w (bn_eq ex_17883 (bn_add B_17876 (show bn 1 1 (1 : Int32) from bn_k (by decide)) (by decide))) (by decide) : bn 0 14 x_17883) (by decide)) x_17883 _ _  _ _ _ I (bn_w (bn_eq ex_17883 (bn_add B_17876 (show bn 1 1 (1 : Int32) from bn_k (by decide)) (by decide))) (by decide)) rfl Y (lv_sub hl [1, 2, 0] rfl)
          · refine lv_aload_n hx hb dX12_kneelNow_33 rfl (lv_at hl 0 rfl) ?_
            refine lv_iload_n hx hb dX12_kneelNow_34 rfl (lv_at hl 2 rfl) ?_
            refine lv_iconst (v := 5) hx hb dX12_kneelNow_35 (by decide) ?_
            refine lv_aload_n hx hb dX12_kneelNow_36 rfl (lv_at hl 0 rfl) ?_
            refine lv_iload_n hx hb dX12_kneelNow_37 rfl (lv_at hl 2 rfl) ?_
            refine lv_iconst (v := 5) hx hb dX12_kneelNow_38 (by decide) ?_
            refine cVp (As := [.int y2_2, .int 5]) (rest := [.int 5, .int y2_2, .ref (ad 0 0)]) S Y (x_X12_get (l := l) I hB (bn_w B_17876 (by decide)) (bn_w (show bn 5 5 (5 : Int32) from bn_k (by decide)) (by decide))) cw_X12_get km12_73 p_ad_0_0 ok_X12.1 rfl rfl ⟨Nat.le_of_ble_eq_true rfl, Nat.le_of_ble_eq_true rfl⟩ hl.1 rfl (Nat.le_of_ble_eq_true rfl) ⟨Nat.le_of_ble_eq_true rfl, Nat.le_of_ble_eq_true rfl⟩ dX12_kneelNow_39 (fun r_17884 H locs er_17884 Y => ?_)
            refine lv_aload_n hx hb dX12_kneelNow_42 rfl (lv_at hl 0 rfl) ?_
            refine lv_aload_n hx hb dX12_kneelNow_43 rfl (lv_at hl 0 rfl) ?_
            refine pg_get S Y ok_X12 0 (by decide) kf12_7 (v := .ref (ad 1 0)) p_ad_0_0 rfl dX12_kneelNow_44 ?_
            refine lv_iconst (v := 2) hx hb dX12_kneelNow_47 (by decide) ?_
            obtain ⟨v_17885, ev_17885⟩ : ∃ z, z = g_17871 (2 : Int32).toNatClampNeg := ⟨_, rfl⟩
            refine pg_iald S Y (v := v_17885) p_ad_1_0 (by unfold vp_in; decide) ev_17885.symm dX12_kneelNow_48 ?_
            have bv_17885 : bn (-1) 3 v_17885 := bn_eq ev_17885 (IA_2 o_17872)
            refine lv_iload_n hx hb dX12_kneelNow_49 rfl (lv_at hl 2 rfl) ?_
            refine cVi (As := [.int v_17885, .int y2_2]) (rest := [.int r_17884, .int 5, .int y2_2, .ref (ad 0 0)]) S Y (x_X12_wearsOf (l := l) I hB hX (bn_w bv_17885 (by decide)) (bn_w B_17876 (by decide))) cw_X12_wearsOf km12_342 p_ad_0_0 ok_X12.1 rfl rfl ⟨Nat.le_of_ble_eq_true rfl, Nat.le_of_ble_eq_true rfl⟩ hl.1 rfl (Nat.le_of_ble_eq_true rfl) ⟨Nat.le_of_ble_eq_true rfl, Nat.le_of_ble_eq_true rfl⟩ dX12_kneelNow_50 (fun r_17888 L_17886 f_17887 H locs I Y => ?_)
            refine lv_iadd hx hb dX12_kneelNow_53 ?_
            refine lv_topi (fun x_17889 ex_17889 => ?_)
            refine lv_i2l hx hb dX12_kneelNow_54 rfl ?_
            refine lv_topl (fun x_17890 ex_17890 => ?_)
            refine lv_iconst (v := 0) hx hb dX12_kneelNow_55 (by decide) ?_
            refine lv_bipush (v := 99) hx hb dX12_kneelNow_56 (by decide) ?_
            refine cSp (As := [.long x_17890, .int 0, .int 99]) (rest := [.int 5, .int y2_2, .ref (ad 0 0)]) S Y (x_X12_cut (l := l) ) cw_X12_cut km12_292 rfl ⟨Nat.le_of_ble_eq_true rfl, Nat.le_of_ble_eq_true rfl⟩ hl.1 rfl (Nat.le_of_ble_eq_true rfl) ⟨Nat.le_of_ble_eq_true rfl, Nat.le_of_ble_eq_true rfl⟩ dX12_kneelNow_58 (fun r_17891 H locs er_17891 Y => ?_)
            refine cVv (As := [.int y2_2, .int 5, .int r_17891]) (rest := []) S Y (x_X12_put (l := l) I hB (bn_w B_17876 (by decide)) (bn_w (show bn 5 5 (5 : Int32) from bn_k (by decide)) (by decide)) (fun h => absurd h (by decide))) cw_X12_put km12_326 (I.opo (k := 0) (j := 0) (by decide) rfl).choose_spec.1 ok_X12.1 rfl rfl ⟨Nat.le_of_ble_eq_true rfl, Nat.le_of_ble_eq_true rfl⟩ hl.1 rfl (Nat.le_of_ble_eq_true rfl) ⟨Nat.le_of_ble_eq_true rfl, Nat.le_of_ble_eq_true rfl⟩ dX12_kneelNow_61 (fun L_17892 f_17893 H locs I Y => ?_)
            obtain ⟨x_17894, ex_17894⟩ : ∃ z : Int32, z = y2_2 + 1 := ⟨_, rfl⟩
            refine lv_iinc (v := x_17894) (lv' := [(2, .int x_17894), (0, .ref (ad 0 0)), (1, .int i1)]) hx hb dX12_kneelNow_64 hl (k := 2) rfl (by rw [ex_17894]; rfl) (by decide) rfl (fun ls hl => ?_)
            refine lv_goto (tgt := 2) hx hb dX12_kneelNow_67 (by decide) ?_
            exact ih2 _ (by rw [← hm2]; exact ms_up (m := 1) ex_17894 (show bn 1 1 (1 : Int32) from bn_k (by decide)) B_17876 (bn_w (bn_eq ex_17894 (bn_add B_17876 (show bn 1 1 (1 : Int32) from bn_k (by decide)) (by decide))) (by decide) : bn 0 14 x_17894) (by decide)) x_17894 _ _  _ _ _ I (bn_w (bn_eq ex_17894 (bn_add B_17876 (show bn 1 1 (1 : Int32) from bn_k (by decide)) (by decide))) (by decide)) rfl Y (lv_sub hl [1, 2, 0] rfl)
  refine lv_iconst (v := 0) hx hb dX12_kneelNow_0 (by decide) ?_
  refine lv_istore_n (lv' := [(2, .int 0), (0, .ref (ad 0 0)), (1, .int i1)]) hx hb dX12_kneelNow_1 rfl hl (by decide) rfl (fun ls hl => ?_)
  exact J_2 _ 0 _ _  _ _ _ I (bn_w (show bn 0 0 (0 : Int32) from bn_k (by decide)) (by decide)) rfl Y (lv_sub hl [1, 2, 0] rfl)
set_option maxHeartbeats 4000000 in
set_option maxRecDepth 100000 in
theorem x_X12_skateNow {l : Launch} {G : GG}  {L : List Nat} {f : HF} {ad : Nat → Nat → Nat} {sl : Int} {pl : Int} {oh : Int} {dh : Int} {w : WW} {pi : PIT} {g0 : Nat → Int32} {pa : (Nat → Int32) → Prop} {i1 i2 : Int32} (I : SH (spM (IA sl pl oh dh w) pi (EQ g0) pa) nnM G ad L f) (hB : BBp sl pl oh dh w) (hX : TX g0) : PMv l yX12_skateNow cX12_skateNow 4 1 0 0 G [.ref (ad 0 0), .int i1, .int i2] L f (fun L1 f1 => SH (spM (IA sl pl oh dh w) pi (EQ g0) pa) nnM G ad L1 f1) := by
  refine PMv.of (post := fun L1 f1 => SH (spM (IA sl pl oh dh w) pi (EQ g0) pa) nnM G ad L1 f1) (own := RX12) (by decide) rfl (Nat.le_of_ble_eq_true rfl) (fun sz p e s m args below meth c A ls hA1 hname S Y hl => ?_)
  have hx := S.hx
  have hb := S.hb
  have hl : lv_has ls 4 [(0, .ref (ad 0 0)), (1, .int i1), (2, .int i2)] := hl
  have J_2 : ∀ (n2 : Nat) (y2_3 : Int32) (L_2 : List Nat) (f_2 : HF) (H : Heap) (locs : List Loc) (ls : Array Slot), (SH (spM (IA sl pl oh dh w) pi (EQ g0) pa) nnM G ad L_2 f_2) → (bn 0 14 y2_3) → (((14 : Int) - y2_3.toInt).toNat = n2) → (DY G A s [] L_2 f_2 H locs) → (lv_has ls 4 [(0, .ref (ad 0 0)), (1, .int i1), (2, .int i2), (3, .int y2_3)]) → W p l e (rmD 1 0 0) s m args below meth c H locs (0) (0) (MQ below (va_Qv (fun (u : List Nat × HF) => (fun L1 f1 => SH (spM (IA sl pl oh dh w) pi (EQ g0) pa) nnM G ad L1 f1) u.1 u.2) (fun u t => pOut G (va_A (va_pl L f) sz) u.1 u.2 t) (va_A (va_pl L f) sz)) args s 0 0 A) (F0 m 2 ls []) := by
    intro n2
    induction n2 using Nat.strongRecOn with
    | _ n2 ih2 =>
      intro y2_3 L_2 f_2 H locs ls I b_y2_3 hm2 Y hl
      refine lv_iload_n hx hb dX12_skateNow_2 rfl (lv_at hl 3 rfl) ?_
      refine lv_aload_n hx hb dX12_skateNow_3 rfl (lv_at hl 0 rfl) ?_
      obtain ⟨v_18651, v_18653, v_18655, v_18657, v_18659, v_18661, v_18663, v_18665, v_18666, v_18668, v_18670, v_18672, v_18674, v_18676, v_18678, v_18680, v_18682, v_18684, p_ad_0_0, b_18652, b_18654, b_18656, b_18658, b_18660, b_18662, b_18664, b_18667, b_18669, b_18671, b_18673, b_18675, b_18677, b_18679, b_18681, b_18683, b_18685⟩ := opnM_0 (j := 0) I (by decide)
      have p_ad_0_0 : pt L_2 f_2 (ad 0 0) (.inr (12, [.ref (ad 1 0), .ref (ad 2 0), .ref (ad 3 0), .ref (ad 4 0), .int v_18651, .int v_18653, .int v_18655, .int v_18657, .int v_18659, .int v_18661, .int v_18663, .long v_18665, .int v_18666, .int v_18668, .int v_18670, .ref (ad 5 0), .ref (ad 6 0), .int v_18672, .int v_18674, .int v_18676, .int v_18678, .int v_18680, .ref (ad 7 0), .ref (ad 8 0), .ref (ad 9 0), .int v_18682, .ref (ad 10 0), .ref (ad 11 0), .ref (ad 12 0), .ref (ad 13 0), .int v_18684, .ref (ad 14 0)])) := p_ad_0_0
      refine pg_get S Y ok_X12 0 (by decide) kf12_7 (v := .ref (ad 1 0)) p_ad_0_0 rfl dX12_skateNow_4 ?_
      refine lv_bipush (v := 13) hx hb dX12_skateNow_7 (by decide) ?_
      obtain ⟨g_18686, p_ad_1_0, o_18687⟩ := I.opi (k := 1) (j := 0) (by decide) rfl
      have p_ad_1_0 : pt L_2 f_2 (ad 1 0) (.inl (G.2 0, 10568, .inl g_18686)) := p_ad_1_0
      obtain ⟨v_18688, ev_18688⟩ : ∃ z, z = g_18686 (13 : Int32).toNatClampNeg := ⟨_, rfl⟩
      refine pg_iald S Y (v := v_18688) p_ad_1_0 (by unfold vp_in; decide) ev_18688.symm dX12_skateNow_9 ?_
      have bv_18688 : bn 0 14 v_18688 := bn_eq ev_18688 (bn_w (a' := 0) (b' := 14) (IA_13 o_18687) ⟨by decide, by have h9 := hB; unfold BBp at h9; omega⟩)
      refine lv_icmp_ge (tgt := 61) hx hb dX12_skateNow_10 (by decide) (fun c_18689 => ?_) (fun c_18689 => ?_)
      · exact prV (post := fun L1 f1 => SH (spM (IA sl pl oh dh w) pi (EQ g0) pa) nnM G ad L1 f1) S Y (by decide) (by decide) hA1 I dX12_skateNow_61
      · have B_18690 : bn 1 14 v_18688 := bn_w (bn_gtl c_18689 bv_18688 b_y2_3) (by decide)
        have B_18691 : bn 0 13 y2_3 := bn_w (bn_gtr c_18689 bv_18688 b_y2_3) (by decide)
        refine lv_aload_n hx hb dX12_skateNow_13 rfl (lv_at hl 0 rfl) ?_
        refine lv_iload_n hx hb dX12_skateNow_14 rfl (lv_at hl 3 rfl) ?_
        refine lv_iconst (v := 1) hx hb dX12_skateNow_15 (by decide) ?_
        refine cVp (As := [.int y2_3, .int 1]) (rest := []) S Y (x_X12_getON (l := l) I hB (bn_w B_18691 (by decide)) (bn_w (show bn 1 1 (1 : Int32) from bn_k (by decide)) (by decide))) cw_X12_get km12_73 p_ad_0_0 ok_X12.1 rfl rfl ⟨Nat.le_of_ble_eq_true rfl, Nat.le_of_ble_eq_true rfl⟩ hl.1 rfl (Nat.le_of_ble_eq_true rfl) ⟨Nat.le_of_ble_eq_true rfl, Nat.le_of_ble_eq_true rfl⟩ dX12_skateNow_16 (fun r_18692 H locs er_18692 Y => ?_)
        refine lv_iload_n hx hb dX12_skateNow_19 rfl (lv_at hl 1 rfl) ?_
        refine lv_icmp_ne (tgt := 55) hx hb dX12_skateNow_20 (by decide) (fun c_18693 => ?_) (fun c_18693 => ?_)
        · obtain ⟨x_18694, ex_18694⟩ : ∃ z : Int32, z = y2_3 + 1 := ⟨_, rfl⟩
          refine lv_iinc (v := x_18694) (lv' := [(3, .int x_18694), (0, .ref (ad 0 0)), (1, .int i1), (2, .int i2)]) hx hb dX12_skateNow_55 hl (k := 3) rfl (by rw [ex_18694]; rfl) (by decide) rfl (fun ls hl => ?_)
          refine lv_goto (tgt := 2) hx hb dX12_skateNow_58 (by decide) ?_
          exact ih2 _ (by rw [← hm2]; exact ms_up (m := 1) ex_18694 (show bn 1 1 (1 : Int32) from bn_k (by decide)) B_18691 (bn_w (bn_eq ex_18694 (bn_add B_18691 (show bn 1 1 (1 : Int32) from bn_k (by decide)) (by decide))) (by decide) : bn 0 14 x_18694) (by decide)) x_18694 _ _  _ _ _ I (bn_w (bn_eq ex_18694 (bn_add B_18691 (show bn 1 1 (1 : Int32) from bn_k (by decide)) (by decide))) (by decide)) rfl Y (lv_sub hl [1, 2, 3, 0] rfl)
        · refine lv_aload_n hx hb dX12_skateNow_23 rfl (lv_at hl 0 rfl) ?_
          refine lv_iload_n hx hb dX12_skateNow_24 rfl (lv_at hl 3 rfl) ?_
          refine lv_iconst (v := 2) hx hb dX12_skateNow_25 (by decide) ?_
          refine cVp (As := [.int y2_3, .int 2]) (rest := []) S Y (x_X12_get (l := l) I hB (bn_w B_18691 (by decide)) (bn_w (show bn 2 2 (2 : Int32) from bn_k (by decide)) (by decide))) cw_X12_get km12_73 p_ad_0_0 ok_X12.1 rfl rfl ⟨Nat.le_of_ble_eq_true rfl, Nat.le_of_ble_eq_true rfl⟩ hl.1 rfl (Nat.le_of_ble_eq_true rfl) ⟨Nat.le_of_ble_eq_true rfl, Nat.le_of_ble_eq_true rfl⟩ dX12_skateNow_26 (fun r_18695 H locs er_18695 Y => ?_)
          refine lv_iload_n hx hb dX12_skateNow_29 rfl (lv_at hl 2 rfl) ?_
          refine lv_icmp_ne (tgt := 55) hx hb dX12_skateNow_30 (by decide) (fun c_18696 => ?_) (fun c_18696 => ?_)
          · obtain ⟨x_18697, ex_18697⟩ : ∃ z : Int32, z = y2_3 + 1 := ⟨_, rfl⟩
            refine lv_iinc (v := x_18697) (lv' := [(3, .int x_18697), (0, .ref (ad 0 0)), (1, .int i1), (2, .int i2)]) hx hb dX12_skateNow_55 hl (k := 3) rfl (by rw [ex_18697]; rfl) (by decide) rfl (fun ls hl => ?_)
            refine lv_goto (tgt := 2) hx hb dX12_skateNow_58 (by decide) ?_
            exact ih2 _ (by rw [← hm2]; exact ms_up (m := 1) ex_18697 (show bn 1 1 (1 : Int32) from bn_k (by decide)) B_18691 (bn_w (bn_eq ex_18697 (bn_add B_18691 (show bn 1 1 (1 : Int32) from bn_k (by decide)) (by decide))) (by decide) : bn 0 14 x_18697) (by decide)) x_18697 _ _  _ _ _ I (bn_w (bn_eq ex_18697 (bn_add B_18691 (show bn 1 1 (1 : Int32) from bn_k (by decide)) (by decide))) (by decide)) rfl Y (lv_sub hl [1, 2, 3, 0] rfl)
          · refine lv_aload_n hx hb dX12_skateNow_33 rfl (lv_at hl 0 rfl) ?_
            refine lv_iload_n hx hb dX12_skateNow_34 rfl (lv_at hl 3 rfl) ?_
            refine lv_iconst (v := 5) hx hb dX12_skateNow_35 (by decide) ?_
            refine lv_aload_n hx hb dX12_skateNow_36 rfl (lv_at hl 0 rfl) ?_
            refine lv_iload_n hx hb dX12_skateNow_37 rfl (lv_at hl 3 rfl) ?_
            refine lv_iconst (v := 5) hx hb dX12_skateNow_38 (by decide) ?_
            refine cVp (As := [.int y2_3, .int 5]) (rest := [.int 5, .int y2_3, .ref (ad 0 0)]) S Y (x_X12_get (l := l) I hB (bn_w B_18691 (by decide)) (bn_w (show bn 5 5 (5 : Int32) from bn_k (by decide)) (by decide))) cw_X12_get km12_73 p_ad_0_0 ok_X12.1 rfl rfl ⟨Nat.le_of_ble_eq_true rfl, Nat.le_of_ble_eq_true rfl⟩ hl.1 rfl (Nat.le_of_ble_eq_true rfl) ⟨Nat.le_of_ble_eq_true rfl, Nat.le_of_ble_eq_true rfl⟩ dX12_skateNow_39 (fun r_18698 H locs er_18698 Y => ?_)
            refine lv_bipush (v := 30) hx hb dX12_skateNow_42 (by decide) ?_
            refine lv_iadd hx hb dX12_skateNow_44 ?_
            refine lv_topi (fun x_18699 ex_18699 => ?_)
            refine lv_i2l hx hb dX12_skateNow_45 rfl ?_
            refine lv_topl (fun x_18700 ex_18700 => ?_)
            refine lv_iconst (v := 0) hx hb dX12_skateNow_46 (by decide) ?_
            refine lv_bipush (v := 99) hx hb dX12_skateNow_47 (by decide) ?_
            refine cSp (As := [.long x_18700, .int 0, .int 99]) (rest := [.int 5, .int y2_3, .ref (ad 0 0)]) S Y (x_X12_cut (l := l) ) cw_X12_cut km12_292 rfl ⟨Nat.le_of_ble_eq_true rfl, Nat.le_of_ble_eq_true rfl⟩ hl.1 rfl (Nat.le_of_ble_eq_true rfl) ⟨Nat.le_of_ble_eq_true rfl, Nat.le_of_ble_eq_true rfl⟩ dX12_skateNow_49 (fun r_18701 H locs er_18701 Y => ?_)
            refine cVv (As := [.int y2_3, .int 5, .int r_18701]) (rest := []) S Y (x_X12_put (l := l) I hB (bn_w B_18691 (by decide)) (bn_w (show bn 5 5 (5 : Int32) from bn_k (by decide)) (by decide)) (fun h => absurd h (by decide))) cw_X12_put km12_326 p_ad_0_0 ok_X12.1 rfl rfl ⟨Nat.le_of_ble_eq_true rfl, Nat.le_of_ble_eq_true rfl⟩ hl.1 rfl (Nat.le_of_ble_eq_true rfl) ⟨Nat.le_of_ble_eq_true rfl, Nat.le_of_ble_eq_true rfl⟩ dX12_skateNow_52 (fun L_18702 f_18703 H locs I Y => ?_)
            obtain ⟨x_18704, ex_18704⟩ : ∃ z : Int32, z = y2_3 + 1 := ⟨_, rfl⟩
            refine lv_iinc (v := x_18704) (lv' := [(3, .int x_18704), (0, .ref (ad 0 0)), (1, .int i1), (2, .int i2)]) hx hb dX12_skateNow_55 hl (k := 3) rfl (by rw [ex_18704]; rfl) (by decide) rfl (fun ls hl => ?_)
            refine lv_goto (tgt := 2) hx hb dX12_skateNow_58 (by decide) ?_
            exact ih2 _ (by rw [← hm2]; exact ms_up (m := 1) ex_18704 (show bn 1 1 (1 : Int32) from bn_k (by decide)) B_18691 (bn_w (bn_eq ex_18704 (bn_add B_18691 (show bn 1 1 (1 : Int32) from bn_k (by decide)) (by decide))) (by decide) : bn 0 14 x_18704) (by decide)) x_18704 _ _  _ _ _ I (bn_w (bn_eq ex_18704 (bn_add B_18691 (show bn 1 1 (1 : Int32) from bn_k (by decide)) (by decide))) (by decide)) rfl Y (lv_sub hl [1, 2, 3, 0] rfl)
  refine lv_iconst (v := 0) hx hb dX12_skateNow_0 (by decide) ?_
  refine lv_istore_n (lv' := [(3, .int 0), (0, .ref (ad 0 0)), (1, .int i1), (2, .int i2)]) hx hb dX12_skateNow_1 rfl hl (by decide) rfl (fun ls hl => ?_)
  exact J_2 _ 0 _ _  _ _ _ I (bn_w (show bn 0 0 (0 : Int32) from bn_k (by decide)) (by decide)) rfl Y (lv_sub hl [1, 2, 3, 0] rfl)
set_option maxHeartbeats 4000000 in
set_option maxRecDepth 100000 in
theorem x_X12_pass {l : Launch} {G : GG}  {L : List Nat} {f : HF} {ad : Nat → Nat → Nat} {pl : Int} {oh : Int} {w : WW} {pi : PIT} {g0 : Nat → Int32} {pa : (Nat → Int32) → Prop} (I : SH (spM (IA 0 pl oh 9998 w) pi (EQ g0) pa) nnM G ad L f) (hB : BBp 0 pl oh 9998 w) (hX : TX g0) : PMv l yX12_pass cX12_pass 2 8 0 0 G [.ref (ad 0 0)] L f (fun L1 f1 => SH (spM (IA 0 pl oh 9999 w) pi (EQ g0) pa) nnM G ad L1 f1) := by
  refine PMv.of (post := fun L1 f1 => SH (spM (IA 0 pl oh 9999 w) pi (EQ g0) pa) nnM G ad L1 f1) (own := RX12) (by decide) rfl (Nat.le_of_ble_eq_true rfl) (fun sz p e s m args below meth c A ls hA1 hname S Y hl => ?_)
  have hx := S.hx
  have hb := S.hb
  have hl : lv_has ls 2 [(0, .ref (ad 0 0))] := hl
  have J_2 : ∀ (n2 : Nat) (y2_1 : Int32) (L_2 : List Nat) (f_2 : HF) (H : Heap) (locs : List Loc) (ls : Array Slot), (SH (spM (IA y2_1.toInt pl oh 9998 w) pi (EQ g0) pa) nnM G ad L_2 f_2) → (bn 0 6 y2_1) → (((6 : Int) - y2_1.toInt).toNat = n2) → (DY G A s [] L_2 f_2 H locs) → (lv_has ls 2 [(0, .ref (ad 0 0)), (1, .int y2_1)]) → W p l e (rmD 8 0 0) s m args below meth c H locs (0) (0) (MQ below (va_Qv (fun (u : List Nat × HF) => (fun L1 f1 => SH (spM (IA 0 pl oh 9999 w) pi (EQ g0) pa) nnM G ad L1 f1) u.1 u.2) (fun u t => pOut G (va_A (va_pl L f) sz) u.1 u.2 t) (va_A (va_pl L f) sz)) args s 0 0 A) (F0 m 2 ls []) := by
    intro n2
    induction n2 using Nat.strongRecOn with
    | _ n2 ih2 =>
      intro y2_1 L_2 f_2 H locs ls I b_y2_1 hm2 Y hl
      refine lv_iload_n hx hb dX12_pass_2 rfl (lv_at hl 1 rfl) ?_
      refine lv_aload_n hx hb dX12_pass_3 rfl (lv_at hl 0 rfl) ?_
      obtain ⟨v_19769, v_19771, v_19773, v_19775, v_19777, v_19779, v_19781, v_19783, v_19784, v_19786, v_19788, v_19790, v_19792, v_19794, v_19796, v_19798, v_19800, v_19802, p_ad_0_0, b_19770, b_19772, b_19774, b_19776, b_19778, b_19780, b_19782, b_19785, b_19787, b_19789, b_19791, b_19793, b_19795, b_19797, b_19799, b_19801, b_19803⟩ := opnM_0 (j := 0) I (by decide)
      have p_ad_0_0 : pt L_2 f_2 (ad 0 0) (.inr (12, [.ref (ad 1 0), .ref (ad 2 0), .ref (ad 3 0), .ref (ad 4 0), .int v_19769, .int v_19771, .int v_19773, .int v_19775, .int v_19777, .int v_19779, .int v_19781, .long v_19783, .int v_19784, .int v_19786, .int v_19788, .ref (ad 5 0), .ref (ad 6 0), .int v_19790, .int v_19792, .int v_19794, .int v_19796, .int v_19798, .ref (ad 7 0), .ref (ad 8 0), .ref (ad 9 0), .int v_19800, .ref (ad 10 0), .ref (ad 11 0), .ref (ad 12 0), .ref (ad 13 0), .int v_19802, .ref (ad 14 0)])) := p_ad_0_0
      refine pg_get S Y ok_X12 0 (by decide) kf12_7 (v := .ref (ad 1 0)) p_ad_0_0 rfl dX12_pass_4 ?_
      refine lv_iconst (v := 0) hx hb dX12_pass_7 (by decide) ?_
      obtain ⟨g_19804, p_ad_1_0, o_19805⟩ := I.opi (k := 1) (j := 0) (by decide) rfl
      have p_ad_1_0 : pt L_2 f_2 (ad 1 0) (.inl (G.2 0, 10568, .inl g_19804)) := p_ad_1_0
      obtain ⟨v_19806, ev_19806⟩ : ∃ z, z = g_19804 (0 : Int32).toNatClampNeg := ⟨_, rfl⟩
      refine pg_iald S Y (v := v_19806) p_ad_1_0 (by unfold vp_in; decide) ev_19806.symm dX12_pass_8 ?_
      have bv_19806 : bn 0 6 v_19806 := bn_eq ev_19806 (bn_w (a' := 0) (b' := 6) (IA_0 o_19805) ⟨by have h9 := (BB_s hB b_y2_1.2); unfold BBp at h9; omega, by decide⟩)
      refine lv_icmp_ge (tgt := 102) hx hb dX12_pass_9 (by decide) (fun c_19807 => ?_) (fun c_19807 => ?_)
      · refine lv_aload_n hx hb dX12_pass_102 rfl (lv_at hl 0 rfl) ?_
        refine pg_get S Y ok_X12 0 (by decide) kf12_7 (v := .ref (ad 1 0)) p_ad_0_0 rfl dX12_pass_103 ?_
        refine lv_bipush (v := 10) hx hb dX12_pass_106 (by decide) ?_
        refine lv_dup2_11 hx hb dX12_pass_108 rfl rfl ?_
        obtain ⟨v_19810, ev_19810⟩ : ∃ z, z = g_19804 (10 : Int32).toNatClampNeg := ⟨_, rfl⟩
        refine pg_iald S Y (v := v_19810) p_ad_1_0 (by unfold vp_in; decide) ev_19810.symm dX12_pass_109 ?_
        have bv_19810 : bn 0 9998 v_19810 := bn_eq ev_19810 (IA_10 o_19805)
        refine lv_iconst (v := 1) hx hb dX12_pass_110 (by decide) ?_
        refine lv_iadd hx hb dX12_pass_111 ?_
        refine lv_topi (fun x_19811 ex_19811 => ?_)
        refine pg_iast S Y p_ad_1_0 (by unfold vp_in; decide) dX12_pass_112 (fun f_19813 H locs ef_19813 Y => ?_)
        obtain ⟨g_19812, eg_19812⟩ : ∃ z, z = upd (g_19804) (10 : Int32).toNatClampNeg x_19811 := ⟨_, rfl⟩
        rw [← eg_19812] at ef_19813
        have p_ad_0_0 := p_ad_0_0.up ef_19813 (I.ne (k := 0) (j := 0) (k' := 1) (j' := 0) (by decide) (by decide) (Or.inl (by decide)))
        have p_ad_1_0 := p_ad_1_0.me ef_19813
        have o_19814 : (IA 0 pl oh 9999 w) g_19812 := (by rw [eg_19812]; refine IA_day o_19805 (bn_w (bn_eq ex_19811 (bn_add bv_19810 (show bn 1 1 (1 : Int32) from bn_k (by decide)) (by decide))) (by decide)) ?_; have z1 := la_add ex_19811 rfl rfl bv_19810 (show bn 1 1 (1 : Int32) from bn_k (by decide)) (by decide); have z3 : g_19804 10 = v_19810 := ev_19810.symm; have z4 := b_y2_1.2; rw [z3]; rw [show (1 : Int32).toInt = 1 from rfl] at z1; omega)
        have I := I.upS (sp' := spM (IA 0 pl oh 9999 w) pi (EQ g0) pa) (k := 1) (j := 0) (by decide) ef_19813 (okE_a (g := g_19812) o_19814) pAC
        have q_19815 : g_19812 (0 : Int32).toNatClampNeg = v_19806 := by rw [eg_19812]; exact (pk_un (by decide)).trans ev_19806.symm
        have q_19816 : g_19812 (10 : Int32).toNatClampNeg = x_19811 := by rw [eg_19812]; exact pk_us
        refine lv_aload_n hx hb dX12_pass_113 rfl (lv_at hl 0 rfl) ?_
        refine pg_get S Y ok_X12 0 (by decide) kf12_7 (v := .ref (ad 1 0)) p_ad_0_0 rfl dX12_pass_114 ?_
        refine lv_bipush (v := 11) hx hb dX12_pass_117 (by decide) ?_
        refine lv_aload_n hx hb dX12_pass_119 rfl (lv_at hl 0 rfl) ?_
        refine pg_get S Y ok_X12 0 (by decide) kf12_7 (v := .ref (ad 1 0)) p_ad_0_0 rfl dX12_pass_120 ?_
        refine lv_bipush (v := 12) hx hb dX12_pass_123 (by decide) ?_
        obtain ⟨v_19817, ev_19817⟩ : ∃ z, z = g_19812 (12 : Int32).toNatClampNeg := ⟨_, rfl⟩
        refine pg_iald S Y (v := v_19817) p_ad_1_0 (by unfold vp_in; decide) ev_19817.symm dX12_pass_125 ?_
        have bv_19817 : bn 0 30448 v_19817 := bn_eq ev_19817 (IA_12 o_19814)
        refine lv_bipush (v := 10) hx hb dX12_pass_126 (by decide) ?_
        refine lv_irem hx hb dX12_pass_128 (by decide) ?_
        refine lv_topi (fun x_19818 ex_19818 => ?_)
        refine pg_iast S Y p_ad_1_0 (by unfold vp_in; decide) dX12_pass_129 (fun f_19820 H locs ef_19820 Y => ?_)
        obtain ⟨g_19819, eg_19819⟩ : ∃ z, z = upd (g_19812) (11 : Int32).toNatClampNeg x_19818 := ⟨_, rfl⟩
        rw [← eg_19819] at ef_19820
        have p_ad_0_0 := p_ad_0_0.up ef_19820 (I.ne (k := 0) (j := 0) (k' := 1) (j' := 0) (by decide) (by decide) (Or.inl (by decide)))
        have p_ad_1_0 := p_ad_1_0.me ef_19820
        have o_19821 : (IA 0 pl oh 9999 w) g_19819 := (by rw [eg_19819]; exact (IA_free o_19814 (by unfold frC; decide)))
        have I := I.up (k := 1) (j := 0) (by decide) ef_19820 (okE_a (g := g_19819) o_19821)
        have q_19822 : g_19819 (0 : Int32).toNatClampNeg = v_19806 := by rw [eg_19819]; exact (pk_un (by decide)).trans q_19815
        have q_19823 : g_19819 (10 : Int32).toNatClampNeg = x_19811 := by rw [eg_19819]; exact (pk_un (by decide)).trans q_19816
        have q_19824 : g_19819 (12 : Int32).toNatClampNeg = v_19817 := by rw [eg_19819]; exact (pk_un (by decide)).trans ev_19817.symm
        have q_19825 : g_19819 (11 : Int32).toNatClampNeg = x_19818 := by rw [eg_19819]; exact pk_us
        refine lv_aload_n hx hb dX12_pass_130 rfl (lv_at hl 0 rfl) ?_
        refine cVv (As := []) (rest := []) S Y (x_X12_anew (l := l) I (BB_s (BB_dh hB (by decide)) (by decide))) cw_X12_anew km12_320 p_ad_0_0 ok_X12.1 rfl rfl ⟨Nat.le_of_ble_eq_true rfl, Nat.le_of_ble_eq_true rfl⟩ hl.1 rfl (Nat.le_of_ble_eq_true rfl) ⟨Nat.le_of_ble_eq_true rfl, Nat.le_of_ble_eq_true rfl⟩ dX12_pass_131 (fun L_19826 f_19827 H locs I Y => ?_)
        exact prV (post := fun L1 f1 => SH (spM (IA 0 pl oh 9999 w) pi (EQ g0) pa) nnM G ad L1 f1) S Y (by decide) (by decide) hA1 I dX12_pass_134
      · have B_19808 : bn 1 6 v_19806 := bn_w (bn_gtl c_19807 bv_19806 b_y2_1) (by decide)
        have B_19809 : bn 0 5 y2_1 := bn_w (bn_gtr c_19807 bv_19806 b_y2_1) (by decide)
        refine lv_aload_n hx hb dX12_pass_12 rfl (lv_at hl 0 rfl) ?_
        refine pg_get S Y ok_X12 26 (by decide) kf12_50 (v := .ref (ad 10 0)) p_ad_0_0 rfl dX12_pass_13 ?_
        refine lv_iload_n hx hb dX12_pass_16 rfl (lv_at hl 1 rfl) ?_
        refine lv_aload_n hx hb dX12_pass_17 rfl (lv_at hl 0 rfl) ?_
        refine lv_iload_n hx hb dX12_pass_18 rfl (lv_at hl 1 rfl) ?_
        refine cVi (As := [.int y2_1]) (rest := [.int y2_1, .ref (ad 10 0)]) S Y (x_X12_acheOf (l := l) I (BB_s hB b_y2_1.2) hX) cw_X12_acheOf km12_317 p_ad_0_0 ok_X12.1 rfl rfl ⟨Nat.le_of_ble_eq_true rfl, Nat.le_of_ble_eq_true rfl⟩ hl.1 rfl (Nat.le_of_ble_eq_true rfl) ⟨Nat.le_of_ble_eq_true rfl, Nat.le_of_ble_eq_true rfl⟩ dX12_pass_19 (fun r_19830 L_19828 f_19829 H locs I Y => ?_)
        obtain ⟨g_19831, p_ad_10_0, o_19832⟩ := I.opi (k := 10) (j := 0) (by decide) rfl
        have p_ad_10_0 : pt L_19828 f_19829 (ad 10 0) (.inl (G.2 0, 6, .inl g_19831)) := p_ad_10_0
        refine pg_iast S Y p_ad_10_0 (vp_bn B_19809 (by decide)) dX12_pass_22 (fun f_19834 H locs ef_19834 Y => ?_)
        obtain ⟨g_19833, eg_19833⟩ : ∃ z, z = upd (g_19831) (y2_1 : Int32).toNatClampNeg r_19830 := ⟨_, rfl⟩
        rw [← eg_19833] at ef_19834
        have p_ad_10_0 := p_ad_10_0.me ef_19834
        have o_19835 : True := trivial
        have I := I.up (k := 10) (j := 0) (by decide) ef_19834 (okE_a (g := g_19833) o_19835)
        refine lv_aload_n hx hb dX12_pass_23 rfl (lv_at hl 0 rfl) ?_
        obtain ⟨v_19836, v_19838, v_19840, v_19842, v_19844, v_19846, v_19848, v_19850, v_19851, v_19853, v_19855, v_19857, v_19859, v_19861, v_19863, v_19865, v_19867, v_19869, p_ad_0_0, b_19837, b_19839, b_19841, b_19843, b_19845, b_19847, b_19849, b_19852, b_19854, b_19856, b_19858, b_19860, b_19862, b_19864, b_19866, b_19868, b_19870⟩ := opnM_0 (j := 0) I (by decide)
        have p_ad_0_0 : pt L_19828 f_19834 (ad 0 0) (.inr (12, [.ref (ad 1 0), .ref (ad 2 0), .ref (ad 3 0), .ref (ad 4 0), .int v_19836, .int v_19838, .int v_19840, .int v_19842, .int v_19844, .int v_19846, .int v_19848, .long v_19850, .int v_19851, .int v_19853, .int v_19855, .ref (ad 5 0), .ref (ad 6 0), .int v_19857, .int v_19859, .int v_19861, .int v_19863, .int v_19865, .ref (ad 7 0), .ref (ad 8 0), .ref (ad 9 0), .int v_19867, .ref (ad 10 0), .ref (ad 11 0), .ref (ad 12 0), .ref (ad 13 0), .int v_19869, .ref (ad 14 0)])) := p_ad_0_0
        refine pg_get S Y ok_X12 26 (by decide) kf12_50 (v := .ref (ad 10 0)) p_ad_0_0 rfl dX12_pass_24 ?_
        refine lv_iload_n hx hb dX12_pass_27 rfl (lv_at hl 1 rfl) ?_
        obtain ⟨v_19871, ev_19871⟩ : ∃ z, z = g_19833 (y2_1 : Int32).toNatClampNeg := ⟨_, rfl⟩
        refine pg_iald S Y (v := v_19871) p_ad_10_0 (vp_bn B_19809 (by decide)) ev_19871.symm dX12_pass_28 ?_
        refine lv_if_eq (tgt := 96) hx hb dX12_pass_29 (by decide) (fun c_19872 => ?_) (fun c_19872 => ?_)
        · have B_19873 : bn 0 0 v_19871 := bn_w (bn_eq c_19872 (show bn 0 0 (0 : Int32) from bn_k (by decide))) (by decide)
          obtain ⟨x_19874, ex_19874⟩ : ∃ z : Int32, z = y2_1 + 1 := ⟨_, rfl⟩
          refine lv_iinc (v := x_19874) (lv' := [(1, .int x_19874), (0, .ref (ad 0 0))]) hx hb dX12_pass_96 hl (k := 1) rfl (by rw [ex_19874]; rfl) (by decide) rfl (fun ls hl => ?_)
          refine lv_goto (tgt := 2) hx hb dX12_pass_99 (by decide) ?_
          have I : SH (spM (IA x_19874.toInt pl oh 9998 w) pi (EQ g0) pa) nnM G ad L_19828 f_19834 := SHpA I (fun g h => IA_sm h (by have z9 := (la_add ex_19874 (rfl : y2_1.toInt = y2_1.toInt) (show (1 : Int32).toInt = 1 from rfl) B_19809 (show bn 1 1 (1 : Int32) from bn_k (by decide)) (by decide)); omega))
          exact ih2 _ (by rw [← hm2]; exact ms_up (m := 1) ex_19874 (show bn 1 1 (1 : Int32) from bn_k (by decide)) B_19809 (bn_w (bn_eq ex_19874 (bn_add B_19809 (show bn 1 1 (1 : Int32) from bn_k (by decide)) (by decide))) (by decide) : bn 0 6 x_19874) (by decide)) x_19874 _ _  _ _ _ I (bn_w (bn_eq ex_19874 (bn_add B_19809 (show bn 1 1 (1 : Int32) from bn_k (by decide)) (by decide))) (by decide)) rfl Y (lv_sub hl [1, 0] rfl)
        · refine lv_aload_n hx hb dX12_pass_32 rfl (lv_at hl 0 rfl) ?_
          refine pg_get S Y ok_X12 25 (by decide) kf12_46 (v := .int v_19867) p_ad_0_0 rfl dX12_pass_33 ?_
          refine lv_if_ne (tgt := 42) hx hb dX12_pass_36 (by decide) (fun c_19875 => ?_) (fun c_19875 => ?_)
          · have B_19876 : bn 1 1 v_19867 := bn_w (bn_nel c_19875 b_19868 (show bn 0 0 (0 : Int32) from bn_k (by decide))) (by decide)
            refine lv_aload_n hx hb dX12_pass_42 rfl (lv_at hl 0 rfl) ?_
            refine pg_get S Y ok_X12 0 (by decide) kf12_7 (v := .ref (ad 1 0)) p_ad_0_0 rfl dX12_pass_43 ?_
            refine lv_sipush (v := 3328) hx hb dX12_pass_46 (by decide) ?_
            refine lv_aload_n hx hb dX12_pass_49 rfl (lv_at hl 0 rfl) ?_
            refine pg_get S Y ok_X12 0 (by decide) kf12_7 (v := .ref (ad 1 0)) p_ad_0_0 rfl dX12_pass_50 ?_
            refine lv_bipush (v := 14) hx hb dX12_pass_53 (by decide) ?_
            obtain ⟨g_19878, p_ad_1_0, o_19879⟩ := I.opi (k := 1) (j := 0) (by decide) rfl
            have p_ad_1_0 : pt L_19828 f_19834 (ad 1 0) (.inl (G.2 0, 10568, .inl g_19878)) := p_ad_1_0
            obtain ⟨v_19880, ev_19880⟩ : ∃ z, z = g_19878 (14 : Int32).toNatClampNeg := ⟨_, rfl⟩
            refine pg_iald S Y (v := v_19880) p_ad_1_0 (by unfold vp_in; decide) ev_19880.symm dX12_pass_55 ?_
            have bv_19880 : bn 0 60000 v_19880 := bn_eq ev_19880 (IA_14 o_19879 (by have h9 := (BB_s hB b_y2_1.2); unfold BBp at h9; omega) (by have h9 := (BB_s hB b_y2_1.2); unfold BBp at h9; omega))
            refine lv_sipush (v := 7240) hx hb dX12_pass_56 (by decide) ?_
            refine lv_irem hx hb dX12_pass_59 (by decide) ?_
            refine lv_topi (fun x_19881 ex_19881 => ?_)
            refine lv_iadd hx hb dX12_pass_60 ?_
            refine lv_topi (fun x_19882 ex_19882 => ?_)
            refine lv_aload_n hx hb dX12_pass_61 rfl (lv_at hl 0 rfl) ?_
            refine pg_get S Y ok_X12 0 (by decide) kf12_7 (v := .ref (ad 1 0)) p_ad_0_0 rfl dX12_pass_62 ?_
            refine lv_bipush (v := 10) hx hb dX12_pass_65 (by decide) ?_
            obtain ⟨v_19883, ev_19883⟩ : ∃ z, z = g_19878 (10 : Int32).toNatClampNeg := ⟨_, rfl⟩
            refine pg_iald S Y (v := v_19883) p_ad_1_0 (by unfold vp_in; decide) ev_19883.symm dX12_pass_67 ?_
            have bv_19883 : bn 0 9998 v_19883 := bn_eq ev_19883 (IA_10 o_19879)
            refine lv_bipush (v := 8) hx hb dX12_pass_68 (by decide) ?_
            refine lv_imul hx hb dX12_pass_70 ?_
            refine lv_topi (fun x_19884 ex_19884 => ?_)
            refine lv_iload_n hx hb dX12_pass_71 rfl (lv_at hl 1 rfl) ?_
            refine lv_iadd hx hb dX12_pass_72 ?_
            refine lv_topi (fun x_19885 ex_19885 => ?_)
            refine lv_sipush (v := 2000) hx hb dX12_pass_73 (by decide) ?_
            refine lv_imul hx hb dX12_pass_76 ?_
            refine lv_topi (fun x_19886 ex_19886 => ?_)
            refine lv_aload_n hx hb dX12_pass_77 rfl (lv_at hl 0 rfl) ?_
            refine pg_get S Y ok_X12 26 (by decide) kf12_50 (v := .ref (ad 10 0)) p_ad_0_0 rfl dX12_pass_78 ?_
            refine lv_iload_n hx hb dX12_pass_81 rfl (lv_at hl 1 rfl) ?_
            obtain ⟨v_19887, ev_19887⟩ : ∃ z, z = g_19833 (y2_1 : Int32).toNatClampNeg := ⟨_, rfl⟩
            refine pg_iald S Y (v := v_19887) p_ad_10_0 (vp_bn B_19809 (by decide)) ev_19887.symm dX12_pass_82 ?_
            refine lv_iadd hx hb dX12_pass_83 ?_
            refine lv_topi (fun x_19888 ex_19888 => ?_)
            refine pg_iast S Y p_ad_1_0 (vp_bn (bn_eq ex_19882 (bn_add (show bn 3328 3328 (3328 : Int32) from bn_k (by decide)) (bn_eq ex_19881 (bn_rem bv_19880 (show bn 7240 7240 (7240 : Int32) from bn_k (by decide)) (by decide))) (by decide))) (by decide)) dX12_pass_84 (fun f_19890 H locs ef_19890 Y => ?_)
            obtain ⟨g_19889, eg_19889⟩ : ∃ z, z = upd (g_19878) (x_19882 : Int32).toNatClampNeg x_19888 := ⟨_, rfl⟩
            rw [← eg_19889] at ef_19890
            have p_ad_10_0 := p_ad_10_0.up ef_19890 (I.ne (k := 10) (j := 0) (k' := 1) (j' := 0) (by decide) (by decide) (Or.inl (by decide)))
            have p_ad_0_0 := p_ad_0_0.up ef_19890 (I.ne (k := 0) (j := 0) (k' := 1) (j' := 0) (by decide) (by decide) (Or.inl (by decide)))
            have p_ad_1_0 := p_ad_1_0.me ef_19890
            have o_19891 : (IA y2_1.toInt pl oh 9998 w) g_19889 := (by rw [eg_19889]; exact (IA_free o_19879 (fr_of (bn_eq ex_19882 (bn_add (show bn 3328 3328 (3328 : Int32) from bn_k (by decide)) (bn_eq ex_19881 (bn_rem bv_19880 (show bn 7240 7240 (7240 : Int32) from bn_k (by decide)) (by decide))) (by decide))) (by decide))))
            have I := I.up (k := 1) (j := 0) (by decide) ef_19890 (okE_a (g := g_19889) o_19891)
            have q_19892 : g_19889 (14 : Int32).toNatClampNeg = v_19880 := by rw [eg_19889]; exact (pk_un (nq_of (bn_eq ex_19882 (bn_add (show bn 3328 3328 (3328 : Int32) from bn_k (by decide)) (bn_eq ex_19881 (bn_rem bv_19880 (show bn 7240 7240 (7240 : Int32) from bn_k (by decide)) (by decide))) (by decide))) (by decide))).trans ev_19880.symm
            have q_19893 : g_19889 (10 : Int32).toNatClampNeg = v_19883 := by rw [eg_19889]; exact (pk_un (nq_of (bn_eq ex_19882 (bn_add (show bn 3328 3328 (3328 : Int32) from bn_k (by decide)) (bn_eq ex_19881 (bn_rem bv_19880 (show bn 7240 7240 (7240 : Int32) from bn_k (by decide)) (by decide))) (by decide))) (by decide))).trans ev_19883.symm
            refine lv_aload_n hx hb dX12_pass_85 rfl (lv_at hl 0 rfl) ?_
            refine pg_get S Y ok_X12 0 (by decide) kf12_7 (v := .ref (ad 1 0)) p_ad_0_0 rfl dX12_pass_86 ?_
            refine lv_bipush (v := 14) hx hb dX12_pass_89 (by decide) ?_
            refine lv_dup2_11 hx hb dX12_pass_91 rfl rfl ?_
            refine pg_iald S Y (v := v_19880) p_ad_1_0 (by unfold vp_in; decide) q_19892 dX12_pass_92 ?_
            refine lv_iconst (v := 1) hx hb dX12_pass_93 (by decide) ?_
            refine lv_iadd hx hb dX12_pass_94 ?_
            refine lv_topi (fun x_19894 ex_19894 => ?_)
            refine pg_iast S Y p_ad_1_0 (by unfold vp_in; decide) dX12_pass_95 (fun f_19896 H locs ef_19896 Y => ?_)
            obtain ⟨g_19895, eg_19895⟩ : ∃ z, z = upd (g_19889) (14 : Int32).toNatClampNeg x_19894 := ⟨_, rfl⟩
            rw [← eg_19895] at ef_19896
            have p_ad_10_0 := p_ad_10_0.up ef_19896 (I.ne (k := 10) (j := 0) (k' := 1) (j' := 0) (by decide) (by decide) (Or.inl (by decide)))
            have p_ad_0_0 := p_ad_0_0.up ef_19896 (I.ne (k := 0) (j := 0) (k' := 1) (j' := 0) (by decide) (by decide) (Or.inl (by decide)))
            have p_ad_1_0 := p_ad_1_0.me ef_19896
            have o_19897 : (IA (y2_1.toInt + 1) pl oh 9998 w) g_19895 := (by rw [eg_19895]; refine IA_wr o_19891 ?_ ?_ <;> (have z1 := la_add ex_19894 rfl rfl bv_19880 (show bn 1 1 (1 : Int32) from bn_k (by decide)) (by decide); have z2 := (IA_ld o_19891).2.2.2.1; have z3 : g_19889 14 = v_19880 := q_19892; have z4 := (bv_19880).1; rw [show 10 + 4 = 14 from rfl, z3] at z2; rw [show (1 : Int32).toInt = 1 from rfl] at z1; omega))
            have I := I.upS (sp' := spM (IA (y2_1.toInt + 1) pl oh 9998 w) pi (EQ g0) pa) (k := 1) (j := 0) (by decide) ef_19896 (okE_a (g := g_19895) o_19897) pAC
            have q_19898 : g_19895 (10 : Int32).toNatClampNeg = v_19883 := by rw [eg_19895]; exact (pk_un (by decide)).trans q_19893
            have q_19899 : g_19895 (14 : Int32).toNatClampNeg = x_19894 := by rw [eg_19895]; exact pk_us
            obtain ⟨x_19900, ex_19900⟩ : ∃ z : Int32, z = y2_1 + 1 := ⟨_, rfl⟩
            refine lv_iinc (v := x_19900) (lv' := [(1, .int x_19900), (0, .ref (ad 0 0))]) hx hb dX12_pass_96 hl (k := 1) rfl (by rw [ex_19900]; rfl) (by decide) rfl (fun ls hl => ?_)
            refine lv_goto (tgt := 2) hx hb dX12_pass_99 (by decide) ?_
            have I : SH (spM (IA x_19900.toInt pl oh 9998 w) pi (EQ g0) pa) nnM G ad L_19828 f_19896 := SHpA I (fun g h => IA_sm h (by have z9 := (la_add ex_19900 (rfl : y2_1.toInt = y2_1.toInt) (show (1 : Int32).toInt = 1 from rfl) B_19809 (show bn 1 1 (1 : Int32) from bn_k (by decide)) (by decide)); omega))
            exact ih2 _ (by rw [← hm2]; exact ms_up (m := 1) ex_19900 (show bn 1 1 (1 : Int32) from bn_k (by decide)) B_19809 (bn_w (bn_eq ex_19900 (bn_add B_19809 (show bn 1 1 (1 : Int32) from bn_k (by decide)) (by decide))) (by decide) : bn 0 6 x_19900) (by decide)) x_19900 _ _  _ _ _ I (bn_w (bn_eq ex_19900 (bn_add B_19809 (show bn 1 1 (1 : Int32) from bn_k (by decide)) (by decide))) (by decide)) rfl Y (lv_sub hl [1, 0] rfl)
          · have B_19877 : bn 0 0 v_19867 := bn_w (bn_eq c_19875 (show bn 0 0 (0 : Int32) from bn_k (by decide))) (by decide)
            refine lv_goto (tgt := 96) hx hb dX12_pass_39 (by decide) ?_
            obtain ⟨x_19901, ex_19901⟩ : ∃ z : Int32, z = y2_1 + 1 := ⟨_, rfl⟩
            refine lv_iinc (v := x_19901) (lv' := [(1, .int x_19901), (0, .ref (ad 0 0))]) hx hb dX12_pass_96 hl (k := 1) rfl (by rw [ex_19901]; rfl) (by decide) rfl (fun ls hl => ?_)
            refine lv_goto (tgt := 2) hx hb dX12_pass_99 (by decide) ?_
            have I : SH (spM (IA x_19901.toInt pl oh 9998 w) pi (EQ g0) pa) nnM G ad L_19828 f_19834 := SHpA I (fun g h => IA_sm h (by have z9 := (la_add ex_19901 (rfl : y2_1.toInt = y2_1.toInt) (show (1 : Int32).toInt = 1 from rfl) B_19809 (show bn 1 1 (1 : Int32) from bn_k (by decide)) (by decide)); omega))
            exact ih2 _ (by rw [← hm2]; exact ms_up (m := 1) ex_19901 (show bn 1 1 (1 : Int32) from bn_k (by decide)) B_19809 (bn_w (bn_eq ex_19901 (bn_add B_19809 (show bn 1 1 (1 : Int32) from bn_k (by decide)) (by decide))) (by decide) : bn 0 6 x_19901) (by decide)) x_19901 _ _  _ _ _ I (bn_w (bn_eq ex_19901 (bn_add B_19809 (show bn 1 1 (1 : Int32) from bn_k (by decide)) (by decide))) (by decide)) rfl Y (lv_sub hl [1, 0] rfl)
  refine lv_iconst (v := 0) hx hb dX12_pass_0 (by decide) ?_
  refine lv_istore_n (lv' := [(1, .int 0), (0, .ref (ad 0 0))]) hx hb dX12_pass_1 rfl hl (by decide) rfl (fun ls hl => ?_)
  have I : SH (spM (IA (0 : Int32).toInt pl oh 9998 w) pi (EQ g0) pa) nnM G ad L f := I
  exact J_2 _ 0 _ _  _ _ _ I (bn_w (show bn 0 0 (0 : Int32) from bn_k (by decide)) (by decide)) rfl Y (lv_sub hl [1, 0] rfl)
