theorem dX12_says_0 : decode cX12_says 0 = .ok (.iconst 0, 1) := by decide +kernel
theorem dX12_says_1 : decode cX12_says 1 = .ok (.istore 5, 2) := by decide +kernel
theorem dX12_says_3 : decode cX12_says 3 = .ok (.iload_n 1, 1) := by decide +kernel
theorem dX12_says_4 : decode cX12_says 4 = .ok (.ifCond .lt 59, 3) := by decide +kernel
theorem dX12_says_63 : decode cX12_says 63 = .ok (.iload_n 3, 1) := by decide +kernel
theorem dX12_says_64 : decode cX12_says 64 = .ok (.i2l, 1) := by decide +kernel
theorem dX12_says_65 : decode cX12_says 65 = .ok (.iconst 0, 1) := by decide +kernel
theorem dX12_says_66 : decode cX12_says 66 = .ok (.iload 4, 2) := by decide +kernel
theorem dX12_says_68 : decode cX12_says 68 = .ok (.invokestatic 292, 3) := by decide +kernel
theorem cw_X12_cut : CWs yX12_cut cX12_cut 4 (some .int) 3 := ⟨⟨⟨List.mem_of_getElem? (i := 137) (by decide +kernel), by decide +kernel⟩, ⟨List.mem_of_getElem? (i := 1884) (by decide +kernel), by decide +kernel⟩, by decide +kernel⟩, ⟨List.mem_of_getElem? (i := 1883) (by decide +kernel), by decide +kernel⟩⟩
theorem km12_292 : inW (Cond.methodLink RX12 292 yX12_cut) := ⟨List.mem_of_getElem? (i := 1882) (by decide +kernel), by decide +kernel⟩
theorem dX12_says_71 : decode cX12_says 71 = .ok (.ireturn, 1) := by decide +kernel
theorem dX12_says_7 : decode cX12_says 7 = .ok (.iload 5, 2) := by decide +kernel
theorem dX12_says_9 : decode cX12_says 9 = .ok (.aload_n 0, 1) := by decide +kernel
theorem dX12_says_10 : decode cX12_says 10 = .ok (.getfield 16, 3) := by decide +kernel
theorem dX12_says_13 : decode cX12_says 13 = .ok (.sipush 729, 3) := by decide +kernel
theorem dX12_says_16 : decode cX12_says 16 = .ok (.iload_n 1, 1) := by decide +kernel
theorem dX12_says_17 : decode cX12_says 17 = .ok (.imul, 1) := by decide +kernel
theorem dX12_says_18 : decode cX12_says 18 = .ok (.iaload, 1) := by decide +kernel
theorem dX12_says_19 : decode cX12_says 19 = .ok (.if_icmp .ge 44, 3) := by decide +kernel
theorem dX12_says_22 : decode cX12_says 22 = .ok (.aload_n 0, 1) := by decide +kernel
theorem dX12_says_23 : decode cX12_says 23 = .ok (.getfield 16, 3) := by decide +kernel
theorem dX12_says_26 : decode cX12_says 26 = .ok (.sipush 729, 3) := by decide +kernel
theorem dX12_says_29 : decode cX12_says 29 = .ok (.iload_n 1, 1) := by decide +kernel
theorem dX12_says_30 : decode cX12_says 30 = .ok (.imul, 1) := by decide +kernel
theorem dX12_says_31 : decode cX12_says 31 = .ok (.iconst 1, 1) := by decide +kernel
theorem dX12_says_32 : decode cX12_says 32 = .ok (.iadd, 1) := by decide +kernel
theorem dX12_says_33 : decode cX12_says 33 = .ok (.iconst 5, 1) := by decide +kernel
theorem dX12_says_34 : decode cX12_says 34 = .ok (.iload 5, 2) := by decide +kernel
theorem dX12_says_36 : decode cX12_says 36 = .ok (.imul, 1) := by decide +kernel
theorem dX12_says_37 : decode cX12_says 37 = .ok (.iadd, 1) := by decide +kernel
theorem dX12_says_38 : decode cX12_says 38 = .ok (.iaload, 1) := by decide +kernel
theorem dX12_says_39 : decode cX12_says 39 = .ok (.iload_n 2, 1) := by decide +kernel
theorem dX12_says_40 : decode cX12_says 40 = .ok (.if_icmp .ne 17, 3) := by decide +kernel
theorem dX12_says_57 : decode cX12_says 57 = .ok (.iinc 5 1, 3) := by decide +kernel
theorem dX12_says_60 : decode cX12_says 60 = .ok (.goto (-57), 3) := by decide +kernel
theorem dX12_says_43 : decode cX12_says 43 = .ok (.aload_n 0, 1) := by decide +kernel
theorem dX12_says_44 : decode cX12_says 44 = .ok (.iload_n 1, 1) := by decide +kernel
theorem dX12_says_45 : decode cX12_says 45 = .ok (.iload 5, 2) := by decide +kernel
theorem dX12_says_47 : decode cX12_says 47 = .ok (.invokevirtual 289, 3) := by decide +kernel
theorem cw_X12_summedUp : CWv yX12_summedUp cX12_summedUp 10 (some .long) 2 := ⟨⟨⟨List.mem_of_getElem? (i := 137) (by decide +kernel), by decide +kernel⟩, ⟨List.mem_of_getElem? (i := 1848) (by decide +kernel), by decide +kernel⟩, by decide +kernel⟩, ⟨List.mem_of_getElem? (i := 1847) (by decide +kernel), by decide +kernel⟩, ⟨List.mem_of_getElem? (i := 91) (by decide +kernel), by decide +kernel⟩⟩
theorem km12_289 : inW (Cond.methodLink RX12 289 yX12_summedUp) := ⟨List.mem_of_getElem? (i := 1845) (by decide +kernel), by decide +kernel⟩
theorem dX12_says_50 : decode cX12_says 50 = .ok (.iconst 0, 1) := by decide +kernel
theorem dX12_says_51 : decode cX12_says 51 = .ok (.iload 4, 2) := by decide +kernel
theorem dX12_says_53 : decode cX12_says 53 = .ok (.invokestatic 292, 3) := by decide +kernel
theorem dX12_says_56 : decode cX12_says 56 = .ok (.ireturn, 1) := by decide +kernel
theorem dX12_name_0 : decode cX12_name 0 = .ok (.aload_n 0, 1) := by decide +kernel
theorem dX12_name_1 : decode cX12_name 1 = .ok (.getfield 35, 3) := by decide +kernel
theorem dX12_name_4 : decode cX12_name 4 = .ok (.iconst 0, 1) := by decide +kernel
theorem dX12_name_5 : decode cX12_name 5 = .ok (.aload_n 0, 1) := by decide +kernel
theorem dX12_name_6 : decode cX12_name 6 = .ok (.getfield 7, 3) := by decide +kernel
theorem dX12_name_9 : decode cX12_name 9 = .ok (.bipush 10, 2) := by decide +kernel
theorem dX12_name_11 : decode cX12_name 11 = .ok (.iaload, 1) := by decide +kernel
theorem dX12_name_12 : decode cX12_name 12 = .ok (.iastore, 1) := by decide +kernel
theorem dX12_name_13 : decode cX12_name 13 = .ok (.aload_n 0, 1) := by decide +kernel
theorem dX12_name_14 : decode cX12_name 14 = .ok (.getfield 35, 3) := by decide +kernel
theorem dX12_name_17 : decode cX12_name 17 = .ok (.iconst 1, 1) := by decide +kernel
theorem dX12_name_18 : decode cX12_name 18 = .ok (.iload_n 2, 1) := by decide +kernel
theorem dX12_name_19 : decode cX12_name 19 = .ok (.iastore, 1) := by decide +kernel
theorem dX12_name_20 : decode cX12_name 20 = .ok (.aload_n 0, 1) := by decide +kernel
theorem dX12_name_21 : decode cX12_name 21 = .ok (.getfield 35, 3) := by decide +kernel
theorem dX12_name_24 : decode cX12_name 24 = .ok (.iconst 2, 1) := by decide +kernel
theorem dX12_name_25 : decode cX12_name 25 = .ok (.aload_n 0, 1) := by decide +kernel
theorem dX12_name_26 : decode cX12_name 26 = .ok (.iload_n 1, 1) := by decide +kernel
theorem dX12_name_27 : decode cX12_name 27 = .ok (.invokevirtual 295, 3) := by decide +kernel
theorem cw_X12_toughOf : CWv yX12_toughOf cX12_toughOf 2 (some .int) 1 := ⟨⟨⟨List.mem_of_getElem? (i := 137) (by decide +kernel), by decide +kernel⟩, ⟨List.mem_of_getElem? (i := 1840) (by decide +kernel), by decide +kernel⟩, by decide +kernel⟩, ⟨List.mem_of_getElem? (i := 1839) (by decide +kernel), by decide +kernel⟩, ⟨List.mem_of_getElem? (i := 89) (by decide +kernel), by decide +kernel⟩⟩
theorem km12_295 : inW (Cond.methodLink RX12 295 yX12_toughOf) := ⟨List.mem_of_getElem? (i := 1837) (by decide +kernel), by decide +kernel⟩
theorem dX12_name_30 : decode cX12_name 30 = .ok (.iastore, 1) := by decide +kernel
theorem dX12_name_31 : decode cX12_name 31 = .ok (.aload_n 0, 1) := by decide +kernel
theorem dX12_name_32 : decode cX12_name 32 = .ok (.getfield 35, 3) := by decide +kernel
theorem dX12_name_35 : decode cX12_name 35 = .ok (.iconst 3, 1) := by decide +kernel
theorem dX12_name_36 : decode cX12_name 36 = .ok (.aload_n 0, 1) := by decide +kernel
theorem dX12_name_37 : decode cX12_name 37 = .ok (.getfield 7, 3) := by decide +kernel
theorem dX12_name_40 : decode cX12_name 40 = .ok (.bipush 114, 2) := by decide +kernel
theorem dX12_name_42 : decode cX12_name 42 = .ok (.iconst 2, 1) := by decide +kernel
theorem dX12_name_43 : decode cX12_name 43 = .ok (.iload_n 1, 1) := by decide +kernel
theorem dX12_name_44 : decode cX12_name 44 = .ok (.imul, 1) := by decide +kernel
theorem dX12_name_45 : decode cX12_name 45 = .ok (.iadd, 1) := by decide +kernel
theorem dX12_name_46 : decode cX12_name 46 = .ok (.iconst 1, 1) := by decide +kernel
theorem dX12_name_47 : decode cX12_name 47 = .ok (.iadd, 1) := by decide +kernel
theorem dX12_name_48 : decode cX12_name 48 = .ok (.iaload, 1) := by decide +kernel
theorem dX12_name_49 : decode cX12_name 49 = .ok (.iastore, 1) := by decide +kernel
theorem dX12_name_50 : decode cX12_name 50 = .ok (.aload_n 0, 1) := by decide +kernel
theorem dX12_name_51 : decode cX12_name 51 = .ok (.getfield 35, 3) := by decide +kernel
theorem dX12_name_54 : decode cX12_name 54 = .ok (.iconst 4, 1) := by decide +kernel
theorem dX12_name_55 : decode cX12_name 55 = .ok (.iload_n 1, 1) := by decide +kernel
theorem dX12_name_56 : decode cX12_name 56 = .ok (.iastore, 1) := by decide +kernel
theorem dX12_name_57 : decode cX12_name 57 = .ok (.return_, 1) := by decide +kernel
theorem dX12_nameOath_0 : decode cX12_nameOath 0 = .ok (.aload_n 0, 1) := by decide +kernel
theorem dX12_nameOath_1 : decode cX12_nameOath 1 = .ok (.aload_n 0, 1) := by decide +kernel
theorem dX12_nameOath_2 : decode cX12_nameOath 2 = .ok (.iload_n 1, 1) := by decide +kernel
theorem dX12_nameOath_3 : decode cX12_nameOath 3 = .ok (.iconst 1, 1) := by decide +kernel
theorem dX12_nameOath_4 : decode cX12_nameOath 4 = .ok (.invokevirtual 73, 3) := by decide +kernel
theorem dX12_nameOath_7 : decode cX12_nameOath 7 = .ok (.iload_n 2, 1) := by decide +kernel
theorem dX12_nameOath_8 : decode cX12_nameOath 8 = .ok (.invokevirtual 298, 3) := by decide +kernel
theorem cw_X12_name : CWv yX12_name cX12_name 3 none 2 := ⟨⟨⟨List.mem_of_getElem? (i := 137) (by decide +kernel), by decide +kernel⟩, ⟨List.mem_of_getElem? (i := 1836) (by decide +kernel), by decide +kernel⟩, by decide +kernel⟩, ⟨List.mem_of_getElem? (i := 1835) (by decide +kernel), by decide +kernel⟩, ⟨List.mem_of_getElem? (i := 88) (by decide +kernel), by decide +kernel⟩⟩
theorem km12_298 : inW (Cond.methodLink RX12 298 yX12_name) := ⟨List.mem_of_getElem? (i := 1833) (by decide +kernel), by decide +kernel⟩
theorem dX12_nameOath_11 : decode cX12_nameOath 11 = .ok (.aload_n 0, 1) := by decide +kernel
theorem dX12_nameOath_12 : decode cX12_nameOath 12 = .ok (.getfield 35, 3) := by decide +kernel
theorem dX12_nameOath_15 : decode cX12_nameOath 15 = .ok (.iconst 5, 1) := by decide +kernel
theorem dX12_nameOath_16 : decode cX12_nameOath 16 = .ok (.aload_n 0, 1) := by decide +kernel
theorem dX12_nameOath_17 : decode cX12_nameOath 17 = .ok (.iload_n 1, 1) := by decide +kernel
theorem dX12_nameOath_18 : decode cX12_nameOath 18 = .ok (.iconst 3, 1) := by decide +kernel
theorem dX12_nameOath_19 : decode cX12_nameOath 19 = .ok (.invokevirtual 73, 3) := by decide +kernel
theorem dX12_nameOath_22 : decode cX12_nameOath 22 = .ok (.iastore, 1) := by decide +kernel
theorem dX12_nameOath_23 : decode cX12_nameOath 23 = .ok (.aload_n 0, 1) := by decide +kernel
theorem dX12_nameOath_24 : decode cX12_nameOath 24 = .ok (.getfield 35, 3) := by decide +kernel
theorem dX12_nameOath_27 : decode cX12_nameOath 27 = .ok (.bipush 6, 2) := by decide +kernel
theorem dX12_nameOath_29 : decode cX12_nameOath 29 = .ok (.aload_n 0, 1) := by decide +kernel
theorem dX12_nameOath_30 : decode cX12_nameOath 30 = .ok (.iload_n 1, 1) := by decide +kernel
theorem dX12_nameOath_31 : decode cX12_nameOath 31 = .ok (.iconst 2, 1) := by decide +kernel
theorem dX12_nameOath_32 : decode cX12_nameOath 32 = .ok (.invokevirtual 73, 3) := by decide +kernel
theorem dX12_nameOath_35 : decode cX12_nameOath 35 = .ok (.iastore, 1) := by decide +kernel
theorem dX12_nameOath_36 : decode cX12_nameOath 36 = .ok (.aload_n 0, 1) := by decide +kernel
theorem dX12_nameOath_37 : decode cX12_nameOath 37 = .ok (.getfield 35, 3) := by decide +kernel
theorem dX12_nameOath_40 : decode cX12_nameOath 40 = .ok (.bipush 7, 2) := by decide +kernel
theorem dX12_nameOath_42 : decode cX12_nameOath 42 = .ok (.aload_n 0, 1) := by decide +kernel
theorem dX12_nameOath_43 : decode cX12_nameOath 43 = .ok (.iload_n 1, 1) := by decide +kernel
theorem dX12_nameOath_44 : decode cX12_nameOath 44 = .ok (.iconst 5, 1) := by decide +kernel
theorem dX12_nameOath_45 : decode cX12_nameOath 45 = .ok (.invokevirtual 73, 3) := by decide +kernel
theorem dX12_nameOath_48 : decode cX12_nameOath 48 = .ok (.iastore, 1) := by decide +kernel
theorem dX12_nameOath_49 : decode cX12_nameOath 49 = .ok (.aload_n 0, 1) := by decide +kernel
theorem dX12_nameOath_50 : decode cX12_nameOath 50 = .ok (.getfield 35, 3) := by decide +kernel
theorem dX12_nameOath_53 : decode cX12_nameOath 53 = .ok (.bipush 8, 2) := by decide +kernel
theorem dX12_nameOath_55 : decode cX12_nameOath 55 = .ok (.aload_n 0, 1) := by decide +kernel
theorem dX12_nameOath_56 : decode cX12_nameOath 56 = .ok (.getfield 7, 3) := by decide +kernel
theorem dX12_nameOath_59 : decode cX12_nameOath 59 = .ok (.bipush 10, 2) := by decide +kernel
theorem dX12_nameOath_61 : decode cX12_nameOath 61 = .ok (.iaload, 1) := by decide +kernel
theorem dX12_nameOath_62 : decode cX12_nameOath 62 = .ok (.aload_n 0, 1) := by decide +kernel
theorem dX12_nameOath_63 : decode cX12_nameOath 63 = .ok (.iload_n 1, 1) := by decide +kernel
theorem dX12_nameOath_64 : decode cX12_nameOath 64 = .ok (.bipush 6, 2) := by decide +kernel
theorem dX12_nameOath_66 : decode cX12_nameOath 66 = .ok (.invokevirtual 73, 3) := by decide +kernel
theorem dX12_nameOath_69 : decode cX12_nameOath 69 = .ok (.isub, 1) := by decide +kernel
theorem dX12_nameOath_70 : decode cX12_nameOath 70 = .ok (.iastore, 1) := by decide +kernel
theorem dX12_nameOath_71 : decode cX12_nameOath 71 = .ok (.aload_n 0, 1) := by decide +kernel
theorem dX12_nameOath_72 : decode cX12_nameOath 72 = .ok (.getfield 35, 3) := by decide +kernel
theorem dX12_nameOath_75 : decode cX12_nameOath 75 = .ok (.bipush 9, 2) := by decide +kernel
theorem dX12_nameOath_77 : decode cX12_nameOath 77 = .ok (.aload_n 0, 1) := by decide +kernel
theorem dX12_nameOath_78 : decode cX12_nameOath 78 = .ok (.iload_n 1, 1) := by decide +kernel
theorem dX12_nameOath_79 : decode cX12_nameOath 79 = .ok (.iconst 0, 1) := by decide +kernel
theorem dX12_nameOath_80 : decode cX12_nameOath 80 = .ok (.invokevirtual 73, 3) := by decide +kernel
theorem dX12_nameOath_83 : decode cX12_nameOath 83 = .ok (.iastore, 1) := by decide +kernel
theorem dX12_nameOath_84 : decode cX12_nameOath 84 = .ok (.return_, 1) := by decide +kernel
theorem dX12_wearsOf_0 : decode cX12_wearsOf 0 = .ok (.aload_n 0, 1) := by decide +kernel
theorem dX12_wearsOf_1 : decode cX12_wearsOf 1 = .ok (.iload_n 2, 1) := by decide +kernel
theorem dX12_wearsOf_2 : decode cX12_wearsOf 2 = .ok (.aload_n 0, 1) := by decide +kernel
theorem dX12_wearsOf_3 : decode cX12_wearsOf 3 = .ok (.getfield 7, 3) := by decide +kernel
theorem dX12_wearsOf_6 : decode cX12_wearsOf 6 = .ok (.bipush 11, 2) := by decide +kernel
theorem dX12_wearsOf_8 : decode cX12_wearsOf 8 = .ok (.iaload, 1) := by decide +kernel
theorem dX12_wearsOf_9 : decode cX12_wearsOf 9 = .ok (.invokevirtual 301, 3) := by decide +kernel
theorem cw_X12_nameOath : CWv yX12_nameOath cX12_nameOath 3 none 2 := ⟨⟨⟨List.mem_of_getElem? (i := 137) (by decide +kernel), by decide +kernel⟩, ⟨List.mem_of_getElem? (i := 1832) (by decide +kernel), by decide +kernel⟩, by decide +kernel⟩, ⟨List.mem_of_getElem? (i := 1831) (by decide +kernel), by decide +kernel⟩, ⟨List.mem_of_getElem? (i := 87) (by decide +kernel), by decide +kernel⟩⟩
theorem km12_301 : inW (Cond.methodLink RX12 301 yX12_nameOath) := ⟨List.mem_of_getElem? (i := 1829) (by decide +kernel), by decide +kernel⟩
theorem dX12_wearsOf_12 : decode cX12_wearsOf 12 = .ok (.aload_n 0, 1) := by decide +kernel
theorem dX12_wearsOf_13 : decode cX12_wearsOf 13 = .ok (.iload_n 1, 1) := by decide +kernel
theorem dX12_wearsOf_14 : decode cX12_wearsOf 14 = .ok (.iconst 0, 1) := by decide +kernel
theorem dX12_wearsOf_15 : decode cX12_wearsOf 15 = .ok (.bipush 10, 2) := by decide +kernel
theorem dX12_wearsOf_17 : decode cX12_wearsOf 17 = .ok (.aload_n 0, 1) := by decide +kernel
theorem dX12_wearsOf_18 : decode cX12_wearsOf 18 = .ok (.getfield 35, 3) := by decide +kernel
theorem dX12_wearsOf_21 : decode cX12_wearsOf 21 = .ok (.iconst 2, 1) := by decide +kernel
theorem dX12_wearsOf_22 : decode cX12_wearsOf 22 = .ok (.iaload, 1) := by decide +kernel
theorem dX12_wearsOf_23 : decode cX12_wearsOf 23 = .ok (.isub, 1) := by decide +kernel
theorem dX12_wearsOf_24 : decode cX12_wearsOf 24 = .ok (.bipush 99, 2) := by decide +kernel
theorem dX12_wearsOf_26 : decode cX12_wearsOf 26 = .ok (.invokevirtual 304, 3) := by decide +kernel
theorem cw_X12_says : CWv yX12_says cX12_says 6 (some .int) 4 := ⟨⟨⟨List.mem_of_getElem? (i := 137) (by decide +kernel), by decide +kernel⟩, ⟨List.mem_of_getElem? (i := 1844) (by decide +kernel), by decide +kernel⟩, by decide +kernel⟩, ⟨List.mem_of_getElem? (i := 1843) (by decide +kernel), by decide +kernel⟩, ⟨List.mem_of_getElem? (i := 90) (by decide +kernel), by decide +kernel⟩⟩
theorem km12_304 : inW (Cond.methodLink RX12 304 yX12_says) := ⟨List.mem_of_getElem? (i := 1841) (by decide +kernel), by decide +kernel⟩
theorem dX12_wearsOf_29 : decode cX12_wearsOf 29 = .ok (.ireturn, 1) := by decide +kernel
theorem dX12_achesOf_0 : decode cX12_achesOf 0 = .ok (.aload_n 0, 1) := by decide +kernel
theorem dX12_achesOf_1 : decode cX12_achesOf 1 = .ok (.iload_n 1, 1) := by decide +kernel
theorem dX12_achesOf_2 : decode cX12_achesOf 2 = .ok (.iload_n 2, 1) := by decide +kernel
theorem dX12_achesOf_3 : decode cX12_achesOf 3 = .ok (.invokevirtual 301, 3) := by decide +kernel
theorem dX12_achesOf_6 : decode cX12_achesOf 6 = .ok (.aload_n 0, 1) := by decide +kernel
theorem dX12_achesOf_7 : decode cX12_achesOf 7 = .ok (.aload_n 0, 1) := by decide +kernel
theorem dX12_achesOf_8 : decode cX12_achesOf 8 = .ok (.getfield 7, 3) := by decide +kernel
theorem dX12_achesOf_11 : decode cX12_achesOf 11 = .ok (.iconst 2, 1) := by decide +kernel
theorem dX12_achesOf_12 : decode cX12_achesOf 12 = .ok (.iaload, 1) := by decide +kernel
theorem dX12_achesOf_13 : decode cX12_achesOf 13 = .ok (.iconst 1, 1) := by decide +kernel
theorem dX12_achesOf_14 : decode cX12_achesOf 14 = .ok (.aload_n 0, 1) := by decide +kernel
theorem dX12_achesOf_15 : decode cX12_achesOf 15 = .ok (.getfield 35, 3) := by decide +kernel
theorem dX12_achesOf_18 : decode cX12_achesOf 18 = .ok (.iconst 5, 1) := by decide +kernel
theorem dX12_achesOf_19 : decode cX12_achesOf 19 = .ok (.iaload, 1) := by decide +kernel
theorem dX12_achesOf_20 : decode cX12_achesOf 20 = .ok (.iload_n 2, 1) := by decide +kernel
theorem dX12_achesOf_21 : decode cX12_achesOf 21 = .ok (.imul, 1) := by decide +kernel
theorem dX12_achesOf_22 : decode cX12_achesOf 22 = .ok (.bipush 10, 2) := by decide +kernel
theorem dX12_achesOf_24 : decode cX12_achesOf 24 = .ok (.idiv, 1) := by decide +kernel
theorem dX12_achesOf_25 : decode cX12_achesOf 25 = .ok (.bipush 99, 2) := by decide +kernel
theorem dX12_achesOf_27 : decode cX12_achesOf 27 = .ok (.invokevirtual 304, 3) := by decide +kernel
theorem dX12_achesOf_30 : decode cX12_achesOf 30 = .ok (.ireturn, 1) := by decide +kernel
theorem dX12_riskOf_0 : decode cX12_riskOf 0 = .ok (.aload_n 0, 1) := by decide +kernel
theorem dX12_riskOf_1 : decode cX12_riskOf 1 = .ok (.iload_n 1, 1) := by decide +kernel
theorem dX12_riskOf_2 : decode cX12_riskOf 2 = .ok (.aload_n 0, 1) := by decide +kernel
theorem dX12_riskOf_3 : decode cX12_riskOf 3 = .ok (.getfield 7, 3) := by decide +kernel
theorem dX12_riskOf_6 : decode cX12_riskOf 6 = .ok (.bipush 11, 2) := by decide +kernel
theorem dX12_riskOf_8 : decode cX12_riskOf 8 = .ok (.iaload, 1) := by decide +kernel
theorem dX12_riskOf_9 : decode cX12_riskOf 9 = .ok (.invokevirtual 298, 3) := by decide +kernel
theorem dX12_riskOf_12 : decode cX12_riskOf 12 = .ok (.aload_n 0, 1) := by decide +kernel
theorem dX12_riskOf_13 : decode cX12_riskOf 13 = .ok (.aload_n 0, 1) := by decide +kernel
theorem dX12_riskOf_14 : decode cX12_riskOf 14 = .ok (.getfield 7, 3) := by decide +kernel
theorem dX12_riskOf_17 : decode cX12_riskOf 17 = .ok (.iconst 2, 1) := by decide +kernel
theorem dX12_riskOf_18 : decode cX12_riskOf 18 = .ok (.iaload, 1) := by decide +kernel
theorem dX12_riskOf_19 : decode cX12_riskOf 19 = .ok (.iconst 2, 1) := by decide +kernel
theorem dX12_riskOf_20 : decode cX12_riskOf 20 = .ok (.bipush 10, 2) := by decide +kernel
theorem dX12_riskOf_22 : decode cX12_riskOf 22 = .ok (.aload_n 0, 1) := by decide +kernel
theorem dX12_riskOf_23 : decode cX12_riskOf 23 = .ok (.iload_n 1, 1) := by decide +kernel
theorem dX12_riskOf_24 : decode cX12_riskOf 24 = .ok (.i2l, 1) := by decide +kernel
theorem dX12_riskOf_25 : decode cX12_riskOf 25 = .ok (.invokevirtual 274, 3) := by decide +kernel
theorem dX12_riskOf_28 : decode cX12_riskOf 28 = .ok (.l2i, 1) := by decide +kernel
theorem dX12_riskOf_29 : decode cX12_riskOf 29 = .ok (.imul, 1) := by decide +kernel
theorem dX12_riskOf_30 : decode cX12_riskOf 30 = .ok (.aload_n 0, 1) := by decide +kernel
theorem dX12_riskOf_31 : decode cX12_riskOf 31 = .ok (.getfield 35, 3) := by decide +kernel
theorem dX12_riskOf_34 : decode cX12_riskOf 34 = .ok (.iconst 2, 1) := by decide +kernel
theorem dX12_riskOf_35 : decode cX12_riskOf 35 = .ok (.iaload, 1) := by decide +kernel
theorem dX12_riskOf_36 : decode cX12_riskOf 36 = .ok (.isub, 1) := by decide +kernel
theorem dX12_riskOf_37 : decode cX12_riskOf 37 = .ok (.sipush 9999, 3) := by decide +kernel
theorem dX12_riskOf_40 : decode cX12_riskOf 40 = .ok (.invokevirtual 304, 3) := by decide +kernel
theorem dX12_riskOf_43 : decode cX12_riskOf 43 = .ok (.ireturn, 1) := by decide +kernel
theorem dX12_acheOf_0 : decode cX12_acheOf 0 = .ok (.iconst 0, 1) := by decide +kernel
theorem dX12_acheOf_1 : decode cX12_acheOf 1 = .ok (.istore_n 2, 1) := by decide +kernel
theorem dX12_acheOf_2 : decode cX12_acheOf 2 = .ok (.iconst 0, 1) := by decide +kernel
theorem dX12_acheOf_3 : decode cX12_acheOf 3 = .ok (.istore_n 3, 1) := by decide +kernel
theorem dX12_acheOf_4 : decode cX12_acheOf 4 = .ok (.iload_n 3, 1) := by decide +kernel
theorem dX12_acheOf_5 : decode cX12_acheOf 5 = .ok (.aload_n 0, 1) := by decide +kernel
theorem dX12_acheOf_6 : decode cX12_acheOf 6 = .ok (.getfield 7, 3) := by decide +kernel
theorem dX12_acheOf_9 : decode cX12_acheOf 9 = .ok (.bipush 13, 2) := by decide +kernel
theorem dX12_acheOf_11 : decode cX12_acheOf 11 = .ok (.iaload, 1) := by decide +kernel
theorem dX12_acheOf_12 : decode cX12_acheOf 12 = .ok (.if_icmp .ge 52, 3) := by decide +kernel
theorem dX12_acheOf_64 : decode cX12_acheOf 64 = .ok (.iload_n 2, 1) := by decide +kernel
theorem dX12_acheOf_65 : decode cX12_acheOf 65 = .ok (.ireturn, 1) := by decide +kernel
theorem dX12_acheOf_15 : decode cX12_acheOf 15 = .ok (.aload_n 0, 1) := by decide +kernel
theorem dX12_acheOf_16 : decode cX12_acheOf 16 = .ok (.iload_n 3, 1) := by decide +kernel
theorem dX12_acheOf_17 : decode cX12_acheOf 17 = .ok (.iconst 1, 1) := by decide +kernel
theorem dX12_acheOf_18 : decode cX12_acheOf 18 = .ok (.invokevirtual 73, 3) := by decide +kernel
theorem dX12_acheOf_21 : decode cX12_acheOf 21 = .ok (.iload_n 1, 1) := by decide +kernel
theorem dX12_acheOf_22 : decode cX12_acheOf 22 = .ok (.if_icmp .ne 36, 3) := by decide +kernel
theorem dX12_acheOf_58 : decode cX12_acheOf 58 = .ok (.iinc 3 1, 3) := by decide +kernel
theorem dX12_acheOf_61 : decode cX12_acheOf 61 = .ok (.goto (-57), 3) := by decide +kernel
theorem dX12_acheOf_25 : decode cX12_acheOf 25 = .ok (.aload_n 0, 1) := by decide +kernel
theorem dX12_acheOf_26 : decode cX12_acheOf 26 = .ok (.iload_n 3, 1) := by decide +kernel
theorem dX12_acheOf_27 : decode cX12_acheOf 27 = .ok (.iconst 4, 1) := by decide +kernel
theorem dX12_acheOf_28 : decode cX12_acheOf 28 = .ok (.invokevirtual 73, 3) := by decide +kernel
theorem dX12_acheOf_31 : decode cX12_acheOf 31 = .ok (.iconst 1, 1) := by decide +kernel
theorem dX12_acheOf_32 : decode cX12_acheOf 32 = .ok (.if_icmp .ne 26, 3) := by decide +kernel
theorem dX12_acheOf_35 : decode cX12_acheOf 35 = .ok (.aload_n 0, 1) := by decide +kernel
theorem dX12_acheOf_36 : decode cX12_acheOf 36 = .ok (.iload_n 3, 1) := by decide +kernel
theorem dX12_acheOf_37 : decode cX12_acheOf 37 = .ok (.invokevirtual 77, 3) := by decide +kernel
theorem dX12_acheOf_40 : decode cX12_acheOf 40 = .ok (.ifCond .eq 18, 3) := by decide +kernel
theorem dX12_acheOf_43 : decode cX12_acheOf 43 = .ok (.iload_n 2, 1) := by decide +kernel
theorem dX12_acheOf_44 : decode cX12_acheOf 44 = .ok (.aload_n 0, 1) := by decide +kernel
theorem dX12_acheOf_45 : decode cX12_acheOf 45 = .ok (.iload_n 3, 1) := by decide +kernel
theorem dX12_acheOf_46 : decode cX12_acheOf 46 = .ok (.aload_n 0, 1) := by decide +kernel
theorem dX12_acheOf_47 : decode cX12_acheOf 47 = .ok (.getfield 7, 3) := by decide +kernel
theorem dX12_acheOf_50 : decode cX12_acheOf 50 = .ok (.bipush 11, 2) := by decide +kernel
theorem dX12_acheOf_52 : decode cX12_acheOf 52 = .ok (.iaload, 1) := by decide +kernel
theorem dX12_acheOf_53 : decode cX12_acheOf 53 = .ok (.invokevirtual 308, 3) := by decide +kernel
theorem cw_X12_achesOf : CWv yX12_achesOf cX12_achesOf 3 (some .int) 2 := ⟨⟨⟨List.mem_of_getElem? (i := 137) (by decide +kernel), by decide +kernel⟩, ⟨List.mem_of_getElem? (i := 1924) (by decide +kernel), by decide +kernel⟩, by decide +kernel⟩, ⟨List.mem_of_getElem? (i := 1923) (by decide +kernel), by decide +kernel⟩, ⟨List.mem_of_getElem? (i := 102) (by decide +kernel), by decide +kernel⟩⟩
theorem km12_308 : inW (Cond.methodLink RX12 308 yX12_achesOf) := ⟨List.mem_of_getElem? (i := 1921) (by decide +kernel), by decide +kernel⟩
theorem dX12_acheOf_56 : decode cX12_acheOf 56 = .ok (.iadd, 1) := by decide +kernel
theorem dX12_acheOf_57 : decode cX12_acheOf 57 = .ok (.istore_n 2, 1) := by decide +kernel
set_option maxHeartbeats 4000000 in
set_option maxRecDepth 100000 in
theorem x_X12_says {l : Launch} {G : GG}  {L : List Nat} {f : HF} {ad : Nat → Nat → Nat} {sl : Int} {pl : Int} {oh : Int} {dh : Int} {w : Int × Int} {pi : (Nat → Int32) → Prop} {g0 : Nat → Int32} {pa : (Nat → Int32) → Prop} {i1 i2 i3 i4 : Int32} (I : SH (spM (IA sl pl oh dh w) pi (EQ g0) pa) nnM G ad L f) (hB : BBp sl pl oh dh w) (hX : TX g0) (b_i1 : bn (-1) 3 i1) (b_i2 : bn 0 2 i2) : PMi l yX12_says cX12_says 6 .int 5 0 0 G [.ref (ad 0 0), .int i1, .int i2, .int i3, .int i4] L f (fun r L1 f1 => SH (spM (IA sl pl oh dh w) pi (EQ g0) pa) nnM G ad L1 f1) := by
  refine PMi.of (post := fun r L1 f1 => SH (spM (IA sl pl oh dh w) pi (EQ g0) pa) nnM G ad L1 f1) (own := RX12) (by decide) rfl (Nat.le_of_ble_eq_true rfl) (fun sz p e s m args below meth c A ls hA1 hname S Y hl => ?_)
  have hx := S.hx
  have hb := S.hb
  have hl : lv_has ls 6 [(0, .ref (ad 0 0)), (1, .int i1), (2, .int i2), (3, .int i3), (4, .int i4)] := hl
  have J_3 : ∀ (n3 : Nat) (y3_5 : Int32) (L_3 : List Nat) (f_3 : HF) (H : Heap) (locs : List Loc) (ls : Array Slot), (SH (spM (IA sl pl oh dh w) pi (EQ g0) pa) nnM G ad L_3 f_3) → (bn 0 24 y3_5) → (((24 : Int) - y3_5.toInt).toNat = n3) → (DY G A s [] L_3 f_3 H locs) → (lv_has ls 6 [(0, .ref (ad 0 0)), (1, .int i1), (2, .int i2), (3, .int i3), (4, .int i4), (5, .int y3_5)]) → W p l e (rmD 5 0 0) s m args below meth c H locs (0) (0) (MQ below (va_Qi (fun r (u : List Nat × HF) => (fun r L1 f1 => SH (spM (IA sl pl oh dh w) pi (EQ g0) pa) nnM G ad L1 f1) r u.1 u.2) (fun u t => pOut G (va_A (va_pl L f) sz) u.1 u.2 t) (va_A (va_pl L f) sz)) args s 0 0 A) (F0 m 3 ls []) := by
    intro n3
    induction n3 using Nat.strongRecOn with
    | _ n3 ih3 =>
      intro y3_5 L_3 f_3 H locs ls I b_y3_5 hm3 Y hl
      refine lv_iload_n hx hb dX12_says_3 rfl (lv_at hl 1 rfl) ?_
      refine lv_if_lt (tgt := 63) hx hb dX12_says_4 (by decide) (fun c_13815 => ?_) (fun c_13815 => ?_)
      · have B_13816 : bn (-1) (-1) i1 := bn_w (bn_ltl c_13815 b_i1 (show bn 0 0 (0 : Int32) from bn_k (by decide))) (by decide)
        refine lv_iload_n hx hb dX12_says_63 rfl (lv_at hl 3 rfl) ?_
        refine lv_i2l hx hb dX12_says_64 rfl ?_
        refine lv_topl (fun x_13818 ex_13818 => ?_)
        refine lv_iconst (v := 0) hx hb dX12_says_65 (by decide) ?_
        refine lv_iload hx hb dX12_says_66 (lv_at hl 4 rfl) ?_
        refine cSp (As := [.long x_13818, .int 0, .int i4]) (rest := []) S Y (x_X12_cut (l := l) ) cw_X12_cut km12_292 rfl ⟨Nat.le_of_ble_eq_true rfl, Nat.le_of_ble_eq_true rfl⟩ hl.1 rfl (Nat.le_of_ble_eq_true rfl) ⟨Nat.le_of_ble_eq_true rfl, Nat.le_of_ble_eq_true rfl⟩ dX12_says_68 (fun r_13819 H locs er_13819 Y => ?_)
        exact prI (post := fun r L1 f1 => SH (spM (IA sl pl oh dh w) pi (EQ g0) pa) nnM G ad L1 f1) S Y rfl (by decide) (by decide) hA1 I dX12_says_71
      · have B_13817 : bn 0 3 i1 := bn_w (bn_gel c_13815 b_i1 (show bn 0 0 (0 : Int32) from bn_k (by decide))) (by decide)
        refine lv_iload hx hb dX12_says_7 (lv_at hl 5 rfl) ?_
        refine lv_aload_n hx hb dX12_says_9 rfl (lv_at hl 0 rfl) ?_
        obtain ⟨v_13820, v_13822, v_13824, v_13826, v_13828, v_13830, v_13832, v_13834, v_13835, v_13837, v_13839, v_13841, v_13843, v_13845, v_13847, v_13849, v_13851, v_13853, p_ad_0_0, b_13821, b_13823, b_13825, b_13827, b_13829, b_13831, b_13833, b_13836, b_13838, b_13840, b_13842, b_13844, b_13846, b_13848, b_13850, b_13852, b_13854⟩ := opnM_0 (j := 0) I (by decide)
        have p_ad_0_0 : pt L_3 f_3 (ad 0 0) (.inr (12, [.ref (ad 1 0), .ref (ad 2 0), .ref (ad 3 0), .ref (ad 4 0), .int v_13820, .int v_13822, .int v_13824, .int v_13826, .int v_13828, .int v_13830, .int v_13832, .long v_13834, .int v_13835, .int v_13837, .int v_13839, .ref (ad 5 0), .ref (ad 6 0), .int v_13841, .int v_13843, .int v_13845, .int v_13847, .int v_13849, .ref (ad 7 0), .ref (ad 8 0), .ref (ad 9 0), .int v_13851, .ref (ad 10 0), .ref (ad 11 0), .ref (ad 12 0), .ref (ad 13 0), .int v_13853, .ref (ad 14 0)])) := p_ad_0_0
        refine pg_get S Y ok_X12 2 (by decide) kf12_16 (v := .ref (ad 3 0)) p_ad_0_0 rfl dX12_says_10 ?_
        refine lv_sipush (v := 729) hx hb dX12_says_13 (by decide) ?_
        refine lv_iload_n hx hb dX12_says_16 rfl (lv_at hl 1 rfl) ?_
        refine lv_imul hx hb dX12_says_17 ?_
        refine lv_topi (fun x_13855 ex_13855 => ?_)
        obtain ⟨g_13856, p_ad_3_0, o_13857⟩ := I.opi (k := 3) (j := 0) (by decide) rfl
        have p_ad_3_0 : pt L_3 f_3 (ad 3 0) (.inl (G.2 0, 2916, .inl g_13856)) := p_ad_3_0
        obtain ⟨v_13858, ev_13858⟩ : ∃ z, z = g_13856 (x_13855 : Int32).toNatClampNeg := ⟨_, rfl⟩
        refine pg_iald S Y (v := v_13858) p_ad_3_0 (vp_bn (bn_eq ex_13855 (bn_mul (show bn 729 729 (729 : Int32) from bn_k (by decide)) B_13817 (by decide))) (by decide)) ev_13858.symm dX12_says_18 ?_
        have tv_13858 : v_13858 = g0 (x_13855 : Int32).toNatClampNeg := by rw [ev_13858, show g_13856 = g0 from o_13857]
        have nv_13858 : v_13858 = g0 (729 * i1.toNatClampNeg) := by rw [tv_13858, show (x_13855 : Int32).toNatClampNeg = 729 * i1.toNatClampNeg from (by have z9 := (la_mul ex_13855 (show (729 : Int32).toInt = 729 from rfl) (rfl : i1.toInt = i1.toInt) (show bn 729 729 (729 : Int32) from bn_k (by decide)) B_13817 (by decide)); have z0 := B_13817.1; have z1 := b_i2.1; simp only [tnc]; omega)]
        have bv_13858 : bn 0 24 v_13858 := by rw [nv_13858]; exact (hX _ (tn_bn B_13817 (by decide))).1
        refine lv_icmp_ge (tgt := 63) hx hb dX12_says_19 (by decide) (fun c_13859 => ?_) (fun c_13859 => ?_)
        · refine lv_iload_n hx hb dX12_says_63 rfl (lv_at hl 3 rfl) ?_
          refine lv_i2l hx hb dX12_says_64 rfl ?_
          refine lv_topl (fun x_13862 ex_13862 => ?_)
          refine lv_iconst (v := 0) hx hb dX12_says_65 (by decide) ?_
          refine lv_iload hx hb dX12_says_66 (lv_at hl 4 rfl) ?_
          refine cSp (As := [.long x_13862, .int 0, .int i4]) (rest := []) S Y (x_X12_cut (l := l) ) cw_X12_cut km12_292 rfl ⟨Nat.le_of_ble_eq_true rfl, Nat.le_of_ble_eq_true rfl⟩ hl.1 rfl (Nat.le_of_ble_eq_true rfl) ⟨Nat.le_of_ble_eq_true rfl, Nat.le_of_ble_eq_true rfl⟩ dX12_says_68 (fun r_13863 H locs er_13863 Y => ?_)
          exact prI (post := fun r L1 f1 => SH (spM (IA sl pl oh dh w) pi (EQ g0) pa) nnM G ad L1 f1) S Y rfl (by decide) (by decide) hA1 I dX12_says_71
        · have B_13860 : bn 1 24 v_13858 := bn_w (bn_gtl c_13859 bv_13858 b_y3_5) (by decide)
          have B_13861 : bn 0 23 y3_5 := bn_w (bn_gtr c_13859 bv_13858 b_y3_5) (by decide)
          refine lv_aload_n hx hb dX12_says_22 rfl (lv_at hl 0 rfl) ?_
          refine pg_get S Y ok_X12 2 (by decide) kf12_16 (v := .ref (ad 3 0)) p_ad_0_0 rfl dX12_says_23 ?_
          refine lv_sipush (v := 729) hx hb dX12_says_26 (by decide) ?_
          refine lv_iload_n hx hb dX12_says_29 rfl (lv_at hl 1 rfl) ?_
          refine lv_imul hx hb dX12_says_30 ?_
          refine lv_topi (fun x_13864 ex_13864 => ?_)
          refine lv_iconst (v := 1) hx hb dX12_says_31 (by decide) ?_
          refine lv_iadd hx hb dX12_says_32 ?_
          refine lv_topi (fun x_13865 ex_13865 => ?_)
          refine lv_iconst (v := 5) hx hb dX12_says_33 (by decide) ?_
          refine lv_iload hx hb dX12_says_34 (lv_at hl 5 rfl) ?_
          refine lv_imul hx hb dX12_says_36 ?_
          refine lv_topi (fun x_13866 ex_13866 => ?_)
          refine lv_iadd hx hb dX12_says_37 ?_
          refine lv_topi (fun x_13867 ex_13867 => ?_)
          have B_13868 : bn 1 2303 x_13867 := bn_w (bn_eq ex_13867 (bn_add (bn_eq ex_13865 (bn_add (bn_eq ex_13864 (bn_mul (show bn 729 729 (729 : Int32) from bn_k (by decide)) B_13817 (by decide))) (show bn 1 1 (1 : Int32) from bn_k (by decide)) (by decide))) (bn_eq ex_13866 (bn_mul (show bn 5 5 (5 : Int32) from bn_k (by decide)) B_13861 (by decide))) (by decide))) (by decide)
          obtain ⟨v_13869, ev_13869⟩ : ∃ z, z = g_13856 (x_13867 : Int32).toNatClampNeg := ⟨_, rfl⟩
          refine pg_iald S Y (v := v_13869) p_ad_3_0 (vp_bn B_13868 (by decide)) ev_13869.symm dX12_says_38 ?_
          have tv_13869 : v_13869 = g0 (x_13867 : Int32).toNatClampNeg := by rw [ev_13869, show g_13856 = g0 from o_13857]
          refine lv_iload_n hx hb dX12_says_39 rfl (lv_at hl 2 rfl) ?_
          refine lv_icmp_ne (tgt := 57) hx hb dX12_says_40 (by decide) (fun c_13870 => ?_) (fun c_13870 => ?_)
          · obtain ⟨x_13872, ex_13872⟩ : ∃ z : Int32, z = y3_5 + 1 := ⟨_, rfl⟩
            refine lv_iinc (v := x_13872) (lv' := [(5, .int x_13872), (0, .ref (ad 0 0)), (1, .int i1), (2, .int i2), (3, .int i3), (4, .int i4)]) hx hb dX12_says_57 hl (k := 5) rfl (by rw [ex_13872]; rfl) (by decide) rfl (fun ls hl => ?_)
            refine lv_goto (tgt := 3) hx hb dX12_says_60 (by decide) ?_
            exact ih3 _ (by rw [← hm3]; exact ms_up (m := 1) ex_13872 (show bn 1 1 (1 : Int32) from bn_k (by decide)) B_13861 (bn_w (bn_eq ex_13872 (bn_add B_13861 (show bn 1 1 (1 : Int32) from bn_k (by decide)) (by decide))) (by decide) : bn 0 24 x_13872) (by decide)) x_13872 _ _  _ _ _ I (bn_w (bn_eq ex_13872 (bn_add B_13861 (show bn 1 1 (1 : Int32) from bn_k (by decide)) (by decide))) (by decide)) rfl Y (lv_sub hl [1, 2, 3, 4, 5, 0] rfl)
          · have B_13871 : bn 0 2 v_13869 := bn_w (bn_eq c_13870 b_i2) (by decide)
            refine lv_aload_n hx hb dX12_says_43 rfl (lv_at hl 0 rfl) ?_
            refine lv_iload_n hx hb dX12_says_44 rfl (lv_at hl 1 rfl) ?_
            refine lv_iload hx hb dX12_says_45 (lv_at hl 5 rfl) ?_
            refine cVl (As := [.int i1, .int y3_5]) (rest := []) S Y (x_X12_summedUp (l := l) I hB hX (bn_w B_13817 (by decide)) (bn_w B_13861 (by decide)) rfl rfl ((hX i1.toNatClampNeg (tn_bn B_13817 (by decide))).2 (y3_5 : Int32).toNatClampNeg (by rw [← nv_13858]; have h9 := Int32.lt_iff_toInt_lt.mp (Int32.not_le.mp c_13859); have h8 := (B_13861).1; simp only [tnc]; omega) (by rw [show 729 * i1.toNatClampNeg + 1 + 5 * (y3_5 : Int32).toNatClampNeg = (x_13867 : Int32).toNatClampNeg from ((by have z9 := (la_add ex_13867 (la_add ex_13865 (la_mul ex_13864 (show (729 : Int32).toInt = 729 from rfl) (rfl : i1.toInt = i1.toInt) (show bn 729 729 (729 : Int32) from bn_k (by decide)) B_13817 (by decide)) (show (1 : Int32).toInt = 1 from rfl) (bn_eq ex_13864 (bn_mul (show bn 729 729 (729 : Int32) from bn_k (by decide)) B_13817 (by decide))) (show bn 1 1 (1 : Int32) from bn_k (by decide)) (by decide)) (la_mul ex_13866 (show (5 : Int32).toInt = 5 from rfl) (rfl : y3_5.toInt = y3_5.toInt) (show bn 5 5 (5 : Int32) from bn_k (by decide)) B_13861 (by decide)) (bn_eq ex_13865 (bn_add (bn_eq ex_13864 (bn_mul (show bn 729 729 (729 : Int32) from bn_k (by decide)) B_13817 (by decide))) (show bn 1 1 (1 : Int32) from bn_k (by decide)) (by decide))) (bn_eq ex_13866 (bn_mul (show bn 5 5 (5 : Int32) from bn_k (by decide)) B_13861 (by decide))) (by decide)); have z0 := (B_13817).1; have z1 := (B_13861).1; simp only [tnc]; omega) : (x_13867 : Int32).toNatClampNeg = 729 * i1.toNatClampNeg + 1 + 5 * (y3_5 : Int32).toNatClampNeg).symm, ← tv_13869, c_13870]; exact b_i2))) cw_X12_summedUp km12_289 p_ad_0_0 ok_X12.1 rfl rfl ⟨Nat.le_of_ble_eq_true rfl, Nat.le_of_ble_eq_true rfl⟩ hl.1 rfl (Nat.le_of_ble_eq_true rfl) ⟨Nat.le_of_ble_eq_true rfl, Nat.le_of_ble_eq_true rfl⟩ dX12_says_47 (fun r_13875 L_13873 f_13874 H locs I Y => ?_)
            refine lv_iconst (v := 0) hx hb dX12_says_50 (by decide) ?_
            refine lv_iload hx hb dX12_says_51 (lv_at hl 4 rfl) ?_
            refine cSp (As := [.long r_13875, .int 0, .int i4]) (rest := []) S Y (x_X12_cut (l := l) ) cw_X12_cut km12_292 rfl ⟨Nat.le_of_ble_eq_true rfl, Nat.le_of_ble_eq_true rfl⟩ hl.1 rfl (Nat.le_of_ble_eq_true rfl) ⟨Nat.le_of_ble_eq_true rfl, Nat.le_of_ble_eq_true rfl⟩ dX12_says_53 (fun r_13876 H locs er_13876 Y => ?_)
            exact prI (post := fun r L1 f1 => SH (spM (IA sl pl oh dh w) pi (EQ g0) pa) nnM G ad L1 f1) S Y rfl (by decide) (by decide) hA1 I dX12_says_56
  refine lv_iconst (v := 0) hx hb dX12_says_0 (by decide) ?_
  refine lv_istore (lv' := [(5, .int 0), (0, .ref (ad 0 0)), (1, .int i1), (2, .int i2), (3, .int i3), (4, .int i4)]) hx hb dX12_says_1 hl (by decide) rfl (fun ls hl => ?_)
  exact J_3 _ 0 _ _  _ _ _ I (bn_w (show bn 0 0 (0 : Int32) from bn_k (by decide)) (by decide)) rfl Y (lv_sub hl [1, 2, 3, 4, 5, 0] rfl)
set_option maxHeartbeats 4000000 in
set_option maxRecDepth 100000 in
theorem x_X12_name {l : Launch} {G : GG}  {L : List Nat} {f : HF} {ad : Nat → Nat → Nat} {sl : Int} {pl : Int} {oh : Int} {dh : Int} {w : Int × Int} {pi : (Nat → Int32) → Prop} {g0 : Nat → Int32} {pa : (Nat → Int32) → Prop} {i1 i2 : Int32} (I : SH (spM (IA sl pl oh dh w) pi (EQ g0) pa) nnM G ad L f) (hB : BBp sl pl oh dh w) (hX : TX g0) (b_i1 : bn 0 5 i1) : PMv l yX12_name cX12_name 3 1 0 0 G [.ref (ad 0 0), .int i1, .int i2] L f (fun L1 f1 => SH (spM (IA sl pl oh dh w) pi (EQ g0) pa) nnM G ad L1 f1) := by
  refine PMv.of (post := fun L1 f1 => SH (spM (IA sl pl oh dh w) pi (EQ g0) pa) nnM G ad L1 f1) (own := RX12) (by decide) rfl (Nat.le_of_ble_eq_true rfl) (fun sz p e s m args below meth c A ls hA1 hname S Y hl => ?_)
  have hx := S.hx
  have hb := S.hb
  have hl : lv_has ls 3 [(0, .ref (ad 0 0)), (1, .int i1), (2, .int i2)] := hl
  refine lv_aload_n hx hb dX12_name_0 rfl (lv_at hl 0 rfl) ?_
  obtain ⟨v_13999, v_14001, v_14003, v_14005, v_14007, v_14009, v_14011, v_14013, v_14014, v_14016, v_14018, v_14020, v_14022, v_14024, v_14026, v_14028, v_14030, v_14032, p_ad_0_0, b_14000, b_14002, b_14004, b_14006, b_14008, b_14010, b_14012, b_14015, b_14017, b_14019, b_14021, b_14023, b_14025, b_14027, b_14029, b_14031, b_14033⟩ := opnM_0 (j := 0) I (by decide)
  have p_ad_0_0 : pt L f (ad 0 0) (.inr (12, [.ref (ad 1 0), .ref (ad 2 0), .ref (ad 3 0), .ref (ad 4 0), .int v_13999, .int v_14001, .int v_14003, .int v_14005, .int v_14007, .int v_14009, .int v_14011, .long v_14013, .int v_14014, .int v_14016, .int v_14018, .ref (ad 5 0), .ref (ad 6 0), .int v_14020, .int v_14022, .int v_14024, .int v_14026, .int v_14028, .ref (ad 7 0), .ref (ad 8 0), .ref (ad 9 0), .int v_14030, .ref (ad 10 0), .ref (ad 11 0), .ref (ad 12 0), .ref (ad 13 0), .int v_14032, .ref (ad 14 0)])) := p_ad_0_0
  refine pg_get S Y ok_X12 22 (by decide) kf12_35 (v := .ref (ad 7 0)) p_ad_0_0 rfl dX12_name_1 ?_
  refine lv_iconst (v := 0) hx hb dX12_name_4 (by decide) ?_
  refine lv_aload_n hx hb dX12_name_5 rfl (lv_at hl 0 rfl) ?_
  refine pg_get S Y ok_X12 0 (by decide) kf12_7 (v := .ref (ad 1 0)) p_ad_0_0 rfl dX12_name_6 ?_
  refine lv_bipush (v := 10) hx hb dX12_name_9 (by decide) ?_
  obtain ⟨g_14034, p_ad_1_0, o_14035⟩ := I.opi (k := 1) (j := 0) (by decide) rfl
  have p_ad_1_0 : pt L f (ad 1 0) (.inl (G.2 0, 10568, .inl g_14034)) := p_ad_1_0
  obtain ⟨v_14036, ev_14036⟩ : ∃ z, z = g_14034 (10 : Int32).toNatClampNeg := ⟨_, rfl⟩
  refine pg_iald S Y (v := v_14036) p_ad_1_0 (by unfold vp_in; decide) ev_14036.symm dX12_name_11 ?_
  have bv_14036 : bn 0 9999 v_14036 := bn_eq ev_14036 (bn_w (a' := 0) (b' := 9999) (IA_10 o_14035) ⟨by decide, by have h9 := hB; unfold BBp at h9; omega⟩)
  obtain ⟨g_14037, p_ad_7_0, o_14038⟩ := I.opi (k := 7) (j := 0) (by decide) rfl
  have p_ad_7_0 : pt L f (ad 7 0) (.inl (G.2 0, 10, .inl g_14037)) := p_ad_7_0
  refine pg_iast S Y p_ad_7_0 (by unfold vp_in; decide) dX12_name_12 (fun f_14040 H locs ef_14040 Y => ?_)
  obtain ⟨g_14039, eg_14039⟩ : ∃ z, z = upd (g_14037) (0 : Int32).toNatClampNeg v_14036 := ⟨_, rfl⟩
  rw [← eg_14039] at ef_14040
  have p_ad_0_0 := p_ad_0_0.up ef_14040 (I.ne (k := 0) (j := 0) (k' := 7) (j' := 0) (by decide) (by decide) (Or.inl (by decide)))
  have p_ad_1_0 := p_ad_1_0.up ef_14040 (I.ne (k := 1) (j := 0) (k' := 7) (j' := 0) (by decide) (by decide) (Or.inl (by decide)))
  have p_ad_7_0 := p_ad_7_0.me ef_14040
  have o_14041 : True := trivial
  have I := I.up (k := 7) (j := 0) (by decide) ef_14040 (okE_a (g := g_14039) o_14041)
  refine lv_aload_n hx hb dX12_name_13 rfl (lv_at hl 0 rfl) ?_
  refine pg_get S Y ok_X12 22 (by decide) kf12_35 (v := .ref (ad 7 0)) p_ad_0_0 rfl dX12_name_14 ?_
  refine lv_iconst (v := 1) hx hb dX12_name_17 (by decide) ?_
  refine lv_iload_n hx hb dX12_name_18 rfl (lv_at hl 2 rfl) ?_
  refine pg_iast S Y p_ad_7_0 (by unfold vp_in; decide) dX12_name_19 (fun f_14043 H locs ef_14043 Y => ?_)
  obtain ⟨g_14042, eg_14042⟩ : ∃ z, z = upd (g_14039) (1 : Int32).toNatClampNeg i2 := ⟨_, rfl⟩
  rw [← eg_14042] at ef_14043
  have p_ad_0_0 := p_ad_0_0.up ef_14043 (I.ne (k := 0) (j := 0) (k' := 7) (j' := 0) (by decide) (by decide) (Or.inl (by decide)))
  have p_ad_1_0 := p_ad_1_0.up ef_14043 (I.ne (k := 1) (j := 0) (k' := 7) (j' := 0) (by decide) (by decide) (Or.inl (by decide)))
  have p_ad_7_0 := p_ad_7_0.me ef_14043
  have o_14044 : True := trivial
  have I := I.up (k := 7) (j := 0) (by decide) ef_14043 (okE_a (g := g_14042) o_14044)
  refine lv_aload_n hx hb dX12_name_20 rfl (lv_at hl 0 rfl) ?_
  refine pg_get S Y ok_X12 22 (by decide) kf12_35 (v := .ref (ad 7 0)) p_ad_0_0 rfl dX12_name_21 ?_
  refine lv_iconst (v := 2) hx hb dX12_name_24 (by decide) ?_
  refine lv_aload_n hx hb dX12_name_25 rfl (lv_at hl 0 rfl) ?_
  refine lv_iload_n hx hb dX12_name_26 rfl (lv_at hl 1 rfl) ?_
  refine cVp (As := [.int i1]) (rest := [.int 2, .ref (ad 7 0)]) S Y (x_X12_toughOf (l := l) I hB (bn_w b_i1 (by decide))) cw_X12_toughOf km12_295 p_ad_0_0 ok_X12.1 rfl rfl ⟨Nat.le_of_ble_eq_true rfl, Nat.le_of_ble_eq_true rfl⟩ hl.1 rfl (Nat.le_of_ble_eq_true rfl) ⟨Nat.le_of_ble_eq_true rfl, Nat.le_of_ble_eq_true rfl⟩ dX12_name_27 (fun r_14045 H locs er_14045 Y => ?_)
  refine pg_iast S Y p_ad_7_0 (by unfold vp_in; decide) dX12_name_30 (fun f_14047 H locs ef_14047 Y => ?_)
  obtain ⟨g_14046, eg_14046⟩ : ∃ z, z = upd (g_14042) (2 : Int32).toNatClampNeg r_14045 := ⟨_, rfl⟩
  rw [← eg_14046] at ef_14047
  have p_ad_0_0 := p_ad_0_0.up ef_14047 (I.ne (k := 0) (j := 0) (k' := 7) (j' := 0) (by decide) (by decide) (Or.inl (by decide)))
  have p_ad_1_0 := p_ad_1_0.up ef_14047 (I.ne (k := 1) (j := 0) (k' := 7) (j' := 0) (by decide) (by decide) (Or.inl (by decide)))
  have p_ad_7_0 := p_ad_7_0.me ef_14047
  have o_14048 : True := trivial
  have I := I.up (k := 7) (j := 0) (by decide) ef_14047 (okE_a (g := g_14046) o_14048)
  refine lv_aload_n hx hb dX12_name_31 rfl (lv_at hl 0 rfl) ?_
  refine pg_get S Y ok_X12 22 (by decide) kf12_35 (v := .ref (ad 7 0)) p_ad_0_0 rfl dX12_name_32 ?_
  refine lv_iconst (v := 3) hx hb dX12_name_35 (by decide) ?_
  refine lv_aload_n hx hb dX12_name_36 rfl (lv_at hl 0 rfl) ?_
  refine pg_get S Y ok_X12 0 (by decide) kf12_7 (v := .ref (ad 1 0)) p_ad_0_0 rfl dX12_name_37 ?_
  refine lv_bipush (v := 114) hx hb dX12_name_40 (by decide) ?_
  refine lv_iconst (v := 2) hx hb dX12_name_42 (by decide) ?_
  refine lv_iload_n hx hb dX12_name_43 rfl (lv_at hl 1 rfl) ?_
  refine lv_imul hx hb dX12_name_44 ?_
  refine lv_topi (fun x_14049 ex_14049 => ?_)
  refine lv_iadd hx hb dX12_name_45 ?_
  refine lv_topi (fun x_14050 ex_14050 => ?_)
  refine lv_iconst (v := 1) hx hb dX12_name_46 (by decide) ?_
  refine lv_iadd hx hb dX12_name_47 ?_
  refine lv_topi (fun x_14051 ex_14051 => ?_)
  have B_14052 : bn 115 125 x_14051 := bn_w (bn_eq ex_14051 (bn_add (bn_eq ex_14050 (bn_add (show bn 114 114 (114 : Int32) from bn_k (by decide)) (bn_eq ex_14049 (bn_mul (show bn 2 2 (2 : Int32) from bn_k (by decide)) b_i1 (by decide))) (by decide))) (show bn 1 1 (1 : Int32) from bn_k (by decide)) (by decide))) (by decide)
  obtain ⟨v_14053, ev_14053⟩ : ∃ z, z = g_14034 (x_14051 : Int32).toNatClampNeg := ⟨_, rfl⟩
  refine pg_iald S Y (v := v_14053) p_ad_1_0 (vp_bn B_14052 (by decide)) ev_14053.symm dX12_name_48 ?_
  refine pg_iast S Y p_ad_7_0 (by unfold vp_in; decide) dX12_name_49 (fun f_14055 H locs ef_14055 Y => ?_)
  obtain ⟨g_14054, eg_14054⟩ : ∃ z, z = upd (g_14046) (3 : Int32).toNatClampNeg v_14053 := ⟨_, rfl⟩
  rw [← eg_14054] at ef_14055
  have p_ad_0_0 := p_ad_0_0.up ef_14055 (I.ne (k := 0) (j := 0) (k' := 7) (j' := 0) (by decide) (by decide) (Or.inl (by decide)))
  have p_ad_1_0 := p_ad_1_0.up ef_14055 (I.ne (k := 1) (j := 0) (k' := 7) (j' := 0) (by decide) (by decide) (Or.inl (by decide)))
  have p_ad_7_0 := p_ad_7_0.me ef_14055
  have o_14056 : True := trivial
  have I := I.up (k := 7) (j := 0) (by decide) ef_14055 (okE_a (g := g_14054) o_14056)
  refine lv_aload_n hx hb dX12_name_50 rfl (lv_at hl 0 rfl) ?_
  refine pg_get S Y ok_X12 22 (by decide) kf12_35 (v := .ref (ad 7 0)) p_ad_0_0 rfl dX12_name_51 ?_
  refine lv_iconst (v := 4) hx hb dX12_name_54 (by decide) ?_
  refine lv_iload_n hx hb dX12_name_55 rfl (lv_at hl 1 rfl) ?_
  refine pg_iast S Y p_ad_7_0 (by unfold vp_in; decide) dX12_name_56 (fun f_14058 H locs ef_14058 Y => ?_)
  obtain ⟨g_14057, eg_14057⟩ : ∃ z, z = upd (g_14054) (4 : Int32).toNatClampNeg i1 := ⟨_, rfl⟩
  rw [← eg_14057] at ef_14058
  have p_ad_0_0 := p_ad_0_0.up ef_14058 (I.ne (k := 0) (j := 0) (k' := 7) (j' := 0) (by decide) (by decide) (Or.inl (by decide)))
  have p_ad_1_0 := p_ad_1_0.up ef_14058 (I.ne (k := 1) (j := 0) (k' := 7) (j' := 0) (by decide) (by decide) (Or.inl (by decide)))
  have p_ad_7_0 := p_ad_7_0.me ef_14058
  have o_14059 : True := trivial
  have I := I.up (k := 7) (j := 0) (by decide) ef_14058 (okE_a (g := g_14057) o_14059)
  exact prV (post := fun L1 f1 => SH (spM (IA sl pl oh dh w) pi (EQ g0) pa) nnM G ad L1 f1) S Y (by decide) (by decide) hA1 I dX12_name_57
set_option maxHeartbeats 4000000 in
set_option maxRecDepth 100000 in
theorem x_X12_nameOath {l : Launch} {G : GG}  {L : List Nat} {f : HF} {ad : Nat → Nat → Nat} {sl : Int} {pl : Int} {oh : Int} {dh : Int} {w : Int × Int} {pi : (Nat → Int32) → Prop} {g0 : Nat → Int32} {pa : (Nat → Int32) → Prop} {i1 i2 : Int32} (I : SH (spM (IA sl pl oh dh w) pi (EQ g0) pa) nnM G ad L f) (hB : BBp sl pl oh dh w) (hX : TX g0) (b_i1 : bn 0 13 i1) : PMv l yX12_nameOath cX12_nameOath 3 2 0 0 G [.ref (ad 0 0), .int i1, .int i2] L f (fun L1 f1 => SH (spM (IA sl pl oh dh w) pi (EQ g0) pa) nnM G ad L1 f1) := by
  refine PMv.of (post := fun L1 f1 => SH (spM (IA sl pl oh dh w) pi (EQ g0) pa) nnM G ad L1 f1) (own := RX12) (by decide) rfl (Nat.le_of_ble_eq_true rfl) (fun sz p e s m args below meth c A ls hA1 hname S Y hl => ?_)
  have hx := S.hx
  have hb := S.hb
  have hl : lv_has ls 3 [(0, .ref (ad 0 0)), (1, .int i1), (2, .int i2)] := hl
  refine lv_aload_n hx hb dX12_nameOath_0 rfl (lv_at hl 0 rfl) ?_
  refine lv_aload_n hx hb dX12_nameOath_1 rfl (lv_at hl 0 rfl) ?_
  refine lv_iload_n hx hb dX12_nameOath_2 rfl (lv_at hl 1 rfl) ?_
  refine lv_iconst (v := 1) hx hb dX12_nameOath_3 (by decide) ?_
  refine cVp (As := [.int i1, .int 1]) (rest := [.ref (ad 0 0)]) S Y (x_X12_getON (l := l) I hB (bn_w b_i1 (by decide)) (bn_w (show bn 1 1 (1 : Int32) from bn_k (by decide)) (by decide))) cw_X12_get km12_73 (I.opo (k := 0) (j := 0) (by decide) rfl).choose_spec.1 ok_X12.1 rfl rfl ⟨Nat.le_of_ble_eq_true rfl, Nat.le_of_ble_eq_true rfl⟩ hl.1 rfl (Nat.le_of_ble_eq_true rfl) ⟨Nat.le_of_ble_eq_true rfl, Nat.le_of_ble_eq_true rfl⟩ dX12_nameOath_4 (fun r_14188 H locs er_14188 Y => ?_)
  refine lv_iload_n hx hb dX12_nameOath_7 rfl (lv_at hl 2 rfl) ?_
  refine cVv (As := [.int r_14188, .int i2]) (rest := []) S Y (x_X12_name (l := l) I hB hX (bn_w er_14188 (by decide))) cw_X12_name km12_298 (I.opo (k := 0) (j := 0) (by decide) rfl).choose_spec.1 ok_X12.1 rfl rfl ⟨Nat.le_of_ble_eq_true rfl, Nat.le_of_ble_eq_true rfl⟩ hl.1 rfl (Nat.le_of_ble_eq_true rfl) ⟨Nat.le_of_ble_eq_true rfl, Nat.le_of_ble_eq_true rfl⟩ dX12_nameOath_8 (fun L_14189 f_14190 H locs I Y => ?_)
  refine lv_aload_n hx hb dX12_nameOath_11 rfl (lv_at hl 0 rfl) ?_
  obtain ⟨v_14191, v_14193, v_14195, v_14197, v_14199, v_14201, v_14203, v_14205, v_14206, v_14208, v_14210, v_14212, v_14214, v_14216, v_14218, v_14220, v_14222, v_14224, p_ad_0_0, b_14192, b_14194, b_14196, b_14198, b_14200, b_14202, b_14204, b_14207, b_14209, b_14211, b_14213, b_14215, b_14217, b_14219, b_14221, b_14223, b_14225⟩ := opnM_0 (j := 0) I (by decide)
  have p_ad_0_0 : pt L_14189 f_14190 (ad 0 0) (.inr (12, [.ref (ad 1 0), .ref (ad 2 0), .ref (ad 3 0), .ref (ad 4 0), .int v_14191, .int v_14193, .int v_14195, .int v_14197, .int v_14199, .int v_14201, .int v_14203, .long v_14205, .int v_14206, .int v_14208, .int v_14210, .ref (ad 5 0), .ref (ad 6 0), .int v_14212, .int v_14214, .int v_14216, .int v_14218, .int v_14220, .ref (ad 7 0), .ref (ad 8 0), .ref (ad 9 0), .int v_14222, .ref (ad 10 0), .ref (ad 11 0), .ref (ad 12 0), .ref (ad 13 0), .int v_14224, .ref (ad 14 0)])) := p_ad_0_0
  refine pg_get S Y ok_X12 22 (by decide) kf12_35 (v := .ref (ad 7 0)) p_ad_0_0 rfl dX12_nameOath_12 ?_
  refine lv_iconst (v := 5) hx hb dX12_nameOath_15 (by decide) ?_
  refine lv_aload_n hx hb dX12_nameOath_16 rfl (lv_at hl 0 rfl) ?_
  refine lv_iload_n hx hb dX12_nameOath_17 rfl (lv_at hl 1 rfl) ?_
  refine lv_iconst (v := 3) hx hb dX12_nameOath_18 (by decide) ?_
  refine cVp (As := [.int i1, .int 3]) (rest := [.int 5, .ref (ad 7 0)]) S Y (x_X12_get (l := l) I hB (bn_w b_i1 (by decide)) (bn_w (show bn 3 3 (3 : Int32) from bn_k (by decide)) (by decide))) cw_X12_get km12_73 p_ad_0_0 ok_X12.1 rfl rfl ⟨Nat.le_of_ble_eq_true rfl, Nat.le_of_ble_eq_true rfl⟩ hl.1 rfl (Nat.le_of_ble_eq_true rfl) ⟨Nat.le_of_ble_eq_true rfl, Nat.le_of_ble_eq_true rfl⟩ dX12_nameOath_19 (fun r_14226 H locs er_14226 Y => ?_)
  obtain ⟨g_14227, p_ad_7_0, o_14228⟩ := I.opi (k := 7) (j := 0) (by decide) rfl
  have p_ad_7_0 : pt L_14189 f_14190 (ad 7 0) (.inl (G.2 0, 10, .inl g_14227)) := p_ad_7_0
  refine pg_iast S Y p_ad_7_0 (by unfold vp_in; decide) dX12_nameOath_22 (fun f_14230 H locs ef_14230 Y => ?_)
  obtain ⟨g_14229, eg_14229⟩ : ∃ z, z = upd (g_14227) (5 : Int32).toNatClampNeg r_14226 := ⟨_, rfl⟩
  rw [← eg_14229] at ef_14230
  have p_ad_0_0 := p_ad_0_0.up ef_14230 (I.ne (k := 0) (j := 0) (k' := 7) (j' := 0) (by decide) (by decide) (Or.inl (by decide)))
  have p_ad_7_0 := p_ad_7_0.me ef_14230
  have o_14231 : True := trivial
  have I := I.up (k := 7) (j := 0) (by decide) ef_14230 (okE_a (g := g_14229) o_14231)
  refine lv_aload_n hx hb dX12_nameOath_23 rfl (lv_at hl 0 rfl) ?_
  refine pg_get S Y ok_X12 22 (by decide) kf12_35 (v := .ref (ad 7 0)) p_ad_0_0 rfl dX12_nameOath_24 ?_
  refine lv_bipush (v := 6) hx hb dX12_nameOath_27 (by decide) ?_
  refine lv_aload_n hx hb dX12_nameOath_29 rfl (lv_at hl 0 rfl) ?_
  refine lv_iload_n hx hb dX12_nameOath_30 rfl (lv_at hl 1 rfl) ?_
  refine lv_iconst (v := 2) hx hb dX12_nameOath_31 (by decide) ?_
  refine cVp (As := [.int i1, .int 2]) (rest := [.int 6, .ref (ad 7 0)]) S Y (x_X12_get (l := l) I hB (bn_w b_i1 (by decide)) (bn_w (show bn 2 2 (2 : Int32) from bn_k (by decide)) (by decide))) cw_X12_get km12_73 p_ad_0_0 ok_X12.1 rfl rfl ⟨Nat.le_of_ble_eq_true rfl, Nat.le_of_ble_eq_true rfl⟩ hl.1 rfl (Nat.le_of_ble_eq_true rfl) ⟨Nat.le_of_ble_eq_true rfl, Nat.le_of_ble_eq_true rfl⟩ dX12_nameOath_32 (fun r_14232 H locs er_14232 Y => ?_)
  refine pg_iast S Y p_ad_7_0 (by unfold vp_in; decide) dX12_nameOath_35 (fun f_14234 H locs ef_14234 Y => ?_)
  obtain ⟨g_14233, eg_14233⟩ : ∃ z, z = upd (g_14229) (6 : Int32).toNatClampNeg r_14232 := ⟨_, rfl⟩
  rw [← eg_14233] at ef_14234
  have p_ad_0_0 := p_ad_0_0.up ef_14234 (I.ne (k := 0) (j := 0) (k' := 7) (j' := 0) (by decide) (by decide) (Or.inl (by decide)))
  have p_ad_7_0 := p_ad_7_0.me ef_14234
  have o_14235 : True := trivial
  have I := I.up (k := 7) (j := 0) (by decide) ef_14234 (okE_a (g := g_14233) o_14235)
  refine lv_aload_n hx hb dX12_nameOath_36 rfl (lv_at hl 0 rfl) ?_
  refine pg_get S Y ok_X12 22 (by decide) kf12_35 (v := .ref (ad 7 0)) p_ad_0_0 rfl dX12_nameOath_37 ?_
  refine lv_bipush (v := 7) hx hb dX12_nameOath_40 (by decide) ?_
  refine lv_aload_n hx hb dX12_nameOath_42 rfl (lv_at hl 0 rfl) ?_
  refine lv_iload_n hx hb dX12_nameOath_43 rfl (lv_at hl 1 rfl) ?_
  refine lv_iconst (v := 5) hx hb dX12_nameOath_44 (by decide) ?_
  refine cVp (As := [.int i1, .int 5]) (rest := [.int 7, .ref (ad 7 0)]) S Y (x_X12_get (l := l) I hB (bn_w b_i1 (by decide)) (bn_w (show bn 5 5 (5 : Int32) from bn_k (by decide)) (by decide))) cw_X12_get km12_73 p_ad_0_0 ok_X12.1 rfl rfl ⟨Nat.le_of_ble_eq_true rfl, Nat.le_of_ble_eq_true rfl⟩ hl.1 rfl (Nat.le_of_ble_eq_true rfl) ⟨Nat.le_of_ble_eq_true rfl, Nat.le_of_ble_eq_true rfl⟩ dX12_nameOath_45 (fun r_14236 H locs er_14236 Y => ?_)
  refine pg_iast S Y p_ad_7_0 (by unfold vp_in; decide) dX12_nameOath_48 (fun f_14238 H locs ef_14238 Y => ?_)
  obtain ⟨g_14237, eg_14237⟩ : ∃ z, z = upd (g_14233) (7 : Int32).toNatClampNeg r_14236 := ⟨_, rfl⟩
  rw [← eg_14237] at ef_14238
  have p_ad_0_0 := p_ad_0_0.up ef_14238 (I.ne (k := 0) (j := 0) (k' := 7) (j' := 0) (by decide) (by decide) (Or.inl (by decide)))
  have p_ad_7_0 := p_ad_7_0.me ef_14238
  have o_14239 : True := trivial
  have I := I.up (k := 7) (j := 0) (by decide) ef_14238 (okE_a (g := g_14237) o_14239)
  refine lv_aload_n hx hb dX12_nameOath_49 rfl (lv_at hl 0 rfl) ?_
  refine pg_get S Y ok_X12 22 (by decide) kf12_35 (v := .ref (ad 7 0)) p_ad_0_0 rfl dX12_nameOath_50 ?_
  refine lv_bipush (v := 8) hx hb dX12_nameOath_53 (by decide) ?_
  refine lv_aload_n hx hb dX12_nameOath_55 rfl (lv_at hl 0 rfl) ?_
  refine pg_get S Y ok_X12 0 (by decide) kf12_7 (v := .ref (ad 1 0)) p_ad_0_0 rfl dX12_nameOath_56 ?_
  refine lv_bipush (v := 10) hx hb dX12_nameOath_59 (by decide) ?_
  obtain ⟨g_14240, p_ad_1_0, o_14241⟩ := I.opi (k := 1) (j := 0) (by decide) rfl
  have p_ad_1_0 : pt L_14189 f_14238 (ad 1 0) (.inl (G.2 0, 10568, .inl g_14240)) := p_ad_1_0
  obtain ⟨v_14242, ev_14242⟩ : ∃ z, z = g_14240 (10 : Int32).toNatClampNeg := ⟨_, rfl⟩
  refine pg_iald S Y (v := v_14242) p_ad_1_0 (by unfold vp_in; decide) ev_14242.symm dX12_nameOath_61 ?_
  have bv_14242 : bn 0 9999 v_14242 := bn_eq ev_14242 (bn_w (a' := 0) (b' := 9999) (IA_10 o_14241) ⟨by decide, by have h9 := hB; unfold BBp at h9; omega⟩)
  refine lv_aload_n hx hb dX12_nameOath_62 rfl (lv_at hl 0 rfl) ?_
  refine lv_iload_n hx hb dX12_nameOath_63 rfl (lv_at hl 1 rfl) ?_
  refine lv_bipush (v := 6) hx hb dX12_nameOath_64 (by decide) ?_
  refine cVp (As := [.int i1, .int 6]) (rest := [.int v_14242, .int 8, .ref (ad 7 0)]) S Y (x_X12_get (l := l) I hB (bn_w b_i1 (by decide)) (bn_w (show bn 6 6 (6 : Int32) from bn_k (by decide)) (by decide))) cw_X12_get km12_73 p_ad_0_0 ok_X12.1 rfl rfl ⟨Nat.le_of_ble_eq_true rfl, Nat.le_of_ble_eq_true rfl⟩ hl.1 rfl (Nat.le_of_ble_eq_true rfl) ⟨Nat.le_of_ble_eq_true rfl, Nat.le_of_ble_eq_true rfl⟩ dX12_nameOath_66 (fun r_14243 H locs er_14243 Y => ?_)
  refine lv_isub hx hb dX12_nameOath_69 ?_
  refine lv_topi (fun x_14244 ex_14244 => ?_)
  refine pg_iast S Y p_ad_7_0 (by unfold vp_in; decide) dX12_nameOath_70 (fun f_14246 H locs ef_14246 Y => ?_)
  obtain ⟨g_14245, eg_14245⟩ : ∃ z, z = upd (g_14237) (8 : Int32).toNatClampNeg x_14244 := ⟨_, rfl⟩
  rw [← eg_14245] at ef_14246
  have p_ad_0_0 := p_ad_0_0.up ef_14246 (I.ne (k := 0) (j := 0) (k' := 7) (j' := 0) (by decide) (by decide) (Or.inl (by decide)))
  have p_ad_1_0 := p_ad_1_0.up ef_14246 (I.ne (k := 1) (j := 0) (k' := 7) (j' := 0) (by decide) (by decide) (Or.inl (by decide)))
  have p_ad_7_0 := p_ad_7_0.me ef_14246
  have o_14247 : True := trivial
  have I := I.up (k := 7) (j := 0) (by decide) ef_14246 (okE_a (g := g_14245) o_14247)
  refine lv_aload_n hx hb dX12_nameOath_71 rfl (lv_at hl 0 rfl) ?_
  refine pg_get S Y ok_X12 22 (by decide) kf12_35 (v := .ref (ad 7 0)) p_ad_0_0 rfl dX12_nameOath_72 ?_
  refine lv_bipush (v := 9) hx hb dX12_nameOath_75 (by decide) ?_
  refine lv_aload_n hx hb dX12_nameOath_77 rfl (lv_at hl 0 rfl) ?_
  refine lv_iload_n hx hb dX12_nameOath_78 rfl (lv_at hl 1 rfl) ?_
  refine lv_iconst (v := 0) hx hb dX12_nameOath_79 (by decide) ?_
  refine cVp (As := [.int i1, .int 0]) (rest := [.int 9, .ref (ad 7 0)]) S Y (x_X12_get (l := l) I hB (bn_w b_i1 (by decide)) (bn_w (show bn 0 0 (0 : Int32) from bn_k (by decide)) (by decide))) cw_X12_get km12_73 p_ad_0_0 ok_X12.1 rfl rfl ⟨Nat.le_of_ble_eq_true rfl, Nat.le_of_ble_eq_true rfl⟩ hl.1 rfl (Nat.le_of_ble_eq_true rfl) ⟨Nat.le_of_ble_eq_true rfl, Nat.le_of_ble_eq_true rfl⟩ dX12_nameOath_80 (fun r_14248 H locs er_14248 Y => ?_)
  refine pg_iast S Y p_ad_7_0 (by unfold vp_in; decide) dX12_nameOath_83 (fun f_14250 H locs ef_14250 Y => ?_)
  obtain ⟨g_14249, eg_14249⟩ : ∃ z, z = upd (g_14245) (9 : Int32).toNatClampNeg r_14248 := ⟨_, rfl⟩
  rw [← eg_14249] at ef_14250
  have p_ad_0_0 := p_ad_0_0.up ef_14250 (I.ne (k := 0) (j := 0) (k' := 7) (j' := 0) (by decide) (by decide) (Or.inl (by decide)))
  have p_ad_1_0 := p_ad_1_0.up ef_14250 (I.ne (k := 1) (j := 0) (k' := 7) (j' := 0) (by decide) (by decide) (Or.inl (by decide)))
  have p_ad_7_0 := p_ad_7_0.me ef_14250
  have o_14251 : True := trivial
  have I := I.up (k := 7) (j := 0) (by decide) ef_14250 (okE_a (g := g_14249) o_14251)
  exact prV (post := fun L1 f1 => SH (spM (IA sl pl oh dh w) pi (EQ g0) pa) nnM G ad L1 f1) S Y (by decide) (by decide) hA1 I dX12_nameOath_84
set_option maxHeartbeats 4000000 in
set_option maxRecDepth 100000 in
theorem x_X12_wearsOf {l : Launch} {G : GG}  {L : List Nat} {f : HF} {ad : Nat → Nat → Nat} {sl : Int} {pl : Int} {oh : Int} {dh : Int} {w : Int × Int} {pi : (Nat → Int32) → Prop} {g0 : Nat → Int32} {pa : (Nat → Int32) → Prop} {i1 i2 : Int32} (I : SH (spM (IA sl pl oh dh w) pi (EQ g0) pa) nnM G ad L f) (hB : BBp sl pl oh dh w) (hX : TX g0) (b_i1 : bn (-1) 3 i1) (b_i2 : bn 0 13 i2) : PMi l yX12_wearsOf cX12_wearsOf 3 .int 6 0 0 G [.ref (ad 0 0), .int i1, .int i2] L f (fun r L1 f1 => SH (spM (IA sl pl oh dh w) pi (EQ g0) pa) nnM G ad L1 f1) := by
  refine PMi.of (post := fun r L1 f1 => SH (spM (IA sl pl oh dh w) pi (EQ g0) pa) nnM G ad L1 f1) (own := RX12) (by decide) rfl (Nat.le_of_ble_eq_true rfl) (fun sz p e s m args below meth c A ls hA1 hname S Y hl => ?_)
  have hx := S.hx
  have hb := S.hb
  have hl : lv_has ls 3 [(0, .ref (ad 0 0)), (1, .int i1), (2, .int i2)] := hl
  refine lv_aload_n hx hb dX12_wearsOf_0 rfl (lv_at hl 0 rfl) ?_
  refine lv_iload_n hx hb dX12_wearsOf_1 rfl (lv_at hl 2 rfl) ?_
  refine lv_aload_n hx hb dX12_wearsOf_2 rfl (lv_at hl 0 rfl) ?_
  obtain ⟨v_14416, v_14418, v_14420, v_14422, v_14424, v_14426, v_14428, v_14430, v_14431, v_14433, v_14435, v_14437, v_14439, v_14441, v_14443, v_14445, v_14447, v_14449, p_ad_0_0, b_14417, b_14419, b_14421, b_14423, b_14425, b_14427, b_14429, b_14432, b_14434, b_14436, b_14438, b_14440, b_14442, b_14444, b_14446, b_14448, b_14450⟩ := opnM_0 (j := 0) I (by decide)
  have p_ad_0_0 : pt L f (ad 0 0) (.inr (12, [.ref (ad 1 0), .ref (ad 2 0), .ref (ad 3 0), .ref (ad 4 0), .int v_14416, .int v_14418, .int v_14420, .int v_14422, .int v_14424, .int v_14426, .int v_14428, .long v_14430, .int v_14431, .int v_14433, .int v_14435, .ref (ad 5 0), .ref (ad 6 0), .int v_14437, .int v_14439, .int v_14441, .int v_14443, .int v_14445, .ref (ad 7 0), .ref (ad 8 0), .ref (ad 9 0), .int v_14447, .ref (ad 10 0), .ref (ad 11 0), .ref (ad 12 0), .ref (ad 13 0), .int v_14449, .ref (ad 14 0)])) := p_ad_0_0
  refine pg_get S Y ok_X12 0 (by decide) kf12_7 (v := .ref (ad 1 0)) p_ad_0_0 rfl dX12_wearsOf_3 ?_
  refine lv_bipush (v := 11) hx hb dX12_wearsOf_6 (by decide) ?_
  obtain ⟨g_14451, p_ad_1_0, o_14452⟩ := I.opi (k := 1) (j := 0) (by decide) rfl
  have p_ad_1_0 : pt L f (ad 1 0) (.inl (G.2 0, 10568, .inl g_14451)) := p_ad_1_0
  obtain ⟨v_14453, ev_14453⟩ : ∃ z, z = g_14451 (11 : Int32).toNatClampNeg := ⟨_, rfl⟩
  refine pg_iald S Y (v := v_14453) p_ad_1_0 (by unfold vp_in; decide) ev_14453.symm dX12_wearsOf_8 ?_
  refine cVv (As := [.int i2, .int v_14453]) (rest := []) S Y (x_X12_nameOath (l := l) I hB hX (bn_w b_i2 (by decide))) cw_X12_nameOath km12_301 p_ad_0_0 ok_X12.1 rfl rfl ⟨Nat.le_of_ble_eq_true rfl, Nat.le_of_ble_eq_true rfl⟩ hl.1 rfl (Nat.le_of_ble_eq_true rfl) ⟨Nat.le_of_ble_eq_true rfl, Nat.le_of_ble_eq_true rfl⟩ dX12_wearsOf_9 (fun L_14454 f_14455 H locs I Y => ?_)
  refine lv_aload_n hx hb dX12_wearsOf_12 rfl (lv_at hl 0 rfl) ?_
  refine lv_iload_n hx hb dX12_wearsOf_13 rfl (lv_at hl 1 rfl) ?_
  refine lv_iconst (v := 0) hx hb dX12_wearsOf_14 (by decide) ?_
  refine lv_bipush (v := 10) hx hb dX12_wearsOf_15 (by decide) ?_
  refine lv_aload_n hx hb dX12_wearsOf_17 rfl (lv_at hl 0 rfl) ?_
  obtain ⟨v_14456, v_14458, v_14460, v_14462, v_14464, v_14466, v_14468, v_14470, v_14471, v_14473, v_14475, v_14477, v_14479, v_14481, v_14483, v_14485, v_14487, v_14489, p_ad_0_0, b_14457, b_14459, b_14461, b_14463, b_14465, b_14467, b_14469, b_14472, b_14474, b_14476, b_14478, b_14480, b_14482, b_14484, b_14486, b_14488, b_14490⟩ := opnM_0 (j := 0) I (by decide)
  have p_ad_0_0 : pt L_14454 f_14455 (ad 0 0) (.inr (12, [.ref (ad 1 0), .ref (ad 2 0), .ref (ad 3 0), .ref (ad 4 0), .int v_14456, .int v_14458, .int v_14460, .int v_14462, .int v_14464, .int v_14466, .int v_14468, .long v_14470, .int v_14471, .int v_14473, .int v_14475, .ref (ad 5 0), .ref (ad 6 0), .int v_14477, .int v_14479, .int v_14481, .int v_14483, .int v_14485, .ref (ad 7 0), .ref (ad 8 0), .ref (ad 9 0), .int v_14487, .ref (ad 10 0), .ref (ad 11 0), .ref (ad 12 0), .ref (ad 13 0), .int v_14489, .ref (ad 14 0)])) := p_ad_0_0
  refine pg_get S Y ok_X12 22 (by decide) kf12_35 (v := .ref (ad 7 0)) p_ad_0_0 rfl dX12_wearsOf_18 ?_
  refine lv_iconst (v := 2) hx hb dX12_wearsOf_21 (by decide) ?_
  obtain ⟨g_14491, p_ad_7_0, o_14492⟩ := I.opi (k := 7) (j := 0) (by decide) rfl
  have p_ad_7_0 : pt L_14454 f_14455 (ad 7 0) (.inl (G.2 0, 10, .inl g_14491)) := p_ad_7_0
  obtain ⟨v_14493, ev_14493⟩ : ∃ z, z = g_14491 (2 : Int32).toNatClampNeg := ⟨_, rfl⟩
  refine pg_iald S Y (v := v_14493) p_ad_7_0 (by unfold vp_in; decide) ev_14493.symm dX12_wearsOf_22 ?_
  refine lv_isub hx hb dX12_wearsOf_23 ?_
  refine lv_topi (fun x_14494 ex_14494 => ?_)
  refine lv_bipush (v := 99) hx hb dX12_wearsOf_24 (by decide) ?_
  refine cVi (As := [.int i1, .int 0, .int x_14494, .int 99]) (rest := []) S Y (x_X12_says (l := l) I hB hX (bn_w b_i1 (by decide)) (bn_w (show bn 0 0 (0 : Int32) from bn_k (by decide)) (by decide))) cw_X12_says km12_304 p_ad_0_0 ok_X12.1 rfl rfl ⟨Nat.le_of_ble_eq_true rfl, Nat.le_of_ble_eq_true rfl⟩ hl.1 rfl (Nat.le_of_ble_eq_true rfl) ⟨Nat.le_of_ble_eq_true rfl, Nat.le_of_ble_eq_true rfl⟩ dX12_wearsOf_26 (fun r_14497 L_14495 f_14496 H locs I Y => ?_)
  exact prI (post := fun r L1 f1 => SH (spM (IA sl pl oh dh w) pi (EQ g0) pa) nnM G ad L1 f1) S Y rfl (by decide) (by decide) hA1 I dX12_wearsOf_29
set_option maxHeartbeats 4000000 in
set_option maxRecDepth 100000 in
theorem x_X12_achesOf {l : Launch} {G : GG}  {L : List Nat} {f : HF} {ad : Nat → Nat → Nat} {sl : Int} {pl : Int} {oh : Int} {dh : Int} {w : Int × Int} {pi : (Nat → Int32) → Prop} {g0 : Nat → Int32} {pa : (Nat → Int32) → Prop} {i1 i2 : Int32} (I : SH (spM (IA sl pl oh dh w) pi (EQ g0) pa) nnM G ad L f) (hB : BBp sl pl oh dh w) (hX : TX g0) (b_i1 : bn 0 13 i1) : PMi l yX12_achesOf cX12_achesOf 3 .int 6 0 0 G [.ref (ad 0 0), .int i1, .int i2] L f (fun r L1 f1 => SH (spM (IA sl pl oh dh w) pi (EQ g0) pa) nnM G ad L1 f1) := by
  refine PMi.of (post := fun r L1 f1 => SH (spM (IA sl pl oh dh w) pi (EQ g0) pa) nnM G ad L1 f1) (own := RX12) (by decide) rfl (Nat.le_of_ble_eq_true rfl) (fun sz p e s m args below meth c A ls hA1 hname S Y hl => ?_)
  have hx := S.hx
  have hb := S.hb
  have hl : lv_has ls 3 [(0, .ref (ad 0 0)), (1, .int i1), (2, .int i2)] := hl
  refine lv_aload_n hx hb dX12_achesOf_0 rfl (lv_at hl 0 rfl) ?_
  refine lv_iload_n hx hb dX12_achesOf_1 rfl (lv_at hl 1 rfl) ?_
  refine lv_iload_n hx hb dX12_achesOf_2 rfl (lv_at hl 2 rfl) ?_
  refine cVv (As := [.int i1, .int i2]) (rest := []) S Y (x_X12_nameOath (l := l) I hB hX (bn_w b_i1 (by decide))) cw_X12_nameOath km12_301 (I.opo (k := 0) (j := 0) (by decide) rfl).choose_spec.1 ok_X12.1 rfl rfl ⟨Nat.le_of_ble_eq_true rfl, Nat.le_of_ble_eq_true rfl⟩ hl.1 rfl (Nat.le_of_ble_eq_true rfl) ⟨Nat.le_of_ble_eq_true rfl, Nat.le_of_ble_eq_true rfl⟩ dX12_achesOf_3 (fun L_14594 f_14595 H locs I Y => ?_)
  refine lv_aload_n hx hb dX12_achesOf_6 rfl (lv_at hl 0 rfl) ?_
  refine lv_aload_n hx hb dX12_achesOf_7 rfl (lv_at hl 0 rfl) ?_
  obtain ⟨v_14596, v_14598, v_14600, v_14602, v_14604, v_14606, v_14608, v_14610, v_14611, v_14613, v_14615, v_14617, v_14619, v_14621, v_14623, v_14625, v_14627, v_14629, p_ad_0_0, b_14597, b_14599, b_14601, b_14603, b_14605, b_14607, b_14609, b_14612, b_14614, b_14616, b_14618, b_14620, b_14622, b_14624, b_14626, b_14628, b_14630⟩ := opnM_0 (j := 0) I (by decide)
  have p_ad_0_0 : pt L_14594 f_14595 (ad 0 0) (.inr (12, [.ref (ad 1 0), .ref (ad 2 0), .ref (ad 3 0), .ref (ad 4 0), .int v_14596, .int v_14598, .int v_14600, .int v_14602, .int v_14604, .int v_14606, .int v_14608, .long v_14610, .int v_14611, .int v_14613, .int v_14615, .ref (ad 5 0), .ref (ad 6 0), .int v_14617, .int v_14619, .int v_14621, .int v_14623, .int v_14625, .ref (ad 7 0), .ref (ad 8 0), .ref (ad 9 0), .int v_14627, .ref (ad 10 0), .ref (ad 11 0), .ref (ad 12 0), .ref (ad 13 0), .int v_14629, .ref (ad 14 0)])) := p_ad_0_0
  refine pg_get S Y ok_X12 0 (by decide) kf12_7 (v := .ref (ad 1 0)) p_ad_0_0 rfl dX12_achesOf_8 ?_
  refine lv_iconst (v := 2) hx hb dX12_achesOf_11 (by decide) ?_
  obtain ⟨g_14631, p_ad_1_0, o_14632⟩ := I.opi (k := 1) (j := 0) (by decide) rfl
  have p_ad_1_0 : pt L_14594 f_14595 (ad 1 0) (.inl (G.2 0, 10568, .inl g_14631)) := p_ad_1_0
  obtain ⟨v_14633, ev_14633⟩ : ∃ z, z = g_14631 (2 : Int32).toNatClampNeg := ⟨_, rfl⟩
  refine pg_iald S Y (v := v_14633) p_ad_1_0 (by unfold vp_in; decide) ev_14633.symm dX12_achesOf_12 ?_
  have bv_14633 : bn (-1) 3 v_14633 := bn_eq ev_14633 (IA_2 o_14632)
  refine lv_iconst (v := 1) hx hb dX12_achesOf_13 (by decide) ?_
  refine lv_aload_n hx hb dX12_achesOf_14 rfl (lv_at hl 0 rfl) ?_
  refine pg_get S Y ok_X12 22 (by decide) kf12_35 (v := .ref (ad 7 0)) p_ad_0_0 rfl dX12_achesOf_15 ?_
  refine lv_iconst (v := 5) hx hb dX12_achesOf_18 (by decide) ?_
  obtain ⟨g_14634, p_ad_7_0, o_14635⟩ := I.opi (k := 7) (j := 0) (by decide) rfl
  have p_ad_7_0 : pt L_14594 f_14595 (ad 7 0) (.inl (G.2 0, 10, .inl g_14634)) := p_ad_7_0
  obtain ⟨v_14636, ev_14636⟩ : ∃ z, z = g_14634 (5 : Int32).toNatClampNeg := ⟨_, rfl⟩
  refine pg_iald S Y (v := v_14636) p_ad_7_0 (by unfold vp_in; decide) ev_14636.symm dX12_achesOf_19 ?_
  refine lv_iload_n hx hb dX12_achesOf_20 rfl (lv_at hl 2 rfl) ?_
  refine lv_imul hx hb dX12_achesOf_21 ?_
  refine lv_topi (fun x_14637 ex_14637 => ?_)
  refine lv_bipush (v := 10) hx hb dX12_achesOf_22 (by decide) ?_
  refine lv_idiv hx hb dX12_achesOf_24 (by decide) ?_
  refine lv_topi (fun x_14638 ex_14638 => ?_)
  refine lv_bipush (v := 99) hx hb dX12_achesOf_25 (by decide) ?_
  refine cVi (As := [.int v_14633, .int 1, .int x_14638, .int 99]) (rest := []) S Y (x_X12_says (l := l) I hB hX (bn_w bv_14633 (by decide)) (bn_w (show bn 1 1 (1 : Int32) from bn_k (by decide)) (by decide))) cw_X12_says km12_304 p_ad_0_0 ok_X12.1 rfl rfl ⟨Nat.le_of_ble_eq_true rfl, Nat.le_of_ble_eq_true rfl⟩ hl.1 rfl (Nat.le_of_ble_eq_true rfl) ⟨Nat.le_of_ble_eq_true rfl, Nat.le_of_ble_eq_true rfl⟩ dX12_achesOf_27 (fun r_14641 L_14639 f_14640 H locs I Y => ?_)
  exact prI (post := fun r L1 f1 => SH (spM (IA sl pl oh dh w) pi (EQ g0) pa) nnM G ad L1 f1) S Y rfl (by decide) (by decide) hA1 I dX12_achesOf_30
set_option maxHeartbeats 4000000 in
set_option maxRecDepth 100000 in
theorem x_X12_riskOf {l : Launch} {G : GG}  {L : List Nat} {f : HF} {ad : Nat → Nat → Nat} {sl : Int} {pl : Int} {oh : Int} {dh : Int} {w : Int × Int} {pi : (Nat → Int32) → Prop} {g0 : Nat → Int32} {pa : (Nat → Int32) → Prop} {i1 : Int32} (I : SH (spM (IA sl pl oh dh w) pi (EQ g0) pa) nnM G ad L f) (hB : BBp sl pl oh dh w) (hX : TX g0) (b_i1 : bn 0 5 i1) : PMi l yX12_riskOf cX12_riskOf 2 .int 6 0 0 G [.ref (ad 0 0), .int i1] L f (fun r L1 f1 => SH (spM (IA sl pl oh dh w) pi (EQ g0) pa) nnM G ad L1 f1) := by
  refine PMi.of (post := fun r L1 f1 => SH (spM (IA sl pl oh dh w) pi (EQ g0) pa) nnM G ad L1 f1) (own := RX12) (by decide) rfl (Nat.le_of_ble_eq_true rfl) (fun sz p e s m args below meth c A ls hA1 hname S Y hl => ?_)
  have hx := S.hx
  have hb := S.hb
  have hl : lv_has ls 2 [(0, .ref (ad 0 0)), (1, .int i1)] := hl
  refine lv_aload_n hx hb dX12_riskOf_0 rfl (lv_at hl 0 rfl) ?_
  refine lv_iload_n hx hb dX12_riskOf_1 rfl (lv_at hl 1 rfl) ?_
  refine lv_aload_n hx hb dX12_riskOf_2 rfl (lv_at hl 0 rfl) ?_
  obtain ⟨v_14820, v_14822, v_14824, v_14826, v_14828, v_14830, v_14832, v_14834, v_14835, v_14837, v_14839, v_14841, v_14843, v_14845, v_14847, v_14849, v_14851, v_14853, p_ad_0_0, b_14821, b_14823, b_14825, b_14827, b_14829, b_14831, b_14833, b_14836, b_14838, b_14840, b_14842, b_14844, b_14846, b_14848, b_14850, b_14852, b_14854⟩ := opnM_0 (j := 0) I (by decide)
  have p_ad_0_0 : pt L f (ad 0 0) (.inr (12, [.ref (ad 1 0), .ref (ad 2 0), .ref (ad 3 0), .ref (ad 4 0), .int v_14820, .int v_14822, .int v_14824, .int v_14826, .int v_14828, .int v_14830, .int v_14832, .long v_14834, .int v_14835, .int v_14837, .int v_14839, .ref (ad 5 0), .ref (ad 6 0), .int v_14841, .int v_14843, .int v_14845, .int v_14847, .int v_14849, .ref (ad 7 0), .ref (ad 8 0), .ref (ad 9 0), .int v_14851, .ref (ad 10 0), .ref (ad 11 0), .ref (ad 12 0), .ref (ad 13 0), .int v_14853, .ref (ad 14 0)])) := p_ad_0_0
  refine pg_get S Y ok_X12 0 (by decide) kf12_7 (v := .ref (ad 1 0)) p_ad_0_0 rfl dX12_riskOf_3 ?_
  refine lv_bipush (v := 11) hx hb dX12_riskOf_6 (by decide) ?_
  obtain ⟨g_14855, p_ad_1_0, o_14856⟩ := I.opi (k := 1) (j := 0) (by decide) rfl
  have p_ad_1_0 : pt L f (ad 1 0) (.inl (G.2 0, 10568, .inl g_14855)) := p_ad_1_0
  obtain ⟨v_14857, ev_14857⟩ : ∃ z, z = g_14855 (11 : Int32).toNatClampNeg := ⟨_, rfl⟩
  refine pg_iald S Y (v := v_14857) p_ad_1_0 (by unfold vp_in; decide) ev_14857.symm dX12_riskOf_8 ?_
  refine cVv (As := [.int i1, .int v_14857]) (rest := []) S Y (x_X12_name (l := l) I hB hX (bn_w b_i1 (by decide))) cw_X12_name km12_298 p_ad_0_0 ok_X12.1 rfl rfl ⟨Nat.le_of_ble_eq_true rfl, Nat.le_of_ble_eq_true rfl⟩ hl.1 rfl (Nat.le_of_ble_eq_true rfl) ⟨Nat.le_of_ble_eq_true rfl, Nat.le_of_ble_eq_true rfl⟩ dX12_riskOf_9 (fun L_14858 f_14859 H locs I Y => ?_)
  refine lv_aload_n hx hb dX12_riskOf_12 rfl (lv_at hl 0 rfl) ?_
  refine lv_aload_n hx hb dX12_riskOf_13 rfl (lv_at hl 0 rfl) ?_
  obtain ⟨v_14860, v_14862, v_14864, v_14866, v_14868, v_14870, v_14872, v_14874, v_14875, v_14877, v_14879, v_14881, v_14883, v_14885, v_14887, v_14889, v_14891, v_14893, p_ad_0_0, b_14861, b_14863, b_14865, b_14867, b_14869, b_14871, b_14873, b_14876, b_14878, b_14880, b_14882, b_14884, b_14886, b_14888, b_14890, b_14892, b_14894⟩ := opnM_0 (j := 0) I (by decide)
  have p_ad_0_0 : pt L_14858 f_14859 (ad 0 0) (.inr (12, [.ref (ad 1 0), .ref (ad 2 0), .ref (ad 3 0), .ref (ad 4 0), .int v_14860, .int v_14862, .int v_14864, .int v_14866, .int v_14868, .int v_14870, .int v_14872, .long v_14874, .int v_14875, .int v_14877, .int v_14879, .ref (ad 5 0), .ref (ad 6 0), .int v_14881, .int v_14883, .int v_14885, .int v_14887, .int v_14889, .ref (ad 7 0), .ref (ad 8 0), .ref (ad 9 0), .int v_14891, .ref (ad 10 0), .ref (ad 11 0), .ref (ad 12 0), .ref (ad 13 0), .int v_14893, .ref (ad 14 0)])) := p_ad_0_0
  refine pg_get S Y ok_X12 0 (by decide) kf12_7 (v := .ref (ad 1 0)) p_ad_0_0 rfl dX12_riskOf_14 ?_
  refine lv_iconst (v := 2) hx hb dX12_riskOf_17 (by decide) ?_
  obtain ⟨g_14895, p_ad_1_0, o_14896⟩ := I.opi (k := 1) (j := 0) (by decide) rfl
  have p_ad_1_0 : pt L_14858 f_14859 (ad 1 0) (.inl (G.2 0, 10568, .inl g_14895)) := p_ad_1_0
  obtain ⟨v_14897, ev_14897⟩ : ∃ z, z = g_14895 (2 : Int32).toNatClampNeg := ⟨_, rfl⟩
  refine pg_iald S Y (v := v_14897) p_ad_1_0 (by unfold vp_in; decide) ev_14897.symm dX12_riskOf_18 ?_
  have bv_14897 : bn (-1) 3 v_14897 := bn_eq ev_14897 (IA_2 o_14896)
  refine lv_iconst (v := 2) hx hb dX12_riskOf_19 (by decide) ?_
  refine lv_bipush (v := 10) hx hb dX12_riskOf_20 (by decide) ?_
  refine lv_aload_n hx hb dX12_riskOf_22 rfl (lv_at hl 0 rfl) ?_
  refine lv_iload_n hx hb dX12_riskOf_23 rfl (lv_at hl 1 rfl) ?_
  refine lv_i2l hx hb dX12_riskOf_24 rfl ?_
  refine lv_topl (fun x_14898 ex_14898 => ?_)
  refine cVlp (As := [.long x_14898]) (rest := [.int 10, .int 2, .int v_14897, .ref (ad 0 0)]) S Y (x_X12_marksOf (l := l) I hB) cw_X12_marksOf km12_274 p_ad_0_0 ok_X12.1 rfl rfl ⟨Nat.le_of_ble_eq_true rfl, Nat.le_of_ble_eq_true rfl⟩ hl.1 rfl (Nat.le_of_ble_eq_true rfl) ⟨Nat.le_of_ble_eq_true rfl, Nat.le_of_ble_eq_true rfl⟩ dX12_riskOf_25 (fun r_14899 H locs er_14899 Y => ?_)
  refine lv_l2i hx hb dX12_riskOf_28 rfl ?_
  refine lv_topi (fun x_14900 ex_14900 => ?_)
  refine lv_imul hx hb dX12_riskOf_29 ?_
  refine lv_topi (fun x_14901 ex_14901 => ?_)
  refine lv_aload_n hx hb dX12_riskOf_30 rfl (lv_at hl 0 rfl) ?_
  refine pg_get S Y ok_X12 22 (by decide) kf12_35 (v := .ref (ad 7 0)) p_ad_0_0 rfl dX12_riskOf_31 ?_
  refine lv_iconst (v := 2) hx hb dX12_riskOf_34 (by decide) ?_
  obtain ⟨g_14902, p_ad_7_0, o_14903⟩ := I.opi (k := 7) (j := 0) (by decide) rfl
  have p_ad_7_0 : pt L_14858 f_14859 (ad 7 0) (.inl (G.2 0, 10, .inl g_14902)) := p_ad_7_0
  obtain ⟨v_14904, ev_14904⟩ : ∃ z, z = g_14902 (2 : Int32).toNatClampNeg := ⟨_, rfl⟩
  refine pg_iald S Y (v := v_14904) p_ad_7_0 (by unfold vp_in; decide) ev_14904.symm dX12_riskOf_35 ?_
  refine lv_isub hx hb dX12_riskOf_36 ?_
  refine lv_topi (fun x_14905 ex_14905 => ?_)
  refine lv_sipush (v := 9999) hx hb dX12_riskOf_37 (by decide) ?_
  refine cVi (As := [.int v_14897, .int 2, .int x_14905, .int 9999]) (rest := []) S Y (x_X12_says (l := l) I hB hX (bn_w bv_14897 (by decide)) (bn_w (show bn 2 2 (2 : Int32) from bn_k (by decide)) (by decide))) cw_X12_says km12_304 p_ad_0_0 ok_X12.1 rfl rfl ⟨Nat.le_of_ble_eq_true rfl, Nat.le_of_ble_eq_true rfl⟩ hl.1 rfl (Nat.le_of_ble_eq_true rfl) ⟨Nat.le_of_ble_eq_true rfl, Nat.le_of_ble_eq_true rfl⟩ dX12_riskOf_40 (fun r_14908 L_14906 f_14907 H locs I Y => ?_)
  exact prI (post := fun r L1 f1 => SH (spM (IA sl pl oh dh w) pi (EQ g0) pa) nnM G ad L1 f1) S Y rfl (by decide) (by decide) hA1 I dX12_riskOf_43
set_option maxHeartbeats 4000000 in
set_option maxRecDepth 100000 in
theorem x_X12_acheOf {l : Launch} {G : GG}  {L : List Nat} {f : HF} {ad : Nat → Nat → Nat} {sl : Int} {pl : Int} {oh : Int} {dh : Int} {w : Int × Int} {pi : (Nat → Int32) → Prop} {g0 : Nat → Int32} {pa : (Nat → Int32) → Prop} {i1 : Int32} (I : SH (spM (IA sl pl oh dh w) pi (EQ g0) pa) nnM G ad L f) (hB : BBp sl pl oh dh w) (hX : TX g0) : PMi l yX12_acheOf cX12_acheOf 4 .int 7 0 0 G [.ref (ad 0 0), .int i1] L f (fun r L1 f1 => SH (spM (IA sl pl oh dh w) pi (EQ g0) pa) nnM G ad L1 f1) := by
  refine PMi.of (post := fun r L1 f1 => SH (spM (IA sl pl oh dh w) pi (EQ g0) pa) nnM G ad L1 f1) (own := RX12) (by decide) rfl (Nat.le_of_ble_eq_true rfl) (fun sz p e s m args below meth c A ls hA1 hname S Y hl => ?_)
  have hx := S.hx
  have hb := S.hb
  have hl : lv_has ls 4 [(0, .ref (ad 0 0)), (1, .int i1)] := hl
  have J_4 : ∀ (n4 : Nat) (y4_2 y4_3 : Int32) (L_4 : List Nat) (f_4 : HF) (H : Heap) (locs : List Loc) (ls : Array Slot), (SH (spM (IA sl pl oh dh w) pi (EQ g0) pa) nnM G ad L_4 f_4) → (bn 0 14 y4_3) → (((14 : Int) - y4_3.toInt).toNat = n4) → (DY G A s [] L_4 f_4 H locs) → (lv_has ls 4 [(0, .ref (ad 0 0)), (1, .int i1), (2, .int y4_2), (3, .int y4_3)]) → W p l e (rmD 7 0 0) s m args below meth c H locs (0) (0) (MQ below (va_Qi (fun r (u : List Nat × HF) => (fun r L1 f1 => SH (spM (IA sl pl oh dh w) pi (EQ g0) pa) nnM G ad L1 f1) r u.1 u.2) (fun u t => pOut G (va_A (va_pl L f) sz) u.1 u.2 t) (va_A (va_pl L f) sz)) args s 0 0 A) (F0 m 4 ls []) := by
    intro n4
    induction n4 using Nat.strongRecOn with
    | _ n4 ih4 =>
      intro y4_2 y4_3 L_4 f_4 H locs ls I b_y4_3 hm4 Y hl
      refine lv_iload_n hx hb dX12_acheOf_4 rfl (lv_at hl 3 rfl) ?_
      refine lv_aload_n hx hb dX12_acheOf_5 rfl (lv_at hl 0 rfl) ?_
      obtain ⟨v_15735, v_15737, v_15739, v_15741, v_15743, v_15745, v_15747, v_15749, v_15750, v_15752, v_15754, v_15756, v_15758, v_15760, v_15762, v_15764, v_15766, v_15768, p_ad_0_0, b_15736, b_15738, b_15740, b_15742, b_15744, b_15746, b_15748, b_15751, b_15753, b_15755, b_15757, b_15759, b_15761, b_15763, b_15765, b_15767, b_15769⟩ := opnM_0 (j := 0) I (by decide)
      have p_ad_0_0 : pt L_4 f_4 (ad 0 0) (.inr (12, [.ref (ad 1 0), .ref (ad 2 0), .ref (ad 3 0), .ref (ad 4 0), .int v_15735, .int v_15737, .int v_15739, .int v_15741, .int v_15743, .int v_15745, .int v_15747, .long v_15749, .int v_15750, .int v_15752, .int v_15754, .ref (ad 5 0), .ref (ad 6 0), .int v_15756, .int v_15758, .int v_15760, .int v_15762, .int v_15764, .ref (ad 7 0), .ref (ad 8 0), .ref (ad 9 0), .int v_15766, .ref (ad 10 0), .ref (ad 11 0), .ref (ad 12 0), .ref (ad 13 0), .int v_15768, .ref (ad 14 0)])) := p_ad_0_0
      refine pg_get S Y ok_X12 0 (by decide) kf12_7 (v := .ref (ad 1 0)) p_ad_0_0 rfl dX12_acheOf_6 ?_
      refine lv_bipush (v := 13) hx hb dX12_acheOf_9 (by decide) ?_
      obtain ⟨g_15770, p_ad_1_0, o_15771⟩ := I.opi (k := 1) (j := 0) (by decide) rfl
      have p_ad_1_0 : pt L_4 f_4 (ad 1 0) (.inl (G.2 0, 10568, .inl g_15770)) := p_ad_1_0
      obtain ⟨v_15772, ev_15772⟩ : ∃ z, z = g_15770 (13 : Int32).toNatClampNeg := ⟨_, rfl⟩
      refine pg_iald S Y (v := v_15772) p_ad_1_0 (by unfold vp_in; decide) ev_15772.symm dX12_acheOf_11 ?_
      have bv_15772 : bn 0 14 v_15772 := bn_eq ev_15772 (bn_w (a' := 0) (b' := 14) (IA_13 o_15771) ⟨by decide, by have h9 := hB; unfold BBp at h9; omega⟩)
      refine lv_icmp_ge (tgt := 64) hx hb dX12_acheOf_12 (by decide) (fun c_15773 => ?_) (fun c_15773 => ?_)
      · refine lv_iload_n hx hb dX12_acheOf_64 rfl (lv_at hl 2 rfl) ?_
        exact prI (post := fun r L1 f1 => SH (spM (IA sl pl oh dh w) pi (EQ g0) pa) nnM G ad L1 f1) S Y rfl (by decide) (by decide) hA1 I dX12_acheOf_65
      · have B_15774 : bn 1 14 v_15772 := bn_w (bn_gtl c_15773 bv_15772 b_y4_3) (by decide)
        have B_15775 : bn 0 13 y4_3 := bn_w (bn_gtr c_15773 bv_15772 b_y4_3) (by decide)
        refine lv_aload_n hx hb dX12_acheOf_15 rfl (lv_at hl 0 rfl) ?_
        refine lv_iload_n hx hb dX12_acheOf_16 rfl (lv_at hl 3 rfl) ?_
        refine lv_iconst (v := 1) hx hb dX12_acheOf_17 (by decide) ?_
        refine cVp (As := [.int y4_3, .int 1]) (rest := []) S Y (x_X12_getON (l := l) I hB (bn_w B_15775 (by decide)) (bn_w (show bn 1 1 (1 : Int32) from bn_k (by decide)) (by decide))) cw_X12_get km12_73 p_ad_0_0 ok_X12.1 rfl rfl ⟨Nat.le_of_ble_eq_true rfl, Nat.le_of_ble_eq_true rfl⟩ hl.1 rfl (Nat.le_of_ble_eq_true rfl) ⟨Nat.le_of_ble_eq_true rfl, Nat.le_of_ble_eq_true rfl⟩ dX12_acheOf_18 (fun r_15776 H locs er_15776 Y => ?_)
        refine lv_iload_n hx hb dX12_acheOf_21 rfl (lv_at hl 1 rfl) ?_
        refine lv_icmp_ne (tgt := 58) hx hb dX12_acheOf_22 (by decide) (fun c_15777 => ?_) (fun c_15777 => ?_)
        · obtain ⟨x_15778, ex_15778⟩ : ∃ z : Int32, z = y4_3 + 1 := ⟨_, rfl⟩
          refine lv_iinc (v := x_15778) (lv' := [(3, .int x_15778), (0, .ref (ad 0 0)), (1, .int i1), (2, .int y4_2)]) hx hb dX12_acheOf_58 hl (k := 3) rfl (by rw [ex_15778]; rfl) (by decide) rfl (fun ls hl => ?_)
          refine lv_goto (tgt := 4) hx hb dX12_acheOf_61 (by decide) ?_
          exact ih4 _ (by rw [← hm4]; exact ms_up (m := 1) ex_15778 (show bn 1 1 (1 : Int32) from bn_k (by decide)) B_15775 (bn_w (bn_eq ex_15778 (bn_add B_15775 (show bn 1 1 (1 : Int32) from bn_k (by decide)) (by decide))) (by decide) : bn 0 14 x_15778) (by decide)) y4_2 x_15778 _ _  _ _ _ I (bn_w (bn_eq ex_15778 (bn_add B_15775 (show bn 1 1 (1 : Int32) from bn_k (by decide)) (by decide))) (by decide)) rfl Y (lv_sub hl [1, 2, 3, 0] rfl)
        · refine lv_aload_n hx hb dX12_acheOf_25 rfl (lv_at hl 0 rfl) ?_
          refine lv_iload_n hx hb dX12_acheOf_26 rfl (lv_at hl 3 rfl) ?_
          refine lv_iconst (v := 4) hx hb dX12_acheOf_27 (by decide) ?_
          refine cVp (As := [.int y4_3, .int 4]) (rest := []) S Y (x_X12_get (l := l) I hB (bn_w B_15775 (by decide)) (bn_w (show bn 4 4 (4 : Int32) from bn_k (by decide)) (by decide))) cw_X12_get km12_73 p_ad_0_0 ok_X12.1 rfl rfl ⟨Nat.le_of_ble_eq_true rfl, Nat.le_of_ble_eq_true rfl⟩ hl.1 rfl (Nat.le_of_ble_eq_true rfl) ⟨Nat.le_of_ble_eq_true rfl, Nat.le_of_ble_eq_true rfl⟩ dX12_acheOf_28 (fun r_15779 H locs er_15779 Y => ?_)
          refine lv_iconst (v := 1) hx hb dX12_acheOf_31 (by decide) ?_
          refine lv_icmp_ne (tgt := 58) hx hb dX12_acheOf_32 (by decide) (fun c_15780 => ?_) (fun c_15780 => ?_)
          · obtain ⟨x_15782, ex_15782⟩ : ∃ z : Int32, z = y4_3 + 1 := ⟨_, rfl⟩
            refine lv_iinc (v := x_15782) (lv' := [(3, .int x_15782), (0, .ref (ad 0 0)), (1, .int i1), (2, .int y4_2)]) hx hb dX12_acheOf_58 hl (k := 3) rfl (by rw [ex_15782]; rfl) (by decide) rfl (fun ls hl => ?_)
            refine lv_goto (tgt := 4) hx hb dX12_acheOf_61 (by decide) ?_
            exact ih4 _ (by rw [← hm4]; exact ms_up (m := 1) ex_15782 (show bn 1 1 (1 : Int32) from bn_k (by decide)) B_15775 (bn_w (bn_eq ex_15782 (bn_add B_15775 (show bn 1 1 (1 : Int32) from bn_k (by decide)) (by decide))) (by decide) : bn 0 14 x_15782) (by decide)) y4_2 x_15782 _ _  _ _ _ I (bn_w (bn_eq ex_15782 (bn_add B_15775 (show bn 1 1 (1 : Int32) from bn_k (by decide)) (by decide))) (by decide)) rfl Y (lv_sub hl [1, 2, 3, 0] rfl)
          · have B_15781 : bn 1 1 r_15779 := bn_w (bn_eq c_15780 (show bn 1 1 (1 : Int32) from bn_k (by decide))) (by decide)
            refine lv_aload_n hx hb dX12_acheOf_35 rfl (lv_at hl 0 rfl) ?_
            refine lv_iload_n hx hb dX12_acheOf_36 rfl (lv_at hl 3 rfl) ?_
            refine cVp (As := [.int y4_3]) (rest := []) S Y (x_X12_isLegible (l := l) I hB (bn_w B_15775 (by decide))) cw_X12_isLegible km12_77 p_ad_0_0 ok_X12.1 rfl rfl ⟨Nat.le_of_ble_eq_true rfl, Nat.le_of_ble_eq_true rfl⟩ hl.1 rfl (Nat.le_of_ble_eq_true rfl) ⟨Nat.le_of_ble_eq_true rfl, Nat.le_of_ble_eq_true rfl⟩ dX12_acheOf_37 (fun r_15783 H locs er_15783 Y => ?_)
            refine lv_if_eq (tgt := 58) hx hb dX12_acheOf_40 (by decide) (fun c_15784 => ?_) (fun c_15784 => ?_)
            · have B_15785 : bn 0 0 r_15783 := bn_w (bn_eq c_15784 (show bn 0 0 (0 : Int32) from bn_k (by decide))) (by decide)
              obtain ⟨x_15787, ex_15787⟩ : ∃ z : Int32, z = y4_3 + 1 := ⟨_, rfl⟩
              refine lv_iinc (v := x_15787) (lv' := [(3, .int x_15787), (0, .ref (ad 0 0)), (1, .int i1), (2, .int y4_2)]) hx hb dX12_acheOf_58 hl (k := 3) rfl (by rw [ex_15787]; rfl) (by decide) rfl (fun ls hl => ?_)
              refine lv_goto (tgt := 4) hx hb dX12_acheOf_61 (by decide) ?_
              exact ih4 _ (by rw [← hm4]; exact ms_up (m := 1) ex_15787 (show bn 1 1 (1 : Int32) from bn_k (by decide)) B_15775 (bn_w (bn_eq ex_15787 (bn_add B_15775 (show bn 1 1 (1 : Int32) from bn_k (by decide)) (by decide))) (by decide) : bn 0 14 x_15787) (by decide)) y4_2 x_15787 _ _  _ _ _ I (bn_w (bn_eq ex_15787 (bn_add B_15775 (show bn 1 1 (1 : Int32) from bn_k (by decide)) (by decide))) (by decide)) rfl Y (lv_sub hl [1, 2, 3, 0] rfl)
            · have B_15786 : bn 1 1 r_15783 := bn_w (bn_nel c_15784 er_15783 (show bn 0 0 (0 : Int32) from bn_k (by decide))) (by decide)
              refine lv_iload_n hx hb dX12_acheOf_43 rfl (lv_at hl 2 rfl) ?_
              refine lv_aload_n hx hb dX12_acheOf_44 rfl (lv_at hl 0 rfl) ?_
              refine lv_iload_n hx hb dX12_acheOf_45 rfl (lv_at hl 3 rfl) ?_
              refine lv_aload_n hx hb dX12_acheOf_46 rfl (lv_at hl 0 rfl) ?_
              refine pg_get S Y ok_X12 0 (by decide) kf12_7 (v := .ref (ad 1 0)) p_ad_0_0 rfl dX12_acheOf_47 ?_
              refine lv_bipush (v := 11) hx hb dX12_acheOf_50 (by decide) ?_
              obtain ⟨v_15788, ev_15788⟩ : ∃ z, z = g_15770 (11 : Int32).toNatClampNeg := ⟨_, rfl⟩
              refine pg_iald S Y (v := v_15788) p_ad_1_0 (by unfold vp_in; decide) ev_15788.symm dX12_acheOf_52 ?_
              refine cVi (As := [.int y4_3, .int v_15788]) (rest := [.int y4_2]) S Y (x_X12_achesOf (l := l) I hB hX (bn_w B_15775 (by decide))) cw_X12_achesOf km12_308 p_ad_0_0 ok_X12.1 rfl rfl ⟨Nat.le_of_ble_eq_true rfl, Nat.le_of_ble_eq_true rfl⟩ hl.1 rfl (Nat.le_of_ble_eq_true rfl) ⟨Nat.le_of_ble_eq_true rfl, Nat.le_of_ble_eq_true rfl⟩ dX12_acheOf_53 (fun r_15791 L_15789 f_15790 H locs I Y => ?_)
              refine lv_iadd hx hb dX12_acheOf_56 ?_
              refine lv_topi (fun x_15792 ex_15792 => ?_)
              refine lv_istore_n (lv' := [(2, .int x_15792), (0, .ref (ad 0 0)), (1, .int i1), (3, .int y4_3)]) hx hb dX12_acheOf_57 rfl hl (by decide) rfl (fun ls hl => ?_)
              obtain ⟨x_15793, ex_15793⟩ : ∃ z : Int32, z = y4_3 + 1 := ⟨_, rfl⟩
              refine lv_iinc (v := x_15793) (lv' := [(3, .int x_15793), (2, .int x_15792), (0, .ref (ad 0 0)), (1, .int i1)]) hx hb dX12_acheOf_58 hl (k := 3) rfl (by rw [ex_15793]; rfl) (by decide) rfl (fun ls hl => ?_)
              refine lv_goto (tgt := 4) hx hb dX12_acheOf_61 (by decide) ?_
              exact ih4 _ (by rw [← hm4]; exact ms_up (m := 1) ex_15793 (show bn 1 1 (1 : Int32) from bn_k (by decide)) B_15775 (bn_w (bn_eq ex_15793 (bn_add B_15775 (show bn 1 1 (1 : Int32) from bn_k (by decide)) (by decide))) (by decide) : bn 0 14 x_15793) (by decide)) x_15792 x_15793 _ _  _ _ _ I (bn_w (bn_eq ex_15793 (bn_add B_15775 (show bn 1 1 (1 : Int32) from bn_k (by decide)) (by decide))) (by decide)) rfl Y (lv_sub hl [2, 3, 1, 0] rfl)
  refine lv_iconst (v := 0) hx hb dX12_acheOf_0 (by decide) ?_
  refine lv_istore_n (lv' := [(2, .int 0), (0, .ref (ad 0 0)), (1, .int i1)]) hx hb dX12_acheOf_1 rfl hl (by decide) rfl (fun ls hl => ?_)
  refine lv_iconst (v := 0) hx hb dX12_acheOf_2 (by decide) ?_
  refine lv_istore_n (lv' := [(3, .int 0), (2, .int 0), (0, .ref (ad 0 0)), (1, .int i1)]) hx hb dX12_acheOf_3 rfl hl (by decide) rfl (fun ls hl => ?_)
  exact J_4 _ 0 0 _ _  _ _ _ I (bn_w (show bn 0 0 (0 : Int32) from bn_k (by decide)) (by decide)) rfl Y (lv_sub hl [2, 3, 1, 0] rfl)
