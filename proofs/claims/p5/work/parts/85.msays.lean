theorem dX12_says_0 : decode cX12_says 0 = .ok (.iconst 0, 1) := by decide +kernel
theorem dX12_says_1 : decode cX12_says 1 = .ok (.istore 5, 2) := by decide +kernel
theorem dX12_says_3 : decode cX12_says 3 = .ok (.iload_n 1, 1) := by decide +kernel
theorem dX12_says_4 : decode cX12_says 4 = .ok (.ifCond .lt 59, 3) := by decide +kernel
theorem dX12_says_63 : decode cX12_says 63 = .ok (.iload_n 3, 1) := by decide +kernel
theorem dX12_says_64 : decode cX12_says 64 = .ok (.i2l, 1) := by decide +kernel
theorem dX12_says_65 : decode cX12_says 65 = .ok (.iconst 0, 1) := by decide +kernel
theorem dX12_says_66 : decode cX12_says 66 = .ok (.iload 4, 2) := by decide +kernel
theorem dX12_says_68 : decode cX12_says 68 = .ok (.invokestatic 292, 3) := by decide +kernel
theorem cw_X12_cut : CWs yX12_cut cX12_cut 4 (some .int) 3 := ⟨⟨⟨List.mem_of_getElem? (i := 137) (by decide +kernel), by decide +kernel⟩, ⟨List.mem_of_getElem? (i := 1884) (by decide +kernel), by decide +kernel⟩, by decide +kernel⟩, ⟨List.mem_of_getElem? (i := 1883) (by decide +kernel), by decide +kernel⟩⟩
theorem km12_292 : inW (Cond.methodLink RX12 292 yX12_cut) := ⟨List.mem_of_getElem? (i := 1882) (by decide +kernel), by decide +kernel⟩
theorem dX12_says_71 : decode cX12_says 71 = .ok (.ireturn, 1) := by decide +kernel
theorem dX12_says_7 : decode cX12_says 7 = .ok (.iload 5, 2) := by decide +kernel
theorem dX12_says_9 : decode cX12_says 9 = .ok (.aload_n 0, 1) := by decide +kernel
theorem dX12_says_10 : decode cX12_says 10 = .ok (.getfield 16, 3) := by decide +kernel
theorem dX12_says_13 : decode cX12_says 13 = .ok (.sipush 729, 3) := by decide +kernel
theorem dX12_says_16 : decode cX12_says 16 = .ok (.iload_n 1, 1) := by decide +kernel
theorem dX12_says_17 : decode cX12_says 17 = .ok (.imul, 1) := by decide +kernel
theorem dX12_says_18 : decode cX12_says 18 = .ok (.iaload, 1) := by decide +kernel
theorem dX12_says_19 : decode cX12_says 19 = .ok (.if_icmp .ge 44, 3) := by decide +kernel
theorem dX12_says_22 : decode cX12_says 22 = .ok (.aload_n 0, 1) := by decide +kernel
theorem dX12_says_23 : decode cX12_says 23 = .ok (.getfield 16, 3) := by decide +kernel
theorem dX12_says_26 : decode cX12_says 26 = .ok (.sipush 729, 3) := by decide +kernel
theorem dX12_says_29 : decode cX12_says 29 = .ok (.iload_n 1, 1) := by decide +kernel
theorem dX12_says_30 : decode cX12_says 30 = .ok (.imul, 1) := by decide +kernel
theorem dX12_says_31 : decode cX12_says 31 = .ok (.iconst 1, 1) := by decide +kernel
theorem dX12_says_32 : decode cX12_says 32 = .ok (.iadd, 1) := by decide +kernel
theorem dX12_says_33 : decode cX12_says 33 = .ok (.iconst 5, 1) := by decide +kernel
theorem dX12_says_34 : decode cX12_says 34 = .ok (.iload 5, 2) := by decide +kernel
theorem dX12_says_36 : decode cX12_says 36 = .ok (.imul, 1) := by decide +kernel
theorem dX12_says_37 : decode cX12_says 37 = .ok (.iadd, 1) := by decide +kernel
theorem dX12_says_38 : decode cX12_says 38 = .ok (.iaload, 1) := by decide +kernel
theorem dX12_says_39 : decode cX12_says 39 = .ok (.iload_n 2, 1) := by decide +kernel
theorem dX12_says_40 : decode cX12_says 40 = .ok (.if_icmp .ne 17, 3) := by decide +kernel
theorem dX12_says_57 : decode cX12_says 57 = .ok (.iinc 5 1, 3) := by decide +kernel
theorem dX12_says_60 : decode cX12_says 60 = .ok (.goto (-57), 3) := by decide +kernel
theorem dX12_says_43 : decode cX12_says 43 = .ok (.aload_n 0, 1) := by decide +kernel
theorem dX12_says_44 : decode cX12_says 44 = .ok (.iload_n 1, 1) := by decide +kernel
theorem dX12_says_45 : decode cX12_says 45 = .ok (.iload 5, 2) := by decide +kernel
theorem dX12_says_47 : decode cX12_says 47 = .ok (.invokevirtual 289, 3) := by decide +kernel
theorem cw_X12_summedUp : CWv yX12_summedUp cX12_summedUp 10 (some .long) 2 := ⟨⟨⟨List.mem_of_getElem? (i := 137) (by decide +kernel), by decide +kernel⟩, ⟨List.mem_of_getElem? (i := 1848) (by decide +kernel), by decide +kernel⟩, by decide +kernel⟩, ⟨List.mem_of_getElem? (i := 1847) (by decide +kernel), by decide +kernel⟩, ⟨List.mem_of_getElem? (i := 91) (by decide +kernel), by decide +kernel⟩⟩
theorem km12_289 : inW (Cond.methodLink RX12 289 yX12_summedUp) := ⟨List.mem_of_getElem? (i := 1845) (by decide +kernel), by decide +kernel⟩
theorem dX12_says_50 : decode cX12_says 50 = .ok (.iconst 0, 1) := by decide +kernel
theorem dX12_says_51 : decode cX12_says 51 = .ok (.iload 4, 2) := by decide +kernel
theorem dX12_says_53 : decode cX12_says 53 = .ok (.invokestatic 292, 3) := by decide +kernel
theorem dX12_says_56 : decode cX12_says 56 = .ok (.ireturn, 1) := by decide +kernel
theorem dX12_name_0 : decode cX12_name 0 = .ok (.aload_n 0, 1) := by decide +kernel
theorem dX12_name_1 : decode cX12_name 1 = .ok (.getfield 35, 3) := by decide +kernel
theorem dX12_name_4 : decode cX12_name 4 = .ok (.iconst 0, 1) := by decide +kernel
theorem dX12_name_5 : decode cX12_name 5 = .ok (.aload_n 0, 1) := by decide +kernel
theorem dX12_name_6 : decode cX12_name 6 = .ok (.getfield 7, 3) := by decide +kernel
theorem dX12_name_9 : decode cX12_name 9 = .ok (.bipush 10, 2) := by decide +kernel
theorem dX12_name_11 : decode cX12_name 11 = .ok (.iaload, 1) := by decide +kernel
theorem dX12_name_12 : decode cX12_name 12 = .ok (.iastore, 1) := by decide +kernel
theorem dX12_name_13 : decode cX12_name 13 = .ok (.aload_n 0, 1) := by decide +kernel
theorem dX12_name_14 : decode cX12_name 14 = .ok (.getfield 35, 3) := by decide +kernel
theorem dX12_name_17 : decode cX12_name 17 = .ok (.iconst 1, 1) := by decide +kernel
theorem dX12_name_18 : decode cX12_name 18 = .ok (.iload_n 2, 1) := by decide +kernel
theorem dX12_name_19 : decode cX12_name 19 = .ok (.iastore, 1) := by decide +kernel
theorem dX12_name_20 : decode cX12_name 20 = .ok (.aload_n 0, 1) := by decide +kernel
theorem dX12_name_21 : decode cX12_name 21 = .ok (.getfield 35, 3) := by decide +kernel
theorem dX12_name_24 : decode cX12_name 24 = .ok (.iconst 2, 1) := by decide +kernel
theorem dX12_name_25 : decode cX12_name 25 = .ok (.aload_n 0, 1) := by decide +kernel
theorem dX12_name_26 : decode cX12_name 26 = .ok (.iload_n 1, 1) := by decide +kernel
theorem dX12_name_27 : decode cX12_name 27 = .ok (.invokevirtual 295, 3) := by decide +kernel
theorem cw_X12_toughOf : CWv yX12_toughOf cX12_toughOf 2 (some .int) 1 := ⟨⟨⟨List.mem_of_getElem? (i := 137) (by decide +kernel), by decide +kernel⟩, ⟨List.mem_of_getElem? (i := 1840) (by decide +kernel), by decide +kernel⟩, by decide +kernel⟩, ⟨List.mem_of_getElem? (i := 1839) (by decide +kernel), by decide +kernel⟩, ⟨List.mem_of_getElem? (i := 89) (by decide +kernel), by decide +kernel⟩⟩
theorem km12_295 : inW (Cond.methodLink RX12 295 yX12_toughOf) := ⟨List.mem_of_getElem? (i := 1837) (by decide +kernel), by decide +kernel⟩
theorem dX12_name_30 : decode cX12_name 30 = .ok (.iastore, 1) := by decide +kernel
theorem dX12_name_31 : decode cX12_name 31 = .ok (.aload_n 0, 1) := by decide +kernel
theorem dX12_name_32 : decode cX12_name 32 = .ok (.getfield 35, 3) := by decide +kernel
theorem dX12_name_35 : decode cX12_name 35 = .ok (.iconst 3, 1) := by decide +kernel
theorem dX12_name_36 : decode cX12_name 36 = .ok (.aload_n 0, 1) := by decide +kernel
theorem dX12_name_37 : decode cX12_name 37 = .ok (.getfield 7, 3) := by decide +kernel
theorem dX12_name_40 : decode cX12_name 40 = .ok (.bipush 114, 2) := by decide +kernel
theorem dX12_name_42 : decode cX12_name 42 = .ok (.iconst 2, 1) := by decide +kernel
theorem dX12_name_43 : decode cX12_name 43 = .ok (.iload_n 1, 1) := by decide +kernel
theorem dX12_name_44 : decode cX12_name 44 = .ok (.imul, 1) := by decide +kernel
theorem dX12_name_45 : decode cX12_name 45 = .ok (.iadd, 1) := by decide +kernel
theorem dX12_name_46 : decode cX12_name 46 = .ok (.iconst 1, 1) := by decide +kernel
theorem dX12_name_47 : decode cX12_name 47 = .ok (.iadd, 1) := by decide +kernel
theorem dX12_name_48 : decode cX12_name 48 = .ok (.iaload, 1) := by decide +kernel
theorem dX12_name_49 : decode cX12_name 49 = .ok (.iastore, 1) := by decide +kernel
theorem dX12_name_50 : decode cX12_name 50 = .ok (.aload_n 0, 1) := by decide +kernel
theorem dX12_name_51 : decode cX12_name 51 = .ok (.getfield 35, 3) := by decide +kernel
theorem dX12_name_54 : decode cX12_name 54 = .ok (.iconst 4, 1) := by decide +kernel
theorem dX12_name_55 : decode cX12_name 55 = .ok (.iload_n 1, 1) := by decide +kernel
theorem dX12_name_56 : decode cX12_name 56 = .ok (.iastore, 1) := by decide +kernel
theorem dX12_name_57 : decode cX12_name 57 = .ok (.return_, 1) := by decide +kernel
theorem dX12_nameOath_0 : decode cX12_nameOath 0 = .ok (.aload_n 0, 1) := by decide +kernel
theorem dX12_nameOath_1 : decode cX12_nameOath 1 = .ok (.aload_n 0, 1) := by decide +kernel
theorem dX12_nameOath_2 : decode cX12_nameOath 2 = .ok (.iload_n 1, 1) := by decide +kernel
theorem dX12_nameOath_3 : decode cX12_nameOath 3 = .ok (.iconst 1, 1) := by decide +kernel
theorem dX12_nameOath_4 : decode cX12_nameOath 4 = .ok (.invokevirtual 73, 3) := by decide +kernel
theorem dX12_nameOath_7 : decode cX12_nameOath 7 = .ok (.iload_n 2, 1) := by decide +kernel
theorem dX12_nameOath_8 : decode cX12_nameOath 8 = .ok (.invokevirtual 298, 3) := by decide +kernel
theorem cw_X12_name : CWv yX12_name cX12_name 3 none 2 := ⟨⟨⟨List.mem_of_getElem? (i := 137) (by decide +kernel), by decide +kernel⟩, ⟨List.mem_of_getElem? (i := 1836) (by decide +kernel), by decide +kernel⟩, by decide +kernel⟩, ⟨List.mem_of_getElem? (i := 1835) (by decide +kernel), by decide +kernel⟩, ⟨List.mem_of_getElem? (i := 88) (by decide +kernel), by decide +kernel⟩⟩
theorem km12_298 : inW (Cond.methodLink RX12 298 yX12_name) := ⟨List.mem_of_getElem? (i := 1833) (by decide +kernel), by decide +kernel⟩
theorem dX12_nameOath_11 : decode cX12_nameOath 11 = .ok (.aload_n 0, 1) := by decide +kernel
theorem dX12_nameOath_12 : decode cX12_nameOath 12 = .ok (.getfield 35, 3) := by decide +kernel
theorem dX12_nameOath_15 : decode cX12_nameOath 15 = .ok (.iconst 5, 1) := by decide +kernel
theorem dX12_nameOath_16 : decode cX12_nameOath 16 = .ok (.aload_n 0, 1) := by decide +kernel
theorem dX12_nameOath_17 : decode cX12_nameOath 17 = .ok (.iload_n 1, 1) := by decide +kernel
theorem dX12_nameOath_18 : decode cX12_nameOath 18 = .ok (.iconst 3, 1) := by decide +kernel
theorem dX12_nameOath_19 : decode cX12_nameOath 19 = .ok (.invokevirtual 73, 3) := by decide +kernel
theorem dX12_nameOath_22 : decode cX12_nameOath 22 = .ok (.iastore, 1) := by decide +kernel
theorem dX12_nameOath_23 : decode cX12_nameOath 23 = .ok (.aload_n 0, 1) := by decide +kernel
theorem dX12_nameOath_24 : decode cX12_nameOath 24 = .ok (.getfield 35, 3) := by decide +kernel
theorem dX12_nameOath_27 : decode cX12_nameOath 27 = .ok (.bipush 6, 2) := by decide +kernel
theorem dX12_nameOath_29 : decode cX12_nameOath 29 = .ok (.aload_n 0, 1) := by decide +kernel
theorem dX12_nameOath_30 : decode cX12_nameOath 30 = .ok (.iload_n 1, 1) := by decide +kernel
theorem dX12_nameOath_31 : decode cX12_nameOath 31 = .ok (.iconst 2, 1) := by decide +kernel
theorem dX12_nameOath_32 : decode cX12_nameOath 32 = .ok (.invokevirtual 73, 3) := by decide +kernel
theorem dX12_nameOath_35 : decode cX12_nameOath 35 = .ok (.iastore, 1) := by decide +kernel
theorem dX12_nameOath_36 : decode cX12_nameOath 36 = .ok (.aload_n 0, 1) := by decide +kernel
theorem dX12_nameOath_37 : decode cX12_nameOath 37 = .ok (.getfield 35, 3) := by decide +kernel
theorem dX12_nameOath_40 : decode cX12_nameOath 40 = .ok (.bipush 7, 2) := by decide +kernel
theorem dX12_nameOath_42 : decode cX12_nameOath 42 = .ok (.aload_n 0, 1) := by decide +kernel
theorem dX12_nameOath_43 : decode cX12_nameOath 43 = .ok (.iload_n 1, 1) := by decide +kernel
theorem dX12_nameOath_44 : decode cX12_nameOath 44 = .ok (.iconst 5, 1) := by decide +kernel
theorem dX12_nameOath_45 : decode cX12_nameOath 45 = .ok (.invokevirtual 73, 3) := by decide +kernel
theorem dX12_nameOath_48 : decode cX12_nameOath 48 = .ok (.iastore, 1) := by decide +kernel
theorem dX12_nameOath_49 : decode cX12_nameOath 49 = .ok (.aload_n 0, 1) := by decide +kernel
theorem dX12_nameOath_50 : decode cX12_nameOath 50 = .ok (.getfield 35, 3) := by decide +kernel
theorem dX12_nameOath_53 : decode cX12_nameOath 53 = .ok (.bipush 8, 2) := by decide +kernel
theorem dX12_nameOath_55 : decode cX12_nameOath 55 = .ok (.aload_n 0, 1) := by decide +kernel
theorem dX12_nameOath_56 : decode cX12_nameOath 56 = .ok (.getfield 7, 3) := by decide +kernel
theorem dX12_nameOath_59 : decode cX12_nameOath 59 = .ok (.bipush 10, 2) := by decide +kernel
theorem dX12_nameOath_61 : decode cX12_nameOath 61 = .ok (.iaload, 1) := by decide +kernel
theorem dX12_nameOath_62 : decode cX12_nameOath 62 = .ok (.aload_n 0, 1) := by decide +kernel
theorem dX12_nameOath_63 : decode cX12_nameOath 63 = .ok (.iload_n 1, 1) := by decide +kernel
theorem dX12_nameOath_64 : decode cX12_nameOath 64 = .ok (.bipush 6, 2) := by decide +kernel
theorem dX12_nameOath_66 : decode cX12_nameOath 66 = .ok (.invokevirtual 73, 3) := by decide +kernel
theorem dX12_nameOath_69 : decode cX12_nameOath 69 = .ok (.isub, 1) := by decide +kernel
theorem dX12_nameOath_70 : decode cX12_nameOath 70 = .ok (.iastore, 1) := by decide +kernel
theorem dX12_nameOath_71 : decode cX12_nameOath 71 = .ok (.aload_n 0, 1) := by decide +kernel
theorem dX12_nameOath_72 : decode cX12_nameOath 72 = .ok (.getfield 35, 3) := by decide +kernel
theorem dX12_nameOath_75 : decode cX12_nameOath 75 = .ok (.bipush 9, 2) := by decide +kernel
theorem dX12_nameOath_77 : decode cX12_nameOath 77 = .ok (.aload_n 0, 1) := by decide +kernel
theorem dX12_nameOath_78 : decode cX12_nameOath 78 = .ok (.iload_n 1, 1) := by decide +kernel
theorem dX12_nameOath_79 : decode cX12_nameOath 79 = .ok (.iconst 0, 1) := by decide +kernel
theorem dX12_nameOath_80 : decode cX12_nameOath 80 = .ok (.invokevirtual 73, 3) := by decide +kernel
theorem dX12_nameOath_83 : decode cX12_nameOath 83 = .ok (.iastore, 1) := by decide +kernel
theorem dX12_nameOath_84 : decode cX12_nameOath 84 = .ok (.return_, 1) := by decide +kernel
theorem dX12_wearsOf_0 : decode cX12_wearsOf 0 = .ok (.aload_n 0, 1) := by decide +kernel
theorem dX12_wearsOf_1 : decode cX12_wearsOf 1 = .ok (.iload_n 2, 1) := by decide +kernel
theorem dX12_wearsOf_2 : decode cX12_wearsOf 2 = .ok (.aload_n 0, 1) := by decide +kernel
theorem dX12_wearsOf_3 : decode cX12_wearsOf 3 = .ok (.getfield 7, 3) := by decide +kernel
theorem dX12_wearsOf_6 : decode cX12_wearsOf 6 = .ok (.bipush 11, 2) := by decide +kernel
theorem dX12_wearsOf_8 : decode cX12_wearsOf 8 = .ok (.iaload, 1) := by decide +kernel
theorem dX12_wearsOf_9 : decode cX12_wearsOf 9 = .ok (.invokevirtual 301, 3) := by decide +kernel
theorem cw_X12_nameOath : CWv yX12_nameOath cX12_nameOath 3 none 2 := ⟨⟨⟨List.mem_of_getElem? (i := 137) (by decide +kernel), by decide +kernel⟩, ⟨List.mem_of_getElem? (i := 1832) (by decide +kernel), by decide +kernel⟩, by decide +kernel⟩, ⟨List.mem_of_getElem? (i := 1831) (by decide +kernel), by decide +kernel⟩, ⟨List.mem_of_getElem? (i := 87) (by decide +kernel), by decide +kernel⟩⟩
theorem km12_301 : inW (Cond.methodLink RX12 301 yX12_nameOath) := ⟨List.mem_of_getElem? (i := 1829) (by decide +kernel), by decide +kernel⟩
theorem dX12_wearsOf_12 : decode cX12_wearsOf 12 = .ok (.aload_n 0, 1) := by decide +kernel
theorem dX12_wearsOf_13 : decode cX12_wearsOf 13 = .ok (.iload_n 1, 1) := by decide +kernel
theorem dX12_wearsOf_14 : decode cX12_wearsOf 14 = .ok (.iconst 0, 1) := by decide +kernel
theorem dX12_wearsOf_15 : decode cX12_wearsOf 15 = .ok (.bipush 10, 2) := by decide +kernel
theorem dX12_wearsOf_17 : decode cX12_wearsOf 17 = .ok (.aload_n 0, 1) := by decide +kernel
theorem dX12_wearsOf_18 : decode cX12_wearsOf 18 = .ok (.getfield 35, 3) := by decide +kernel
theorem dX12_wearsOf_21 : decode cX12_wearsOf 21 = .ok (.iconst 2, 1) := by decide +kernel
theorem dX12_wearsOf_22 : decode cX12_wearsOf 22 = .ok (.iaload, 1) := by decide +kernel
theorem dX12_wearsOf_23 : decode cX12_wearsOf 23 = .ok (.isub, 1) := by decide +kernel
theorem dX12_wearsOf_24 : decode cX12_wearsOf 24 = .ok (.bipush 99, 2) := by decide +kernel
theorem dX12_wearsOf_26 : decode cX12_wearsOf 26 = .ok (.invokevirtual 304, 3) := by decide +kernel
theorem cw_X12_says : CWv yX12_says cX12_says 6 (some .int) 4 := ⟨⟨⟨List.mem_of_getElem? (i := 137) (by decide +kernel), by decide +kernel⟩, ⟨List.mem_of_getElem? (i := 1844) (by decide +kernel), by decide +kernel⟩, by decide +kernel⟩, ⟨List.mem_of_getElem? (i := 1843) (by decide +kernel), by decide +kernel⟩, ⟨List.mem_of_getElem? (i := 90) (by decide +kernel), by decide +kernel⟩⟩
theorem km12_304 : inW (Cond.methodLink RX12 304 yX12_says) := ⟨List.mem_of_getElem? (i := 1841) (by decide +kernel), by decide +kernel⟩
theorem dX12_wearsOf_29 : decode cX12_wearsOf 29 = .ok (.ireturn, 1) := by decide +kernel
theorem dX12_achesOf_0 : decode cX12_achesOf 0 = .ok (.aload_n 0, 1) := by decide +kernel
theorem dX12_achesOf_1 : decode cX12_achesOf 1 = .ok (.iload_n 1, 1) := by decide +kernel
theorem dX12_achesOf_2 : decode cX12_achesOf 2 = .ok (.iload_n 2, 1) := by decide +kernel
theorem dX12_achesOf_3 : decode cX12_achesOf 3 = .ok (.invokevirtual 301, 3) := by decide +kernel
theorem dX12_achesOf_6 : decode cX12_achesOf 6 = .ok (.aload_n 0, 1) := by decide +kernel
theorem dX12_achesOf_7 : decode cX12_achesOf 7 = .ok (.aload_n 0, 1) := by decide +kernel
theorem dX12_achesOf_8 : decode cX12_achesOf 8 = .ok (.getfield 7, 3) := by decide +kernel
theorem dX12_achesOf_11 : decode cX12_achesOf 11 = .ok (.iconst 2, 1) := by decide +kernel
theorem dX12_achesOf_12 : decode cX12_achesOf 12 = .ok (.iaload, 1) := by decide +kernel
theorem dX12_achesOf_13 : decode cX12_achesOf 13 = .ok (.iconst 1, 1) := by decide +kernel
theorem dX12_achesOf_14 : decode cX12_achesOf 14 = .ok (.aload_n 0, 1) := by decide +kernel
theorem dX12_achesOf_15 : decode cX12_achesOf 15 = .ok (.getfield 35, 3) := by decide +kernel
theorem dX12_achesOf_18 : decode cX12_achesOf 18 = .ok (.iconst 5, 1) := by decide +kernel
theorem dX12_achesOf_19 : decode cX12_achesOf 19 = .ok (.iaload, 1) := by decide +kernel
theorem dX12_achesOf_20 : decode cX12_achesOf 20 = .ok (.iload_n 2, 1) := by decide +kernel
theorem dX12_achesOf_21 : decode cX12_achesOf 21 = .ok (.imul, 1) := by decide +kernel
theorem dX12_achesOf_22 : decode cX12_achesOf 22 = .ok (.bipush 10, 2) := by decide +kernel
theorem dX12_achesOf_24 : decode cX12_achesOf 24 = .ok (.idiv, 1) := by decide +kernel
theorem dX12_achesOf_25 : decode cX12_achesOf 25 = .ok (.bipush 99, 2) := by decide +kernel
theorem dX12_achesOf_27 : decode cX12_achesOf 27 = .ok (.invokevirtual 304, 3) := by decide +kernel
theorem dX12_achesOf_30 : decode cX12_achesOf 30 = .ok (.ireturn, 1) := by decide +kernel
theorem dX12_riskOf_0 : decode cX12_riskOf 0 = .ok (.aload_n 0, 1) := by decide +kernel
theorem dX12_riskOf_1 : decode cX12_riskOf 1 = .ok (.iload_n 1, 1) := by decide +kernel
theorem dX12_riskOf_2 : decode cX12_riskOf 2 = .ok (.aload_n 0, 1) := by decide +kernel
theorem dX12_riskOf_3 : decode cX12_riskOf 3 = .ok (.getfield 7, 3) := by decide +kernel
theorem dX12_riskOf_6 : decode cX12_riskOf 6 = .ok (.bipush 11, 2) := by decide +kernel
theorem dX12_riskOf_8 : decode cX12_riskOf 8 = .ok (.iaload, 1) := by decide +kernel
theorem dX12_riskOf_9 : decode cX12_riskOf 9 = .ok (.invokevirtual 298, 3) := by decide +kernel
theorem dX12_riskOf_12 : decode cX12_riskOf 12 = .ok (.aload_n 0, 1) := by decide +kernel
theorem dX12_riskOf_13 : decode cX12_riskOf 13 = .ok (.aload_n 0, 1) := by decide +kernel
theorem dX12_riskOf_14 : decode cX12_riskOf 14 = .ok (.getfield 7, 3) := by decide +kernel
theorem dX12_riskOf_17 : decode cX12_riskOf 17 = .ok (.iconst 2, 1) := by decide +kernel
theorem dX12_riskOf_18 : decode cX12_riskOf 18 = .ok (.iaload, 1) := by decide +kernel
theorem dX12_riskOf_19 : decode cX12_riskOf 19 = .ok (.iconst 2, 1) := by decide +kernel
theorem dX12_riskOf_20 : decode cX12_riskOf 20 = .ok (.bipush 10, 2) := by decide +kernel
theorem dX12_riskOf_22 : decode cX12_riskOf 22 = .ok (.aload_n 0, 1) := by decide +kernel
theorem dX12_riskOf_23 : decode cX12_riskOf 23 = .ok (.iload_n 1, 1) := by decide +kernel
theorem dX12_riskOf_24 : decode cX12_riskOf 24 = .ok (.i2l, 1) := by decide +kernel
theorem dX12_riskOf_25 : decode cX12_riskOf 25 = .ok (.invokevirtual 274, 3) := by decide +kernel
theorem dX12_riskOf_28 : decode cX12_riskOf 28 = .ok (.l2i, 1) := by decide +kernel
theorem dX12_riskOf_29 : decode cX12_riskOf 29 = .ok (.imul, 1) := by decide +kernel
theorem dX12_riskOf_30 : decode cX12_riskOf 30 = .ok (.aload_n 0, 1) := by decide +kernel
theorem dX12_riskOf_31 : decode cX12_riskOf 31 = .ok (.getfield 35, 3) := by decide +kernel
theorem dX12_riskOf_34 : decode cX12_riskOf 34 = .ok (.iconst 2, 1) := by decide +kernel
theorem dX12_riskOf_35 : decode cX12_riskOf 35 = .ok (.iaload, 1) := by decide +kernel
theorem dX12_riskOf_36 : decode cX12_riskOf 36 = .ok (.isub, 1) := by decide +kernel
theorem dX12_riskOf_37 : decode cX12_riskOf 37 = .ok (.sipush 9999, 3) := by decide +kernel
theorem dX12_riskOf_40 : decode cX12_riskOf 40 = .ok (.invokevirtual 304, 3) := by decide +kernel
theorem dX12_riskOf_43 : decode cX12_riskOf 43 = .ok (.ireturn, 1) := by decide +kernel
theorem dX12_acheOf_0 : decode cX12_acheOf 0 = .ok (.iconst 0, 1) := by decide +kernel
theorem dX12_acheOf_1 : decode cX12_acheOf 1 = .ok (.istore_n 2, 1) := by decide +kernel
theorem dX12_acheOf_2 : decode cX12_acheOf 2 = .ok (.iconst 0, 1) := by decide +kernel
theorem dX12_acheOf_3 : decode cX12_acheOf 3 = .ok (.istore_n 3, 1) := by decide +kernel
theorem dX12_acheOf_4 : decode cX12_acheOf 4 = .ok (.iload_n 3, 1) := by decide +kernel
theorem dX12_acheOf_5 : decode cX12_acheOf 5 = .ok (.aload_n 0, 1) := by decide +kernel
theorem dX12_acheOf_6 : decode cX12_acheOf 6 = .ok (.getfield 7, 3) := by decide +kernel
theorem dX12_acheOf_9 : decode cX12_acheOf 9 = .ok (.bipush 13, 2) := by decide +kernel
theorem dX12_acheOf_11 : decode cX12_acheOf 11 = .ok (.iaload, 1) := by decide +kernel
theorem dX12_acheOf_12 : decode cX12_acheOf 12 = .ok (.if_icmp .ge 52, 3) := by decide +kernel
theorem dX12_acheOf_64 : decode cX12_acheOf 64 = .ok (.iload_n 2, 1) := by decide +kernel
theorem dX12_acheOf_65 : decode cX12_acheOf 65 = .ok (.ireturn, 1) := by decide +kernel
theorem dX12_acheOf_15 : decode cX12_acheOf 15 = .ok (.aload_n 0, 1) := by decide +kernel
theorem dX12_acheOf_16 : decode cX12_acheOf 16 = .ok (.iload_n 3, 1) := by decide +kernel
theorem dX12_acheOf_17 : decode cX12_acheOf 17 = .ok (.iconst 1, 1) := by decide +kernel
theorem dX12_acheOf_18 : decode cX12_acheOf 18 = .ok (.invokevirtual 73, 3) := by decide +kernel
theorem dX12_acheOf_21 : decode cX12_acheOf 21 = .ok (.iload_n 1, 1) := by decide +kernel
theorem dX12_acheOf_22 : decode cX12_acheOf 22 = .ok (.if_icmp .ne 36, 3) := by decide +kernel
theorem dX12_acheOf_58 : decode cX12_acheOf 58 = .ok (.iinc 3 1, 3) := by decide +kernel
theorem dX12_acheOf_61 : decode cX12_acheOf 61 = .ok (.goto (-57), 3) := by decide +kernel
theorem dX12_acheOf_25 : decode cX12_acheOf 25 = .ok (.aload_n 0, 1) := by decide +kernel
theorem dX12_acheOf_26 : decode cX12_acheOf 26 = .ok (.iload_n 3, 1) := by decide +kernel
theorem dX12_acheOf_27 : decode cX12_acheOf 27 = .ok (.iconst 4, 1) := by decide +kernel
theorem dX12_acheOf_28 : decode cX12_acheOf 28 = .ok (.invokevirtual 73, 3) := by decide +kernel
theorem dX12_acheOf_31 : decode cX12_acheOf 31 = .ok (.iconst 1, 1) := by decide +kernel
theorem dX12_acheOf_32 : decode cX12_acheOf 32 = .ok (.if_icmp .ne 26, 3) := by decide +kernel
theorem dX12_acheOf_35 : decode cX12_acheOf 35 = .ok (.aload_n 0, 1) := by decide +kernel
theorem dX12_acheOf_36 : decode cX12_acheOf 36 = .ok (.iload_n 3, 1) := by decide +kernel
theorem dX12_acheOf_37 : decode cX12_acheOf 37 = .ok (.invokevirtual 77, 3) := by decide +kernel
theorem dX12_acheOf_40 : decode cX12_acheOf 40 = .ok (.ifCond .eq 18, 3) := by decide +kernel
theorem dX12_acheOf_43 : decode cX12_acheOf 43 = .ok (.iload_n 2, 1) := by decide +kernel
theorem dX12_acheOf_44 : decode cX12_acheOf 44 = .ok (.aload_n 0, 1) := by decide +kernel
theorem dX12_acheOf_45 : decode cX12_acheOf 45 = .ok (.iload_n 3, 1) := by decide +kernel
theorem dX12_acheOf_46 : decode cX12_acheOf 46 = .ok (.aload_n 0, 1) := by decide +kernel
theorem dX12_acheOf_47 : decode cX12_acheOf 47 = .ok (.getfield 7, 3) := by decide +kernel
theorem dX12_acheOf_50 : decode cX12_acheOf 50 = .ok (.bipush 11, 2) := by decide +kernel
theorem dX12_acheOf_52 : decode cX12_acheOf 52 = .ok (.iaload, 1) := by decide +kernel
theorem dX12_acheOf_53 : decode cX12_acheOf 53 = .ok (.invokevirtual 308, 3) := by decide +kernel
theorem cw_X12_achesOf : CWv yX12_achesOf cX12_achesOf 3 (some .int) 2 := ⟨⟨⟨List.mem_of_getElem? (i := 137) (by decide +kernel), by decide +kernel⟩, ⟨List.mem_of_getElem? (i := 1924) (by decide +kernel), by decide +kernel⟩, by decide +kernel⟩, ⟨List.mem_of_getElem? (i := 1923) (by decide +kernel), by decide +kernel⟩, ⟨List.mem_of_getElem? (i := 102) (by decide +kernel), by decide +kernel⟩⟩
theorem km12_308 : inW (Cond.methodLink RX12 308 yX12_achesOf) := ⟨List.mem_of_getElem? (i := 1921) (by decide +kernel), by decide +kernel⟩
theorem dX12_acheOf_56 : decode cX12_acheOf 56 = .ok (.iadd, 1) := by decide +kernel
theorem dX12_acheOf_57 : decode cX12_acheOf 57 = .ok (.istore_n 2, 1) := by decide +kernel
set_option maxHeartbeats 4000000 in
set_option maxRecDepth 100000 in
theorem x_X12_says {l : Launch} {G : GG}  {L : List Nat} {f : HF} {ad : Nat → Nat → Nat} {sl : Int} {pl : Int} {oh : Int} {dh : Int} {w : WW} {pi : PIT} {g0 : Nat → Int32} {pa : (Nat → Int32) → Prop} {i1 i2 i3 i4 : Int32} (I : SH (spM (IA sl pl oh dh w) pi (EQ g0) pa) nnM G ad L f) (hB : BBp sl pl oh dh w) (hX : TX g0) (b_i1 : bn (-1) 3 i1) (b_i2 : bn 0 2 i2) : PMi l yX12_says cX12_says 6 .int 5 0 0 G [.ref (ad 0 0), .int i1, .int i2, .int i3, .int i4] L f (fun r L1 f1 => SH (spM (IA sl pl oh dh w) pi (EQ g0) pa) nnM G ad L1 f1) := by
  refine PMi.of (post := fun r L1 f1 => SH (spM (IA sl pl oh dh w) pi (EQ g0) pa) nnM G ad L1 f1) (own := RX12) (by decide) rfl (Nat.le_of_ble_eq_true rfl) (fun sz p e s m args below meth c A ls hA1 hname S Y hl => ?_)
  have hx := S.hx
  have hb := S.hb
  have hl : lv_has ls 6 [(0, .ref (ad 0 0)), (1, .int i1), (2, .int i2), (3, .int i3), (4, .int i4)] := hl
  have J_3 : ∀ (n3 : Nat) (y3_5 : Int32) (L_3 : List Nat) (f_3 : HF) (H : Heap) (locs : List Loc) (ls : Array Slot), (SH (spM (IA sl pl oh dh w) pi (EQ g0) pa) nnM G ad L_3 f_3) → (bn 0 24 y3_5) → (((24 : Int) - y3_5.toInt).toNat = n3) → (DY G A s [] L_3 f_3 H locs) → (lv_has ls 6 [(0, .ref (ad 0 0)), (1, .int i1), (2, .int i2), (3, .int i3), (4, .int i4), (5, .int y3_5)]) → W p l e (rmD 5 0 0) s m args below meth c H locs (0) (0) (MQ below (va_Qi (fun r (u : List Nat × HF) => (fun r L1 f1 => SH (spM (IA sl pl oh dh w) pi (EQ g0) pa) nnM G ad L1 f1) r u.1 u.2) (fun u t => pOut G (va_A (va_pl L f) sz) u.1 u.2 t) (va_A (va_pl L f) sz)) args s 0 0 A) (F0 m 3 ls []) := by
    intro n3
    induction n3 using Nat.strongRecOn with
    | _ n3 ih3 =>
      intro y3_5 L_3 f_3 H locs ls I b_y3_5 hm3 Y hl
      refine lv_iload_n hx hb dX12_says_3 rfl (lv_at hl 1 rfl) ?_
      refine lv_if_lt (tgt := 63) hx hb dX12_says_4 (by decide) (fun c_14263 => ?_) (fun c_14263 => ?_)
      · have B_14264 : bn (-1) (-1) i1 := bn_w (bn_ltl c_14263 b_i1 (show bn 0 0 (0 : Int32) from bn_k (by decide))) (by decide)
        refine lv_iload_n hx hb dX12_says_63 rfl (lv_at hl 3 rfl) ?_
        refine lv_i2l hx hb dX12_says_64 rfl ?_
        refine lv_topl (fun x_14266 ex_14266 => ?_)
        refine lv_iconst (v := 0) hx hb dX12_says_65 (by decide) ?_
        refine lv_iload hx hb dX12_says_66 (lv_at hl 4 rfl) ?_
        refine cSp (As := [.long x_14266, .int 0, .int i4]) (rest := []) S Y (x_X12_cut (l := l) ) cw_X12_cut km12_292 rfl ⟨Nat.le_of_ble_eq_true rfl, Nat.le_of_ble_eq_true rfl⟩ hl.1 rfl (Nat.le_of_ble_eq_true rfl) ⟨Nat.le_of_ble_eq_true rfl, Nat.le_of_ble_eq_true rfl⟩ dX12_says_68 (fun r_14267 H locs er_14267 Y => ?_)
        exact prI (post := fun r L1 f1 => SH (spM (IA sl pl oh dh w) pi (EQ g0) pa) nnM G ad L1 f1) S Y rfl (by decide) (by decide) hA1 I dX12_says_71
      · have B_14265 : bn 0 3 i1 := bn_w (bn_gel c_14263 b_i1 (show bn 0 0 (0 : Int32) from bn_k (by decide))) (by decide)
        refine lv_iload hx hb dX12_says_7 (lv_at hl 5 rfl) ?_
        refine lv_aload_n hx hb dX12_says_9 rfl (lv_at hl 0 rfl) ?_
        obtain ⟨v_14268, v_14270, v_14272, v_14274, v_14276, v_14278, v_14280, v_14282, v_14283, v_14285, v_14287, v_14289, v_14291, v_14293, v_14295, v_14297, v_14299, v_14301, p_ad_0_0, b_14269, b_14271, b_14273, b_14275, b_14277, b_14279, b_14281, b_14284, b_14286, b_14288, b_14290, b_14292, b_14294, b_14296, b_14298, b_14300, b_14302⟩ := opnM_0 (j := 0) I (by decide)
        have p_ad_0_0 : pt L_3 f_3 (ad 0 0) (.inr (12, [.ref (ad 1 0), .ref (ad 2 0), .ref (ad 3 0), .ref (ad 4 0), .int v_14268, .int v_14270, .int v_14272, .int v_14274, .int v_14276, .int v_14278, .int v_14280, .long v_14282, .int v_14283, .int v_14285, .int v_14287, .ref (ad 5 0), .ref (ad 6 0), .int v_14289, .int v_14291, .int v_14293, .int v_14295, .int v_14297, .ref (ad 7 0), .ref (ad 8 0), .ref (ad 9 0), .int v_14299, .ref (ad 10 0), .ref (ad 11 0), .ref (ad 12 0), .ref (ad 13 0), .int v_14301, .ref (ad 14 0)])) := p_ad_0_0
        refine pg_get S Y ok_X12 2 (by decide) kf12_16 (v := .ref (ad 3 0)) p_ad_0_0 rfl dX12_says_10 ?_
        refine lv_sipush (v := 729) hx hb dX12_says_13 (by decide) ?_
        refine lv_iload_n hx hb dX12_says_16 rfl (lv_at hl 1 rfl) ?_
        refine lv_imul hx hb dX12_says_17 ?_
        refine lv_topi (fun x_14303 ex_14303 => ?_)
        obtain ⟨g_14304, p_ad_3_0, o_14305⟩ := I.opi (k := 3) (j := 0) (by decide) rfl
        have p_ad_3_0 : pt L_3 f_3 (ad 3 0) (.inl (G.2 0, 2916, .inl g_14304)) := p_ad_3_0
        obtain ⟨v_14306, ev_14306⟩ : ∃ z, z = g_14304 (x_14303 : Int32).toNatClampNeg := ⟨_, rfl⟩
        refine pg_iald S Y (v := v_14306) p_ad_3_0 (vp_bn (bn_eq ex_14303 (bn_mul (show bn 729 729 (729 : Int32) from bn_k (by decide)) B_14265 (by decide))) (by decide)) ev_14306.symm dX12_says_18 ?_
        have tv_14306 : v_14306 = g0 (x_14303 : Int32).toNatClampNeg := by rw [ev_14306, show g_14304 = g0 from o_14305]
        have nv_14306 : v_14306 = g0 (729 * i1.toNatClampNeg) := by rw [tv_14306, show (x_14303 : Int32).toNatClampNeg = 729 * i1.toNatClampNeg from (by have z9 := (la_mul ex_14303 (show (729 : Int32).toInt = 729 from rfl) (rfl : i1.toInt = i1.toInt) (show bn 729 729 (729 : Int32) from bn_k (by decide)) B_14265 (by decide)); have z0 := B_14265.1; have z1 := b_i2.1; simp only [tnc]; omega)]
        have bv_14306 : bn 0 24 v_14306 := by rw [nv_14306]; exact (hX _ (tn_bn B_14265 (by decide))).1
        refine lv_icmp_ge (tgt := 63) hx hb dX12_says_19 (by decide) (fun c_14307 => ?_) (fun c_14307 => ?_)
        · refine lv_iload_n hx hb dX12_says_63 rfl (lv_at hl 3 rfl) ?_
          refine lv_i2l hx hb dX12_says_64 rfl ?_
          refine lv_topl (fun x_14310 ex_14310 => ?_)
          refine lv_iconst (v := 0) hx hb dX12_says_65 (by decide) ?_
          refine lv_iload hx hb dX12_says_66 (lv_at hl 4 rfl) ?_
          refine cSp (As := [.long x_14310, .int 0, .int i4]) (rest := []) S Y (x_X12_cut (l := l) ) cw_X12_cut km12_292 rfl ⟨Nat.le_of_ble_eq_true rfl, Nat.le_of_ble_eq_true rfl⟩ hl.1 rfl (Nat.le_of_ble_eq_true rfl) ⟨Nat.le_of_ble_eq_true rfl, Nat.le_of_ble_eq_true rfl⟩ dX12_says_68 (fun r_14311 H locs er_14311 Y => ?_)
          exact prI (post := fun r L1 f1 => SH (spM (IA sl pl oh dh w) pi (EQ g0) pa) nnM G ad L1 f1) S Y rfl (by decide) (by decide) hA1 I dX12_says_71
        · have B_14308 : bn 1 24 v_14306 := bn_w (bn_gtl c_14307 bv_14306 b_y3_5) (by decide)
          have B_14309 : bn 0 23 y3_5 := bn_w (bn_gtr c_14307 bv_14306 b_y3_5) (by decide)
          refine lv_aload_n hx hb dX12_says_22 rfl (lv_at hl 0 rfl) ?_
          refine pg_get S Y ok_X12 2 (by decide) kf12_16 (v := .ref (ad 3 0)) p_ad_0_0 rfl dX12_says_23 ?_
          refine lv_sipush (v := 729) hx hb dX12_says_26 (by decide) ?_
          refine lv_iload_n hx hb dX12_says_29 rfl (lv_at hl 1 rfl) ?_
          refine lv_imul hx hb dX12_says_30 ?_
          refine lv_topi (fun x_14312 ex_14312 => ?_)
          refine lv_iconst (v := 1) hx hb dX12_says_31 (by decide) ?_
          refine lv_iadd hx hb dX12_says_32 ?_
          refine lv_topi (fun x_14313 ex_14313 => ?_)
          refine lv_iconst (v := 5) hx hb dX12_says_33 (by decide) ?_
          refine lv_iload hx hb dX12_says_34 (lv_at hl 5 rfl) ?_
          refine lv_imul hx hb dX12_says_36 ?_
          refine lv_topi (fun x_14314 ex_14314 => ?_)
          refine lv_iadd hx hb dX12_says_37 ?_
          refine lv_topi (fun x_14315 ex_14315 => ?_)
          have B_14316 : bn 1 2303 x_14315 := bn_w (bn_eq ex_14315 (bn_add (bn_eq ex_14313 (bn_add (bn_eq ex_14312 (bn_mul (show bn 729 729 (729 : Int32) from bn_k (by decide)) B_14265 (by decide))) (show bn 1 1 (1 : Int32) from bn_k (by decide)) (by decide))) (bn_eq ex_14314 (bn_mul (show bn 5 5 (5 : Int32) from bn_k (by decide)) B_14309 (by decide))) (by decide))) (by decide)
          obtain ⟨v_14317, ev_14317⟩ : ∃ z, z = g_14304 (x_14315 : Int32).toNatClampNeg := ⟨_, rfl⟩
          refine pg_iald S Y (v := v_14317) p_ad_3_0 (vp_bn B_14316 (by decide)) ev_14317.symm dX12_says_38 ?_
          have tv_14317 : v_14317 = g0 (x_14315 : Int32).toNatClampNeg := by rw [ev_14317, show g_14304 = g0 from o_14305]
          refine lv_iload_n hx hb dX12_says_39 rfl (lv_at hl 2 rfl) ?_
          refine lv_icmp_ne (tgt := 57) hx hb dX12_says_40 (by decide) (fun c_14318 => ?_) (fun c_14318 => ?_)
          · obtain ⟨x_14320, ex_14320⟩ : ∃ z : Int32, z = y3_5 + 1 := ⟨_, rfl⟩
            refine lv_iinc (v := x_14320) (lv' := [(5, .int x_14320), (0, .ref (ad 0 0)), (1, .int i1), (2, .int i2), (3, .int i3), (4, .int i4)]) hx hb dX12_says_57 hl (k := 5) rfl (by rw [ex_14320]; rfl) (by decide) rfl (fun ls hl => ?_)
            refine lv_goto (tgt := 3) hx hb dX12_says_60 (by decide) ?_
            exact ih3 _ (by rw [← hm3]; exact ms_up (m := 1) ex_14320 (show bn 1 1 (1 : Int32) from bn_k (by decide)) B_14309 (bn_w (bn_eq ex_14320 (bn_add B_14309 (show bn 1 1 (1 : Int32) from bn_k (by decide)) (by decide))) (by decide) : bn 0 24 x_14320) (by decide)) x_14320 _ _  _ _ _ I (bn_w (bn_eq ex_14320 (bn_add B_14309 (show bn 1 1 (1 : Int32) from bn_k (by decide)) (by decide))) (by decide)) rfl Y (lv_sub hl [1, 2, 3, 4, 5, 0] rfl)
          · have B_14319 : bn 0 2 v_14317 := bn_w (bn_eq c_14318 b_i2) (by decide)
            refine lv_aload_n hx hb dX12_says_43 rfl (lv_at hl 0 rfl) ?_
            refine lv_iload_n hx hb dX12_says_44 rfl (lv_at hl 1 rfl) ?_
            refine lv_iload hx hb dX12_says_45 (lv_at hl 5 rfl) ?_
            refine cVl (As := [.int i1, .int y3_5]) (rest := []) S Y (x_X12_summedUp (l := l) I hB hX (bn_w B_14265 (by decide)) (bn_w B_14309 (by decide)) rfl rfl ((hX i1.toNatClampNeg (tn_bn B_14265 (by decide))).2 (y3_5 : Int32).toNatClampNeg (by rw [← nv_14306]; have h9 := Int32.lt_iff_toInt_lt.mp (Int32.not_le.mp c_14307); have h8 := (B_14309).1; simp only [tnc]; omega) (by rw [show 729 * i1.toNatClampNeg + 1 + 5 * (y3_5 : Int32).toNatClampNeg = (x_14315 : Int32).toNatClampNeg from ((by have z9 := (la_add ex_14315 (la_add ex_14313 (la_mul ex_14312 (show (729 : Int32).toInt = 729 from rfl) (rfl : i1.toInt = i1.toInt) (show bn 729 729 (729 : Int32) from bn_k (by decide)) B_14265 (by decide)) (show (1 : Int32).toInt = 1 from rfl) (bn_eq ex_14312 (bn_mul (show bn 729 729 (729 : Int32) from bn_k (by decide)) B_14265 (by decide))) (show bn 1 1 (1 : Int32) from bn_k (by decide)) (by decide)) (la_mul ex_14314 (show (5 : Int32).toInt = 5 from rfl) (rfl : y3_5.toInt = y3_5.toInt) (show bn 5 5 (5 : Int32) from bn_k (by decide)) B_14309 (by decide)) (bn_eq ex_14313 (bn_add (bn_eq ex_14312 (bn_mul (show bn 729 729 (729 : Int32) from bn_k (by decide)) B_14265 (by decide))) (show bn 1 1 (1 : Int32) from bn_k (by decide)) (by decide))) (bn_eq ex_14314 (bn_mul (show bn 5 5 (5 : Int32) from bn_k (by decide)) B_14309 (by decide))) (by decide)); have z0 := (B_14265).1; have z1 := (B_14309).1; simp only [tnc]; omega) : (x_14315 : Int32).toNatClampNeg = 729 * i1.toNatClampNeg + 1 + 5 * (y3_5 : Int32).toNatClampNeg).symm, ← tv_14317, c_14318]; exact b_i2))) cw_X12_summedUp km12_289 p_ad_0_0 ok_X12.1 rfl rfl ⟨Nat.le_of_ble_eq_true rfl, Nat.le_of_ble_eq_true rfl⟩ hl.1 rfl (Nat.le_of_ble_eq_true rfl) ⟨Nat.le_of_ble_eq_true rfl, Nat.le_of_ble_eq_true rfl⟩ dX12_says_47 (fun r_14323 L_14321 f_14322 H locs I Y => ?_)
            refine lv_iconst (v := 0) hx hb dX12_says_50 (by decide) ?_
            refine lv_iload hx hb dX12_says_51 (lv_at hl 4 rfl) ?_
            refine cSp (As := [.long r_14323, .int 0, .int i4]) (rest := []) S Y (x_X12_cut (l := l) ) cw_X12_cut km12_292 rfl ⟨Nat.le_of_ble_eq_true rfl, Nat.le_of_ble_eq_true rfl⟩ hl.1 rfl (Nat.le_of_ble_eq_true rfl) ⟨Nat.le_of_ble_eq_true rfl, Nat.le_of_ble_eq_true rfl⟩ dX12_says_53 (fun r_14324 H locs er_14324 Y => ?_)
            exact prI (post := fun r L1 f1 => SH (spM (IA sl pl oh dh w) pi (EQ g0) pa) nnM G ad L1 f1) S Y rfl (by decide) (by decide) hA1 I dX12_says_56
  refine lv_iconst (v := 0) hx hb dX12_says_0 (by decide) ?_
  refine lv_istore (lv' := [(5, .int 0), (0, .ref (ad 0 0)), (1, .int i1), (2, .int i2), (3, .int i3), (4, .int i4)]) hx hb dX12_says_1 hl (by decide) rfl (fun ls hl => ?_)
  exact J_3 _ 0 _ _  _ _ _ I (bn_w (show bn 0 0 (0 : Int32) from bn_k (by decide)) (by decide)) rfl Y (lv_sub hl [1, 2, 3, 4, 5, 0] rfl)
set_option maxHeartbeats 4000000 in
set_option maxRecDepth 100000 in
theorem x_X12_name {l : Launch} {G : GG}  {L : List Nat} {f : HF} {ad : Nat → Nat → Nat} {sl : Int} {pl : Int} {oh : Int} {dh : Int} {w : WW} {pi : PIT} {g0 : Nat → Int32} {pa : (Nat → Int32) → Prop} {i1 i2 : Int32} (I : SH (spM (IA sl pl oh dh w) pi (EQ g0) pa) nnM G ad L f) (hB : BBp sl pl oh dh w) (hX : TX g0) (b_i1 : bn 0 5 i1) : PMv l yX12_name cX12_name 3 1 0 0 G [.ref (ad 0 0), .int i1, .int i2] L f (fun L1 f1 => SH (spM (IA sl pl oh dh w) pi (EQ g0) pa) nnM G ad L1 f1) := by
  refine PMv.of (post := fun L1 f1 => SH (spM (IA sl pl oh dh w) pi (EQ g0) pa) nnM G ad L1 f1) (own := RX12) (by decide) rfl (Nat.le_of_ble_eq_true rfl) (fun sz p e s m args below meth c A ls hA1 hname S Y hl => ?_)
  have hx := S.hx
  have hb := S.hb
  have hl : lv_has ls 3 [(0, .ref (ad 0 0)), (1, .int i1), (2, .int i2)] := hl
  refine lv_aload_n hx hb dX12_name_0 rfl (lv_at hl 0 rfl) ?_
  obtain ⟨v_14447, v_14449, v_14451, v_14453, v_14455, v_14457, v_14459, v_14461, v_14462, v_14464, v_14466, v_14468, v_14470, v_14472, v_14474, v_14476, v_14478, v_14480, p_ad_0_0, b_14448, b_14450, b_14452, b_14454, b_14456, b_14458, b_14460, b_14463, b_14465, b_14467, b_14469, b_14471, b_14473, b_14475, b_14477, b_14479, b_14481⟩ := opnM_0 (j := 0) I (by decide)
  have p_ad_0_0 : pt L f (ad 0 0) (.inr (12, [.ref (ad 1 0), .ref (ad 2 0), .ref (ad 3 0), .ref (ad 4 0), .int v_14447, .int v_14449, .int v_14451, .int v_14453, .int v_14455, .int v_14457, .int v_14459, .long v_14461, .int v_14462, .int v_14464, .int v_14466, .ref (ad 5 0), .ref (ad 6 0), .int v_14468, .int v_14470, .int v_14472, .int v_14474, .int v_14476, .ref (ad 7 0), .ref (ad 8 0), .ref (ad 9 0), .int v_14478, .ref (ad 10 0), .ref (ad 11 0), .ref (ad 12 0), .ref (ad 13 0), .int v_14480, .ref (ad 14 0)])) := p_ad_0_0
  refine pg_get S Y ok_X12 22 (by decide) kf12_35 (v := .ref (ad 7 0)) p_ad_0_0 rfl dX12_name_1 ?_
  refine lv_iconst (v := 0) hx hb dX12_name_4 (by decide) ?_
  refine lv_aload_n hx hb dX12_name_5 rfl (lv_at hl 0 rfl) ?_
  refine pg_get S Y ok_X12 0 (by decide) kf12_7 (v := .ref (ad 1 0)) p_ad_0_0 rfl dX12_name_6 ?_
  refine lv_bipush (v := 10) hx hb dX12_name_9 (by decide) ?_
  obtain ⟨g_14482, p_ad_1_0, o_14483⟩ := I.opi (k := 1) (j := 0) (by decide) rfl
  have p_ad_1_0 : pt L f (ad 1 0) (.inl (G.2 0, 10568, .inl g_14482)) := p_ad_1_0
  obtain ⟨v_14484, ev_14484⟩ : ∃ z, z = g_14482 (10 : Int32).toNatClampNeg := ⟨_, rfl⟩
  refine pg_iald S Y (v := v_14484) p_ad_1_0 (by unfold vp_in; decide) ev_14484.symm dX12_name_11 ?_
  have bv_14484 : bn 0 9999 v_14484 := bn_eq ev_14484 (bn_w (a' := 0) (b' := 9999) (IA_10 o_14483) ⟨by decide, by have h9 := hB; unfold BBp at h9; omega⟩)
  obtain ⟨g_14485, p_ad_7_0, o_14486⟩ := I.opi (k := 7) (j := 0) (by decide) rfl
  have p_ad_7_0 : pt L f (ad 7 0) (.inl (G.2 0, 10, .inl g_14485)) := p_ad_7_0
  refine pg_iast S Y p_ad_7_0 (by unfold vp_in; decide) dX12_name_12 (fun f_14488 H locs ef_14488 Y => ?_)
  obtain ⟨g_14487, eg_14487⟩ : ∃ z, z = upd (g_14485) (0 : Int32).toNatClampNeg v_14484 := ⟨_, rfl⟩
  rw [← eg_14487] at ef_14488
  have p_ad_0_0 := p_ad_0_0.up ef_14488 (I.ne (k := 0) (j := 0) (k' := 7) (j' := 0) (by decide) (by decide) (Or.inl (by decide)))
  have p_ad_1_0 := p_ad_1_0.up ef_14488 (I.ne (k := 1) (j := 0) (k' := 7) (j' := 0) (by decide) (by decide) (Or.inl (by decide)))
  have p_ad_7_0 := p_ad_7_0.me ef_14488
  have o_14489 : True := trivial
  have I := I.up (k := 7) (j := 0) (by decide) ef_14488 (okE_a (g := g_14487) o_14489)
  refine lv_aload_n hx hb dX12_name_13 rfl (lv_at hl 0 rfl) ?_
  refine pg_get S Y ok_X12 22 (by decide) kf12_35 (v := .ref (ad 7 0)) p_ad_0_0 rfl dX12_name_14 ?_
  refine lv_iconst (v := 1) hx hb dX12_name_17 (by decide) ?_
  refine lv_iload_n hx hb dX12_name_18 rfl (lv_at hl 2 rfl) ?_
  refine pg_iast S Y p_ad_7_0 (by unfold vp_in; decide) dX12_name_19 (fun f_14491 H locs ef_14491 Y => ?_)
  obtain ⟨g_14490, eg_14490⟩ : ∃ z, z = upd (g_14487) (1 : Int32).toNatClampNeg i2 := ⟨_, rfl⟩
  rw [← eg_14490] at ef_14491
  have p_ad_0_0 := p_ad_0_0.up ef_14491 (I.ne (k := 0) (j := 0) (k' := 7) (j' := 0) (by decide) (by decide) (Or.inl (by decide)))
  have p_ad_1_0 := p_ad_1_0.up ef_14491 (I.ne (k := 1) (j := 0) (k' := 7) (j' := 0) (by decide) (by decide) (Or.inl (by decide)))
  have p_ad_7_0 := p_ad_7_0.me ef_14491
  have o_14492 : True := trivial
  have I := I.up (k := 7) (j := 0) (by decide) ef_14491 (okE_a (g := g_14490) o_14492)
  refine lv_aload_n hx hb dX12_name_20 rfl (lv_at hl 0 rfl) ?_
  refine pg_get S Y ok_X12 22 (by decide) kf12_35 (v := .ref (ad 7 0)) p_ad_0_0 rfl dX12_name_21 ?_
  refine lv_iconst (v := 2) hx hb dX12_name_24 (by decide) ?_
  refine lv_aload_n hx hb dX12_name_25 rfl (lv_at hl 0 rfl) ?_
  refine lv_iload_n hx hb dX12_name_26 rfl (lv_at hl 1 rfl) ?_
  refine cVp (As := [.int i1]) (rest := [.int 2, .ref (ad 7 0)]) S Y (x_X12_toughOf (l := l) I hB (bn_w b_i1 (by decide))) cw_X12_toughOf km12_295 p_ad_0_0 ok_X12.1 rfl rfl ⟨Nat.le_of_ble_eq_true rfl, Nat.le_of_ble_eq_true rfl⟩ hl.1 rfl (Nat.le_of_ble_eq_true rfl) ⟨Nat.le_of_ble_eq_true rfl, Nat.le_of_ble_eq_true rfl⟩ dX12_name_27 (fun r_14493 H locs er_14493 Y => ?_)
  refine pg_iast S Y p_ad_7_0 (by unfold vp_in; decide) dX12_name_30 (fun f_14495 H locs ef_14495 Y => ?_)
  obtain ⟨g_14494, eg_14494⟩ : ∃ z, z = upd (g_14490) (2 : Int32).toNatClampNeg r_14493 := ⟨_, rfl⟩
  rw [← eg_14494] at ef_14495
  have p_ad_0_0 := p_ad_0_0.up ef_14495 (I.ne (k := 0) (j := 0) (k' := 7) (j' := 0) (by decide) (by decide) (Or.inl (by decide)))
  have p_ad_1_0 := p_ad_1_0.up ef_14495 (I.ne (k := 1) (j := 0) (k' := 7) (j' := 0) (by decide) (by decide) (Or.inl (by decide)))
  have p_ad_7_0 := p_ad_7_0.me ef_14495
  have o_14496 : True := trivial
  have I := I.up (k := 7) (j := 0) (by decide) ef_14495 (okE_a (g := g_14494) o_14496)
  refine lv_aload_n hx hb dX12_name_31 rfl (lv_at hl 0 rfl) ?_
  refine pg_get S Y ok_X12 22 (by decide) kf12_35 (v := .ref (ad 7 0)) p_ad_0_0 rfl dX12_name_32 ?_
  refine lv_iconst (v := 3) hx hb dX12_name_35 (by decide) ?_
  refine lv_aload_n hx hb dX12_name_36 rfl (lv_at hl 0 rfl) ?_
  refine pg_get S Y ok_X12 0 (by decide) kf12_7 (v := .ref (ad 1 0)) p_ad_0_0 rfl dX12_name_37 ?_
  refine lv_bipush (v := 114) hx hb dX12_name_40 (by decide) ?_
  refine lv_iconst (v := 2) hx hb dX12_name_42 (by decide) ?_
  refine lv_iload_n hx hb dX12_name_43 rfl (lv_at hl 1 rfl) ?_
  refine lv_imul hx hb dX12_name_44 ?_
  refine lv_topi (fun x_14497 ex_14497 => ?_)
  refine lv_iadd hx hb dX12_name_45 ?_
  refine lv_topi (fun x_14498 ex_14498 => ?_)
  refine lv_iconst (v := 1) hx hb dX12_name_46 (by decide) ?_
  refine lv_iadd hx hb dX12_name_47 ?_
  refine lv_topi (fun x_14499 ex_14499 => ?_)
  have B_14500 : bn 115 125 x_14499 := bn_w (bn_eq ex_14499 (bn_add (bn_eq ex_14498 (bn_add (show bn 114 114 (114 : Int32) from bn_k (by decide)) (bn_eq ex_14497 (bn_mul (show bn 2 2 (2 : Int32) from bn_k (by decide)) b_i1 (by decide))) (by decide))) (show bn 1 1 (1 : Int32) from bn_k (by decide)) (by decide))) (by decide)
  obtain ⟨v_14501, ev_14501⟩ : ∃ z, z = g_14482 (x_14499 : Int32).toNatClampNeg := ⟨_, rfl⟩
  refine pg_iald S Y (v := v_14501) p_ad_1_0 (vp_bn B_14500 (by decide)) ev_14501.symm dX12_name_48 ?_
  refine pg_iast S Y p_ad_7_0 (by unfold vp_in; decide) dX12_name_49 (fun f_14503 H locs ef_14503 Y => ?_)
  obtain ⟨g_14502, eg_14502⟩ : ∃ z, z = upd (g_14494) (3 : Int32).toNatClampNeg v_14501 := ⟨_, rfl⟩
  rw [← eg_14502] at ef_14503
  have p_ad_0_0 := p_ad_0_0.up ef_14503 (I.ne (k := 0) (j := 0) (k' := 7) (j' := 0) (by decide) (by decide) (Or.inl (by decide)))
  have p_ad_1_0 := p_ad_1_0.up ef_14503 (I.ne (k := 1) (j := 0) (k' := 7) (j' := 0) (by decide) (by decide) (Or.inl (by decide)))
  have p_ad_7_0 := p_ad_7_0.me ef_14503
  have o_14504 : True := trivial
  have I := I.up (k := 7) (j := 0) (by decide) ef_14503 (okE_a (g := g_14502) o_14504)
  refine lv_aload_n hx hb dX12_name_50 rfl (lv_at hl 0 rfl) ?_
  refine pg_get S Y ok_X12 22 (by decide) kf12_35 (v := .ref (ad 7 0)) p_ad_0_0 rfl dX12_name_51 ?_
  refine lv_iconst (v := 4) hx hb dX12_name_54 (by decide) ?_
  refine lv_iload_n hx hb dX12_name_55 rfl (lv_at hl 1 rfl) ?_
  refine pg_iast S Y p_ad_7_0 (by unfold vp_in; decide) dX12_name_56 (fun f_14506 H locs ef_14506 Y => ?_)
  obtain ⟨g_14505, eg_14505⟩ : ∃ z, z = upd (g_14502) (4 : Int32).toNatClampNeg i1 := ⟨_, rfl⟩
  rw [← eg_14505] at ef_14506
  have p_ad_0_0 := p_ad_0_0.up ef_14506 (I.ne (k := 0) (j := 0) (k' := 7) (j' := 0) (by decide) (by decide) (Or.inl (by decide)))
  have p_ad_1_0 := p_ad_1_0.up ef_14506 (I.ne (k := 1) (j := 0) (k' := 7) (j' := 0) (by decide) (by decide) (Or.inl (by decide)))
  have p_ad_7_0 := p_ad_7_0.me ef_14506
  have o_14507 : True := trivial
  have I := I.up (k := 7) (j := 0) (by decide) ef_14506 (okE_a (g := g_14505) o_14507)
  exact prV (post := fun L1 f1 => SH (spM (IA sl pl oh dh w) pi (EQ g0) pa) nnM G ad L1 f1) S Y (by decide) (by decide) hA1 I dX12_name_57
set_option maxHeartbeats 4000000 in
set_option maxRecDepth 100000 in
theorem x_X12_nameOath {l : Launch} {G : GG}  {L : List Nat} {f : HF} {ad : Nat → Nat → Nat} {sl : Int} {pl : Int} {oh : Int} {dh : Int} {w : WW} {pi : PIT} {g0 : Nat → Int32} {pa : (Nat → Int32) → Prop} {i1 i2 : Int32} (I : SH (spM (IA sl pl oh dh w) pi (EQ g0) pa) nnM G ad L f) (hB : BBp sl pl oh dh w) (hX : TX g0) (b_i1 : bn 0 13 i1) : PMv l yX12_nameOath cX12_nameOath 3 2 0 0 G [.ref (ad 0 0), .int i1, .int i2] L f (fun L1 f1 => SH (spM (IA sl pl oh dh w) pi (EQ g0) pa) nnM G ad L1 f1) := by
  refine PMv.of (post := fun L1 f1 => SH (spM (IA sl pl oh dh w) pi (EQ g0) pa) nnM G ad L1 f1) (own := RX12) (by decide) rfl (Nat.le_of_ble_eq_true rfl) (fun sz p e s m args below meth c A ls hA1 hname S Y hl => ?_)
  have hx := S.hx
  have hb := S.hb
  have hl : lv_has ls 3 [(0, .ref (ad 0 0)), (1, .int i1), (2, .int i2)] := hl
  refine lv_aload_n hx hb dX12_nameOath_0 rfl (lv_at hl 0 rfl) ?_
  refine lv_aload_n hx hb dX12_nameOath_1 rfl (lv_at hl 0 rfl) ?_
  refine lv_iload_n hx hb dX12_nameOath_2 rfl (lv_at hl 1 rfl) ?_
  refine lv_iconst (v := 1) hx hb dX12_nameOath_3 (by decide) ?_
  refine cVp (As := [.int i1, .int 1]) (rest := [.ref (ad 0 0)]) S Y (x_X12_getON (l := l) I hB (bn_w b_i1 (by decide)) (bn_w (show bn 1 1 (1 : Int32) from bn_k (by decide)) (by decide))) cw_X12_get km12_73 (I.opo (k := 0) (j := 0) (by decide) rfl).choose_spec.1 ok_X12.1 rfl rfl ⟨Nat.le_of_ble_eq_true rfl, Nat.le_of_ble_eq_true rfl⟩ hl.1 rfl (Nat.le_of_ble_eq_true rfl) ⟨Nat.le_of_ble_eq_true rfl, Nat.le_of_ble_eq_true rfl⟩ dX12_nameOath_4 (fun r_14636 H locs er_14636 Y => ?_)
  refine lv_iload_n hx hb dX12_nameOath_7 rfl (lv_at hl 2 rfl) ?_
  refine cVv (As := [.int r_14636, .int i2]) (rest := []) S Y (x_X12_name (l := l) I hB hX (bn_w er_14636 (by decide))) cw_X12_name km12_298 (I.opo (k := 0) (j := 0) (by decide) rfl).choose_spec.1 ok_X12.1 rfl rfl ⟨Nat.le_of_ble_eq_true rfl, Nat.le_of_ble_eq_true rfl⟩ hl.1 rfl (Nat.le_of_ble_eq_true rfl) ⟨Nat.le_of_ble_eq_true rfl, Nat.le_of_ble_eq_true rfl⟩ dX12_nameOath_8 (fun L_14637 f_14638 H locs I Y => ?_)
  refine lv_aload_n hx hb dX12_nameOath_11 rfl (lv_at hl 0 rfl) ?_
  obtain ⟨v_14639, v_14641, v_14643, v_14645, v_14647, v_14649, v_14651, v_14653, v_14654, v_14656, v_14658, v_14660, v_14662, v_14664, v_14666, v_14668, v_14670, v_14672, p_ad_0_0, b_14640, b_14642, b_14644, b_14646, b_14648, b_14650, b_14652, b_14655, b_14657, b_14659, b_14661, b_14663, b_14665, b_14667, b_14669, b_14671, b_14673⟩ := opnM_0 (j := 0) I (by decide)
  have p_ad_0_0 : pt L_14637 f_14638 (ad 0 0) (.inr (12, [.ref (ad 1 0), .ref (ad 2 0), .ref (ad 3 0), .ref (ad 4 0), .int v_14639, .int v_14641, .int v_14643, .int v_14645, .int v_14647, .int v_14649, .int v_14651, .long v_14653, .int v_14654, .int v_14656, .int v_14658, .ref (ad 5 0), .ref (ad 6 0), .int v_14660, .int v_14662, .int v_14664, .int v_14666, .int v_14668, .ref (ad 7 0), .ref (ad 8 0), .ref (ad 9 0), .int v_14670, .ref (ad 10 0), .ref (ad 11 0), .ref (ad 12 0), .ref (ad 13 0), .int v_14672, .ref (ad 14 0)])) := p_ad_0_0
  refine pg_get S Y ok_X12 22 (by decide) kf12_35 (v := .ref (ad 7 0)) p_ad_0_0 rfl dX12_nameOath_12 ?_
  refine lv_iconst (v := 5) hx hb dX12_nameOath_15 (by decide) ?_
  refine lv_aload_n hx hb dX12_nameOath_16 rfl (lv_at hl 0 rfl) ?_
  refine lv_iload_n hx hb dX12_nameOath_17 rfl (lv_at hl 1 rfl) ?_
  refine lv_iconst (v := 3) hx hb dX12_nameOath_18 (by decide) ?_
  refine cVp (As := [.int i1, .int 3]) (rest := [.int 5, .ref (ad 7 0)]) S Y (x_X12_get (l := l) I hB (bn_w b_i1 (by decide)) (bn_w (show bn 3 3 (3 : Int32) from bn_k (by decide)) (by decide))) cw_X12_get km12_73 p_ad_0_0 ok_X12.1 rfl rfl ⟨Nat.le_of_ble_eq_true rfl, Nat.le_of_ble_eq_true rfl⟩ hl.1 rfl (Nat.le_of_ble_eq_true rfl) ⟨Nat.le_of_ble_eq_true rfl, Nat.le_of_ble_eq_true rfl⟩ dX12_nameOath_19 (fun r_14674 H locs er_14674 Y => ?_)
  obtain ⟨g_14675, p_ad_7_0, o_14676⟩ := I.opi (k := 7) (j := 0) (by decide) rfl
  have p_ad_7_0 : pt L_14637 f_14638 (ad 7 0) (.inl (G.2 0, 10, .inl g_14675)) := p_ad_7_0
  refine pg_iast S Y p_ad_7_0 (by unfold vp_in; decide) dX12_nameOath_22 (fun f_14678 H locs ef_14678 Y => ?_)
  obtain ⟨g_14677, eg_14677⟩ : ∃ z, z = upd (g_14675) (5 : Int32).toNatClampNeg r_14674 := ⟨_, rfl⟩
  rw [← eg_14677] at ef_14678
  have p_ad_0_0 := p_ad_0_0.up ef_14678 (I.ne (k := 0) (j := 0) (k' := 7) (j' := 0) (by decide) (by decide) (Or.inl (by decide)))
  have p_ad_7_0 := p_ad_7_0.me ef_14678
  have o_14679 : True := trivial
  have I := I.up (k := 7) (j := 0) (by decide) ef_14678 (okE_a (g := g_14677) o_14679)
  refine lv_aload_n hx hb dX12_nameOath_23 rfl (lv_at hl 0 rfl) ?_
  refine pg_get S Y ok_X12 22 (by decide) kf12_35 (v := .ref (ad 7 0)) p_ad_0_0 rfl dX12_nameOath_24 ?_
  refine lv_bipush (v := 6) hx hb dX12_nameOath_27 (by decide) ?_
  refine lv_aload_n hx hb dX12_nameOath_29 rfl (lv_at hl 0 rfl) ?_
  refine lv_iload_n hx hb dX12_nameOath_30 rfl (lv_at hl 1 rfl) ?_
  refine lv_iconst (v := 2) hx hb dX12_nameOath_31 (by decide) ?_
  refine cVp (As := [.int i1, .int 2]) (rest := [.int 6, .ref (ad 7 0)]) S Y (x_X12_get (l := l) I hB (bn_w b_i1 (by decide)) (bn_w (show bn 2 2 (2 : Int32) from bn_k (by decide)) (by decide))) cw_X12_get km12_73 p_ad_0_0 ok_X12.1 rfl rfl ⟨Nat.le_of_ble_eq_true rfl, Nat.le_of_ble_eq_true rfl⟩ hl.1 rfl (Nat.le_of_ble_eq_true rfl) ⟨Nat.le_of_ble_eq_true rfl, Nat.le_of_ble_eq_true rfl⟩ dX12_nameOath_32 (fun r_14680 H locs er_14680 Y => ?_)
  refine pg_iast S Y p_ad_7_0 (by unfold vp_in; decide) dX12_nameOath_35 (fun f_14682 H locs ef_14682 Y => ?_)
  obtain ⟨g_14681, eg_14681⟩ : ∃ z, z = upd (g_14677) (6 : Int32).toNatClampNeg r_14680 := ⟨_, rfl⟩
  rw [← eg_14681] at ef_14682
  have p_ad_0_0 := p_ad_0_0.up ef_14682 (I.ne (k := 0) (j := 0) (k' := 7) (j' := 0) (by decide) (by decide) (Or.inl (by decide)))
  have p_ad_7_0 := p_ad_7_0.me ef_14682
  have o_14683 : True := trivial
  have I := I.up (k := 7) (j := 0) (by decide) ef_14682 (okE_a (g := g_14681) o_14683)
  refine lv_aload_n hx hb dX12_nameOath_36 rfl (lv_at hl 0 rfl) ?_
  refine pg_get S Y ok_X12 22 (by decide) kf12_35 (v := .ref (ad 7 0)) p_ad_0_0 rfl dX12_nameOath_37 ?_
  refine lv_bipush (v := 7) hx hb dX12_nameOath_40 (by decide) ?_
  refine lv_aload_n hx hb dX12_nameOath_42 rfl (lv_at hl 0 rfl) ?_
  refine lv_iload_n hx hb dX12_nameOath_43 rfl (lv_at hl 1 rfl) ?_
  refine lv_iconst (v := 5) hx hb dX12_nameOath_44 (by decide) ?_
  refine cVp (As := [.int i1, .int 5]) (rest := [.int 7, .ref (ad 7 0)]) S Y (x_X12_get (l := l) I hB (bn_w b_i1 (by decide)) (bn_w (show bn 5 5 (5 : Int32) from bn_k (by decide)) (by decide))) cw_X12_get km12_73 p_ad_0_0 ok_X12.1 rfl rfl ⟨Nat.le_of_ble_eq_true rfl, Nat.le_of_ble_eq_true rfl⟩ hl.1 rfl (Nat.le_of_ble_eq_true rfl) ⟨Nat.le_of_ble_eq_true rfl, Nat.le_of_ble_eq_true rfl⟩ dX12_nameOath_45 (fun r_14684 H locs er_14684 Y => ?_)
  refine pg_iast S Y p_ad_7_0 (by unfold vp_in; decide) dX12_nameOath_48 (fun f_14686 H locs ef_14686 Y => ?_)
  obtain ⟨g_14685, eg_14685⟩ : ∃ z, z = upd (g_14681) (7 : Int32).toNatClampNeg r_14684 := ⟨_, rfl⟩
  rw [← eg_14685] at ef_14686
  have p_ad_0_0 := p_ad_0_0.up ef_14686 (I.ne (k := 0) (j := 0) (k' := 7) (j' := 0) (by decide) (by decide) (Or.inl (by decide)))
  have p_ad_7_0 := p_ad_7_0.me ef_14686
  have o_14687 : True := trivial
  have I := I.up (k := 7) (j := 0) (by decide) ef_14686 (okE_a (g := g_14685) o_14687)
  refine lv_aload_n hx hb dX12_nameOath_49 rfl (lv_at hl 0 rfl) ?_
  refine pg_get S Y ok_X12 22 (by decide) kf12_35 (v := .ref (ad 7 0)) p_ad_0_0 rfl dX12_nameOath_50 ?_
  refine lv_bipush (v := 8) hx hb dX12_nameOath_53 (by decide) ?_
  refine lv_aload_n hx hb dX12_nameOath_55 rfl (lv_at hl 0 rfl) ?_
  refine pg_get S Y ok_X12 0 (by decide) kf12_7 (v := .ref (ad 1 0)) p_ad_0_0 rfl dX12_nameOath_56 ?_
  refine lv_bipush (v := 10) hx hb dX12_nameOath_59 (by decide) ?_
  obtain ⟨g_14688, p_ad_1_0, o_14689⟩ := I.opi (k := 1) (j := 0) (by decide) rfl
  have p_ad_1_0 : pt L_14637 f_14686 (ad 1 0) (.inl (G.2 0, 10568, .inl g_14688)) := p_ad_1_0
  obtain ⟨v_14690, ev_14690⟩ : ∃ z, z = g_14688 (10 : Int32).toNatClampNeg := ⟨_, rfl⟩
  refine pg_iald S Y (v := v_14690) p_ad_1_0 (by unfold vp_in; decide) ev_14690.symm dX12_nameOath_61 ?_
  have bv_14690 : bn 0 9999 v_14690 := bn_eq ev_14690 (bn_w (a' := 0) (b' := 9999) (IA_10 o_14689) ⟨by decide, by have h9 := hB; unfold BBp at h9; omega⟩)
  refine lv_aload_n hx hb dX12_nameOath_62 rfl (lv_at hl 0 rfl) ?_
  refine lv_iload_n hx hb dX12_nameOath_63 rfl (lv_at hl 1 rfl) ?_
  refine lv_bipush (v := 6) hx hb dX12_nameOath_64 (by decide) ?_
  refine cVp (As := [.int i1, .int 6]) (rest := [.int v_14690, .int 8, .ref (ad 7 0)]) S Y (x_X12_get (l := l) I hB (bn_w b_i1 (by decide)) (bn_w (show bn 6 6 (6 : Int32) from bn_k (by decide)) (by decide))) cw_X12_get km12_73 p_ad_0_0 ok_X12.1 rfl rfl ⟨Nat.le_of_ble_eq_true rfl, Nat.le_of_ble_eq_true rfl⟩ hl.1 rfl (Nat.le_of_ble_eq_true rfl) ⟨Nat.le_of_ble_eq_true rfl, Nat.le_of_ble_eq_true rfl⟩ dX12_nameOath_66 (fun r_14691 H locs er_14691 Y => ?_)
  refine lv_isub hx hb dX12_nameOath_69 ?_
  refine lv_topi (fun x_14692 ex_14692 => ?_)
  refine pg_iast S Y p_ad_7_0 (by unfold vp_in; decide) dX12_nameOath_70 (fun f_14694 H locs ef_14694 Y => ?_)
  obtain ⟨g_14693, eg_14693⟩ : ∃ z, z = upd (g_14685) (8 : Int32).toNatClampNeg x_14692 := ⟨_, rfl⟩
  rw [← eg_14693] at ef_14694
  have p_ad_0_0 := p_ad_0_0.up ef_14694 (I.ne (k := 0) (j := 0) (k' := 7) (j' := 0) (by decide) (by decide) (Or.inl (by decide)))
  have p_ad_1_0 := p_ad_1_0.up ef_14694 (I.ne (k := 1) (j := 0) (k' := 7) (j' := 0) (by decide) (by decide) (Or.inl (by decide)))
  have p_ad_7_0 := p_ad_7_0.me ef_14694
  have o_14695 : True := trivial
  have I := I.up (k := 7) (j := 0) (by decide) ef_14694 (okE_a (g := g_14693) o_14695)
  refine lv_aload_n hx hb dX12_nameOath_71 rfl (lv_at hl 0 rfl) ?_
  refine pg_get S Y ok_X12 22 (by decide) kf12_35 (v := .ref (ad 7 0)) p_ad_0_0 rfl dX12_nameOath_72 ?_
  refine lv_bipush (v := 9) hx hb dX12_nameOath_75 (by decide) ?_
  refine lv_aload_n hx hb dX12_nameOath_77 rfl (lv_at hl 0 rfl) ?_
  refine lv_iload_n hx hb dX12_nameOath_78 rfl (lv_at hl 1 rfl) ?_
  refine lv_iconst (v := 0) hx hb dX12_nameOath_79 (by decide) ?_
  refine cVp (As := [.int i1, .int 0]) (rest := [.int 9, .ref (ad 7 0)]) S Y (x_X12_get (l := l) I hB (bn_w b_i1 (by decide)) (bn_w (show bn 0 0 (0 : Int32) from bn_k (by decide)) (by decide))) cw_X12_get km12_73 p_ad_0_0 ok_X12.1 rfl rfl ⟨Nat.le_of_ble_eq_true rfl, Nat.le_of_ble_eq_true rfl⟩ hl.1 rfl (Nat.le_of_ble_eq_true rfl) ⟨Nat.le_of_ble_eq_true rfl, Nat.le_of_ble_eq_true rfl⟩ dX12_nameOath_80 (fun r_14696 H locs er_14696 Y => ?_)
  refine pg_iast S Y p_ad_7_0 (by unfold vp_in; decide) dX12_nameOath_83 (fun f_14698 H locs ef_14698 Y => ?_)
  obtain ⟨g_14697, eg_14697⟩ : ∃ z, z = upd (g_14693) (9 : Int32).toNatClampNeg r_14696 := ⟨_, rfl⟩
  rw [← eg_14697] at ef_14698
  have p_ad_0_0 := p_ad_0_0.up ef_14698 (I.ne (k := 0) (j := 0) (k' := 7) (j' := 0) (by decide) (by decide) (Or.inl (by decide)))
  have p_ad_1_0 := p_ad_1_0.up ef_14698 (I.ne (k := 1) (j := 0) (k' := 7) (j' := 0) (by decide) (by decide) (Or.inl (by decide)))
  have p_ad_7_0 := p_ad_7_0.me ef_14698
  have o_14699 : True := trivial
  have I := I.up (k := 7) (j := 0) (by decide) ef_14698 (okE_a (g := g_14697) o_14699)
  exact prV (post := fun L1 f1 => SH (spM (IA sl pl oh dh w) pi (EQ g0) pa) nnM G ad L1 f1) S Y (by decide) (by decide) hA1 I dX12_nameOath_84
set_option maxHeartbeats 4000000 in
set_option maxRecDepth 100000 in
theorem x_X12_wearsOf {l : Launch} {G : GG}  {L : List Nat} {f : HF} {ad : Nat → Nat → Nat} {sl : Int} {pl : Int} {oh : Int} {dh : Int} {w : WW} {pi : PIT} {g0 : Nat → Int32} {pa : (Nat → Int32) → Prop} {i1 i2 : Int32} (I : SH (spM (IA sl pl oh dh w) pi (EQ g0) pa) nnM G ad L f) (hB : BBp sl pl oh dh w) (hX : TX g0) (b_i1 : bn (-1) 3 i1) (b_i2 : bn 0 13 i2) : PMi l yX12_wearsOf cX12_wearsOf 3 .int 6 0 0 G [.ref (ad 0 0), .int i1, .int i2] L f (fun r L1 f1 => SH (spM (IA sl pl oh dh w) pi (EQ g0) pa) nnM G ad L1 f1) := by
  refine PMi.of (post := fun r L1 f1 => SH (spM (IA sl pl oh dh w) pi (EQ g0) pa) nnM G ad L1 f1) (own := RX12) (by decide) rfl (Nat.le_of_ble_eq_true rfl) (fun sz p e s m args below meth c A ls hA1 hname S Y hl => ?_)
  have hx := S.hx
  have hb := S.hb
  have hl : lv_has ls 3 [(0, .ref (ad 0 0)), (1, .int i1), (2, .int i2)] := hl
  refine lv_aload_n hx hb dX12_wearsOf_0 rfl (lv_at hl 0 rfl) ?_
  refine lv_iload_n hx hb dX12_wearsOf_1 rfl (lv_at hl 2 rfl) ?_
  refine lv_aload_n hx hb dX12_wearsOf_2 rfl (lv_at hl 0 rfl) ?_
  obtain ⟨v_14864, v_14866, v_14868, v_14870, v_14872, v_14874, v_14876, v_14878, v_14879, v_14881, v_14883, v_14885, v_14887, v_14889, v_14891, v_14893, v_14895, v_14897, p_ad_0_0, b_14865, b_14867, b_14869, b_14871, b_14873, b_14875, b_14877, b_14880, b_14882, b_14884, b_14886, b_14888, b_14890, b_14892, b_14894, b_14896, b_14898⟩ := opnM_0 (j := 0) I (by decide)
  have p_ad_0_0 : pt L f (ad 0 0) (.inr (12, [.ref (ad 1 0), .ref (ad 2 0), .ref (ad 3 0), .ref (ad 4 0), .int v_14864, .int v_14866, .int v_14868, .int v_14870, .int v_14872, .int v_14874, .int v_14876, .long v_14878, .int v_14879, .int v_14881, .int v_14883, .ref (ad 5 0), .ref (ad 6 0), .int v_14885, .int v_14887, .int v_14889, .int v_14891, .int v_14893, .ref (ad 7 0), .ref (ad 8 0), .ref (ad 9 0), .int v_14895, .ref (ad 10 0), .ref (ad 11 0), .ref (ad 12 0), .ref (ad 13 0), .int v_14897, .ref (ad 14 0)])) := p_ad_0_0
  refine pg_get S Y ok_X12 0 (by decide) kf12_7 (v := .ref (ad 1 0)) p_ad_0_0 rfl dX12_wearsOf_3 ?_
  refine lv_bipush (v := 11) hx hb dX12_wearsOf_6 (by decide) ?_
  obtain ⟨g_14899, p_ad_1_0, o_14900⟩ := I.opi (k := 1) (j := 0) (by decide) rfl
  have p_ad_1_0 : pt L f (ad 1 0) (.inl (G.2 0, 10568, .inl g_14899)) := p_ad_1_0
  obtain ⟨v_14901, ev_14901⟩ : ∃ z, z = g_14899 (11 : Int32).toNatClampNeg := ⟨_, rfl⟩
  refine pg_iald S Y (v := v_14901) p_ad_1_0 (by unfold vp_in; decide) ev_14901.symm dX12_wearsOf_8 ?_
  refine cVv (As := [.int i2, .int v_14901]) (rest := []) S Y (x_X12_nameOath (l := l) I hB hX (bn_w b_i2 (by decide))) cw_X12_nameOath km12_301 p_ad_0_0 ok_X12.1 rfl rfl ⟨Nat.le_of_ble_eq_true rfl, Nat.le_of_ble_eq_true rfl⟩ hl.1 rfl (Nat.le_of_ble_eq_true rfl) ⟨Nat.le_of_ble_eq_true rfl, Nat.le_of_ble_eq_true rfl⟩ dX12_wearsOf_9 (fun L_14902 f_14903 H locs I Y => ?_)
  refine lv_aload_n hx hb dX12_wearsOf_12 rfl (lv_at hl 0 rfl) ?_
  refine lv_iload_n hx hb dX12_wearsOf_13 rfl (lv_at hl 1 rfl) ?_
  refine lv_iconst (v := 0) hx hb dX12_wearsOf_14 (by decide) ?_
  refine lv_bipush (v := 10) hx hb dX12_wearsOf_15 (by decide) ?_
  refine lv_aload_n hx hb dX12_wearsOf_17 rfl (lv_at hl 0 rfl) ?_
  obtain ⟨v_14904, v_14906, v_14908, v_14910, v_14912, v_14914, v_14916, v_14918, v_14919, v_14921, v_14923, v_14925, v_14927, v_14929, v_14931, v_14933, v_14935, v_14937, p_ad_0_0, b_14905, b_14907, b_14909, b_14911, b_14913, b_14915, b_14917, b_14920, b_14922, b_14924, b_14926, b_14928, b_14930, b_14932, b_14934, b_14936, b_14938⟩ := opnM_0 (j := 0) I (by decide)
  have p_ad_0_0 : pt L_14902 f_14903 (ad 0 0) (.inr (12, [.ref (ad 1 0), .ref (ad 2 0), .ref (ad 3 0), .ref (ad 4 0), .int v_14904, .int v_14906, .int v_14908, .int v_14910, .int v_14912, .int v_14914, .int v_14916, .long v_14918, .int v_14919, .int v_14921, .int v_14923, .ref (ad 5 0), .ref (ad 6 0), .int v_14925, .int v_14927, .int v_14929, .int v_14931, .int v_14933, .ref (ad 7 0), .ref (ad 8 0), .ref (ad 9 0), .int v_14935, .ref (ad 10 0), .ref (ad 11 0), .ref (ad 12 0), .ref (ad 13 0), .int v_14937, .ref (ad 14 0)])) := p_ad_0_0
  refine pg_get S Y ok_X12 22 (by decide) kf12_35 (v := .ref (ad 7 0)) p_ad_0_0 rfl dX12_wearsOf_18 ?_
  refine lv_iconst (v := 2) hx hb dX12_wearsOf_21 (by decide) ?_
  obtain ⟨g_14939, p_ad_7_0, o_14940⟩ := I.opi (k := 7) (j := 0) (by decide) rfl
  have p_ad_7_0 : pt L_14902 f_14903 (ad 7 0) (.inl (G.2 0, 10, .inl g_14939)) := p_ad_7_0
  obtain ⟨v_14941, ev_14941⟩ : ∃ z, z = g_14939 (2 : Int32).toNatClampNeg := ⟨_, rfl⟩
  refine pg_iald S Y (v := v_14941) p_ad_7_0 (by unfold vp_in; decide) ev_14941.symm dX12_wearsOf_22 ?_
  refine lv_isub hx hb dX12_wearsOf_23 ?_
  refine lv_topi (fun x_14942 ex_14942 => ?_)
  refine lv_bipush (v := 99) hx hb dX12_wearsOf_24 (by decide) ?_
  refine cVi (As := [.int i1, .int 0, .int x_14942, .int 99]) (rest := []) S Y (x_X12_says (l := l) I hB hX (bn_w b_i1 (by decide)) (bn_w (show bn 0 0 (0 : Int32) from bn_k (by decide)) (by decide))) cw_X12_says km12_304 p_ad_0_0 ok_X12.1 rfl rfl ⟨Nat.le_of_ble_eq_true rfl, Nat.le_of_ble_eq_true rfl⟩ hl.1 rfl (Nat.le_of_ble_eq_true rfl) ⟨Nat.le_of_ble_eq_true rfl, Nat.le_of_ble_eq_true rfl⟩ dX12_wearsOf_26 (fun r_14945 L_14943 f_14944 H locs I Y => ?_)
  exact prI (post := fun r L1 f1 => SH (spM (IA sl pl oh dh w) pi (EQ g0) pa) nnM G ad L1 f1) S Y rfl (by decide) (by decide) hA1 I dX12_wearsOf_29
set_option maxHeartbeats 4000000 in
set_option maxRecDepth 100000 in
theorem x_X12_achesOf {l : Launch} {G : GG}  {L : List Nat} {f : HF} {ad : Nat → Nat → Nat} {sl : Int} {pl : Int} {oh : Int} {dh : Int} {w : WW} {pi : PIT} {g0 : Nat → Int32} {pa : (Nat → Int32) → Prop} {i1 i2 : Int32} (I : SH (spM (IA sl pl oh dh w) pi (EQ g0) pa) nnM G ad L f) (hB : BBp sl pl oh dh w) (hX : TX g0) (b_i1 : bn 0 13 i1) : PMi l yX12_achesOf cX12_achesOf 3 .int 6 0 0 G [.ref (ad 0 0), .int i1, .int i2] L f (fun r L1 f1 => SH (spM (IA sl pl oh dh w) pi (EQ g0) pa) nnM G ad L1 f1) := by
  refine PMi.of (post := fun r L1 f1 => SH (spM (IA sl pl oh dh w) pi (EQ g0) pa) nnM G ad L1 f1) (own := RX12) (by decide) rfl (Nat.le_of_ble_eq_true rfl) (fun sz p e s m args below meth c A ls hA1 hname S Y hl => ?_)
  have hx := S.hx
  have hb := S.hb
  have hl : lv_has ls 3 [(0, .ref (ad 0 0)), (1, .int i1), (2, .int i2)] := hl
  refine lv_aload_n hx hb dX12_achesOf_0 rfl (lv_at hl 0 rfl) ?_
  refine lv_iload_n hx hb dX12_achesOf_1 rfl (lv_at hl 1 rfl) ?_
  refine lv_iload_n hx hb dX12_achesOf_2 rfl (lv_at hl 2 rfl) ?_
  refine cVv (As := [.int i1, .int i2]) (rest := []) S Y (x_X12_nameOath (l := l) I hB hX (bn_w b_i1 (by decide))) cw_X12_nameOath km12_301 (I.opo (k := 0) (j := 0) (by decide) rfl).choose_spec.1 ok_X12.1 rfl rfl ⟨Nat.le_of_ble_eq_true rfl, Nat.le_of_ble_eq_true rfl⟩ hl.1 rfl (Nat.le_of_ble_eq_true rfl) ⟨Nat.le_of_ble_eq_true rfl, Nat.le_of_ble_eq_true rfl⟩ dX12_achesOf_3 (fun L_15042 f_15043 H locs I Y => ?_)
  refine lv_aload_n hx hb dX12_achesOf_6 rfl (lv_at hl 0 rfl) ?_
  refine lv_aload_n hx hb dX12_achesOf_7 rfl (lv_at hl 0 rfl) ?_
  obtain ⟨v_15044, v_15046, v_15048, v_15050, v_15052, v_15054, v_15056, v_15058, v_15059, v_15061, v_15063, v_15065, v_15067, v_15069, v_15071, v_15073, v_15075, v_15077, p_ad_0_0, b_15045, b_15047, b_15049, b_15051, b_15053, b_15055, b_15057, b_15060, b_15062, b_15064, b_15066, b_15068, b_15070, b_15072, b_15074, b_15076, b_15078⟩ := opnM_0 (j := 0) I (by decide)
  have p_ad_0_0 : pt L_15042 f_15043 (ad 0 0) (.inr (12, [.ref (ad 1 0), .ref (ad 2 0), .ref (ad 3 0), .ref (ad 4 0), .int v_15044, .int v_15046, .int v_15048, .int v_15050, .int v_15052, .int v_15054, .int v_15056, .long v_15058, .int v_15059, .int v_15061, .int v_15063, .ref (ad 5 0), .ref (ad 6 0), .int v_15065, .int v_15067, .int v_15069, .int v_15071, .int v_15073, .ref (ad 7 0), .ref (ad 8 0), .ref (ad 9 0), .int v_15075, .ref (ad 10 0), .ref (ad 11 0), .ref (ad 12 0), .ref (ad 13 0), .int v_15077, .ref (ad 14 0)])) := p_ad_0_0
  refine pg_get S Y ok_X12 0 (by decide) kf12_7 (v := .ref (ad 1 0)) p_ad_0_0 rfl dX12_achesOf_8 ?_
  refine lv_iconst (v := 2) hx hb dX12_achesOf_11 (by decide) ?_
  obtain ⟨g_15079, p_ad_1_0, o_15080⟩ := I.opi (k := 1) (j := 0) (by decide) rfl
  have p_ad_1_0 : pt L_15042 f_15043 (ad 1 0) (.inl (G.2 0, 10568, .inl g_15079)) := p_ad_1_0
  obtain ⟨v_15081, ev_15081⟩ : ∃ z, z = g_15079 (2 : Int32).toNatClampNeg := ⟨_, rfl⟩
  refine pg_iald S Y (v := v_15081) p_ad_1_0 (by unfold vp_in; decide) ev_15081.symm dX12_achesOf_12 ?_
  have bv_15081 : bn (-1) 3 v_15081 := bn_eq ev_15081 (IA_2 o_15080)
  refine lv_iconst (v := 1) hx hb dX12_achesOf_13 (by decide) ?_
  refine lv_aload_n hx hb dX12_achesOf_14 rfl (lv_at hl 0 rfl) ?_
  refine pg_get S Y ok_X12 22 (by decide) kf12_35 (v := .ref (ad 7 0)) p_ad_0_0 rfl dX12_achesOf_15 ?_
  refine lv_iconst (v := 5) hx hb dX12_achesOf_18 (by decide) ?_
  obtain ⟨g_15082, p_ad_7_0, o_15083⟩ := I.opi (k := 7) (j := 0) (by decide) rfl
  have p_ad_7_0 : pt L_15042 f_15043 (ad 7 0) (.inl (G.2 0, 10, .inl g_15082)) := p_ad_7_0
  obtain ⟨v_15084, ev_15084⟩ : ∃ z, z = g_15082 (5 : Int32).toNatClampNeg := ⟨_, rfl⟩
  refine pg_iald S Y (v := v_15084) p_ad_7_0 (by unfold vp_in; decide) ev_15084.symm dX12_achesOf_19 ?_
  refine lv_iload_n hx hb dX12_achesOf_20 rfl (lv_at hl 2 rfl) ?_
  refine lv_imul hx hb dX12_achesOf_21 ?_
  refine lv_topi (fun x_15085 ex_15085 => ?_)
  refine lv_bipush (v := 10) hx hb dX12_achesOf_22 (by decide) ?_
  refine lv_idiv hx hb dX12_achesOf_24 (by decide) ?_
  refine lv_topi (fun x_15086 ex_15086 => ?_)
  refine lv_bipush (v := 99) hx hb dX12_achesOf_25 (by decide) ?_
  refine cVi (As := [.int v_15081, .int 1, .int x_15086, .int 99]) (rest := []) S Y (x_X12_says (l := l) I hB hX (bn_w bv_15081 (by decide)) (bn_w (show bn 1 1 (1 : Int32) from bn_k (by decide)) (by decide))) cw_X12_says km12_304 p_ad_0_0 ok_X12.1 rfl rfl ⟨Nat.le_of_ble_eq_true rfl, Nat.le_of_ble_eq_true rfl⟩ hl.1 rfl (Nat.le_of_ble_eq_true rfl) ⟨Nat.le_of_ble_eq_true rfl, Nat.le_of_ble_eq_true rfl⟩ dX12_achesOf_27 (fun r_15089 L_15087 f_15088 H locs I Y => ?_)
  exact prI (post := fun r L1 f1 => SH (spM (IA sl pl oh dh w) pi (EQ g0) pa) nnM G ad L1 f1) S Y rfl (by decide) (by decide) hA1 I dX12_achesOf_30
set_option maxHeartbeats 4000000 in
set_option maxRecDepth 100000 in
theorem x_X12_riskOf {l : Launch} {G : GG}  {L : List Nat} {f : HF} {ad : Nat → Nat → Nat} {sl : Int} {pl : Int} {oh : Int} {dh : Int} {w : WW} {pi : PIT} {g0 : Nat → Int32} {pa : (Nat → Int32) → Prop} {i1 : Int32} (I : SH (spM (IA sl pl oh dh w) pi (EQ g0) pa) nnM G ad L f) (hB : BBp sl pl oh dh w) (hX : TX g0) (b_i1 : bn 0 5 i1) : PMi l yX12_riskOf cX12_riskOf 2 .int 6 0 0 G [.ref (ad 0 0), .int i1] L f (fun r L1 f1 => SH (spM (IA sl pl oh dh w) pi (EQ g0) pa) nnM G ad L1 f1) := by
  refine PMi.of (post := fun r L1 f1 => SH (spM (IA sl pl oh dh w) pi (EQ g0) pa) nnM G ad L1 f1) (own := RX12) (by decide) rfl (Nat.le_of_ble_eq_true rfl) (fun sz p e s m args below meth c A ls hA1 hname S Y hl => ?_)
  have hx := S.hx
  have hb := S.hb
  have hl : lv_has ls 2 [(0, .ref (ad 0 0)), (1, .int i1)] := hl
  refine lv_aload_n hx hb dX12_riskOf_0 rfl (lv_at hl 0 rfl) ?_
  refine lv_iload_n hx hb dX12_riskOf_1 rfl (lv_at hl 1 rfl) ?_
  refine lv_aload_n hx hb dX12_riskOf_2 rfl (lv_at hl 0 rfl) ?_
  obtain ⟨v_15268, v_15270, v_15272, v_15274, v_15276, v_15278, v_15280, v_15282, v_15283, v_15285, v_15287, v_15289, v_15291, v_15293, v_15295, v_15297, v_15299, v_15301, p_ad_0_0, b_15269, b_15271, b_15273, b_15275, b_15277, b_15279, b_15281, b_15284, b_15286, b_15288, b_15290, b_15292, b_15294, b_15296, b_15298, b_15300, b_15302⟩ := opnM_0 (j := 0) I (by decide)
  have p_ad_0_0 : pt L f (ad 0 0) (.inr (12, [.ref (ad 1 0), .ref (ad 2 0), .ref (ad 3 0), .ref (ad 4 0), .int v_15268, .int v_15270, .int v_15272, .int v_15274, .int v_15276, .int v_15278, .int v_15280, .long v_15282, .int v_15283, .int v_15285, .int v_15287, .ref (ad 5 0), .ref (ad 6 0), .int v_15289, .int v_15291, .int v_15293, .int v_15295, .int v_15297, .ref (ad 7 0), .ref (ad 8 0), .ref (ad 9 0), .int v_15299, .ref (ad 10 0), .ref (ad 11 0), .ref (ad 12 0), .ref (ad 13 0), .int v_15301, .ref (ad 14 0)])) := p_ad_0_0
  refine pg_get S Y ok_X12 0 (by decide) kf12_7 (v := .ref (ad 1 0)) p_ad_0_0 rfl dX12_riskOf_3 ?_
  refine lv_bipush (v := 11) hx hb dX12_riskOf_6 (by decide) ?_
  obtain ⟨g_15303, p_ad_1_0, o_15304⟩ := I.opi (k := 1) (j := 0) (by decide) rfl
  have p_ad_1_0 : pt L f (ad 1 0) (.inl (G.2 0, 10568, .inl g_15303)) := p_ad_1_0
  obtain ⟨v_15305, ev_15305⟩ : ∃ z, z = g_15303 (11 : Int32).toNatClampNeg := ⟨_, rfl⟩
  refine pg_iald S Y (v := v_15305) p_ad_1_0 (by unfold vp_in; decide) ev_15305.symm dX12_riskOf_8 ?_
  refine cVv (As := [.int i1, .int v_15305]) (rest := []) S Y (x_X12_name (l := l) I hB hX (bn_w b_i1 (by decide))) cw_X12_name km12_298 p_ad_0_0 ok_X12.1 rfl rfl ⟨Nat.le_of_ble_eq_true rfl, Nat.le_of_ble_eq_true rfl⟩ hl.1 rfl (Nat.le_of_ble_eq_true rfl) ⟨Nat.le_of_ble_eq_true rfl, Nat.le_of_ble_eq_true rfl⟩ dX12_riskOf_9 (fun L_15306 f_15307 H locs I Y => ?_)
  refine lv_aload_n hx hb dX12_riskOf_12 rfl (lv_at hl 0 rfl) ?_
  refine lv_aload_n hx hb dX12_riskOf_13 rfl (lv_at hl 0 rfl) ?_
  obtain ⟨v_15308, v_15310, v_15312, v_15314, v_15316, v_15318, v_15320, v_15322, v_15323, v_15325, v_15327, v_15329, v_15331, v_15333, v_15335, v_15337, v_15339, v_15341, p_ad_0_0, b_15309, b_15311, b_15313, b_15315, b_15317, b_15319, b_15321, b_15324, b_15326, b_15328, b_15330, b_15332, b_15334, b_15336, b_15338, b_15340, b_15342⟩ := opnM_0 (j := 0) I (by decide)
  have p_ad_0_0 : pt L_15306 f_15307 (ad 0 0) (.inr (12, [.ref (ad 1 0), .ref (ad 2 0), .ref (ad 3 0), .ref (ad 4 0), .int v_15308, .int v_15310, .int v_15312, .int v_15314, .int v_15316, .int v_15318, .int v_15320, .long v_15322, .int v_15323, .int v_15325, .int v_15327, .ref (ad 5 0), .ref (ad 6 0), .int v_15329, .int v_15331, .int v_15333, .int v_15335, .int v_15337, .ref (ad 7 0), .ref (ad 8 0), .ref (ad 9 0), .int v_15339, .ref (ad 10 0), .ref (ad 11 0), .ref (ad 12 0), .ref (ad 13 0), .int v_15341, .ref (ad 14 0)])) := p_ad_0_0
  refine pg_get S Y ok_X12 0 (by decide) kf12_7 (v := .ref (ad 1 0)) p_ad_0_0 rfl dX12_riskOf_14 ?_
  refine lv_iconst (v := 2) hx hb dX12_riskOf_17 (by decide) ?_
  obtain ⟨g_15343, p_ad_1_0, o_15344⟩ := I.opi (k := 1) (j := 0) (by decide) rfl
  have p_ad_1_0 : pt L_15306 f_15307 (ad 1 0) (.inl (G.2 0, 10568, .inl g_15343)) := p_ad_1_0
  obtain ⟨v_15345, ev_15345⟩ : ∃ z, z = g_15343 (2 : Int32).toNatClampNeg := ⟨_, rfl⟩
  refine pg_iald S Y (v := v_15345) p_ad_1_0 (by unfold vp_in; decide) ev_15345.symm dX12_riskOf_18 ?_
  have bv_15345 : bn (-1) 3 v_15345 := bn_eq ev_15345 (IA_2 o_15344)
  refine lv_iconst (v := 2) hx hb dX12_riskOf_19 (by decide) ?_
  refine lv_bipush (v := 10) hx hb dX12_riskOf_20 (by decide) ?_
  refine lv_aload_n hx hb dX12_riskOf_22 rfl (lv_at hl 0 rfl) ?_
  refine lv_iload_n hx hb dX12_riskOf_23 rfl (lv_at hl 1 rfl) ?_
  refine lv_i2l hx hb dX12_riskOf_24 rfl ?_
  refine lv_topl (fun x_15346 ex_15346 => ?_)
  refine cVlp (As := [.long x_15346]) (rest := [.int 10, .int 2, .int v_15345, .ref (ad 0 0)]) S Y (x_X12_marksOf (l := l) I hB) cw_X12_marksOf km12_274 p_ad_0_0 ok_X12.1 rfl rfl ⟨Nat.le_of_ble_eq_true rfl, Nat.le_of_ble_eq_true rfl⟩ hl.1 rfl (Nat.le_of_ble_eq_true rfl) ⟨Nat.le_of_ble_eq_true rfl, Nat.le_of_ble_eq_true rfl⟩ dX12_riskOf_25 (fun r_15347 H locs er_15347 Y => ?_)
  refine lv_l2i hx hb dX12_riskOf_28 rfl ?_
  refine lv_topi (fun x_15348 ex_15348 => ?_)
  refine lv_imul hx hb dX12_riskOf_29 ?_
  refine lv_topi (fun x_15349 ex_15349 => ?_)
  refine lv_aload_n hx hb dX12_riskOf_30 rfl (lv_at hl 0 rfl) ?_
  refine pg_get S Y ok_X12 22 (by decide) kf12_35 (v := .ref (ad 7 0)) p_ad_0_0 rfl dX12_riskOf_31 ?_
  refine lv_iconst (v := 2) hx hb dX12_riskOf_34 (by decide) ?_
  obtain ⟨g_15350, p_ad_7_0, o_15351⟩ := I.opi (k := 7) (j := 0) (by decide) rfl
  have p_ad_7_0 : pt L_15306 f_15307 (ad 7 0) (.inl (G.2 0, 10, .inl g_15350)) := p_ad_7_0
  obtain ⟨v_15352, ev_15352⟩ : ∃ z, z = g_15350 (2 : Int32).toNatClampNeg := ⟨_, rfl⟩
  refine pg_iald S Y (v := v_15352) p_ad_7_0 (by unfold vp_in; decide) ev_15352.symm dX12_riskOf_35 ?_
  refine lv_isub hx hb dX12_riskOf_36 ?_
  refine lv_topi (fun x_15353 ex_15353 => ?_)
  refine lv_sipush (v := 9999) hx hb dX12_riskOf_37 (by decide) ?_
  refine cVi (As := [.int v_15345, .int 2, .int x_15353, .int 9999]) (rest := []) S Y (x_X12_says (l := l) I hB hX (bn_w bv_15345 (by decide)) (bn_w (show bn 2 2 (2 : Int32) from bn_k (by decide)) (by decide))) cw_X12_says km12_304 p_ad_0_0 ok_X12.1 rfl rfl ⟨Nat.le_of_ble_eq_true rfl, Nat.le_of_ble_eq_true rfl⟩ hl.1 rfl (Nat.le_of_ble_eq_true rfl) ⟨Nat.le_of_ble_eq_true rfl, Nat.le_of_ble_eq_true rfl⟩ dX12_riskOf_40 (fun r_15356 L_15354 f_15355 H locs I Y => ?_)
  exact prI (post := fun r L1 f1 => SH (spM (IA sl pl oh dh w) pi (EQ g0) pa) nnM G ad L1 f1) S Y rfl (by decide) (by decide) hA1 I dX12_riskOf_43
set_option maxHeartbeats 4000000 in
set_option maxRecDepth 100000 in
theorem x_X12_acheOf {l : Launch} {G : GG}  {L : List Nat} {f : HF} {ad : Nat → Nat → Nat} {sl : Int} {pl : Int} {oh : Int} {dh : Int} {w : WW} {pi : PIT} {g0 : Nat → Int32} {pa : (Nat → Int32) → Prop} {i1 : Int32} (I : SH (spM (IA sl pl oh dh w) pi (EQ g0) pa) nnM G ad L f) (hB : BBp sl pl oh dh w) (hX : TX g0) : PMi l yX12_acheOf cX12_acheOf 4 .int 7 0 0 G [.ref (ad 0 0), .int i1] L f (fun r L1 f1 => SH (spM (IA sl pl oh dh w) pi (EQ g0) pa) nnM G ad L1 f1) := by
  refine PMi.of (post := fun r L1 f1 => SH (spM (IA sl pl oh dh w) pi (EQ g0) pa) nnM G ad L1 f1) (own := RX12) (by decide) rfl (Nat.le_of_ble_eq_true rfl) (fun sz p e s m args below meth c A ls hA1 hname S Y hl => ?_)
  have hx := S.hx
  have hb := S.hb
  have hl : lv_has ls 4 [(0, .ref (ad 0 0)), (1, .int i1)] := hl
  have J_4 : ∀ (n4 : Nat) (y4_2 y4_3 : Int32) (L_4 : List Nat) (f_4 : HF) (H : Heap) (locs : List Loc) (ls : Array Slot), (SH (spM (IA sl pl oh dh w) pi (EQ g0) pa) nnM G ad L_4 f_4) → (bn 0 14 y4_3) → (((14 : Int) - y4_3.toInt).toNat = n4) → (DY G A s [] L_4 f_4 H locs) → (lv_has ls 4 [(0, .ref (ad 0 0)), (1, .int i1), (2, .int y4_2), (3, .int y4_3)]) → W p l e (rmD 7 0 0) s m args below meth c H locs (0) (0) (MQ below (va_Qi (fun r (u : List Nat × HF) => (fun r L1 f1 => SH (spM (IA sl pl oh dh w) pi (EQ g0) pa) nnM G ad L1 f1) r u.1 u.2) (fun u t => pOut G (va_A (va_pl L f) sz) u.1 u.2 t) (va_A (va_pl L f) sz)) args s 0 0 A) (F0 m 4 ls []) := by
    intro n4
    induction n4 using Nat.strongRecOn with
    | _ n4 ih4 =>
      intro y4_2 y4_3 L_4 f_4 H locs ls I b_y4_3 hm4 Y hl
      refine lv_iload_n hx hb dX12_acheOf_4 rfl (lv_at hl 3 rfl) ?_
      refine lv_aload_n hx hb dX12_acheOf_5 rfl (lv_at hl 0 rfl) ?_
      obtain ⟨v_16183, v_16185, v_16187, v_16189, v_16191, v_16193, v_16195, v_16197, v_16198, v_16200, v_16202, v_16204, v_16206, v_16208, v_16210, v_16212, v_16214, v_16216, p_ad_0_0, b_16184, b_16186, b_16188, b_16190, b_16192, b_16194, b_16196, b_16199, b_16201, b_16203, b_16205, b_16207, b_16209, b_16211, b_16213, b_16215, b_16217⟩ := opnM_0 (j := 0) I (by decide)
      have p_ad_0_0 : pt L_4 f_4 (ad 0 0) (.inr (12, [.ref (ad 1 0), .ref (ad 2 0), .ref (ad 3 0), .ref (ad 4 0), .int v_16183, .int v_16185, .int v_16187, .int v_16189, .int v_16191, .int v_16193, .int v_16195, .long v_16197, .int v_16198, .int v_16200, .int v_16202, .ref (ad 5 0), .ref (ad 6 0), .int v_16204, .int v_16206, .int v_16208, .int v_16210, .int v_16212, .ref (ad 7 0), .ref (ad 8 0), .ref (ad 9 0), .int v_16214, .ref (ad 10 0), .ref (ad 11 0), .ref (ad 12 0), .ref (ad 13 0), .int v_16216, .ref (ad 14 0)])) := p_ad_0_0
      refine pg_get S Y ok_X12 0 (by decide) kf12_7 (v := .ref (ad 1 0)) p_ad_0_0 rfl dX12_acheOf_6 ?_
      refine lv_bipush (v := 13) hx hb dX12_acheOf_9 (by decide) ?_
      obtain ⟨g_16218, p_ad_1_0, o_16219⟩ := I.opi (k := 1) (j := 0) (by decide) rfl
      have p_ad_1_0 : pt L_4 f_4 (ad 1 0) (.inl (G.2 0, 10568, .inl g_16218)) := p_ad_1_0
      obtain ⟨v_16220, ev_16220⟩ : ∃ z, z = g_16218 (13 : Int32).toNatClampNeg := ⟨_, rfl⟩
      refine pg_iald S Y (v := v_16220) p_ad_1_0 (by unfold vp_in; decide) ev_16220.symm dX12_acheOf_11 ?_
      have bv_16220 : bn 0 14 v_16220 := bn_eq ev_16220 (bn_w (a' := 0) (b' := 14) (IA_13 o_16219) ⟨by decide, by have h9 := hB; unfold BBp at h9; omega⟩)
      refine lv_icmp_ge (tgt := 64) hx hb dX12_acheOf_12 (by decide) (fun c_16221 => ?_) (fun c_16221 => ?_)
      · refine lv_iload_n hx hb dX12_acheOf_64 rfl (lv_at hl 2 rfl) ?_
        exact prI (post := fun r L1 f1 => SH (spM (IA sl pl oh dh w) pi (EQ g0) pa) nnM G ad L1 f1) S Y rfl (by decide) (by decide) hA1 I dX12_acheOf_65
      · have B_16222 : bn 1 14 v_16220 := bn_w (bn_gtl c_16221 bv_16220 b_y4_3) (by decide)
        have B_16223 : bn 0 13 y4_3 := bn_w (bn_gtr c_16221 bv_16220 b_y4_3) (by decide)
        refine lv_aload_n hx hb dX12_acheOf_15 rfl (lv_at hl 0 rfl) ?_
        refine lv_iload_n hx hb dX12_acheOf_16 rfl (lv_at hl 3 rfl) ?_
        refine lv_iconst (v := 1) hx hb dX12_acheOf_17 (by decide) ?_
        refine cVp (As := [.int y4_3, .int 1]) (rest := []) S Y (x_X12_getON (l := l) I hB (bn_w B_16223 (by decide)) (bn_w (show bn 1 1 (1 : Int32) from bn_k (by decide)) (by decide))) cw_X12_get km12_73 p_ad_0_0 ok_X12.1 rfl rfl ⟨Nat.le_of_ble_eq_true rfl, Nat.le_of_ble_eq_true rfl⟩ hl.1 rfl (Nat.le_of_ble_eq_true rfl) ⟨Nat.le_of_ble_eq_true rfl, Nat.le_of_ble_eq_true rfl⟩ dX12_acheOf_18 (fun r_16224 H locs er_16224 Y => ?_)
        refine lv_iload_n hx hb dX12_acheOf_21 rfl (lv_at hl 1 rfl) ?_
        refine lv_icmp_ne (tgt := 58) hx hb dX12_acheOf_22 (by decide) (fun c_16225 => ?_) (fun c_16225 => ?_)
        · obtain ⟨x_16226, ex_16226⟩ : ∃ z : Int32, z = y4_3 + 1 := ⟨_, rfl⟩
          refine lv_iinc (v := x_16226) (lv' := [(3, .int x_16226), (0, .ref (ad 0 0)), (1, .int i1), (2, .int y4_2)]) hx hb dX12_acheOf_58 hl (k := 3) rfl (by rw [ex_16226]; rfl) (by decide) rfl (fun ls hl => ?_)
          refine lv_goto (tgt := 4) hx hb dX12_acheOf_61 (by decide) ?_
          exact ih4 _ (by rw [← hm4]; exact ms_up (m := 1) ex_16226 (show bn 1 1 (1 : Int32) from bn_k (by decide)) B_16223 (bn_w (bn_eq ex_16226 (bn_add B_16223 (show bn 1 1 (1 : Int32) from bn_k (by decide)) (by decide))) (by decide) : bn 0 14 x_16226) (by decide)) y4_2 x_16226 _ _  _ _ _ I (bn_w (bn_eq ex_16226 (bn_add B_16223 (show bn 1 1 (1 : Int32) from bn_k (by decide)) (by decide))) (by decide)) rfl Y (lv_sub hl [1, 2, 3, 0] rfl)
        · refine lv_aload_n hx hb dX12_acheOf_25 rfl (lv_at hl 0 rfl) ?_
          refine lv_iload_n hx hb dX12_acheOf_26 rfl (lv_at hl 3 rfl) ?_
          refine lv_iconst (v := 4) hx hb dX12_acheOf_27 (by decide) ?_
          refine cVp (As := [.int y4_3, .int 4]) (rest := []) S Y (x_X12_get (l := l) I hB (bn_w B_16223 (by decide)) (bn_w (show bn 4 4 (4 : Int32) from bn_k (by decide)) (by decide))) cw_X12_get km12_73 p_ad_0_0 ok_X12.1 rfl rfl ⟨Nat.le_of_ble_eq_true rfl, Nat.le_of_ble_eq_true rfl⟩ hl.1 rfl (Nat.le_of_ble_eq_true rfl) ⟨Nat.le_of_ble_eq_true rfl, Nat.le_of_ble_eq_true rfl⟩ dX12_acheOf_28 (fun r_16227 H locs er_16227 Y => ?_)
          refine lv_iconst (v := 1) hx hb dX12_acheOf_31 (by decide) ?_
          refine lv_icmp_ne (tgt := 58) hx hb dX12_acheOf_32 (by decide) (fun c_16228 => ?_) (fun c_16228 => ?_)
          · obtain ⟨x_16230, ex_16230⟩ : ∃ z : Int32, z = y4_3 + 1 := ⟨_, rfl⟩
            refine lv_iinc (v := x_16230) (lv' := [(3, .int x_16230), (0, .ref (ad 0 0)), (1, .int i1), (2, .int y4_2)]) hx hb dX12_acheOf_58 hl (k := 3) rfl (by rw [ex_16230]; rfl) (by decide) rfl (fun ls hl => ?_)
            refine lv_goto (tgt := 4) hx hb dX12_acheOf_61 (by decide) ?_
            exact ih4 _ (by rw [← hm4]; exact ms_up (m := 1) ex_16230 (show bn 1 1 (1 : Int32) from bn_k (by decide)) B_16223 (bn_w (bn_eq ex_16230 (bn_add B_16223 (show bn 1 1 (1 : Int32) from bn_k (by decide)) (by decide))) (by decide) : bn 0 14 x_16230) (by decide)) y4_2 x_16230 _ _  _ _ _ I (bn_w (bn_eq ex_16230 (bn_add B_16223 (show bn 1 1 (1 : Int32) from bn_k (by decide)) (by decide))) (by decide)) rfl Y (lv_sub hl [1, 2, 3, 0] rfl)
          · have B_16229 : bn 1 1 r_16227 := bn_w (bn_eq c_16228 (show bn 1 1 (1 : Int32) from bn_k (by decide))) (by decide)
            refine lv_aload_n hx hb dX12_acheOf_35 rfl (lv_at hl 0 rfl) ?_
            refine lv_iload_n hx hb dX12_acheOf_36 rfl (lv_at hl 3 rfl) ?_
            refine cVp (As := [.int y4_3]) (rest := []) S Y (x_X12_isLegible (l := l) I hB (bn_w B_16223 (by decide))) cw_X12_isLegible km12_77 p_ad_0_0 ok_X12.1 rfl rfl ⟨Nat.le_of_ble_eq_true rfl, Nat.le_of_ble_eq_true rfl⟩ hl.1 rfl (Nat.le_of_ble_eq_true rfl) ⟨Nat.le_of_ble_eq_true rfl, Nat.le_of_ble_eq_true rfl⟩ dX12_acheOf_37 (fun r_16231 H locs er_16231 Y => ?_)
            refine lv_if_eq (tgt := 58) hx hb dX12_acheOf_40 (by decide) (fun c_16232 => ?_) (fun c_16232 => ?_)
            · have B_16233 : bn 0 0 r_16231 := bn_w (bn_eq c_16232 (show bn 0 0 (0 : Int32) from bn_k (by decide))) (by decide)
              obtain ⟨x_16235, ex_16235⟩ : ∃ z : Int32, z = y4_3 + 1 := ⟨_, rfl⟩
              refine lv_iinc (v := x_16235) (lv' := [(3, .int x_16235), (0, .ref (ad 0 0)), (1, .int i1), (2, .int y4_2)]) hx hb dX12_acheOf_58 hl (k := 3) rfl (by rw [ex_16235]; rfl) (by decide) rfl (fun ls hl => ?_)
              refine lv_goto (tgt := 4) hx hb dX12_acheOf_61 (by decide) ?_
              exact ih4 _ (by rw [← hm4]; exact ms_up (m := 1) ex_16235 (show bn 1 1 (1 : Int32) from bn_k (by decide)) B_16223 (bn_w (bn_eq ex_16235 (bn_add B_16223 (show bn 1 1 (1 : Int32) from bn_k (by decide)) (by decide))) (by decide) : bn 0 14 x_16235) (by decide)) y4_2 x_16235 _ _  _ _ _ I (bn_w (bn_eq ex_16235 (bn_add B_16223 (show bn 1 1 (1 : Int32) from bn_k (by decide)) (by decide))) (by decide)) rfl Y (lv_sub hl [1, 2, 3, 0] rfl)
            · have B_16234 : bn 1 1 r_16231 := bn_w (bn_nel c_16232 er_16231 (show bn 0 0 (0 : Int32) from bn_k (by decide))) (by decide)
              refine lv_iload_n hx hb dX12_acheOf_43 rfl (lv_at hl 2 rfl) ?_
              refine lv_aload_n hx hb dX12_acheOf_44 rfl (lv_at hl 0 rfl) ?_
              refine lv_iload_n hx hb dX12_acheOf_45 rfl (lv_at hl 3 rfl) ?_
              refine lv_aload_n hx hb dX12_acheOf_46 rfl (lv_at hl 0 rfl) ?_
              refine pg_get S Y ok_X12 0 (by decide) kf12_7 (v := .ref (ad 1 0)) p_ad_0_0 rfl dX12_acheOf_47 ?_
              refine lv_bipush (v := 11) hx hb dX12_acheOf_50 (by decide) ?_
              obtain ⟨v_16236, ev_16236⟩ : ∃ z, z = g_16218 (11 : Int32).toNatClampNeg := ⟨_, rfl⟩
              refine pg_iald S Y (v := v_16236) p_ad_1_0 (by unfold vp_in; decide) ev_16236.symm dX12_acheOf_52 ?_
              refine cVi (As := [.int y4_3, .int v_16236]) (rest := [.int y4_2]) S Y (x_X12_achesOf (l := l) I hB hX (bn_w B_16223 (by decide))) cw_X12_achesOf km12_308 p_ad_0_0 ok_X12.1 rfl rfl ⟨Nat.le_of_ble_eq_true rfl, Nat.le_of_ble_eq_true rfl⟩ hl.1 rfl (Nat.le_of_ble_eq_true rfl) ⟨Nat.le_of_ble_eq_true rfl, Nat.le_of_ble_eq_true rfl⟩ dX12_acheOf_53 (fun r_16239 L_16237 f_16238 H locs I Y => ?_)
              refine lv_iadd hx hb dX12_acheOf_56 ?_
              refine lv_topi (fun x_16240 ex_16240 => ?_)
              refine lv_istore_n (lv' := [(2, .int x_16240), (0, .ref (ad 0 0)), (1, .int i1), (3, .int y4_3)]) hx hb dX12_acheOf_57 rfl hl (by decide) rfl (fun ls hl => ?_)
              obtain ⟨x_16241, ex_16241⟩ : ∃ z : Int32, z = y4_3 + 1 := ⟨_, rfl⟩
              refine lv_iinc (v := x_16241) (lv' := [(3, .int x_16241), (2, .int x_16240), (0, .ref (ad 0 0)), (1, .int i1)]) hx hb dX12_acheOf_58 hl (k := 3) rfl (by rw [ex_16241]; rfl) (by decide) rfl (fun ls hl => ?_)
              refine lv_goto (tgt := 4) hx hb dX12_acheOf_61 (by decide) ?_
              exact ih4 _ (by rw [← hm4]; exact ms_up (m := 1) ex_16241 (show bn 1 1 (1 : Int32) from bn_k (by decide)) B_16223 (bn_w (bn_eq ex_16241 (bn_add B_16223 (show bn 1 1 (1 : Int32) from bn_k (by decide)) (by decide))) (by decide) : bn 0 14 x_16241) (by decide)) x_16240 x_16241 _ _  _ _ _ I (bn_w (bn_eq ex_16241 (bn_add B_16223 (show bn 1 1 (1 : Int32) from bn_k (by decide)) (by decide))) (by decide)) rfl Y (lv_sub hl [2, 3, 1, 0] rfl)
  refine lv_iconst (v := 0) hx hb dX12_acheOf_0 (by decide) ?_
  refine lv_istore_n (lv' := [(2, .int 0), (0, .ref (ad 0 0)), (1, .int i1)]) hx hb dX12_acheOf_1 rfl hl (by decide) rfl (fun ls hl => ?_)
  refine lv_iconst (v := 0) hx hb dX12_acheOf_2 (by decide) ?_
  refine lv_istore_n (lv' := [(3, .int 0), (2, .int 0), (0, .ref (ad 0 0)), (1, .int i1)]) hx hb dX12_acheOf_3 rfl hl (by decide) rfl (fun ls hl => ?_)
  exact J_4 _ 0 0 _ _  _ _ _ I (bn_w (show bn 0 0 (0 : Int32) from bn_k (by decide)) (by decide)) rfl Y (lv_sub hl [2, 3, 1, 0] rfl)
