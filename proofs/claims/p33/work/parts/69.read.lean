theorem dX5_isWord_0 : decode cX5_isWord 0 = .ok (.iload_n 1, 1) := by decide +kernel
theorem dX5_isWord_1 : decode cX5_isWord 1 = .ok (.istore 4, 2) := by decide +kernel
theorem dX5_isWord_3 : decode cX5_isWord 3 = .ok (.iload 4, 2) := by decide +kernel
theorem dX5_isWord_5 : decode cX5_isWord 5 = .ok (.iload_n 2, 1) := by decide +kernel
theorem dX5_isWord_6 : decode cX5_isWord 6 = .ok (.if_icmp .ge 31, 3) := by decide +kernel
theorem dX5_isWord_37 : decode cX5_isWord 37 = .ok (.iconst 1, 1) := by decide +kernel
theorem dX5_isWord_38 : decode cX5_isWord 38 = .ok (.ireturn, 1) := by decide +kernel
theorem dX5_isWord_9 : decode cX5_isWord 9 = .ok (.ldc 93, 2) := by decide +kernel
theorem dX5_isWord_11 : decode cX5_isWord 11 = .ok (.iload 4, 2) := by decide +kernel
theorem dX5_isWord_13 : decode cX5_isWord 13 = .ok (.invokevirtual 100, 3) := by decide +kernel
theorem cw_X100_charAt_5068e : CWv yJ0_charAt_5068e cJ0_charAt_5068e 2 (some .char) 1 := ⟨⟨⟨List.mem_of_getElem? (i := 138) (by decide +kernel), by decide +kernel⟩, ⟨List.mem_of_getElem? (i := 617) (by decide +kernel), by decide +kernel⟩, by decide +kernel⟩, ⟨List.mem_of_getElem? (i := 615) (by decide +kernel), by decide +kernel⟩, ⟨List.mem_of_getElem? (i := 616) (by decide +kernel), by decide +kernel⟩⟩
theorem km5_100 : inW (Cond.methodLink RX5 100 yJ0_charAt_5068e) := ⟨List.mem_of_getElem? (i := 614) (by decide +kernel), by decide +kernel⟩
theorem dX5_isWord_16 : decode cX5_isWord 16 = .ok (.aload_n 0, 1) := by decide +kernel
theorem dX5_isWord_17 : decode cX5_isWord 17 = .ok (.iload_n 3, 1) := by decide +kernel
theorem dX5_isWord_18 : decode cX5_isWord 18 = .ok (.iload 4, 2) := by decide +kernel
theorem dX5_isWord_20 : decode cX5_isWord 20 = .ok (.iadd, 1) := by decide +kernel
theorem dX5_isWord_21 : decode cX5_isWord 21 = .ok (.iload_n 1, 1) := by decide +kernel
theorem dX5_isWord_22 : decode cX5_isWord 22 = .ok (.isub, 1) := by decide +kernel
theorem dX5_isWord_23 : decode cX5_isWord 23 = .ok (.invokevirtual 65, 3) := by decide +kernel
theorem dX5_isWord_26 : decode cX5_isWord 26 = .ok (.if_icmp .eq 5, 3) := by decide +kernel
theorem dX5_isWord_31 : decode cX5_isWord 31 = .ok (.iinc 4 1, 3) := by decide +kernel
theorem dX5_isWord_34 : decode cX5_isWord 34 = .ok (.goto (-31), 3) := by decide +kernel
theorem dX5_isWord_29 : decode cX5_isWord 29 = .ok (.iconst 0, 1) := by decide +kernel
theorem dX5_isWord_30 : decode cX5_isWord 30 = .ok (.ireturn, 1) := by decide +kernel
theorem dX5_wordNumber_0 : decode cX5_wordNumber 0 = .ok (.iconst 0, 1) := by decide +kernel
theorem dX5_wordNumber_1 : decode cX5_wordNumber 1 = .ok (.istore_n 3, 1) := by decide +kernel
theorem dX5_wordNumber_2 : decode cX5_wordNumber 2 = .ok (.iconst 0, 1) := by decide +kernel
theorem dX5_wordNumber_3 : decode cX5_wordNumber 3 = .ok (.istore 4, 2) := by decide +kernel
theorem dX5_wordNumber_5 : decode cX5_wordNumber 5 = .ok (.iconst 0, 1) := by decide +kernel
theorem dX5_wordNumber_6 : decode cX5_wordNumber 6 = .ok (.istore 5, 2) := by decide +kernel
theorem dX5_wordNumber_8 : decode cX5_wordNumber 8 = .ok (.iload 5, 2) := by decide +kernel
theorem dX5_wordNumber_10 : decode cX5_wordNumber 10 = .ok (.ldc 93, 2) := by decide +kernel
theorem dX5_wordNumber_12 : decode cX5_wordNumber 12 = .ok (.invokevirtual 95, 3) := by decide +kernel
theorem km5_95 : inW (Cond.methodLink RX5 95 yJ0_length_8abf5) := ⟨List.mem_of_getElem? (i := 604) (by decide +kernel), by decide +kernel⟩
theorem dX5_wordNumber_15 : decode cX5_wordNumber 15 = .ok (.if_icmp .ge 55, 3) := by decide +kernel
theorem dX5_wordNumber_18 : decode cX5_wordNumber 18 = .ok (.ldc 93, 2) := by decide +kernel
theorem dX5_wordNumber_20 : decode cX5_wordNumber 20 = .ok (.iload 5, 2) := by decide +kernel
theorem dX5_wordNumber_22 : decode cX5_wordNumber 22 = .ok (.invokevirtual 100, 3) := by decide +kernel
theorem dX5_wordNumber_25 : decode cX5_wordNumber 25 = .ok (.bipush 32, 2) := by decide +kernel
theorem dX5_wordNumber_27 : decode cX5_wordNumber 27 = .ok (.if_icmp .ne 37, 3) := by decide +kernel
theorem dX5_wordNumber_64 : decode cX5_wordNumber 64 = .ok (.iinc 5 1, 3) := by decide +kernel
theorem dX5_wordNumber_67 : decode cX5_wordNumber 67 = .ok (.goto (-59), 3) := by decide +kernel
theorem dX5_wordNumber_30 : decode cX5_wordNumber 30 = .ok (.iload 5, 2) := by decide +kernel
theorem dX5_wordNumber_32 : decode cX5_wordNumber 32 = .ok (.iload 4, 2) := by decide +kernel
theorem dX5_wordNumber_34 : decode cX5_wordNumber 34 = .ok (.isub, 1) := by decide +kernel
theorem dX5_wordNumber_35 : decode cX5_wordNumber 35 = .ok (.iload_n 2, 1) := by decide +kernel
theorem dX5_wordNumber_36 : decode cX5_wordNumber 36 = .ok (.iload_n 1, 1) := by decide +kernel
theorem dX5_wordNumber_37 : decode cX5_wordNumber 37 = .ok (.isub, 1) := by decide +kernel
theorem dX5_wordNumber_38 : decode cX5_wordNumber 38 = .ok (.if_icmp .ne 17, 3) := by decide +kernel
theorem dX5_wordNumber_55 : decode cX5_wordNumber 55 = .ok (.iinc 3 1, 3) := by decide +kernel
theorem dX5_wordNumber_58 : decode cX5_wordNumber 58 = .ok (.iload 5, 2) := by decide +kernel
theorem dX5_wordNumber_60 : decode cX5_wordNumber 60 = .ok (.iconst 1, 1) := by decide +kernel
theorem dX5_wordNumber_61 : decode cX5_wordNumber 61 = .ok (.iadd, 1) := by decide +kernel
theorem dX5_wordNumber_62 : decode cX5_wordNumber 62 = .ok (.istore 4, 2) := by decide +kernel
theorem dX5_wordNumber_41 : decode cX5_wordNumber 41 = .ok (.aload_n 0, 1) := by decide +kernel
theorem dX5_wordNumber_42 : decode cX5_wordNumber 42 = .ok (.iload 4, 2) := by decide +kernel
theorem dX5_wordNumber_44 : decode cX5_wordNumber 44 = .ok (.iload 5, 2) := by decide +kernel
theorem dX5_wordNumber_46 : decode cX5_wordNumber 46 = .ok (.iload_n 1, 1) := by decide +kernel
theorem dX5_wordNumber_47 : decode cX5_wordNumber 47 = .ok (.invokevirtual 104, 3) := by decide +kernel
theorem cw_X5_isWord : CWv yX5_isWord cX5_isWord 5 (some .boolean) 3 := ⟨⟨⟨List.mem_of_getElem? (i := 130) (by decide +kernel), by decide +kernel⟩, ⟨List.mem_of_getElem? (i := 655) (by decide +kernel), by decide +kernel⟩, by decide +kernel⟩, ⟨List.mem_of_getElem? (i := 654) (by decide +kernel), by decide +kernel⟩, ⟨List.mem_of_getElem? (i := 4) (by decide +kernel), by decide +kernel⟩⟩
theorem km5_104 : inW (Cond.methodLink RX5 104 yX5_isWord) := ⟨List.mem_of_getElem? (i := 652) (by decide +kernel), by decide +kernel⟩
theorem dX5_wordNumber_50 : decode cX5_wordNumber 50 = .ok (.ifCond .eq 5, 3) := by decide +kernel
theorem dX5_wordNumber_53 : decode cX5_wordNumber 53 = .ok (.iload_n 3, 1) := by decide +kernel
theorem dX5_wordNumber_54 : decode cX5_wordNumber 54 = .ok (.ireturn, 1) := by decide +kernel
theorem dX5_wordNumber_70 : decode cX5_wordNumber 70 = .ok (.sipush 1001, 3) := by decide +kernel
theorem dX5_wordNumber_73 : decode cX5_wordNumber 73 = .ok (.ireturn, 1) := by decide +kernel
theorem dX5_cutWord_0 : decode cX5_cutWord 0 = .ok (.iload_n 1, 1) := by decide +kernel
theorem dX5_cutWord_1 : decode cX5_cutWord 1 = .ok (.istore_n 2, 1) := by decide +kernel
theorem dX5_cutWord_2 : decode cX5_cutWord 2 = .ok (.iload_n 2, 1) := by decide +kernel
theorem dX5_cutWord_3 : decode cX5_cutWord 3 = .ok (.aload_n 0, 1) := by decide +kernel
theorem dX5_cutWord_4 : decode cX5_cutWord 4 = .ok (.getfield 31, 3) := by decide +kernel
theorem dX5_cutWord_7 : decode cX5_cutWord 7 = .ok (.if_icmp .ge 20, 3) := by decide +kernel
theorem dX5_cutWord_27 : decode cX5_cutWord 27 = .ok (.aload_n 0, 1) := by decide +kernel
theorem dX5_cutWord_28 : decode cX5_cutWord 28 = .ok (.aload_n 0, 1) := by decide +kernel
theorem dX5_cutWord_29 : decode cX5_cutWord 29 = .ok (.iload_n 1, 1) := by decide +kernel
theorem dX5_cutWord_30 : decode cX5_cutWord 30 = .ok (.iload_n 2, 1) := by decide +kernel
theorem dX5_cutWord_31 : decode cX5_cutWord 31 = .ok (.invokevirtual 89, 3) := by decide +kernel
theorem cw_X5_wordNumber : CWv yX5_wordNumber cX5_wordNumber 6 (some .int) 2 := ⟨⟨⟨List.mem_of_getElem? (i := 130) (by decide +kernel), by decide +kernel⟩, ⟨List.mem_of_getElem? (i := 602) (by decide +kernel), by decide +kernel⟩, by decide +kernel⟩, ⟨List.mem_of_getElem? (i := 601) (by decide +kernel), by decide +kernel⟩, ⟨List.mem_of_getElem? (i := 3) (by decide +kernel), by decide +kernel⟩⟩
theorem km5_89 : inW (Cond.methodLink RX5 89 yX5_wordNumber) := ⟨List.mem_of_getElem? (i := 599) (by decide +kernel), by decide +kernel⟩
theorem dX5_cutWord_34 : decode cX5_cutWord 34 = .ok (.iload_n 1, 1) := by decide +kernel
theorem dX5_cutWord_35 : decode cX5_cutWord 35 = .ok (.iconst 0, 1) := by decide +kernel
theorem dX5_cutWord_36 : decode cX5_cutWord 36 = .ok (.invokevirtual 85, 3) := by decide +kernel
theorem dX5_cutWord_39 : decode cX5_cutWord 39 = .ok (.iload_n 2, 1) := by decide +kernel
theorem dX5_cutWord_40 : decode cX5_cutWord 40 = .ok (.ireturn, 1) := by decide +kernel
theorem dX5_cutWord_10 : decode cX5_cutWord 10 = .ok (.aload_n 0, 1) := by decide +kernel
theorem dX5_cutWord_11 : decode cX5_cutWord 11 = .ok (.iload_n 2, 1) := by decide +kernel
theorem dX5_cutWord_12 : decode cX5_cutWord 12 = .ok (.invokevirtual 65, 3) := by decide +kernel
theorem dX5_cutWord_15 : decode cX5_cutWord 15 = .ok (.invokestatic 69, 3) := by decide +kernel
theorem cw_X5_isLetter : CWs yX5_isLetter cX5_isLetter 1 (some .boolean) 1 := ⟨⟨⟨List.mem_of_getElem? (i := 130) (by decide +kernel), by decide +kernel⟩, ⟨List.mem_of_getElem? (i := 594) (by decide +kernel), by decide +kernel⟩, by decide +kernel⟩, ⟨List.mem_of_getElem? (i := 593) (by decide +kernel), by decide +kernel⟩⟩
theorem km5_69 : inW (Cond.methodLink RX5 69 yX5_isLetter) := ⟨List.mem_of_getElem? (i := 592) (by decide +kernel), by decide +kernel⟩
theorem dX5_cutWord_18 : decode cX5_cutWord 18 = .ok (.ifCond .eq 9, 3) := by decide +kernel
theorem dX5_cutWord_21 : decode cX5_cutWord 21 = .ok (.iinc 2 1, 3) := by decide +kernel
theorem dX5_cutWord_24 : decode cX5_cutWord 24 = .ok (.goto (-22), 3) := by decide +kernel
theorem dX5_cutSign_0 : decode cX5_cutSign 0 = .ok (.aload_n 0, 1) := by decide +kernel
theorem dX5_cutSign_1 : decode cX5_cutSign 1 = .ok (.iload_n 1, 1) := by decide +kernel
theorem dX5_cutSign_2 : decode cX5_cutSign 2 = .ok (.invokevirtual 65, 3) := by decide +kernel
theorem dX5_cutSign_5 : decode cX5_cutSign 5 = .ok (.istore_n 2, 1) := by decide +kernel
theorem dX5_cutSign_6 : decode cX5_cutSign 6 = .ok (.iload_n 2, 1) := by decide +kernel
theorem dX5_cutSign_7 : decode cX5_cutSign 7 = .ok (.bipush 60, 2) := by decide +kernel
theorem dX5_cutSign_9 : decode cX5_cutSign 9 = .ok (.if_icmp .eq 9, 3) := by decide +kernel
theorem dX5_cutSign_12 : decode cX5_cutSign 12 = .ok (.iload_n 2, 1) := by decide +kernel
theorem dX5_cutSign_13 : decode cX5_cutSign 13 = .ok (.bipush 62, 2) := by decide +kernel
theorem dX5_cutSign_15 : decode cX5_cutSign 15 = .ok (.if_icmp .ne 19, 3) := by decide +kernel
theorem dX5_cutSign_18 : decode cX5_cutSign 18 = .ok (.aload_n 0, 1) := by decide +kernel
theorem dX5_cutSign_19 : decode cX5_cutSign 19 = .ok (.iload_n 1, 1) := by decide +kernel
theorem dX5_cutSign_20 : decode cX5_cutSign 20 = .ok (.iconst 1, 1) := by decide +kernel
theorem dX5_cutSign_21 : decode cX5_cutSign 21 = .ok (.iadd, 1) := by decide +kernel
theorem dX5_cutSign_22 : decode cX5_cutSign 22 = .ok (.invokevirtual 65, 3) := by decide +kernel
theorem dX5_cutSign_25 : decode cX5_cutSign 25 = .ok (.bipush 61, 2) := by decide +kernel
theorem dX5_cutSign_27 : decode cX5_cutSign 27 = .ok (.if_icmp .ne 7, 3) := by decide +kernel
theorem dX5_cutSign_30 : decode cX5_cutSign 30 = .ok (.iconst 1, 1) := by decide +kernel
theorem dX5_cutSign_31 : decode cX5_cutSign 31 = .ok (.goto 4, 3) := by decide +kernel
theorem dX5_cutSign_34 : decode cX5_cutSign 34 = .ok (.iconst 0, 1) := by decide +kernel
theorem dX5_cutSign_35 : decode cX5_cutSign 35 = .ok (.istore_n 3, 1) := by decide +kernel
theorem dX5_cutSign_36 : decode cX5_cutSign 36 = .ok (.ldc 113, 2) := by decide +kernel
theorem dX5_cutSign_38 : decode cX5_cutSign 38 = .ok (.iload_n 2, 1) := by decide +kernel
theorem dX5_cutSign_39 : decode cX5_cutSign 39 = .ok (.i2c, 1) := by decide +kernel
theorem dX5_cutSign_40 : decode cX5_cutSign 40 = .ok (.invokevirtual 115, 3) := by decide +kernel
theorem cw_X100_indexOf_0f7a4 : CWv yJ0_indexOf_0f7a4 cJ0_indexOf_0f7a4 2 (some .int) 1 := ⟨⟨⟨List.mem_of_getElem? (i := 138) (by decide +kernel), by decide +kernel⟩, ⟨List.mem_of_getElem? (i := 676) (by decide +kernel), by decide +kernel⟩, by decide +kernel⟩, ⟨List.mem_of_getElem? (i := 674) (by decide +kernel), by decide +kernel⟩, ⟨List.mem_of_getElem? (i := 675) (by decide +kernel), by decide +kernel⟩⟩
theorem km5_115 : inW (Cond.methodLink RX5 115 yJ0_indexOf_0f7a4) := ⟨List.mem_of_getElem? (i := 673) (by decide +kernel), by decide +kernel⟩
theorem dX5_cutSign_43 : decode cX5_cutSign 43 = .ok (.ifCond .lt 7, 3) := by decide +kernel
theorem dX5_cutSign_50 : decode cX5_cutSign 50 = .ok (.sipush 1001, 3) := by decide +kernel
theorem dX5_cutSign_46 : decode cX5_cutSign 46 = .ok (.iload_n 2, 1) := by decide +kernel
theorem dX5_cutSign_47 : decode cX5_cutSign 47 = .ok (.goto 6, 3) := by decide +kernel
theorem dX5_cutSign_53 : decode cX5_cutSign 53 = .ok (.istore 4, 2) := by decide +kernel
theorem dX5_cutSign_55 : decode cX5_cutSign 55 = .ok (.aload_n 0, 1) := by decide +kernel
theorem dX5_cutSign_56 : decode cX5_cutSign 56 = .ok (.iload_n 3, 1) := by decide +kernel
theorem dX5_cutSign_57 : decode cX5_cutSign 57 = .ok (.ifCond .eq 11, 3) := by decide +kernel
theorem dX5_cutSign_68 : decode cX5_cutSign 68 = .ok (.iload 4, 2) := by decide +kernel
theorem dX5_cutSign_60 : decode cX5_cutSign 60 = .ok (.iload_n 2, 1) := by decide +kernel
theorem dX5_cutSign_61 : decode cX5_cutSign 61 = .ok (.sipush 256, 3) := by decide +kernel
theorem dX5_cutSign_64 : decode cX5_cutSign 64 = .ok (.iadd, 1) := by decide +kernel
theorem dX5_cutSign_65 : decode cX5_cutSign 65 = .ok (.goto 5, 3) := by decide +kernel
theorem dX5_cutSign_70 : decode cX5_cutSign 70 = .ok (.iload_n 1, 1) := by decide +kernel
theorem dX5_cutSign_71 : decode cX5_cutSign 71 = .ok (.iconst 0, 1) := by decide +kernel
theorem dX5_cutSign_72 : decode cX5_cutSign 72 = .ok (.invokevirtual 85, 3) := by decide +kernel
theorem dX5_cutSign_75 : decode cX5_cutSign 75 = .ok (.iload_n 3, 1) := by decide +kernel
theorem dX5_cutSign_76 : decode cX5_cutSign 76 = .ok (.ifCond .eq 9, 3) := by decide +kernel
theorem dX5_cutSign_85 : decode cX5_cutSign 85 = .ok (.iload_n 1, 1) := by decide +kernel
theorem dX5_cutSign_86 : decode cX5_cutSign 86 = .ok (.iconst 1, 1) := by decide +kernel
theorem dX5_cutSign_87 : decode cX5_cutSign 87 = .ok (.iadd, 1) := by decide +kernel
theorem dX5_cutSign_88 : decode cX5_cutSign 88 = .ok (.ireturn, 1) := by decide +kernel
theorem dX5_cutSign_79 : decode cX5_cutSign 79 = .ok (.iload_n 1, 1) := by decide +kernel
theorem dX5_cutSign_80 : decode cX5_cutSign 80 = .ok (.iconst 2, 1) := by decide +kernel
theorem dX5_cutSign_81 : decode cX5_cutSign 81 = .ok (.iadd, 1) := by decide +kernel
theorem dX5_cutSign_82 : decode cX5_cutSign 82 = .ok (.goto 6, 3) := by decide +kernel
theorem dX5_cutTokens_0 : decode cX5_cutTokens 0 = .ok (.aload_n 0, 1) := by decide +kernel
theorem dX5_cutTokens_1 : decode cX5_cutTokens 1 = .ok (.iconst 0, 1) := by decide +kernel
theorem dX5_cutTokens_2 : decode cX5_cutTokens 2 = .ok (.putfield 62, 3) := by decide +kernel
theorem dX5_cutTokens_5 : decode cX5_cutTokens 5 = .ok (.iconst 0, 1) := by decide +kernel
theorem dX5_cutTokens_6 : decode cX5_cutTokens 6 = .ok (.istore_n 1, 1) := by decide +kernel
theorem dX5_cutTokens_7 : decode cX5_cutTokens 7 = .ok (.iconst 0, 1) := by decide +kernel
theorem dX5_cutTokens_8 : decode cX5_cutTokens 8 = .ok (.istore_n 2, 1) := by decide +kernel
theorem dX5_cutTokens_9 : decode cX5_cutTokens 9 = .ok (.iload_n 2, 1) := by decide +kernel
theorem dX5_cutTokens_10 : decode cX5_cutTokens 10 = .ok (.sipush 300, 3) := by decide +kernel
theorem dX5_cutTokens_13 : decode cX5_cutTokens 13 = .ok (.if_icmp .ge 79, 3) := by decide +kernel
theorem dX5_cutTokens_16 : decode cX5_cutTokens 16 = .ok (.iload_n 1, 1) := by decide +kernel
theorem dX5_cutTokens_17 : decode cX5_cutTokens 17 = .ok (.aload_n 0, 1) := by decide +kernel
theorem dX5_cutTokens_18 : decode cX5_cutTokens 18 = .ok (.getfield 31, 3) := by decide +kernel
theorem dX5_cutTokens_21 : decode cX5_cutTokens 21 = .ok (.if_icmp .ge 71, 3) := by decide +kernel
theorem dX5_cutTokens_92 : decode cX5_cutTokens 92 = .ok (.aload_n 0, 1) := by decide +kernel
theorem dX5_cutTokens_93 : decode cX5_cutTokens 93 = .ok (.sipush 1002, 3) := by decide +kernel
theorem dX5_cutTokens_96 : decode cX5_cutTokens 96 = .ok (.aload_n 0, 1) := by decide +kernel
theorem dX5_cutTokens_97 : decode cX5_cutTokens 97 = .ok (.getfield 31, 3) := by decide +kernel
theorem dX5_cutTokens_100 : decode cX5_cutTokens 100 = .ok (.iconst 0, 1) := by decide +kernel
theorem dX5_cutTokens_101 : decode cX5_cutTokens 101 = .ok (.invokevirtual 85, 3) := by decide +kernel
theorem dX5_cutTokens_104 : decode cX5_cutTokens 104 = .ok (.return_, 1) := by decide +kernel
theorem dX5_cutTokens_24 : decode cX5_cutTokens 24 = .ok (.aload_n 0, 1) := by decide +kernel
theorem dX5_cutTokens_25 : decode cX5_cutTokens 25 = .ok (.iload_n 1, 1) := by decide +kernel
theorem dX5_cutTokens_26 : decode cX5_cutTokens 26 = .ok (.invokevirtual 65, 3) := by decide +kernel
theorem dX5_cutTokens_29 : decode cX5_cutTokens 29 = .ok (.istore_n 3, 1) := by decide +kernel
theorem dX5_cutTokens_30 : decode cX5_cutTokens 30 = .ok (.iload_n 3, 1) := by decide +kernel
theorem dX5_cutTokens_31 : decode cX5_cutTokens 31 = .ok (.bipush 32, 2) := by decide +kernel
theorem dX5_cutTokens_33 : decode cX5_cutTokens 33 = .ok (.if_icmp .eq 9, 3) := by decide +kernel
theorem dX5_cutTokens_42 : decode cX5_cutTokens 42 = .ok (.iinc 1 1, 3) := by decide +kernel
theorem dX5_cutTokens_45 : decode cX5_cutTokens 45 = .ok (.goto 41, 3) := by decide +kernel
theorem dX5_cutTokens_86 : decode cX5_cutTokens 86 = .ok (.iinc 2 1, 3) := by decide +kernel
theorem dX5_cutTokens_89 : decode cX5_cutTokens 89 = .ok (.goto (-80), 3) := by decide +kernel
theorem dX5_cutTokens_36 : decode cX5_cutTokens 36 = .ok (.iload_n 3, 1) := by decide +kernel
theorem dX5_cutTokens_37 : decode cX5_cutTokens 37 = .ok (.bipush 10, 2) := by decide +kernel
theorem dX5_cutTokens_39 : decode cX5_cutTokens 39 = .ok (.if_icmp .ne 9, 3) := by decide +kernel
theorem dX5_cutTokens_48 : decode cX5_cutTokens 48 = .ok (.iload_n 3, 1) := by decide +kernel
theorem dX5_cutTokens_49 : decode cX5_cutTokens 49 = .ok (.invokestatic 69, 3) := by decide +kernel
theorem dX5_cutTokens_52 : decode cX5_cutTokens 52 = .ok (.ifCond .eq 12, 3) := by decide +kernel
theorem dX5_cutTokens_64 : decode cX5_cutTokens 64 = .ok (.iload_n 3, 1) := by decide +kernel
theorem dX5_cutTokens_65 : decode cX5_cutTokens 65 = .ok (.invokestatic 76, 3) := by decide +kernel
theorem dX5_cutTokens_68 : decode cX5_cutTokens 68 = .ok (.ifCond .eq 12, 3) := by decide +kernel
theorem dX5_cutTokens_80 : decode cX5_cutTokens 80 = .ok (.aload_n 0, 1) := by decide +kernel
theorem dX5_cutTokens_81 : decode cX5_cutTokens 81 = .ok (.iload_n 1, 1) := by decide +kernel
theorem dX5_cutTokens_82 : decode cX5_cutTokens 82 = .ok (.invokevirtual 82, 3) := by decide +kernel
theorem cw_X5_cutSign : CWv yX5_cutSign cX5_cutSign 5 (some .int) 1 := ⟨⟨⟨List.mem_of_getElem? (i := 130) (by decide +kernel), by decide +kernel⟩, ⟨List.mem_of_getElem? (i := 671) (by decide +kernel), by decide +kernel⟩, by decide +kernel⟩, ⟨List.mem_of_getElem? (i := 670) (by decide +kernel), by decide +kernel⟩, ⟨List.mem_of_getElem? (i := 7) (by decide +kernel), by decide +kernel⟩⟩
theorem km5_82 : inW (Cond.methodLink RX5 82 yX5_cutSign) := ⟨List.mem_of_getElem? (i := 668) (by decide +kernel), by decide +kernel⟩
theorem dX5_cutTokens_85 : decode cX5_cutTokens 85 = .ok (.istore_n 1, 1) := by decide +kernel
theorem dX5_cutTokens_71 : decode cX5_cutTokens 71 = .ok (.aload_n 0, 1) := by decide +kernel
theorem dX5_cutTokens_72 : decode cX5_cutTokens 72 = .ok (.iload_n 1, 1) := by decide +kernel
theorem dX5_cutTokens_73 : decode cX5_cutTokens 73 = .ok (.invokevirtual 79, 3) := by decide +kernel
theorem cw_X5_cutNumber : CWv yX5_cutNumber cX5_cutNumber 4 (some .int) 1 := ⟨⟨⟨List.mem_of_getElem? (i := 130) (by decide +kernel), by decide +kernel⟩, ⟨List.mem_of_getElem? (i := 666) (by decide +kernel), by decide +kernel⟩, by decide +kernel⟩, ⟨List.mem_of_getElem? (i := 665) (by decide +kernel), by decide +kernel⟩, ⟨List.mem_of_getElem? (i := 6) (by decide +kernel), by decide +kernel⟩⟩
theorem km5_79 : inW (Cond.methodLink RX5 79 yX5_cutNumber) := ⟨List.mem_of_getElem? (i := 663) (by decide +kernel), by decide +kernel⟩
theorem dX5_cutTokens_76 : decode cX5_cutTokens 76 = .ok (.istore_n 1, 1) := by decide +kernel
theorem dX5_cutTokens_77 : decode cX5_cutTokens 77 = .ok (.goto 9, 3) := by decide +kernel
theorem dX5_cutTokens_55 : decode cX5_cutTokens 55 = .ok (.aload_n 0, 1) := by decide +kernel
theorem dX5_cutTokens_56 : decode cX5_cutTokens 56 = .ok (.iload_n 1, 1) := by decide +kernel
theorem dX5_cutTokens_57 : decode cX5_cutTokens 57 = .ok (.invokevirtual 73, 3) := by decide +kernel
theorem cw_X5_cutWord : CWv yX5_cutWord cX5_cutWord 3 (some .int) 1 := ⟨⟨⟨List.mem_of_getElem? (i := 130) (by decide +kernel), by decide +kernel⟩, ⟨List.mem_of_getElem? (i := 598) (by decide +kernel), by decide +kernel⟩, by decide +kernel⟩, ⟨List.mem_of_getElem? (i := 597) (by decide +kernel), by decide +kernel⟩, ⟨List.mem_of_getElem? (i := 2) (by decide +kernel), by decide +kernel⟩⟩
theorem km5_73 : inW (Cond.methodLink RX5 73 yX5_cutWord) := ⟨List.mem_of_getElem? (i := 595) (by decide +kernel), by decide +kernel⟩
theorem dX5_cutTokens_60 : decode cX5_cutTokens 60 = .ok (.istore_n 1, 1) := by decide +kernel
theorem dX5_cutTokens_61 : decode cX5_cutTokens 61 = .ok (.goto 25, 3) := by decide +kernel
theorem dX5_read_0 : decode cX5_read 0 = .ok (.aload_n 0, 1) := by decide +kernel
theorem dX5_read_1 : decode cX5_read 1 = .ok (.aload_n 1, 1) := by decide +kernel
theorem dX5_read_2 : decode cX5_read 2 = .ok (.putfield 34, 3) := by decide +kernel
theorem dX5_read_5 : decode cX5_read 5 = .ok (.aload_n 0, 1) := by decide +kernel
theorem dX5_read_6 : decode cX5_read 6 = .ok (.getfield 34, 3) := by decide +kernel
theorem dX5_read_9 : decode cX5_read 9 = .ok (.invokevirtual 38, 3) := by decide +kernel
theorem cw_X7_clear : CWv yX7_clear cX7_clear 2 none 0 := ⟨⟨⟨List.mem_of_getElem? (i := 129) (by decide +kernel), by decide +kernel⟩, ⟨List.mem_of_getElem? (i := 583) (by decide +kernel), by decide +kernel⟩, by decide +kernel⟩, ⟨List.mem_of_getElem? (i := 581) (by decide +kernel), by decide +kernel⟩, ⟨List.mem_of_getElem? (i := 582) (by decide +kernel), by decide +kernel⟩⟩
theorem km5_38 : inW (Cond.methodLink RX5 38 yX7_clear) := ⟨List.mem_of_getElem? (i := 580) (by decide +kernel), by decide +kernel⟩
theorem dX5_read_12 : decode cX5_read 12 = .ok (.aload_n 0, 1) := by decide +kernel
theorem dX5_read_13 : decode cX5_read 13 = .ok (.iconst 0, 1) := by decide +kernel
theorem dX5_read_14 : decode cX5_read 14 = .ok (.putfield 24, 3) := by decide +kernel
theorem dX5_read_17 : decode cX5_read 17 = .ok (.aload_n 0, 1) := by decide +kernel
theorem dX5_read_18 : decode cX5_read 18 = .ok (.iconst (-1), 1) := by decide +kernel
theorem dX5_read_19 : decode cX5_read 19 = .ok (.putfield 28, 3) := by decide +kernel
theorem dX5_read_22 : decode cX5_read 22 = .ok (.aload_n 0, 1) := by decide +kernel
theorem dX5_read_23 : decode cX5_read 23 = .ok (.invokevirtual 43, 3) := by decide +kernel
theorem cw_X5_cutTokens : CWv yX5_cutTokens cX5_cutTokens 4 none 0 := ⟨⟨⟨List.mem_of_getElem? (i := 130) (by decide +kernel), by decide +kernel⟩, ⟨List.mem_of_getElem? (i := 587) (by decide +kernel), by decide +kernel⟩, by decide +kernel⟩, ⟨List.mem_of_getElem? (i := 586) (by decide +kernel), by decide +kernel⟩, ⟨List.mem_of_getElem? (i := 0) (by decide +kernel), by decide +kernel⟩⟩
theorem km5_43 : inW (Cond.methodLink RX5 43 yX5_cutTokens) := ⟨List.mem_of_getElem? (i := 584) (by decide +kernel), by decide +kernel⟩
theorem dX5_read_26 : decode cX5_read 26 = .ok (.aload_n 0, 1) := by decide +kernel
theorem dX5_read_27 : decode cX5_read 27 = .ok (.iconst 0, 1) := by decide +kernel
theorem dX5_read_28 : decode cX5_read 28 = .ok (.putfield 46, 3) := by decide +kernel
theorem dX5_read_31 : decode cX5_read 31 = .ok (.aload_n 0, 1) := by decide +kernel
theorem dX5_read_32 : decode cX5_read 32 = .ok (.invokevirtual 49, 3) := by decide +kernel
theorem dX5_read_35 : decode cX5_read 35 = .ok (.iconst 1, 1) := by decide +kernel
theorem dX5_read_36 : decode cX5_read 36 = .ok (.istore_n 2, 1) := by decide +kernel
theorem dX5_read_37 : decode cX5_read 37 = .ok (.iconst 0, 1) := by decide +kernel
theorem dX5_read_38 : decode cX5_read 38 = .ok (.istore_n 3, 1) := by decide +kernel
theorem dX5_read_39 : decode cX5_read 39 = .ok (.iload_n 3, 1) := by decide +kernel
theorem dX5_read_40 : decode cX5_read 40 = .ok (.bipush 24, 2) := by decide +kernel
theorem dX5_read_42 : decode cX5_read 42 = .ok (.if_icmp .gt 28, 3) := by decide +kernel
theorem dX5_read_45 : decode cX5_read 45 = .ok (.iload_n 2, 1) := by decide +kernel
theorem dX5_read_46 : decode cX5_read 46 = .ok (.ifCond .eq 24, 3) := by decide +kernel
theorem dX5_read_49 : decode cX5_read 49 = .ok (.aload_n 0, 1) := by decide +kernel
theorem dX5_read_50 : decode cX5_read 50 = .ok (.getfield 52, 3) := by decide +kernel
theorem dX5_read_53 : decode cX5_read 53 = .ok (.sipush 1002, 3) := by decide +kernel
theorem dX5_read_56 : decode cX5_read 56 = .ok (.if_icmp .eq 14, 3) := by decide +kernel
theorem dX5_read_70 : decode cX5_read 70 = .ok (.aload_n 0, 1) := by decide +kernel
theorem dX5_read_71 : decode cX5_read 71 = .ok (.iconst 0, 1) := by decide +kernel
theorem dX5_read_72 : decode cX5_read 72 = .ok (.putfield 31, 3) := by decide +kernel
theorem dX5_read_75 : decode cX5_read 75 = .ok (.iload_n 2, 1) := by decide +kernel
theorem dX5_read_76 : decode cX5_read 76 = .ok (.ireturn, 1) := by decide +kernel
theorem dX5_read_59 : decode cX5_read 59 = .ok (.aload_n 0, 1) := by decide +kernel
theorem dX5_read_60 : decode cX5_read 60 = .ok (.invokevirtual 55, 3) := by decide +kernel
theorem cw_X5_readClause : CWv yX5_readClause cX5_readClause 2 (some .boolean) 0 := ⟨⟨⟨List.mem_of_getElem? (i := 130) (by decide +kernel), by decide +kernel⟩, ⟨List.mem_of_getElem? (i := 737) (by decide +kernel), by decide +kernel⟩, by decide +kernel⟩, ⟨List.mem_of_getElem? (i := 736) (by decide +kernel), by decide +kernel⟩, ⟨List.mem_of_getElem? (i := 9) (by decide +kernel), by decide +kernel⟩⟩
theorem km5_55 : inW (Cond.methodLink RX5 55 yX5_readClause) := ⟨List.mem_of_getElem? (i := 734) (by decide +kernel), by decide +kernel⟩
theorem dX5_read_63 : decode cX5_read 63 = .ok (.istore_n 2, 1) := by decide +kernel
theorem dX5_read_64 : decode cX5_read 64 = .ok (.iinc 3 1, 3) := by decide +kernel
theorem dX5_read_67 : decode cX5_read 67 = .ok (.goto (-28), 3) := by decide +kernel
set_option maxHeartbeats 4000000 in
set_option maxRecDepth 100000 in
theorem x_X5_isWord {l : Launch} {G : GG}  {L : List Nat} {f : HF} {ad : Nat → Nat → Nat} {rs : FS} {fc : Int × Int} {tc w : Nat → Int × Int} {q : Nat → (Nat → Int32) → Prop} {aK aV : Nat → Nat} {z0 : Option Nat} {i1 i2 i3 : Int32} (I : SH (spC rs fc tc w q) nnC G ad L f) (hW : WBp w 8) (hT : WBp tc 4) (hQ : QIp q) (b_i1 : bn 0 153 i1) (b_i2 : bn 0 152 i2) : PMiZ aK aV z0 l yX5_isWord cX5_isWord 5 .boolean 4 0 0 G [.ref (ad 2 0), .int i1, .int i2, .int i3] L f (fun r L1 f1 => (bn 0 1 r) ∧ L1 = L ∧ f1 = f) := by
  refine PMiZ.of (post := fun r L1 f1 => (bn 0 1 r) ∧ L1 = L ∧ f1 = f) (own := RX5) (by decide) rfl (Nat.le_of_ble_eq_true rfl) (fun sz p e s m args below meth c A ls hA1 hname S Y hz hl => ?_)
  have hx := S.hx
  have hb := S.hb
  have hl : lv_has ls 5 [(0, .ref (ad 2 0)), (1, .int i1), (2, .int i2), (3, .int i3)] := hl
  have J_3 : ∀ (n3 : Nat) (y3_4 : Int32) (H : Heap) (locs : List Loc) (ls : Array Slot), (bn 0 153 y3_4) → (((153 : Int) - y3_4.toInt).toNat = n3) → (DY G A s [] L f H locs) → (lv_has ls 5 [(0, .ref (ad 2 0)), (1, .int i1), (2, .int i2), (3, .int i3), (4, .int y3_4)]) → W p l e (rmD 4 0 0) s m args below meth c H locs (0) (0) (MQ below (va_Qi (fun r (u : List Nat × HF) => (fun r L1 f1 => (bn 0 1 r) ∧ L1 = L ∧ f1 = f) r u.1 u.2) (fun u t => pOut G (va_A (va_pl L f) sz) u.1 u.2 t) (va_A (va_pl L f) sz)) args s 0 0 A) (F0 m 3 ls []) := by
    intro n3
    induction n3 using Nat.strongRecOn with
    | _ n3 ih3 =>
      intro y3_4 H locs ls b_y3_4 hm3 Y hl
      refine lv_iload hx hb dX5_isWord_3 (lv_at hl 4 rfl) ?_
      refine lv_iload_n hx hb dX5_isWord_5 rfl (lv_at hl 2 rfl) ?_
      refine lv_icmp_ge (tgt := 37) hx hb dX5_isWord_6 (by decide) (fun c_66200 => ?_) (fun c_66200 => ?_)
      · refine lv_iconst (v := 1) hx hb dX5_isWord_37 (by decide) ?_
        exact prI (post := fun r L1 f1 => (bn 0 1 r) ∧ L1 = L ∧ f1 = f) S Y rfl (by decide) (by decide) hA1 ⟨bn_w (show bn 1 1 (1 : Int32) from bn_k (by decide)) (by decide), rfl, rfl⟩ dX5_isWord_38
      · have B_66201 : bn 1 152 i2 := bn_w (bn_gtl c_66200 b_i2 b_y3_4) (by decide)
        have B_66202 : bn 0 151 y3_4 := bn_w (bn_gtr c_66200 b_i2 b_y3_4) (by decide)
        refine va_ldcS hx hb S.ow hz.2.2.2.1 dX5_isWord_9 ?_
        refine lv_iload hx hb dX5_isWord_11 (lv_at hl 4 rfl) ?_
        refine zVi (As := [.int y3_4]) (rest := []) S Y hz (x_J0_charAt (l := l) (bn_w B_66202 (by decide))) cw_X100_charAt_5068e km5_100 (recvK (i := 0) Y hz (by decide) rfl) rfl ⟨Nat.le_of_ble_eq_true rfl, Nat.le_of_ble_eq_true rfl⟩ hl.1 rfl (Nat.le_of_ble_eq_true rfl) ⟨Nat.le_of_ble_eq_true rfl, Nat.le_of_ble_eq_true rfl⟩ dX5_isWord_13 (fun r_66206 L_66203 f_66204 H locs h_66205 Y => ?_)
        rw [h_66205.2.1, h_66205.2.2] at Y
        have er_66206 := h_66205.1
        refine lv_aload_n hx hb dX5_isWord_16 rfl (lv_at hl 0 rfl) ?_
        refine lv_iload_n hx hb dX5_isWord_17 rfl (lv_at hl 3 rfl) ?_
        refine lv_iload hx hb dX5_isWord_18 (lv_at hl 4 rfl) ?_
        refine lv_iadd hx hb dX5_isWord_20 ?_
        refine lv_topi (fun x_66207 ex_66207 => ?_)
        refine lv_iload_n hx hb dX5_isWord_21 rfl (lv_at hl 1 rfl) ?_
        refine lv_isub hx hb dX5_isWord_22 ?_
        refine lv_topi (fun x_66208 ex_66208 => ?_)
        refine cVp (As := [.int x_66208]) (rest := [.int r_66206]) S Y (x_X5_byteAt (l := l) I hW hT hQ) cw_X5_byteAt km5_65 (I.opo (k := 2) (j := 0) (by decide) rfl).choose_spec.1 ok_X5.1 rfl rfl ⟨Nat.le_of_ble_eq_true rfl, Nat.le_of_ble_eq_true rfl⟩ hl.1 rfl (Nat.le_of_ble_eq_true rfl) ⟨Nat.le_of_ble_eq_true rfl, Nat.le_of_ble_eq_true rfl⟩ dX5_isWord_23 (fun r_66209 H locs er_66209 Y => ?_)
        refine lv_icmp_eq (tgt := 31) hx hb dX5_isWord_26 (by decide) (fun c_66210 => ?_) (fun c_66210 => ?_)
        · obtain ⟨x_66211, ex_66211⟩ : ∃ z : Int32, z = y3_4 + 1 := ⟨_, rfl⟩
          refine lv_iinc (v := x_66211) (lv' := [(4, .int x_66211), (0, .ref (ad 2 0)), (1, .int i1), (2, .int i2), (3, .int i3)]) hx hb dX5_isWord_31 hl (k := 4) rfl (by rw [ex_66211]; rfl) (by decide) rfl (fun ls hl => ?_)
          refine lv_goto (tgt := 3) hx hb dX5_isWord_34 (by decide) ?_
          exact ih3 _ (by rw [← hm3]; exact ms_up (m := 1) ex_66211 (show bn 1 1 (1 : Int32) from bn_k (by decide)) B_66202 (bn_w (bn_eq ex_66211 (bn_add B_66202 (show bn 1 1 (1 : Int32) from bn_k (by decide)) (by decide))) (by decide) : bn 0 153 x_66211) (by decide)) x_66211  _ _ _  (bn_w (bn_eq ex_66211 (bn_add B_66202 (show bn 1 1 (1 : Int32) from bn_k (by decide)) (by decide))) (by decide)) rfl Y (lv_sub hl [1, 2, 3, 4, 0] rfl)
        · refine lv_iconst (v := 0) hx hb dX5_isWord_29 (by decide) ?_
          exact prI (post := fun r L1 f1 => (bn 0 1 r) ∧ L1 = L ∧ f1 = f) S Y rfl (by decide) (by decide) hA1 ⟨bn_w (show bn 0 0 (0 : Int32) from bn_k (by decide)) (by decide), rfl, rfl⟩ dX5_isWord_30
  refine lv_iload_n hx hb dX5_isWord_0 rfl (lv_at hl 1 rfl) ?_
  refine lv_istore (lv' := [(4, .int i1), (0, .ref (ad 2 0)), (1, .int i1), (2, .int i2), (3, .int i3)]) hx hb dX5_isWord_1 hl (by decide) rfl (fun ls hl => ?_)
  exact J_3 _ i1  _ _ _  (bn_w b_i1 (by decide)) rfl Y (lv_sub hl [1, 2, 3, 4, 0] rfl)
set_option maxHeartbeats 4000000 in
set_option maxRecDepth 100000 in
theorem x_X5_wordNumber {l : Launch} {G : GG}  {L : List Nat} {f : HF} {ad : Nat → Nat → Nat} {rs : FS} {fc : Int × Int} {tc w : Nat → Int × Int} {q : Nat → (Nat → Int32) → Prop} {aK aV : Nat → Nat} {z0 : Option Nat} {i1 i2 : Int32} (I : SH (spC rs fc tc w q) nnC G ad L f) (hW : WBp w 8) (hT : WBp tc 4) (hQ : QIp q) : PMiZ aK aV z0 l yX5_wordNumber cX5_wordNumber 6 .int 5 0 0 G [.ref (ad 2 0), .int i1, .int i2] L f (fun r L1 f1 => (True) ∧ L1 = L ∧ f1 = f) := by
  refine PMiZ.of (post := fun r L1 f1 => (True) ∧ L1 = L ∧ f1 = f) (own := RX5) (by decide) rfl (Nat.le_of_ble_eq_true rfl) (fun sz p e s m args below meth c A ls hA1 hname S Y hz hl => ?_)
  have hx := S.hx
  have hb := S.hb
  have hl : lv_has ls 6 [(0, .ref (ad 2 0)), (1, .int i1), (2, .int i2)] := hl
  have J_8 : ∀ (n8 : Nat) (y8_3 y8_4 y8_5 : Int32) (H : Heap) (locs : List Loc) (ls : Array Slot), (bn 0 153 y8_4) → (bn 0 153 y8_5) → (((153 : Int) - y8_5.toInt).toNat = n8) → (DY G A s [] L f H locs) → (lv_has ls 6 [(0, .ref (ad 2 0)), (1, .int i1), (2, .int i2), (3, .int y8_3), (4, .int y8_4), (5, .int y8_5)]) → W p l e (rmD 5 0 0) s m args below meth c H locs (0) (0) (MQ below (va_Qi (fun r (u : List Nat × HF) => (fun r L1 f1 => (True) ∧ L1 = L ∧ f1 = f) r u.1 u.2) (fun u t => pOut G (va_A (va_pl L f) sz) u.1 u.2 t) (va_A (va_pl L f) sz)) args s 0 0 A) (F0 m 8 ls []) := by
    intro n8
    induction n8 using Nat.strongRecOn with
    | _ n8 ih8 =>
      intro y8_3 y8_4 y8_5 H locs ls b_y8_4 b_y8_5 hm8 Y hl
      refine lv_iload hx hb dX5_wordNumber_8 (lv_at hl 5 rfl) ?_
      refine va_ldcS hx hb S.ow hz.2.2.2.1 dX5_wordNumber_10 ?_
      refine zVi (As := []) (rest := [.int y8_5]) S Y hz (x_J0_length_0 (l := l) ) cw_X100_length_8abf5 km5_95 (recvK (i := 0) Y hz (by decide) rfl) rfl ⟨Nat.le_of_ble_eq_true rfl, Nat.le_of_ble_eq_true rfl⟩ hl.1 rfl (Nat.le_of_ble_eq_true rfl) ⟨Nat.le_of_ble_eq_true rfl, Nat.le_of_ble_eq_true rfl⟩ dX5_wordNumber_12 (fun r_67757 L_67754 f_67755 H locs h_67756 Y => ?_)
      rw [h_67756.2.1, h_67756.2.2] at Y
      have er_67757 := h_67756.1
      refine lv_fold (z := 153) er_67757 ?_
      refine lv_icmp_ge (tgt := 70) hx hb dX5_wordNumber_15 (by decide) (fun c_67758 => ?_) (fun c_67758 => ?_)
      · have B_67759 : bn 153 153 y8_5 := bn_w (bn_ler c_67758 (show bn 153 153 (153 : Int32) from bn_k (by decide)) b_y8_5) (by decide)
        refine lv_sipush (v := 1001) hx hb dX5_wordNumber_70 (by decide) ?_
        exact prI (post := fun r L1 f1 => (True) ∧ L1 = L ∧ f1 = f) S Y rfl (by decide) (by decide) hA1 ⟨trivial, rfl, rfl⟩ dX5_wordNumber_73
      · have B_67760 : bn 0 152 y8_5 := bn_w (bn_gtr c_67758 (show bn 153 153 (153 : Int32) from bn_k (by decide)) b_y8_5) (by decide)
        refine va_ldcS hx hb S.ow hz.2.2.2.1 dX5_wordNumber_18 ?_
        refine lv_iload hx hb dX5_wordNumber_20 (lv_at hl 5 rfl) ?_
        refine zVi (As := [.int y8_5]) (rest := []) S Y hz (x_J0_charAt (l := l) (bn_w B_67760 (by decide))) cw_X100_charAt_5068e km5_100 (recvK (i := 0) Y hz (by decide) rfl) rfl ⟨Nat.le_of_ble_eq_true rfl, Nat.le_of_ble_eq_true rfl⟩ hl.1 rfl (Nat.le_of_ble_eq_true rfl) ⟨Nat.le_of_ble_eq_true rfl, Nat.le_of_ble_eq_true rfl⟩ dX5_wordNumber_22 (fun r_67764 L_67761 f_67762 H locs h_67763 Y => ?_)
        rw [h_67763.2.1, h_67763.2.2] at Y
        have er_67764 := h_67763.1
        refine lv_bipush (v := 32) hx hb dX5_wordNumber_25 (by decide) ?_
        refine lv_icmp_ne (tgt := 64) hx hb dX5_wordNumber_27 (by decide) (fun c_67765 => ?_) (fun c_67765 => ?_)
        · obtain ⟨x_67767, ex_67767⟩ : ∃ z : Int32, z = y8_5 + 1 := ⟨_, rfl⟩
          refine lv_iinc (v := x_67767) (lv' := [(5, .int x_67767), (0, .ref (ad 2 0)), (1, .int i1), (2, .int i2), (3, .int y8_3), (4, .int y8_4)]) hx hb dX5_wordNumber_64 hl (k := 5) rfl (by rw [ex_67767]; rfl) (by decide) rfl (fun ls hl => ?_)
          refine lv_goto (tgt := 8) hx hb dX5_wordNumber_67 (by decide) ?_
          exact ih8 _ (by rw [← hm8]; exact ms_up (m := 1) ex_67767 (show bn 1 1 (1 : Int32) from bn_k (by decide)) B_67760 (bn_w (bn_eq ex_67767 (bn_add B_67760 (show bn 1 1 (1 : Int32) from bn_k (by decide)) (by decide))) (by decide) : bn 0 153 x_67767) (by decide)) y8_3 y8_4 x_67767  _ _ _  (bn_w b_y8_4 (by decide)) (bn_w (bn_eq ex_67767 (bn_add B_67760 (show bn 1 1 (1 : Int32) from bn_k (by decide)) (by decide))) (by decide)) rfl Y (lv_sub hl [1, 2, 3, 4, 5, 0] rfl)
        · have B_67766 : bn 32 32 r_67764 := bn_w (bn_eq c_67765 (show bn 32 32 (32 : Int32) from bn_k (by decide))) (by decide)
          refine lv_iload hx hb dX5_wordNumber_30 (lv_at hl 5 rfl) ?_
          refine lv_iload hx hb dX5_wordNumber_32 (lv_at hl 4 rfl) ?_
          refine lv_isub hx hb dX5_wordNumber_34 ?_
          refine lv_topi (fun x_67768 ex_67768 => ?_)
          refine lv_iload_n hx hb dX5_wordNumber_35 rfl (lv_at hl 2 rfl) ?_
          refine lv_iload_n hx hb dX5_wordNumber_36 rfl (lv_at hl 1 rfl) ?_
          refine lv_isub hx hb dX5_wordNumber_37 ?_
          refine lv_topi (fun x_67769 ex_67769 => ?_)
          refine lv_icmp_ne (tgt := 55) hx hb dX5_wordNumber_38 (by decide) (fun c_67770 => ?_) (fun c_67770 => ?_)
          · obtain ⟨x_67771, ex_67771⟩ : ∃ z : Int32, z = y8_3 + 1 := ⟨_, rfl⟩
            refine lv_iinc (v := x_67771) (lv' := [(3, .int x_67771), (0, .ref (ad 2 0)), (1, .int i1), (2, .int i2), (4, .int y8_4), (5, .int y8_5)]) hx hb dX5_wordNumber_55 hl (k := 3) rfl (by rw [ex_67771]; rfl) (by decide) rfl (fun ls hl => ?_)
            refine lv_iload hx hb dX5_wordNumber_58 (lv_at hl 5 rfl) ?_
            refine lv_iconst (v := 1) hx hb dX5_wordNumber_60 (by decide) ?_
            refine lv_iadd hx hb dX5_wordNumber_61 ?_
            refine lv_topi (fun x_67772 ex_67772 => ?_)
            refine lv_istore (lv' := [(4, .int x_67772), (3, .int x_67771), (0, .ref (ad 2 0)), (1, .int i1), (2, .int i2), (5, .int y8_5)]) hx hb dX5_wordNumber_62 hl (by decide) rfl (fun ls hl => ?_)
            obtain ⟨x_67773, ex_67773⟩ : ∃ z : Int32, z = y8_5 + 1 := ⟨_, rfl⟩
            refine lv_iinc (v := x_67773) (lv' := [(5, .int x_67773), (4, .int x_67772), (3, .int x_67771), (0, .ref (ad 2 0)), (1, .int i1), (2, .int i2)]) hx hb dX5_wordNumber_64 hl (k := 5) rfl (by rw [ex_67773]; rfl) (by decide) rfl (fun ls hl => ?_)
            refine lv_goto (tgt := 8) hx hb dX5_wordNumber_67 (by decide) ?_
            exact ih8 _ (by rw [← hm8]; exact ms_up (m := 1) ex_67773 (show bn 1 1 (1 : Int32) from bn_k (by decide)) B_67760 (bn_w (bn_eq ex_67773 (bn_add B_67760 (show bn 1 1 (1 : Int32) from bn_k (by decide)) (by decide))) (by decide) : bn 0 153 x_67773) (by decide)) x_67771 x_67772 x_67773  _ _ _  (bn_w (bn_eq ex_67772 (bn_add B_67760 (show bn 1 1 (1 : Int32) from bn_k (by decide)) (by decide))) (by decide)) (bn_w (bn_eq ex_67773 (bn_add B_67760 (show bn 1 1 (1 : Int32) from bn_k (by decide)) (by decide))) (by decide)) rfl Y (lv_sub hl [3, 4, 5, 2, 1, 0] rfl)
          · refine lv_aload_n hx hb dX5_wordNumber_41 rfl (lv_at hl 0 rfl) ?_
            refine lv_iload hx hb dX5_wordNumber_42 (lv_at hl 4 rfl) ?_
            refine lv_iload hx hb dX5_wordNumber_44 (lv_at hl 5 rfl) ?_
            refine lv_iload_n hx hb dX5_wordNumber_46 rfl (lv_at hl 1 rfl) ?_
            refine zVi (As := [.int y8_4, .int y8_5, .int i1]) (rest := []) S Y hz (x_X5_isWord (l := l) I hW hT hQ (bn_w b_y8_4 (by decide)) (bn_w B_67760 (by decide))) cw_X5_isWord km5_104 (recvO S Y (I.opo (k := 2) (j := 0) (by decide) rfl).choose_spec.1 ok_X5.1 rfl) rfl ⟨Nat.le_of_ble_eq_true rfl, Nat.le_of_ble_eq_true rfl⟩ hl.1 rfl (Nat.le_of_ble_eq_true rfl) ⟨Nat.le_of_ble_eq_true rfl, Nat.le_of_ble_eq_true rfl⟩ dX5_wordNumber_47 (fun r_67777 L_67774 f_67775 H locs h_67776 Y => ?_)
            rw [h_67776.2.1, h_67776.2.2] at Y
            have er_67777 := h_67776.1
            refine lv_if_eq (tgt := 55) hx hb dX5_wordNumber_50 (by decide) (fun c_67778 => ?_) (fun c_67778 => ?_)
            · have B_67779 : bn 0 0 r_67777 := bn_w (bn_eq c_67778 (show bn 0 0 (0 : Int32) from bn_k (by decide))) (by decide)
              obtain ⟨x_67781, ex_67781⟩ : ∃ z : Int32, z = y8_3 + 1 := ⟨_, rfl⟩
              refine lv_iinc (v := x_67781) (lv' := [(3, .int x_67781), (0, .ref (ad 2 0)), (1, .int i1), (2, .int i2), (4, .int y8_4), (5, .int y8_5)]) hx hb dX5_wordNumber_55 hl (k := 3) rfl (by rw [ex_67781]; rfl) (by decide) rfl (fun ls hl => ?_)
              refine lv_iload hx hb dX5_wordNumber_58 (lv_at hl 5 rfl) ?_
              refine lv_iconst (v := 1) hx hb dX5_wordNumber_60 (by decide) ?_
              refine lv_iadd hx hb dX5_wordNumber_61 ?_
              refine lv_topi (fun x_67782 ex_67782 => ?_)
              refine lv_istore (lv' := [(4, .int x_67782), (3, .int x_67781), (0, .ref (ad 2 0)), (1, .int i1), (2, .int i2), (5, .int y8_5)]) hx hb dX5_wordNumber_62 hl (by decide) rfl (fun ls hl => ?_)
              obtain ⟨x_67783, ex_67783⟩ : ∃ z : Int32, z = y8_5 + 1 := ⟨_, rfl⟩
              refine lv_iinc (v := x_67783) (lv' := [(5, .int x_67783), (4, .int x_67782), (3, .int x_67781), (0, .ref (ad 2 0)), (1, .int i1), (2, .int i2)]) hx hb dX5_wordNumber_64 hl (k := 5) rfl (by rw [ex_67783]; rfl) (by decide) rfl (fun ls hl => ?_)
              refine lv_goto (tgt := 8) hx hb dX5_wordNumber_67 (by decide) ?_
              exact ih8 _ (by rw [← hm8]; exact ms_up (m := 1) ex_67783 (show bn 1 1 (1 : Int32) from bn_k (by decide)) B_67760 (bn_w (bn_eq ex_67783 (bn_add B_67760 (show bn 1 1 (1 : Int32) from bn_k (by decide)) (by decide))) (by decide) : bn 0 153 x_67783) (by decide)) x_67781 x_67782 x_67783  _ _ _  (bn_w (bn_eq ex_67782 (bn_add B_67760 (show bn 1 1 (1 : Int32) from bn_k (by decide)) (by decide))) (by decide)) (bn_w (bn_eq ex_67783 (bn_add B_67760 (show bn 1 1 (1 : Int32) from bn_k (by decide)) (by decide))) (by decide)) rfl Y (lv_sub hl [3, 4, 5, 2, 1, 0] rfl)
            · have B_67780 : bn 1 1 r_67777 := bn_w (bn_nel c_67778 er_67777 (show bn 0 0 (0 : Int32) from bn_k (by decide))) (by decide)
              refine lv_iload_n hx hb dX5_wordNumber_53 rfl (lv_at hl 3 rfl) ?_
              exact prI (post := fun r L1 f1 => (True) ∧ L1 = L ∧ f1 = f) S Y rfl (by decide) (by decide) hA1 ⟨trivial, rfl, rfl⟩ dX5_wordNumber_54
  refine lv_iconst (v := 0) hx hb dX5_wordNumber_0 (by decide) ?_
  refine lv_istore_n (lv' := [(3, .int 0), (0, .ref (ad 2 0)), (1, .int i1), (2, .int i2)]) hx hb dX5_wordNumber_1 rfl hl (by decide) rfl (fun ls hl => ?_)
  refine lv_iconst (v := 0) hx hb dX5_wordNumber_2 (by decide) ?_
  refine lv_istore (lv' := [(4, .int 0), (3, .int 0), (0, .ref (ad 2 0)), (1, .int i1), (2, .int i2)]) hx hb dX5_wordNumber_3 hl (by decide) rfl (fun ls hl => ?_)
  refine lv_iconst (v := 0) hx hb dX5_wordNumber_5 (by decide) ?_
  refine lv_istore (lv' := [(5, .int 0), (4, .int 0), (3, .int 0), (0, .ref (ad 2 0)), (1, .int i1), (2, .int i2)]) hx hb dX5_wordNumber_6 hl (by decide) rfl (fun ls hl => ?_)
  exact J_8 _ 0 0 0  _ _ _  (bn_w (show bn 0 0 (0 : Int32) from bn_k (by decide)) (by decide)) (bn_w (show bn 0 0 (0 : Int32) from bn_k (by decide)) (by decide)) rfl Y (lv_sub hl [3, 4, 5, 2, 1, 0] rfl)
set_option maxHeartbeats 4000000 in
set_option maxRecDepth 100000 in
theorem x_X5_cutWord {l : Launch} {G : GG}  {L : List Nat} {f : HF} {ad : Nat → Nat → Nat} {rs : FS} {fc : Int × Int} {tc w : Nat → Int × Int} {q : Nat → (Nat → Int32) → Prop} {aK aV : Nat → Nat} {z0 : Option Nat} {i1 : Int32} (I : SH (spC rs fc tc w q) nnC G ad L f) (hW : WBp w 8) (hT : WBp tc 4) (hQ : QIp q) (b_i1 : bn 0 300 i1) : PMiZ aK aV z0 l yX5_cutWord cX5_cutWord 3 .int 6 0 0 G [.ref (ad 2 0), .int i1] L f (fun r L1 f1 => bn 0 300 r ∧ SH (spC rs fc tc w q) nnC G ad L1 f1) := by
  refine PMiZ.of (post := fun r L1 f1 => bn 0 300 r ∧ SH (spC rs fc tc w q) nnC G ad L1 f1) (own := RX5) (by decide) rfl (Nat.le_of_ble_eq_true rfl) (fun sz p e s m args below meth c A ls hA1 hname S Y hz hl => ?_)
  have hx := S.hx
  have hb := S.hb
  have hl : lv_has ls 3 [(0, .ref (ad 2 0)), (1, .int i1)] := hl
  have J_2 : ∀ (n2 : Nat) (y2_2 : Int32) (L_2 : List Nat) (f_2 : HF) (H : Heap) (locs : List Loc) (ls : Array Slot), (SH (spC rs fc tc w q) nnC G ad L_2 f_2) → (bn 0 300 y2_2) → (((300 : Int) - y2_2.toInt).toNat = n2) → (DY G A s [] L_2 f_2 H locs) → (lv_has ls 3 [(0, .ref (ad 2 0)), (1, .int i1), (2, .int y2_2)]) → W p l e (rmD 6 0 0) s m args below meth c H locs (0) (0) (MQ below (va_Qi (fun r (u : List Nat × HF) => (fun r L1 f1 => bn 0 300 r ∧ SH (spC rs fc tc w q) nnC G ad L1 f1) r u.1 u.2) (fun u t => pOut G (va_A (va_pl L f) sz) u.1 u.2 t) (va_A (va_pl L f) sz)) args s 0 0 A) (F0 m 2 ls []) := by
    intro n2
    induction n2 using Nat.strongRecOn with
    | _ n2 ih2 =>
      intro y2_2 L_2 f_2 H locs ls I b_y2_2 hm2 Y hl
      refine lv_iload_n hx hb dX5_cutWord_2 rfl (lv_at hl 2 rfl) ?_
      refine lv_aload_n hx hb dX5_cutWord_3 rfl (lv_at hl 0 rfl) ?_
      obtain ⟨v_67866, v_67868, v_67870, v_67872, v_67874, v_67876, v_67878, v_67880, v_67882, v_67884, p_ad_2_0, b_67867, b_67869, b_67871, b_67873, b_67875, b_67877, b_67879, b_67881, b_67883, b_67885⟩ := opnC_2 (j := 0) I (by decide)
      have p_ad_2_0 : pt L_2 f_2 (ad 2 0) (.inr (5, [.ref (ad 50 0), .ref (ad 51 0), .ref (ad 52 0), .ref (ad 53 0), .int v_67866, .int v_67868, .int v_67870, .int v_67872, .int v_67874, .int v_67876, .int v_67878, v_67880, .int v_67882, .int v_67884])) := p_ad_2_0
      refine pg_get S Y ok_X5 4 (by decide) kf5_31 (v := .int v_67866) p_ad_2_0 rfl dX5_cutWord_4 ?_
      refine lv_icmp_ge (tgt := 27) hx hb dX5_cutWord_7 (by decide) (fun c_67886 => ?_) (fun c_67886 => ?_)
      · refine lv_aload_n hx hb dX5_cutWord_27 rfl (lv_at hl 0 rfl) ?_
        refine lv_aload_n hx hb dX5_cutWord_28 rfl (lv_at hl 0 rfl) ?_
        refine lv_iload_n hx hb dX5_cutWord_29 rfl (lv_at hl 1 rfl) ?_
        refine lv_iload_n hx hb dX5_cutWord_30 rfl (lv_at hl 2 rfl) ?_
        refine zVi (As := [.int i1, .int y2_2]) (rest := [.ref (ad 2 0)]) S Y hz (x_X5_wordNumber (l := l) I hW hT hQ) cw_X5_wordNumber km5_89 (recvO S Y (I.opo (k := 2) (j := 0) (by decide) rfl).choose_spec.1 ok_X5.1 rfl) rfl ⟨Nat.le_of_ble_eq_true rfl, Nat.le_of_ble_eq_true rfl⟩ hl.1 rfl (Nat.le_of_ble_eq_true rfl) ⟨Nat.le_of_ble_eq_true rfl, Nat.le_of_ble_eq_true rfl⟩ dX5_cutWord_31 (fun r_67892 L_67889 f_67890 H locs h_67891 Y => ?_)
        rw [h_67891.2.1, h_67891.2.2] at Y
        have er_67892 := h_67891.1
        refine lv_iload_n hx hb dX5_cutWord_34 rfl (lv_at hl 1 rfl) ?_
        refine lv_iconst (v := 0) hx hb dX5_cutWord_35 (by decide) ?_
        refine cVv (As := [.int r_67892, .int i1, .int 0]) (rest := []) S Y (x_X5_addToken (l := l) I hW hT hQ) cw_X5_addToken km5_85 p_ad_2_0 ok_X5.1 rfl rfl ⟨Nat.le_of_ble_eq_true rfl, Nat.le_of_ble_eq_true rfl⟩ hl.1 rfl (Nat.le_of_ble_eq_true rfl) ⟨Nat.le_of_ble_eq_true rfl, Nat.le_of_ble_eq_true rfl⟩ dX5_cutWord_36 (fun L_67893 f_67894 H locs I Y => ?_)
        refine lv_iload_n hx hb dX5_cutWord_39 rfl (lv_at hl 2 rfl) ?_
        exact prI (post := fun r L1 f1 => bn 0 300 r ∧ SH (spC rs fc tc w q) nnC G ad L1 f1) S Y rfl (by decide) (by decide) hA1 ⟨bn_w b_y2_2 (by decide), I⟩ dX5_cutWord_40
      · have B_67887 : bn 1 300 v_67866 := bn_w (bn_gtl c_67886 b_67867 b_y2_2) (by decide)
        have B_67888 : bn 0 299 y2_2 := bn_w (bn_gtr c_67886 b_67867 b_y2_2) (by decide)
        refine lv_aload_n hx hb dX5_cutWord_10 rfl (lv_at hl 0 rfl) ?_
        refine lv_iload_n hx hb dX5_cutWord_11 rfl (lv_at hl 2 rfl) ?_
        refine cVp (As := [.int y2_2]) (rest := []) S Y (x_X5_byteAt (l := l) I hW hT hQ) cw_X5_byteAt km5_65 p_ad_2_0 ok_X5.1 rfl rfl ⟨Nat.le_of_ble_eq_true rfl, Nat.le_of_ble_eq_true rfl⟩ hl.1 rfl (Nat.le_of_ble_eq_true rfl) ⟨Nat.le_of_ble_eq_true rfl, Nat.le_of_ble_eq_true rfl⟩ dX5_cutWord_12 (fun r_67895 H locs er_67895 Y => ?_)
        refine cSp (As := [.int r_67895]) (rest := []) S Y (x_X5_isLetter (l := l) ) cw_X5_isLetter km5_69 rfl ⟨Nat.le_of_ble_eq_true rfl, Nat.le_of_ble_eq_true rfl⟩ hl.1 rfl (Nat.le_of_ble_eq_true rfl) ⟨Nat.le_of_ble_eq_true rfl, Nat.le_of_ble_eq_true rfl⟩ dX5_cutWord_15 (fun r_67896 H locs er_67896 Y => ?_)
        refine lv_if_eq (tgt := 27) hx hb dX5_cutWord_18 (by decide) (fun c_67897 => ?_) (fun c_67897 => ?_)
        · have B_67898 : bn 0 0 r_67896 := bn_w (bn_eq c_67897 (show bn 0 0 (0 : Int32) from bn_k (by decide))) (by decide)
          refine lv_aload_n hx hb dX5_cutWord_27 rfl (lv_at hl 0 rfl) ?_
          refine lv_aload_n hx hb dX5_cutWord_28 rfl (lv_at hl 0 rfl) ?_
          refine lv_iload_n hx hb dX5_cutWord_29 rfl (lv_at hl 1 rfl) ?_
          refine lv_iload_n hx hb dX5_cutWord_30 rfl (lv_at hl 2 rfl) ?_
          refine zVi (As := [.int i1, .int y2_2]) (rest := [.ref (ad 2 0)]) S Y hz (x_X5_wordNumber (l := l) I hW hT hQ) cw_X5_wordNumber km5_89 (recvO S Y (I.opo (k := 2) (j := 0) (by decide) rfl).choose_spec.1 ok_X5.1 rfl) rfl ⟨Nat.le_of_ble_eq_true rfl, Nat.le_of_ble_eq_true rfl⟩ hl.1 rfl (Nat.le_of_ble_eq_true rfl) ⟨Nat.le_of_ble_eq_true rfl, Nat.le_of_ble_eq_true rfl⟩ dX5_cutWord_31 (fun r_67903 L_67900 f_67901 H locs h_67902 Y => ?_)
          rw [h_67902.2.1, h_67902.2.2] at Y
          have er_67903 := h_67902.1
          refine lv_iload_n hx hb dX5_cutWord_34 rfl (lv_at hl 1 rfl) ?_
          refine lv_iconst (v := 0) hx hb dX5_cutWord_35 (by decide) ?_
          refine cVv (As := [.int r_67903, .int i1, .int 0]) (rest := []) S Y (x_X5_addToken (l := l) I hW hT hQ) cw_X5_addToken km5_85 p_ad_2_0 ok_X5.1 rfl rfl ⟨Nat.le_of_ble_eq_true rfl, Nat.le_of_ble_eq_true rfl⟩ hl.1 rfl (Nat.le_of_ble_eq_true rfl) ⟨Nat.le_of_ble_eq_true rfl, Nat.le_of_ble_eq_true rfl⟩ dX5_cutWord_36 (fun L_67904 f_67905 H locs I Y => ?_)
          refine lv_iload_n hx hb dX5_cutWord_39 rfl (lv_at hl 2 rfl) ?_
          exact prI (post := fun r L1 f1 => bn 0 300 r ∧ SH (spC rs fc tc w q) nnC G ad L1 f1) S Y rfl (by decide) (by decide) hA1 ⟨bn_w B_67888 (by decide), I⟩ dX5_cutWord_40
        · have B_67899 : bn 1 1 r_67896 := bn_w (bn_nel c_67897 er_67896 (show bn 0 0 (0 : Int32) from bn_k (by decide))) (by decide)
          obtain ⟨x_67906, ex_67906⟩ : ∃ z : Int32, z = y2_2 + 1 := ⟨_, rfl⟩
          refine lv_iinc (v := x_67906) (lv' := [(2, .int x_67906), (0, .ref (ad 2 0)), (1, .int i1)]) hx hb dX5_cutWord_21 hl (k := 2) rfl (by rw [ex_67906]; rfl) (by decide) rfl (fun ls hl => ?_)
          refine lv_goto (tgt := 2) hx hb dX5_cutWord_24 (by decide) ?_
          exact ih2 _ (by rw [← hm2]; exact ms_up (m := 1) ex_67906 (show bn 1 1 (1 : Int32) from bn_k (by decide)) B_67888 (bn_w (bn_eq ex_67906 (bn_add B_67888 (show bn 1 1 (1 : Int32) from bn_k (by decide)) (by decide))) (by decide) : bn 0 300 x_67906) (by decide)) x_67906 _ _  _ _ _ I (bn_w (bn_eq ex_67906 (bn_add B_67888 (show bn 1 1 (1 : Int32) from bn_k (by decide)) (by decide))) (by decide)) rfl Y (lv_sub hl [1, 2, 0] rfl)
  refine lv_iload_n hx hb dX5_cutWord_0 rfl (lv_at hl 1 rfl) ?_
  refine lv_istore_n (lv' := [(2, .int i1), (0, .ref (ad 2 0)), (1, .int i1)]) hx hb dX5_cutWord_1 rfl hl (by decide) rfl (fun ls hl => ?_)
  exact J_2 _ i1 _ _  _ _ _ I (bn_w b_i1 (by decide)) rfl Y (lv_sub hl [1, 2, 0] rfl)
set_option maxHeartbeats 4000000 in
set_option maxRecDepth 100000 in
theorem x_X5_cutSign {l : Launch} {G : GG}  {L : List Nat} {f : HF} {ad : Nat → Nat → Nat} {rs : FS} {fc : Int × Int} {tc w : Nat → Int × Int} {q : Nat → (Nat → Int32) → Prop} {aK aV : Nat → Nat} {z0 : Option Nat} {i1 : Int32} (I : SH (spC rs fc tc w q) nnC G ad L f) (hW : WBp w 8) (hT : WBp tc 4) (hQ : QIp q) (b_i1 : bn 0 299 i1) : PMiZ aK aV z0 l yX5_cutSign cX5_cutSign 5 .int 4 0 0 G [.ref (ad 2 0), .int i1] L f (fun r L1 f1 => bn 0 301 r ∧ SH (spC rs fc tc w q) nnC G ad L1 f1) := by
  refine PMiZ.of (post := fun r L1 f1 => bn 0 301 r ∧ SH (spC rs fc tc w q) nnC G ad L1 f1) (own := RX5) (by decide) rfl (Nat.le_of_ble_eq_true rfl) (fun sz p e s m args below meth c A ls hA1 hname S Y hz hl => ?_)
  have hx := S.hx
  have hb := S.hb
  have hl : lv_has ls 5 [(0, .ref (ad 2 0)), (1, .int i1)] := hl
  have J_70 : ∀ (y70_2 y70_3 y70_4 y70_s0 : Int32) (L_70 : List Nat) (f_70 : HF) (H : Heap) (locs : List Loc) (ls : Array Slot), (SH (spC rs fc tc w q) nnC G ad L_70 f_70) → (bn 0 1 y70_3) → (DY G A s [] L_70 f_70 H locs) → (lv_has ls 5 [(0, .ref (ad 2 0)), (1, .int i1), (2, .int y70_2), (3, .int y70_3), (4, .int y70_4)]) → W p l e (rmD 4 0 0) s m args below meth c H locs (0) (0) (MQ below (va_Qi (fun r (u : List Nat × HF) => (fun r L1 f1 => bn 0 301 r ∧ SH (spC rs fc tc w q) nnC G ad L1 f1) r u.1 u.2) (fun u t => pOut G (va_A (va_pl L f) sz) u.1 u.2 t) (va_A (va_pl L f) sz)) args s 0 0 A) (F0 m 70 ls [.int y70_s0, .ref (ad 2 0)]) := by
    intro y70_2 y70_3 y70_4 y70_s0 L_70 f_70 H locs ls I b_y70_3 Y hl
    refine lv_iload_n hx hb dX5_cutSign_70 rfl (lv_at hl 1 rfl) ?_
    refine lv_iconst (v := 0) hx hb dX5_cutSign_71 (by decide) ?_
    refine cVv (As := [.int y70_s0, .int i1, .int 0]) (rest := []) S Y (x_X5_addToken (l := l) I hW hT hQ) cw_X5_addToken km5_85 (I.opo (k := 2) (j := 0) (by decide) rfl).choose_spec.1 ok_X5.1 rfl rfl ⟨Nat.le_of_ble_eq_true rfl, Nat.le_of_ble_eq_true rfl⟩ hl.1 rfl (Nat.le_of_ble_eq_true rfl) ⟨Nat.le_of_ble_eq_true rfl, Nat.le_of_ble_eq_true rfl⟩ dX5_cutSign_72 (fun L_67963 f_67964 H locs I Y => ?_)
    refine lv_iload_n hx hb dX5_cutSign_75 rfl (lv_at hl 3 rfl) ?_
    refine lv_if_eq (tgt := 85) hx hb dX5_cutSign_76 (by decide) (fun c_67965 => ?_) (fun c_67965 => ?_)
    · have B_67966 : bn 0 0 y70_3 := bn_w (bn_eq c_67965 (show bn 0 0 (0 : Int32) from bn_k (by decide))) (by decide)
      refine lv_iload_n hx hb dX5_cutSign_85 rfl (lv_at hl 1 rfl) ?_
      refine lv_iconst (v := 1) hx hb dX5_cutSign_86 (by decide) ?_
      refine lv_iadd hx hb dX5_cutSign_87 ?_
      refine lv_topi (fun x_67968 ex_67968 => ?_)
      exact prI (post := fun r L1 f1 => bn 0 301 r ∧ SH (spC rs fc tc w q) nnC G ad L1 f1) S Y rfl (by decide) (by decide) hA1 ⟨bn_w (bn_eq ex_67968 (bn_add b_i1 (show bn 1 1 (1 : Int32) from bn_k (by decide)) (by decide))) (by decide), I⟩ dX5_cutSign_88
    · have B_67967 : bn 1 1 y70_3 := bn_w (bn_nel c_67965 b_y70_3 (show bn 0 0 (0 : Int32) from bn_k (by decide))) (by decide)
      refine lv_iload_n hx hb dX5_cutSign_79 rfl (lv_at hl 1 rfl) ?_
      refine lv_iconst (v := 2) hx hb dX5_cutSign_80 (by decide) ?_
      refine lv_iadd hx hb dX5_cutSign_81 ?_
      refine lv_topi (fun x_67969 ex_67969 => ?_)
      refine lv_goto (tgt := 88) hx hb dX5_cutSign_82 (by decide) ?_
      exact prI (post := fun r L1 f1 => bn 0 301 r ∧ SH (spC rs fc tc w q) nnC G ad L1 f1) S Y rfl (by decide) (by decide) hA1 ⟨bn_w (bn_eq ex_67969 (bn_add b_i1 (show bn 2 2 (2 : Int32) from bn_k (by decide)) (by decide))) (by decide), I⟩ dX5_cutSign_88
  have J_53 : ∀ (y53_2 y53_3 y53_s0 : Int32) (L_53 : List Nat) (f_53 : HF) (H : Heap) (locs : List Loc) (ls : Array Slot), (SH (spC rs fc tc w q) nnC G ad L_53 f_53) → (bn 0 1 y53_3) → (DY G A s [] L_53 f_53 H locs) → (lv_has ls 5 [(0, .ref (ad 2 0)), (1, .int i1), (2, .int y53_2), (3, .int y53_3)]) → W p l e (rmD 4 0 0) s m args below meth c H locs (0) (0) (MQ below (va_Qi (fun r (u : List Nat × HF) => (fun r L1 f1 => bn 0 301 r ∧ SH (spC rs fc tc w q) nnC G ad L1 f1) r u.1 u.2) (fun u t => pOut G (va_A (va_pl L f) sz) u.1 u.2 t) (va_A (va_pl L f) sz)) args s 0 0 A) (F0 m 53 ls [.int y53_s0]) := by
    intro y53_2 y53_3 y53_s0 L_53 f_53 H locs ls I b_y53_3 Y hl
    refine lv_istore (lv' := [(4, .int y53_s0), (0, .ref (ad 2 0)), (1, .int i1), (2, .int y53_2), (3, .int y53_3)]) hx hb dX5_cutSign_53 hl (by decide) rfl (fun ls hl => ?_)
    refine lv_aload_n hx hb dX5_cutSign_55 rfl (lv_at hl 1 rfl) ?_
    refine lv_iload_n hx hb dX5_cutSign_56 rfl (lv_at hl 4 rfl) ?_
    refine lv_if_eq (tgt := 68) hx hb dX5_cutSign_57 (by decide) (fun c_67970 => ?_) (fun c_67970 => ?_)
    · have B_67971 : bn 0 0 y53_3 := bn_w (bn_eq c_67970 (show bn 0 0 (0 : Int32) from bn_k (by decide))) (by decide)
      refine lv_iload hx hb dX5_cutSign_68 (lv_at hl 0 rfl) ?_
      exact J_70 y53_2 y53_3 y53_s0 y53_s0 _ _  _ _ _ I (bn_w B_67971 (by decide)) Y (lv_sub hl [1, 2, 3, 4, 0] rfl)
    · have B_67972 : bn 1 1 y53_3 := bn_w (bn_nel c_67970 b_y53_3 (show bn 0 0 (0 : Int32) from bn_k (by decide))) (by decide)
      refine lv_iload_n hx hb dX5_cutSign_60 rfl (lv_at hl 3 rfl) ?_
      refine lv_sipush (v := 256) hx hb dX5_cutSign_61 (by decide) ?_
      refine lv_iadd hx hb dX5_cutSign_64 ?_
      refine lv_topi (fun x_67973 ex_67973 => ?_)
      refine lv_goto (tgt := 70) hx hb dX5_cutSign_65 (by decide) ?_
      exact J_70 y53_2 y53_3 y53_s0 x_67973 _ _  _ _ _ I (bn_w B_67972 (by decide)) Y (lv_sub hl [1, 2, 3, 4, 0] rfl)
  have J_35 : ∀ (y35_2 y35_s0 : Int32) (L_35 : List Nat) (f_35 : HF) (H : Heap) (locs : List Loc) (ls : Array Slot), (SH (spC rs fc tc w q) nnC G ad L_35 f_35) → (bn 0 1 y35_s0) → (DY G A s [] L_35 f_35 H locs) → (lv_has ls 5 [(0, .ref (ad 2 0)), (1, .int i1), (2, .int y35_2)]) → W p l e (rmD 4 0 0) s m args below meth c H locs (0) (0) (MQ below (va_Qi (fun r (u : List Nat × HF) => (fun r L1 f1 => bn 0 301 r ∧ SH (spC rs fc tc w q) nnC G ad L1 f1) r u.1 u.2) (fun u t => pOut G (va_A (va_pl L f) sz) u.1 u.2 t) (va_A (va_pl L f) sz)) args s 0 0 A) (F0 m 35 ls [.int y35_s0]) := by
    intro y35_2 y35_s0 L_35 f_35 H locs ls I b_y35_s0 Y hl
    refine lv_istore_n (lv' := [(3, .int y35_s0), (0, .ref (ad 2 0)), (1, .int i1), (2, .int y35_2)]) hx hb dX5_cutSign_35 rfl hl (by decide) rfl (fun ls hl => ?_)
    refine va_ldcS hx hb S.ow hz.2.2.2.2 dX5_cutSign_36 ?_
    refine lv_iload_n hx hb dX5_cutSign_38 rfl (lv_at hl 3 rfl) ?_
    obtain ⟨x_67974, ex_67974⟩ : ∃ z : Int32, z = ((y35_2 : Int32).toUInt32 % 65536).toInt32 := ⟨_, rfl⟩
    refine lv_i2c (v := x_67974) hx hb dX5_cutSign_39 ex_67974.symm ?_
    refine zVi (As := [.int x_67974]) (rest := []) S Y hz (x_J0_indexOf (l := l) ) cw_X100_indexOf_0f7a4 km5_115 (recvK (i := 1) Y hz (by decide) rfl) rfl ⟨Nat.le_of_ble_eq_true rfl, Nat.le_of_ble_eq_true rfl⟩ hl.1 rfl (Nat.le_of_ble_eq_true rfl) ⟨Nat.le_of_ble_eq_true rfl, Nat.le_of_ble_eq_true rfl⟩ dX5_cutSign_40 (fun r_67978 L_67975 f_67976 H locs h_67977 Y => ?_)
    rw [h_67977.2.1, h_67977.2.2] at Y
    have er_67978 := h_67977.1
    refine lv_if_lt (tgt := 50) hx hb dX5_cutSign_43 (by decide) (fun c_67979 => ?_) (fun c_67979 => ?_)
    · have B_67980 : bn (-2147483648) (-1) r_67978 := bn_w (bn_ltl c_67979 (bn_any r_67978) (show bn 0 0 (0 : Int32) from bn_k (by decide))) (by decide)
      refine lv_sipush (v := 1001) hx hb dX5_cutSign_50 (by decide) ?_
      exact J_53 y35_2 y35_s0 1001 _ _  _ _ _ I (bn_w b_y35_s0 (by decide)) Y (lv_sub hl [1, 2, 3, 0] rfl)
    · have B_67981 : bn 0 2147483647 r_67978 := bn_w (bn_gel c_67979 (bn_any r_67978) (show bn 0 0 (0 : Int32) from bn_k (by decide))) (by decide)
      refine lv_iload_n hx hb dX5_cutSign_46 rfl (lv_at hl 3 rfl) ?_
      refine lv_goto (tgt := 53) hx hb dX5_cutSign_47 (by decide) ?_
      exact J_53 y35_2 y35_s0 y35_2 _ _  _ _ _ I (bn_w b_y35_s0 (by decide)) Y (lv_sub hl [1, 2, 3, 0] rfl)
  have J_34 : ∀ (y34_2 : Int32) (L_34 : List Nat) (f_34 : HF) (H : Heap) (locs : List Loc) (ls : Array Slot), (SH (spC rs fc tc w q) nnC G ad L_34 f_34) → (DY G A s [] L_34 f_34 H locs) → (lv_has ls 5 [(0, .ref (ad 2 0)), (1, .int i1), (2, .int y34_2)]) → W p l e (rmD 4 0 0) s m args below meth c H locs (0) (0) (MQ below (va_Qi (fun r (u : List Nat × HF) => (fun r L1 f1 => bn 0 301 r ∧ SH (spC rs fc tc w q) nnC G ad L1 f1) r u.1 u.2) (fun u t => pOut G (va_A (va_pl L f) sz) u.1 u.2 t) (va_A (va_pl L f) sz)) args s 0 0 A) (F0 m 34 ls []) := by
    intro y34_2 L_34 f_34 H locs ls I Y hl
    refine lv_iconst (v := 0) hx hb dX5_cutSign_34 (by decide) ?_
    exact J_35 y34_2 0 _ _  _ _ _ I (bn_w (show bn 0 0 (0 : Int32) from bn_k (by decide)) (by decide)) Y (lv_sub hl [0, 1, 2] rfl)
  have J_18 : ∀ (y18_2 : Int32) (L_18 : List Nat) (f_18 : HF) (H : Heap) (locs : List Loc) (ls : Array Slot), (SH (spC rs fc tc w q) nnC G ad L_18 f_18) → (bn 60 62 y18_2) → (DY G A s [] L_18 f_18 H locs) → (lv_has ls 5 [(0, .ref (ad 2 0)), (1, .int i1), (2, .int y18_2)]) → W p l e (rmD 4 0 0) s m args below meth c H locs (0) (0) (MQ below (va_Qi (fun r (u : List Nat × HF) => (fun r L1 f1 => bn 0 301 r ∧ SH (spC rs fc tc w q) nnC G ad L1 f1) r u.1 u.2) (fun u t => pOut G (va_A (va_pl L f) sz) u.1 u.2 t) (va_A (va_pl L f) sz)) args s 0 0 A) (F0 m 18 ls []) := by
    intro y18_2 L_18 f_18 H locs ls I b_y18_2 Y hl
    refine lv_aload_n hx hb dX5_cutSign_18 rfl (lv_at hl 0 rfl) ?_
    refine lv_iload_n hx hb dX5_cutSign_19 rfl (lv_at hl 1 rfl) ?_
    refine lv_iconst (v := 1) hx hb dX5_cutSign_20 (by decide) ?_
    refine lv_iadd hx hb dX5_cutSign_21 ?_
    refine lv_topi (fun x_67982 ex_67982 => ?_)
    refine cVp (As := [.int x_67982]) (rest := []) S Y (x_X5_byteAt (l := l) I hW hT hQ) cw_X5_byteAt km5_65 (I.opo (k := 2) (j := 0) (by decide) rfl).choose_spec.1 ok_X5.1 rfl rfl ⟨Nat.le_of_ble_eq_true rfl, Nat.le_of_ble_eq_true rfl⟩ hl.1 rfl (Nat.le_of_ble_eq_true rfl) ⟨Nat.le_of_ble_eq_true rfl, Nat.le_of_ble_eq_true rfl⟩ dX5_cutSign_22 (fun r_67983 H locs er_67983 Y => ?_)
    refine lv_bipush (v := 61) hx hb dX5_cutSign_25 (by decide) ?_
    refine lv_icmp_ne (tgt := 34) hx hb dX5_cutSign_27 (by decide) (fun c_67984 => ?_) (fun c_67984 => ?_)
    · exact J_34 y18_2 _ _  _ _ _ I  Y (lv_sub hl [0, 1, 2] rfl)
    · have B_67985 : bn 61 61 r_67983 := bn_w (bn_eq c_67984 (show bn 61 61 (61 : Int32) from bn_k (by decide))) (by decide)
      refine lv_iconst (v := 1) hx hb dX5_cutSign_30 (by decide) ?_
      refine lv_goto (tgt := 35) hx hb dX5_cutSign_31 (by decide) ?_
      exact J_35 y18_2 1 _ _  _ _ _ I (bn_w (show bn 1 1 (1 : Int32) from bn_k (by decide)) (by decide)) Y (lv_sub hl [0, 1, 2] rfl)
  refine lv_aload_n hx hb dX5_cutSign_0 rfl (lv_at hl 0 rfl) ?_
  refine lv_iload_n hx hb dX5_cutSign_1 rfl (lv_at hl 1 rfl) ?_
  refine cVp (As := [.int i1]) (rest := []) S Y (x_X5_byteAt (l := l) I hW hT hQ) cw_X5_byteAt km5_65 (I.opo (k := 2) (j := 0) (by decide) rfl).choose_spec.1 ok_X5.1 rfl rfl ⟨Nat.le_of_ble_eq_true rfl, Nat.le_of_ble_eq_true rfl⟩ hl.1 rfl (Nat.le_of_ble_eq_true rfl) ⟨Nat.le_of_ble_eq_true rfl, Nat.le_of_ble_eq_true rfl⟩ dX5_cutSign_2 (fun r_67986 H locs er_67986 Y => ?_)
  refine lv_istore_n (lv' := [(2, .int r_67986), (0, .ref (ad 2 0)), (1, .int i1)]) hx hb dX5_cutSign_5 rfl hl (by decide) rfl (fun ls hl => ?_)
  refine lv_iload_n hx hb dX5_cutSign_6 rfl (lv_at hl 0 rfl) ?_
  refine lv_bipush (v := 60) hx hb dX5_cutSign_7 (by decide) ?_
  refine lv_icmp_eq (tgt := 18) hx hb dX5_cutSign_9 (by decide) (fun c_67987 => ?_) (fun c_67987 => ?_)
  · have B_67988 : bn 60 60 r_67986 := bn_w (bn_eq c_67987 (show bn 60 60 (60 : Int32) from bn_k (by decide))) (by decide)
    exact J_18 r_67986 _ _  _ _ _ I (bn_w B_67988 (by decide)) Y (lv_sub hl [1, 2, 0] rfl)
  · refine lv_iload_n hx hb dX5_cutSign_12 rfl (lv_at hl 0 rfl) ?_
    refine lv_bipush (v := 62) hx hb dX5_cutSign_13 (by decide) ?_
    refine lv_icmp_ne (tgt := 34) hx hb dX5_cutSign_15 (by decide) (fun c_67989 => ?_) (fun c_67989 => ?_)
    · exact J_34 r_67986 _ _  _ _ _ I  Y (lv_sub hl [1, 2, 0] rfl)
    · have B_67990 : bn 62 62 r_67986 := bn_w (bn_eq c_67989 (show bn 62 62 (62 : Int32) from bn_k (by decide))) (by decide)
      exact J_18 r_67986 _ _  _ _ _ I (bn_w B_67990 (by decide)) Y (lv_sub hl [1, 2, 0] rfl)
set_option maxHeartbeats 4000000 in
set_option maxRecDepth 100000 in
theorem x_X5_cutTokens {l : Launch} {G : GG}  {L : List Nat} {f : HF} {ad : Nat → Nat → Nat} {rs : FS} {fc : Int × Int} {tc w : Nat → Int × Int} {q : Nat → (Nat → Int32) → Prop} {aK aV : Nat → Nat} {z0 : Option Nat} (I : SH (spC rs fc tc w q) nnC G ad L f) (hW : WBp w 8) (hT : WBp tc 4) (hQ : QIp q) : PMvZ aK aV z0 l yX5_cutTokens cX5_cutTokens 4 7 0 0 G [.ref (ad 2 0)] L f (fun L1 f1 => SH (spC rs fc tc w q) nnC G ad L1 f1) := by
  refine PMvZ.of (post := fun L1 f1 => SH (spC rs fc tc w q) nnC G ad L1 f1) (own := RX5) (by decide) rfl (Nat.le_of_ble_eq_true rfl) (fun sz p e s m args below meth c A ls hA1 hname S Y hz hl => ?_)
  have hx := S.hx
  have hb := S.hb
  have hl : lv_has ls 4 [(0, .ref (ad 2 0))] := hl
  have J_9 : ∀ (n9 : Nat) (y9_1 y9_2 : Int32) (L_9 : List Nat) (f_9 : HF) (H : Heap) (locs : List Loc) (ls : Array Slot), (SH (spC rs fc tc w q) nnC G ad L_9 f_9) → (bn 0 301 y9_1) → (bn 0 300 y9_2) → (((300 : Int) - y9_2.toInt).toNat = n9) → (DY G A s [] L_9 f_9 H locs) → (lv_has ls 4 [(0, .ref (ad 2 0)), (1, .int y9_1), (2, .int y9_2)]) → W p l e (rmD 7 0 0) s m args below meth c H locs (0) (0) (MQ below (va_Qv (fun (u : List Nat × HF) => (fun L1 f1 => SH (spC rs fc tc w q) nnC G ad L1 f1) u.1 u.2) (fun u t => pOut G (va_A (va_pl L f) sz) u.1 u.2 t) (va_A (va_pl L f) sz)) args s 0 0 A) (F0 m 9 ls []) := by
    intro n9
    induction n9 using Nat.strongRecOn with
    | _ n9 ih9 =>
      intro y9_1 y9_2 L_9 f_9 H locs ls I b_y9_1 b_y9_2 hm9 Y hl
      refine lv_iload_n hx hb dX5_cutTokens_9 rfl (lv_at hl 2 rfl) ?_
      refine lv_sipush (v := 300) hx hb dX5_cutTokens_10 (by decide) ?_
      refine lv_icmp_ge (tgt := 92) hx hb dX5_cutTokens_13 (by decide) (fun c_70297 => ?_) (fun c_70297 => ?_)
      · have B_70298 : bn 300 300 y9_2 := bn_w (bn_ler c_70297 (show bn 300 300 (300 : Int32) from bn_k (by decide)) b_y9_2) (by decide)
        refine lv_aload_n hx hb dX5_cutTokens_92 rfl (lv_at hl 0 rfl) ?_
        refine lv_sipush (v := 1002) hx hb dX5_cutTokens_93 (by decide) ?_
        refine lv_aload_n hx hb dX5_cutTokens_96 rfl (lv_at hl 0 rfl) ?_
        obtain ⟨v_70300, v_70302, v_70304, v_70306, v_70308, v_70310, v_70312, v_70314, v_70316, v_70318, p_ad_2_0, b_70301, b_70303, b_70305, b_70307, b_70309, b_70311, b_70313, b_70315, b_70317, b_70319⟩ := opnC_2 (j := 0) I (by decide)
        have p_ad_2_0 : pt L_9 f_9 (ad 2 0) (.inr (5, [.ref (ad 50 0), .ref (ad 51 0), .ref (ad 52 0), .ref (ad 53 0), .int v_70300, .int v_70302, .int v_70304, .int v_70306, .int v_70308, .int v_70310, .int v_70312, v_70314, .int v_70316, .int v_70318])) := p_ad_2_0
        refine pg_get S Y ok_X5 4 (by decide) kf5_31 (v := .int v_70300) p_ad_2_0 rfl dX5_cutTokens_97 ?_
        refine lv_iconst (v := 0) hx hb dX5_cutTokens_100 (by decide) ?_
        refine cVv (As := [.int 1002, .int v_70300, .int 0]) (rest := []) S Y (x_X5_addToken (l := l) I hW hT hQ) cw_X5_addToken km5_85 p_ad_2_0 ok_X5.1 rfl rfl ⟨Nat.le_of_ble_eq_true rfl, Nat.le_of_ble_eq_true rfl⟩ hl.1 rfl (Nat.le_of_ble_eq_true rfl) ⟨Nat.le_of_ble_eq_true rfl, Nat.le_of_ble_eq_true rfl⟩ dX5_cutTokens_101 (fun L_70320 f_70321 H locs I Y => ?_)
        exact prV (post := fun L1 f1 => SH (spC rs fc tc w q) nnC G ad L1 f1) S Y (by decide) (by decide) hA1 I dX5_cutTokens_104
      · have B_70299 : bn 0 299 y9_2 := bn_w (bn_gtr c_70297 (show bn 300 300 (300 : Int32) from bn_k (by decide)) b_y9_2) (by decide)
        refine lv_iload_n hx hb dX5_cutTokens_16 rfl (lv_at hl 1 rfl) ?_
        refine lv_aload_n hx hb dX5_cutTokens_17 rfl (lv_at hl 0 rfl) ?_
        obtain ⟨v_70322, v_70324, v_70326, v_70328, v_70330, v_70332, v_70334, v_70336, v_70338, v_70340, p_ad_2_0, b_70323, b_70325, b_70327, b_70329, b_70331, b_70333, b_70335, b_70337, b_70339, b_70341⟩ := opnC_2 (j := 0) I (by decide)
        have p_ad_2_0 : pt L_9 f_9 (ad 2 0) (.inr (5, [.ref (ad 50 0), .ref (ad 51 0), .ref (ad 52 0), .ref (ad 53 0), .int v_70322, .int v_70324, .int v_70326, .int v_70328, .int v_70330, .int v_70332, .int v_70334, v_70336, .int v_70338, .int v_70340])) := p_ad_2_0
        refine pg_get S Y ok_X5 4 (by decide) kf5_31 (v := .int v_70322) p_ad_2_0 rfl dX5_cutTokens_18 ?_
        refine lv_icmp_ge (tgt := 92) hx hb dX5_cutTokens_21 (by decide) (fun c_70342 => ?_) (fun c_70342 => ?_)
        · refine lv_aload_n hx hb dX5_cutTokens_92 rfl (lv_at hl 0 rfl) ?_
          refine lv_sipush (v := 1002) hx hb dX5_cutTokens_93 (by decide) ?_
          refine lv_aload_n hx hb dX5_cutTokens_96 rfl (lv_at hl 0 rfl) ?_
          refine pg_get S Y ok_X5 4 (by decide) kf5_31 (v := .int v_70322) p_ad_2_0 rfl dX5_cutTokens_97 ?_
          refine lv_iconst (v := 0) hx hb dX5_cutTokens_100 (by decide) ?_
          refine cVv (As := [.int 1002, .int v_70322, .int 0]) (rest := []) S Y (x_X5_addToken (l := l) I hW hT hQ) cw_X5_addToken km5_85 p_ad_2_0 ok_X5.1 rfl rfl ⟨Nat.le_of_ble_eq_true rfl, Nat.le_of_ble_eq_true rfl⟩ hl.1 rfl (Nat.le_of_ble_eq_true rfl) ⟨Nat.le_of_ble_eq_true rfl, Nat.le_of_ble_eq_true rfl⟩ dX5_cutTokens_101 (fun L_70345 f_70346 H locs I Y => ?_)
          exact prV (post := fun L1 f1 => SH (spC rs fc tc w q) nnC G ad L1 f1) S Y (by decide) (by decide) hA1 I dX5_cutTokens_104
        · have B_70343 : bn 1 300 v_70322 := bn_w (bn_gtl c_70342 b_70323 b_y9_1) (by decide)
          have B_70344 : bn 0 299 y9_1 := bn_w (bn_gtr c_70342 b_70323 b_y9_1) (by decide)
          refine lv_aload_n hx hb dX5_cutTokens_24 rfl (lv_at hl 0 rfl) ?_
          refine lv_iload_n hx hb dX5_cutTokens_25 rfl (lv_at hl 1 rfl) ?_
          refine cVp (As := [.int y9_1]) (rest := []) S Y (x_X5_byteAt (l := l) I hW hT hQ) cw_X5_byteAt km5_65 p_ad_2_0 ok_X5.1 rfl rfl ⟨Nat.le_of_ble_eq_true rfl, Nat.le_of_ble_eq_true rfl⟩ hl.1 rfl (Nat.le_of_ble_eq_true rfl) ⟨Nat.le_of_ble_eq_true rfl, Nat.le_of_ble_eq_true rfl⟩ dX5_cutTokens_26 (fun r_70347 H locs er_70347 Y => ?_)
          refine lv_istore_n (lv' := [(3, .int r_70347), (0, .ref (ad 2 0)), (1, .int y9_1), (2, .int y9_2)]) hx hb dX5_cutTokens_29 rfl hl (by decide) rfl (fun ls hl => ?_)
          refine lv_iload_n hx hb dX5_cutTokens_30 rfl (lv_at hl 0 rfl) ?_
          refine lv_bipush (v := 32) hx hb dX5_cutTokens_31 (by decide) ?_
          refine lv_icmp_eq (tgt := 42) hx hb dX5_cutTokens_33 (by decide) (fun c_70348 => ?_) (fun c_70348 => ?_)
          · have B_70349 : bn 32 32 r_70347 := bn_w (bn_eq c_70348 (show bn 32 32 (32 : Int32) from bn_k (by decide))) (by decide)
            obtain ⟨x_70350, ex_70350⟩ : ∃ z : Int32, z = y9_1 + 1 := ⟨_, rfl⟩
            refine lv_iinc (v := x_70350) (lv' := [(1, .int x_70350), (3, .int r_70347), (0, .ref (ad 2 0)), (2, .int y9_2)]) hx hb dX5_cutTokens_42 hl (k := 2) rfl (by rw [ex_70350]; rfl) (by decide) rfl (fun ls hl => ?_)
            refine lv_goto (tgt := 86) hx hb dX5_cutTokens_45 (by decide) ?_
            obtain ⟨x_70351, ex_70351⟩ : ∃ z : Int32, z = y9_2 + 1 := ⟨_, rfl⟩
            refine lv_iinc (v := x_70351) (lv' := [(2, .int x_70351), (1, .int x_70350), (3, .int r_70347), (0, .ref (ad 2 0))]) hx hb dX5_cutTokens_86 hl (k := 3) rfl (by rw [ex_70351]; rfl) (by decide) rfl (fun ls hl => ?_)
            refine lv_goto (tgt := 9) hx hb dX5_cutTokens_89 (by decide) ?_
            exact ih9 _ (by rw [← hm9]; exact ms_up (m := 1) ex_70351 (show bn 1 1 (1 : Int32) from bn_k (by decide)) B_70299 (bn_w (bn_eq ex_70351 (bn_add B_70299 (show bn 1 1 (1 : Int32) from bn_k (by decide)) (by decide))) (by decide) : bn 0 300 x_70351) (by decide)) x_70350 x_70351 _ _  _ _ _ I (bn_w (bn_eq ex_70350 (bn_add B_70344 (show bn 1 1 (1 : Int32) from bn_k (by decide)) (by decide))) (by decide)) (bn_w (bn_eq ex_70351 (bn_add B_70299 (show bn 1 1 (1 : Int32) from bn_k (by decide)) (by decide))) (by decide)) rfl Y (lv_sub hl [3, 1, 0] rfl)
          · refine lv_iload_n hx hb dX5_cutTokens_36 rfl (lv_at hl 0 rfl) ?_
            refine lv_bipush (v := 10) hx hb dX5_cutTokens_37 (by decide) ?_
            refine lv_icmp_ne (tgt := 48) hx hb dX5_cutTokens_39 (by decide) (fun c_70352 => ?_) (fun c_70352 => ?_)
            · refine lv_iload_n hx hb dX5_cutTokens_48 rfl (lv_at hl 0 rfl) ?_
              refine cSp (As := [.int r_70347]) (rest := []) S Y (x_X5_isLetter (l := l) ) cw_X5_isLetter km5_69 rfl ⟨Nat.le_of_ble_eq_true rfl, Nat.le_of_ble_eq_true rfl⟩ hl.1 rfl (Nat.le_of_ble_eq_true rfl) ⟨Nat.le_of_ble_eq_true rfl, Nat.le_of_ble_eq_true rfl⟩ dX5_cutTokens_49 (fun r_70354 H locs er_70354 Y => ?_)
              refine lv_if_eq (tgt := 64) hx hb dX5_cutTokens_52 (by decide) (fun c_70355 => ?_) (fun c_70355 => ?_)
              · have B_70356 : bn 0 0 r_70354 := bn_w (bn_eq c_70355 (show bn 0 0 (0 : Int32) from bn_k (by decide))) (by decide)
                refine lv_iload_n hx hb dX5_cutTokens_64 rfl (lv_at hl 0 rfl) ?_
                refine cSp (As := [.int r_70347]) (rest := []) S Y (x_X5_isDigit (l := l) ) cw_X5_isDigit km5_76 rfl ⟨Nat.le_of_ble_eq_true rfl, Nat.le_of_ble_eq_true rfl⟩ hl.1 rfl (Nat.le_of_ble_eq_true rfl) ⟨Nat.le_of_ble_eq_true rfl, Nat.le_of_ble_eq_true rfl⟩ dX5_cutTokens_65 (fun r_70358 H locs er_70358 Y => ?_)
                refine lv_if_eq (tgt := 80) hx hb dX5_cutTokens_68 (by decide) (fun c_70359 => ?_) (fun c_70359 => ?_)
                · have B_70360 : bn 0 0 r_70358 := bn_w (bn_eq c_70359 (show bn 0 0 (0 : Int32) from bn_k (by decide))) (by decide)
                  refine lv_aload_n hx hb dX5_cutTokens_80 rfl (lv_at hl 1 rfl) ?_
                  refine lv_iload_n hx hb dX5_cutTokens_81 rfl (lv_at hl 2 rfl) ?_
                  refine zVi (As := [.int y9_1]) (rest := []) S Y hz (x_X5_cutSign (l := l) I hW hT hQ (bn_w B_70344 (by decide))) cw_X5_cutSign km5_82 (recvO S Y (I.opo (k := 2) (j := 0) (by decide) rfl).choose_spec.1 ok_X5.1 rfl) rfl ⟨Nat.le_of_ble_eq_true rfl, Nat.le_of_ble_eq_true rfl⟩ hl.1 rfl (Nat.le_of_ble_eq_true rfl) ⟨Nat.le_of_ble_eq_true rfl, Nat.le_of_ble_eq_true rfl⟩ dX5_cutTokens_82 (fun r_70364 L_70362 f_70363 H locs hr_70364 Y => ?_)
                  obtain ⟨er_70364, I⟩ := hr_70364
                  refine lv_istore_n (lv' := [(1, .int r_70364), (3, .int r_70347), (0, .ref (ad 2 0)), (2, .int y9_2)]) hx hb dX5_cutTokens_85 rfl hl (by decide) rfl (fun ls hl => ?_)
                  obtain ⟨x_70365, ex_70365⟩ : ∃ z : Int32, z = y9_2 + 1 := ⟨_, rfl⟩
                  refine lv_iinc (v := x_70365) (lv' := [(2, .int x_70365), (1, .int r_70364), (3, .int r_70347), (0, .ref (ad 2 0))]) hx hb dX5_cutTokens_86 hl (k := 3) rfl (by rw [ex_70365]; rfl) (by decide) rfl (fun ls hl => ?_)
                  refine lv_goto (tgt := 9) hx hb dX5_cutTokens_89 (by decide) ?_
                  exact ih9 _ (by rw [← hm9]; exact ms_up (m := 1) ex_70365 (show bn 1 1 (1 : Int32) from bn_k (by decide)) B_70299 (bn_w (bn_eq ex_70365 (bn_add B_70299 (show bn 1 1 (1 : Int32) from bn_k (by decide)) (by decide))) (by decide) : bn 0 300 x_70365) (by decide)) r_70364 x_70365 _ _  _ _ _ I (bn_w er_70364 (by decide)) (bn_w (bn_eq ex_70365 (bn_add B_70299 (show bn 1 1 (1 : Int32) from bn_k (by decide)) (by decide))) (by decide)) rfl Y (lv_sub hl [3, 1, 0] rfl)
                · have B_70361 : bn 1 1 r_70358 := bn_w (bn_nel c_70359 er_70358 (show bn 0 0 (0 : Int32) from bn_k (by decide))) (by decide)
                  refine lv_aload_n hx hb dX5_cutTokens_71 rfl (lv_at hl 1 rfl) ?_
                  refine lv_iload_n hx hb dX5_cutTokens_72 rfl (lv_at hl 2 rfl) ?_
                  refine cVi (As := [.int y9_1]) (rest := []) S Y (x_X5_cutNumber (l := l) I hW hT hQ (bn_w B_70344 (by decide))) cw_X5_cutNumber km5_79 p_ad_2_0 ok_X5.1 rfl rfl ⟨Nat.le_of_ble_eq_true rfl, Nat.le_of_ble_eq_true rfl⟩ hl.1 rfl (Nat.le_of_ble_eq_true rfl) ⟨Nat.le_of_ble_eq_true rfl, Nat.le_of_ble_eq_true rfl⟩ dX5_cutTokens_73 (fun r_70368 L_70366 f_70367 H locs hr_70368 Y => ?_)
                  obtain ⟨er_70368, I⟩ := hr_70368
                  refine lv_istore_n (lv' := [(1, .int r_70368), (3, .int r_70347), (0, .ref (ad 2 0)), (2, .int y9_2)]) hx hb dX5_cutTokens_76 rfl hl (by decide) rfl (fun ls hl => ?_)
                  refine lv_goto (tgt := 86) hx hb dX5_cutTokens_77 (by decide) ?_
                  obtain ⟨x_70369, ex_70369⟩ : ∃ z : Int32, z = y9_2 + 1 := ⟨_, rfl⟩
                  refine lv_iinc (v := x_70369) (lv' := [(2, .int x_70369), (1, .int r_70368), (3, .int r_70347), (0, .ref (ad 2 0))]) hx hb dX5_cutTokens_86 hl (k := 3) rfl (by rw [ex_70369]; rfl) (by decide) rfl (fun ls hl => ?_)
                  refine lv_goto (tgt := 9) hx hb dX5_cutTokens_89 (by decide) ?_
                  exact ih9 _ (by rw [← hm9]; exact ms_up (m := 1) ex_70369 (show bn 1 1 (1 : Int32) from bn_k (by decide)) B_70299 (bn_w (bn_eq ex_70369 (bn_add B_70299 (show bn 1 1 (1 : Int32) from bn_k (by decide)) (by decide))) (by decide) : bn 0 300 x_70369) (by decide)) r_70368 x_70369 _ _  _ _ _ I (bn_w er_70368 (by decide)) (bn_w (bn_eq ex_70369 (bn_add B_70299 (show bn 1 1 (1 : Int32) from bn_k (by decide)) (by decide))) (by decide)) rfl Y (lv_sub hl [3, 1, 0] rfl)
              · have B_70357 : bn 1 1 r_70354 := bn_w (bn_nel c_70355 er_70354 (show bn 0 0 (0 : Int32) from bn_k (by decide))) (by decide)
                refine lv_aload_n hx hb dX5_cutTokens_55 rfl (lv_at hl 1 rfl) ?_
                refine lv_iload_n hx hb dX5_cutTokens_56 rfl (lv_at hl 2 rfl) ?_
                refine zVi (As := [.int y9_1]) (rest := []) S Y hz (x_X5_cutWord (l := l) I hW hT hQ (bn_w B_70344 (by decide))) cw_X5_cutWord km5_73 (recvO S Y (I.opo (k := 2) (j := 0) (by decide) rfl).choose_spec.1 ok_X5.1 rfl) rfl ⟨Nat.le_of_ble_eq_true rfl, Nat.le_of_ble_eq_true rfl⟩ hl.1 rfl (Nat.le_of_ble_eq_true rfl) ⟨Nat.le_of_ble_eq_true rfl, Nat.le_of_ble_eq_true rfl⟩ dX5_cutTokens_57 (fun r_70372 L_70370 f_70371 H locs hr_70372 Y => ?_)
                obtain ⟨er_70372, I⟩ := hr_70372
                refine lv_istore_n (lv' := [(1, .int r_70372), (3, .int r_70347), (0, .ref (ad 2 0)), (2, .int y9_2)]) hx hb dX5_cutTokens_60 rfl hl (by decide) rfl (fun ls hl => ?_)
                refine lv_goto (tgt := 86) hx hb dX5_cutTokens_61 (by decide) ?_
                obtain ⟨x_70373, ex_70373⟩ : ∃ z : Int32, z = y9_2 + 1 := ⟨_, rfl⟩
                refine lv_iinc (v := x_70373) (lv' := [(2, .int x_70373), (1, .int r_70372), (3, .int r_70347), (0, .ref (ad 2 0))]) hx hb dX5_cutTokens_86 hl (k := 3) rfl (by rw [ex_70373]; rfl) (by decide) rfl (fun ls hl => ?_)
                refine lv_goto (tgt := 9) hx hb dX5_cutTokens_89 (by decide) ?_
                exact ih9 _ (by rw [← hm9]; exact ms_up (m := 1) ex_70373 (show bn 1 1 (1 : Int32) from bn_k (by decide)) B_70299 (bn_w (bn_eq ex_70373 (bn_add B_70299 (show bn 1 1 (1 : Int32) from bn_k (by decide)) (by decide))) (by decide) : bn 0 300 x_70373) (by decide)) r_70372 x_70373 _ _  _ _ _ I (bn_w er_70372 (by decide)) (bn_w (bn_eq ex_70373 (bn_add B_70299 (show bn 1 1 (1 : Int32) from bn_k (by decide)) (by decide))) (by decide)) rfl Y (lv_sub hl [3, 1, 0] rfl)
            · have B_70353 : bn 10 10 r_70347 := bn_w (bn_eq c_70352 (show bn 10 10 (10 : Int32) from bn_k (by decide))) (by decide)
              obtain ⟨x_70374, ex_70374⟩ : ∃ z : Int32, z = y9_1 + 1 := ⟨_, rfl⟩
              refine lv_iinc (v := x_70374) (lv' := [(1, .int x_70374), (3, .int r_70347), (0, .ref (ad 2 0)), (2, .int y9_2)]) hx hb dX5_cutTokens_42 hl (k := 2) rfl (by rw [ex_70374]; rfl) (by decide) rfl (fun ls hl => ?_)
              refine lv_goto (tgt := 86) hx hb dX5_cutTokens_45 (by decide) ?_
              obtain ⟨x_70375, ex_70375⟩ : ∃ z : Int32, z = y9_2 + 1 := ⟨_, rfl⟩
              refine lv_iinc (v := x_70375) (lv' := [(2, .int x_70375), (1, .int x_70374), (3, .int r_70347), (0, .ref (ad 2 0))]) hx hb dX5_cutTokens_86 hl (k := 3) rfl (by rw [ex_70375]; rfl) (by decide) rfl (fun ls hl => ?_)
              refine lv_goto (tgt := 9) hx hb dX5_cutTokens_89 (by decide) ?_
              exact ih9 _ (by rw [← hm9]; exact ms_up (m := 1) ex_70375 (show bn 1 1 (1 : Int32) from bn_k (by decide)) B_70299 (bn_w (bn_eq ex_70375 (bn_add B_70299 (show bn 1 1 (1 : Int32) from bn_k (by decide)) (by decide))) (by decide) : bn 0 300 x_70375) (by decide)) x_70374 x_70375 _ _  _ _ _ I (bn_w (bn_eq ex_70374 (bn_add B_70344 (show bn 1 1 (1 : Int32) from bn_k (by decide)) (by decide))) (by decide)) (bn_w (bn_eq ex_70375 (bn_add B_70299 (show bn 1 1 (1 : Int32) from bn_k (by decide)) (by decide))) (by decide)) rfl Y (lv_sub hl [3, 1, 0] rfl)
  refine lv_aload_n hx hb dX5_cutTokens_0 rfl (lv_at hl 0 rfl) ?_
  refine lv_iconst (v := 0) hx hb dX5_cutTokens_1 (by decide) ?_
  obtain ⟨v_70376, v_70378, v_70380, v_70382, v_70384, v_70386, v_70388, v_70390, v_70392, v_70394, p_ad_2_0, b_70377, b_70379, b_70381, b_70383, b_70385, b_70387, b_70389, b_70391, b_70393, b_70395⟩ := opnC_2 (j := 0) I (by decide)
  have p_ad_2_0 : pt L f (ad 2 0) (.inr (5, [.ref (ad 50 0), .ref (ad 51 0), .ref (ad 52 0), .ref (ad 53 0), .int v_70376, .int v_70378, .int v_70380, .int v_70382, .int v_70384, .int v_70386, .int v_70388, v_70390, .int v_70392, .int v_70394])) := p_ad_2_0
  refine pg_put S Y ok_X5 5 (by decide) kf5_62 rfl (fs' := [.ref (ad 50 0), .ref (ad 51 0), .ref (ad 52 0), .ref (ad 53 0), .int v_70376, .int 0, .int v_70380, .int v_70382, .int v_70384, .int v_70386, .int v_70388, v_70390, .int v_70392, .int v_70394]) (v := .int 0) p_ad_2_0 rfl rfl rfl (Nat.le_of_ble_eq_true rfl) dX5_cutTokens_2 (fun f_70396 H locs ef_70396 Y => ?_)
  have p_ad_2_0 := p_ad_2_0.me ef_70396
  have I := I.up (k := 2) (j := 0) (by decide) ef_70396 (okE_o (okFs_c okV_r (okFs_c okV_r (okFs_c okV_r (okFs_c okV_r (okFs_c (okV_i b_70377) (okFs_c (okV_i (bn_w (show bn 0 0 (0 : Int32) from bn_k (by decide)) (by decide))) (okFs_c (okV_i b_70381) (okFs_c (okV_i b_70383) (okFs_c (okV_i b_70385) (okFs_c (okV_i b_70387) (okFs_c (okV_i b_70389) (okFs_c b_70391 (okFs_c (okV_i b_70393) (okFs_c (okV_i b_70395) okFs_n)))))))))))))))
  refine lv_iconst (v := 0) hx hb dX5_cutTokens_5 (by decide) ?_
  refine lv_istore_n (lv' := [(1, .int 0), (0, .ref (ad 2 0))]) hx hb dX5_cutTokens_6 rfl hl (by decide) rfl (fun ls hl => ?_)
  refine lv_iconst (v := 0) hx hb dX5_cutTokens_7 (by decide) ?_
  refine lv_istore_n (lv' := [(2, .int 0), (1, .int 0), (0, .ref (ad 2 0))]) hx hb dX5_cutTokens_8 rfl hl (by decide) rfl (fun ls hl => ?_)
  exact J_9 _ 0 0 _ _  _ _ _ I (bn_w (show bn 0 0 (0 : Int32) from bn_k (by decide)) (by decide)) (bn_w (show bn 0 0 (0 : Int32) from bn_k (by decide)) (by decide)) rfl Y (lv_sub hl [2, 1, 0] rfl)
set_option maxHeartbeats 4000000 in
set_option maxRecDepth 100000 in
theorem x_X5_read {l : Launch} {G : GG}  {L : List Nat} {f : HF} {ad : Nat → Nat → Nat} {rs : FS} {fc : Int × Int} {tc w : Nat → Int × Int} {q : Nat → (Nat → Int32) → Prop} {aK aV : Nat → Nat} {z0 : Option Nat} {t : Nat} (I : SH (spC rs fc tc w q) nnC G ad L f) (hW : WBp w 8) (hT : WBp tc 4) (hQ : QIp q) (ht : t < 8) (h4 : t < 4) : PMiZ aK aV z0 l yX5_read cX5_read 4 .boolean 141 0 0 G [.ref (ad 2 0), .ref (ad 30 t)] L f (fun r L1 f1 => bn 0 1 r ∧ SH (spC (NR 30 0 4) fc tc w q) nnC G ad L1 f1) := by
  refine PMiZ.of (post := fun r L1 f1 => bn 0 1 r ∧ SH (spC (NR 30 0 4) fc tc w q) nnC G ad L1 f1) (own := RX5) (by decide) rfl (Nat.le_of_ble_eq_true rfl) (fun sz p e s m args below meth c A ls hA1 hname S Y hz hl => ?_)
  have hx := S.hx
  have hb := S.hb
  have hl : lv_has ls 4 [(0, .ref (ad 2 0)), (1, .ref (ad 30 t))] := hl
  have J_39 : ∀ (n39 : Nat) (y39_2 y39_3 : Int32) (L_39 : List Nat) (f_39 : HF) (H : Heap) (locs : List Loc) (ls : Array Slot), (SH (spC (RF 30 t) fc tc w q) nnC G ad L_39 f_39) → (bn 0 1 y39_2) → (bn 0 25 y39_3) → (((25 : Int) - y39_3.toInt).toNat = n39) → (DY G A s [] L_39 f_39 H locs) → (lv_has ls 4 [(0, .ref (ad 2 0)), (1, .ref (ad 30 t)), (2, .int y39_2), (3, .int y39_3)]) → W p l e (rmD 141 0 0) s m args below meth c H locs (0) (0) (MQ below (va_Qi (fun r (u : List Nat × HF) => (fun r L1 f1 => bn 0 1 r ∧ SH (spC (NR 30 0 4) fc tc w q) nnC G ad L1 f1) r u.1 u.2) (fun u t => pOut G (va_A (va_pl L f) sz) u.1 u.2 t) (va_A (va_pl L f) sz)) args s 0 0 A) (F0 m 39 ls []) := by
    intro n39
    induction n39 using Nat.strongRecOn with
    | _ n39 ih39 =>
      intro y39_2 y39_3 L_39 f_39 H locs ls I b_y39_2 b_y39_3 hm39 Y hl
      refine lv_iload_n hx hb dX5_read_39 rfl (lv_at hl 3 rfl) ?_
      refine lv_bipush (v := 24) hx hb dX5_read_40 (by decide) ?_
      refine lv_icmp_gt (tgt := 70) hx hb dX5_read_42 (by decide) (fun c_71397 => ?_) (fun c_71397 => ?_)
      · have B_71398 : bn 25 25 y39_3 := bn_w (bn_ltr c_71397 (show bn 24 24 (24 : Int32) from bn_k (by decide)) b_y39_3) (by decide)
        refine lv_aload_n hx hb dX5_read_70 rfl (lv_at hl 0 rfl) ?_
        refine lv_iconst (v := 0) hx hb dX5_read_71 (by decide) ?_
        obtain ⟨v_71400, v_71402, v_71404, v_71406, v_71408, v_71410, v_71412, v_71414, v_71416, p_ad_2_0, b_71401, b_71403, b_71405, b_71407, b_71409, b_71411, b_71413, b_71415, b_71417⟩ := opnC_2r (j := 0) I (by decide)
        have p_ad_2_0 : pt L_39 f_39 (ad 2 0) (.inr (5, [.ref (ad 50 0), .ref (ad 51 0), .ref (ad 52 0), .ref (ad 53 0), .int v_71400, .int v_71402, .int v_71404, .int v_71406, .int v_71408, .int v_71410, .int v_71412, .ref (ad 30 t), .int v_71414, .int v_71416])) := p_ad_2_0
        refine pg_put S Y ok_X5 4 (by decide) kf5_31 rfl (fs' := [.ref (ad 50 0), .ref (ad 51 0), .ref (ad 52 0), .ref (ad 53 0), .int 0, .int v_71402, .int v_71404, .int v_71406, .int v_71408, .int v_71410, .int v_71412, .ref (ad 30 t), .int v_71414, .int v_71416]) (v := .int 0) p_ad_2_0 rfl rfl rfl (Nat.le_of_ble_eq_true rfl) dX5_read_72 (fun f_71418 H locs ef_71418 Y => ?_)
        have p_ad_2_0 := p_ad_2_0.me ef_71418
        have I := I.up (k := 2) (j := 0) (by decide) ef_71418 (okE_o (okFs_c okV_r (okFs_c okV_r (okFs_c okV_r (okFs_c okV_r (okFs_c (okV_i (bn_w (show bn 0 0 (0 : Int32) from bn_k (by decide)) (by decide))) (okFs_c (okV_i b_71403) (okFs_c (okV_i b_71405) (okFs_c (okV_i b_71407) (okFs_c (okV_i b_71409) (okFs_c (okV_i b_71411) (okFs_c (okV_i b_71413) (okFs_c okV_r (okFs_c (okV_i b_71415) (okFs_c (okV_i b_71417) okFs_n)))))))))))))))
        refine lv_iload_n hx hb dX5_read_75 rfl (lv_at hl 2 rfl) ?_
        exact prI (post := fun r L1 f1 => bn 0 1 r ∧ SH (spC (NR 30 0 4) fc tc w q) nnC G ad L1 f1) S Y (nw_b (bn_w b_y39_2 (by decide))) (by decide) (by decide) hA1 ⟨bn_w b_y39_2 (by decide), (rswC I h4)⟩ dX5_read_76
      · have B_71399 : bn 0 24 y39_3 := bn_w (bn_ger c_71397 (show bn 24 24 (24 : Int32) from bn_k (by decide)) b_y39_3) (by decide)
        refine lv_iload_n hx hb dX5_read_45 rfl (lv_at hl 2 rfl) ?_
        refine lv_if_eq (tgt := 70) hx hb dX5_read_46 (by decide) (fun c_71419 => ?_) (fun c_71419 => ?_)
        · have B_71420 : bn 0 0 y39_2 := bn_w (bn_eq c_71419 (show bn 0 0 (0 : Int32) from bn_k (by decide))) (by decide)
          refine lv_aload_n hx hb dX5_read_70 rfl (lv_at hl 0 rfl) ?_
          refine lv_iconst (v := 0) hx hb dX5_read_71 (by decide) ?_
          obtain ⟨v_71422, v_71424, v_71426, v_71428, v_71430, v_71432, v_71434, v_71436, v_71438, p_ad_2_0, b_71423, b_71425, b_71427, b_71429, b_71431, b_71433, b_71435, b_71437, b_71439⟩ := opnC_2r (j := 0) I (by decide)
          have p_ad_2_0 : pt L_39 f_39 (ad 2 0) (.inr (5, [.ref (ad 50 0), .ref (ad 51 0), .ref (ad 52 0), .ref (ad 53 0), .int v_71422, .int v_71424, .int v_71426, .int v_71428, .int v_71430, .int v_71432, .int v_71434, .ref (ad 30 t), .int v_71436, .int v_71438])) := p_ad_2_0
          refine pg_put S Y ok_X5 4 (by decide) kf5_31 rfl (fs' := [.ref (ad 50 0), .ref (ad 51 0), .ref (ad 52 0), .ref (ad 53 0), .int 0, .int v_71424, .int v_71426, .int v_71428, .int v_71430, .int v_71432, .int v_71434, .ref (ad 30 t), .int v_71436, .int v_71438]) (v := .int 0) p_ad_2_0 rfl rfl rfl (Nat.le_of_ble_eq_true rfl) dX5_read_72 (fun f_71440 H locs ef_71440 Y => ?_)
          have p_ad_2_0 := p_ad_2_0.me ef_71440
          have I := I.up (k := 2) (j := 0) (by decide) ef_71440 (okE_o (okFs_c okV_r (okFs_c okV_r (okFs_c okV_r (okFs_c okV_r (okFs_c (okV_i (bn_w (show bn 0 0 (0 : Int32) from bn_k (by decide)) (by decide))) (okFs_c (okV_i b_71425) (okFs_c (okV_i b_71427) (okFs_c (okV_i b_71429) (okFs_c (okV_i b_71431) (okFs_c (okV_i b_71433) (okFs_c (okV_i b_71435) (okFs_c okV_r (okFs_c (okV_i b_71437) (okFs_c (okV_i b_71439) okFs_n)))))))))))))))
          refine lv_iload_n hx hb dX5_read_75 rfl (lv_at hl 2 rfl) ?_
          exact prI (post := fun r L1 f1 => bn 0 1 r ∧ SH (spC (NR 30 0 4) fc tc w q) nnC G ad L1 f1) S Y (nw_b (bn_w B_71420 (by decide))) (by decide) (by decide) hA1 ⟨bn_w B_71420 (by decide), (rswC I h4)⟩ dX5_read_76
        · have B_71421 : bn 1 1 y39_2 := bn_w (bn_nel c_71419 b_y39_2 (show bn 0 0 (0 : Int32) from bn_k (by decide))) (by decide)
          refine lv_aload_n hx hb dX5_read_49 rfl (lv_at hl 0 rfl) ?_
          obtain ⟨v_71441, v_71443, v_71445, v_71447, v_71449, v_71451, v_71453, v_71455, v_71457, p_ad_2_0, b_71442, b_71444, b_71446, b_71448, b_71450, b_71452, b_71454, b_71456, b_71458⟩ := opnC_2r (j := 0) I (by decide)
          have p_ad_2_0 : pt L_39 f_39 (ad 2 0) (.inr (5, [.ref (ad 50 0), .ref (ad 51 0), .ref (ad 52 0), .ref (ad 53 0), .int v_71441, .int v_71443, .int v_71445, .int v_71447, .int v_71449, .int v_71451, .int v_71453, .ref (ad 30 t), .int v_71455, .int v_71457])) := p_ad_2_0
          refine pg_get S Y ok_X5 7 (by decide) kf5_52 (v := .int v_71447) p_ad_2_0 rfl dX5_read_50 ?_
          refine lv_sipush (v := 1002) hx hb dX5_read_53 (by decide) ?_
          refine lv_icmp_eq (tgt := 70) hx hb dX5_read_56 (by decide) (fun c_71459 => ?_) (fun c_71459 => ?_)
          · have B_71460 : bn 1002 1002 v_71447 := bn_w (bn_eq c_71459 (show bn 1002 1002 (1002 : Int32) from bn_k (by decide))) (by decide)
            refine lv_aload_n hx hb dX5_read_70 rfl (lv_at hl 0 rfl) ?_
            refine lv_iconst (v := 0) hx hb dX5_read_71 (by decide) ?_
            refine pg_put S Y ok_X5 4 (by decide) kf5_31 rfl (fs' := [.ref (ad 50 0), .ref (ad 51 0), .ref (ad 52 0), .ref (ad 53 0), .int 0, .int v_71443, .int v_71445, .int v_71447, .int v_71449, .int v_71451, .int v_71453, .ref (ad 30 t), .int v_71455, .int v_71457]) (v := .int 0) p_ad_2_0 rfl rfl rfl (Nat.le_of_ble_eq_true rfl) dX5_read_72 (fun f_71461 H locs ef_71461 Y => ?_)
            have p_ad_2_0 := p_ad_2_0.me ef_71461
            have I := I.up (k := 2) (j := 0) (by decide) ef_71461 (okE_o (okFs_c okV_r (okFs_c okV_r (okFs_c okV_r (okFs_c okV_r (okFs_c (okV_i (bn_w (show bn 0 0 (0 : Int32) from bn_k (by decide)) (by decide))) (okFs_c (okV_i b_71444) (okFs_c (okV_i b_71446) (okFs_c (okV_i b_71448) (okFs_c (okV_i b_71450) (okFs_c (okV_i b_71452) (okFs_c (okV_i b_71454) (okFs_c okV_r (okFs_c (okV_i b_71456) (okFs_c (okV_i b_71458) okFs_n)))))))))))))))
            refine lv_iload_n hx hb dX5_read_75 rfl (lv_at hl 2 rfl) ?_
            exact prI (post := fun r L1 f1 => bn 0 1 r ∧ SH (spC (NR 30 0 4) fc tc w q) nnC G ad L1 f1) S Y (nw_b (bn_w B_71421 (by decide))) (by decide) (by decide) hA1 ⟨bn_w B_71421 (by decide), (rswC I h4)⟩ dX5_read_76
          · refine lv_aload_n hx hb dX5_read_59 rfl (lv_at hl 0 rfl) ?_
            refine cVi (As := []) (rest := []) S Y (x_X5_readClause (l := l) (t := t) I hW hT hQ h4) cw_X5_readClause km5_55 p_ad_2_0 ok_X5.1 rfl rfl ⟨Nat.le_of_ble_eq_true rfl, Nat.le_of_ble_eq_true rfl⟩ hl.1 rfl (Nat.le_of_ble_eq_true rfl) ⟨Nat.le_of_ble_eq_true rfl, Nat.le_of_ble_eq_true rfl⟩ dX5_read_60 (fun r_71464 L_71462 f_71463 H locs hr_71464 Y => ?_)
            obtain ⟨er_71464, I⟩ := hr_71464
            refine lv_istore_n (lv' := [(2, .int r_71464), (0, .ref (ad 2 0)), (1, .ref (ad 30 t)), (3, .int y39_3)]) hx hb dX5_read_63 rfl hl (by decide) rfl (fun ls hl => ?_)
            obtain ⟨x_71465, ex_71465⟩ : ∃ z : Int32, z = y39_3 + 1 := ⟨_, rfl⟩
            refine lv_iinc (v := x_71465) (lv' := [(3, .int x_71465), (2, .int r_71464), (0, .ref (ad 2 0)), (1, .ref (ad 30 t))]) hx hb dX5_read_64 hl (k := 3) rfl (by rw [ex_71465]; rfl) (by decide) rfl (fun ls hl => ?_)
            refine lv_goto (tgt := 39) hx hb dX5_read_67 (by decide) ?_
            exact ih39 _ (by rw [← hm39]; exact ms_up (m := 1) ex_71465 (show bn 1 1 (1 : Int32) from bn_k (by decide)) B_71399 (bn_w (bn_eq ex_71465 (bn_add B_71399 (show bn 1 1 (1 : Int32) from bn_k (by decide)) (by decide))) (by decide) : bn 0 25 x_71465) (by decide)) r_71464 x_71465 _ _  _ _ _ I (bn_w er_71464 (by decide)) (bn_w (bn_eq ex_71465 (bn_add B_71399 (show bn 1 1 (1 : Int32) from bn_k (by decide)) (by decide))) (by decide)) rfl Y (lv_sub hl [2, 3, 1, 0] rfl)
  refine lv_aload_n hx hb dX5_read_0 rfl (lv_at hl 0 rfl) ?_
  refine lv_aload_n hx hb dX5_read_1 rfl (lv_at hl 1 rfl) ?_
  obtain ⟨v_71466, v_71468, v_71470, v_71472, v_71474, v_71476, v_71478, v_71480, v_71482, v_71484, p_ad_2_0, b_71467, b_71469, b_71471, b_71473, b_71475, b_71477, b_71479, b_71481, b_71483, b_71485⟩ := opnC_2 (j := 0) I (by decide)
  have p_ad_2_0 : pt L f (ad 2 0) (.inr (5, [.ref (ad 50 0), .ref (ad 51 0), .ref (ad 52 0), .ref (ad 53 0), .int v_71466, .int v_71468, .int v_71470, .int v_71472, .int v_71474, .int v_71476, .int v_71478, v_71480, .int v_71482, .int v_71484])) := p_ad_2_0
  refine pg_put S Y ok_X5 11 (by decide) kf5_34 rfl (fs' := [.ref (ad 50 0), .ref (ad 51 0), .ref (ad 52 0), .ref (ad 53 0), .int v_71466, .int v_71468, .int v_71470, .int v_71472, .int v_71474, .int v_71476, .int v_71478, .ref (ad 30 t), .int v_71482, .int v_71484]) (v := .ref (ad 30 t)) p_ad_2_0 rfl rfl rfl (Nat.le_of_ble_eq_true rfl) dX5_read_2 (fun f_71486 H locs ef_71486 Y => ?_)
  have p_ad_2_0 := p_ad_2_0.me ef_71486
  have I := I.upS (sp' := spC (RF 30 t) fc tc w q) (k := 2) (j := 0) (by decide) ef_71486 (okE_o (okFs_c okV_r (okFs_c okV_r (okFs_c okV_r (okFs_c okV_r (okFs_c (okV_i b_71467) (okFs_c (okV_i b_71469) (okFs_c (okV_i b_71471) (okFs_c (okV_i b_71473) (okFs_c (okV_i b_71475) (okFs_c (okV_i b_71477) (okFs_c (okV_i b_71479) (okFs_c okV_r (okFs_c (okV_i b_71483) (okFs_c (okV_i b_71485) okFs_n))))))))))))))) rsC
  refine lv_aload_n hx hb dX5_read_5 rfl (lv_at hl 0 rfl) ?_
  refine pg_get S Y ok_X5 11 (by decide) kf5_34 (v := .ref (ad 30 t)) p_ad_2_0 rfl dX5_read_6 ?_
  refine cVv (As := []) (rest := []) S Y (x_X7_clear (l := l) (j := t) I hW hT hQ ht) cw_X7_clear km5_38 (I.opo (k := 30) (j := t) ht rfl).choose_spec.1 ok_X7.1 rfl rfl ⟨Nat.le_of_ble_eq_true rfl, Nat.le_of_ble_eq_true rfl⟩ hl.1 rfl (Nat.le_of_ble_eq_true rfl) ⟨Nat.le_of_ble_eq_true rfl, Nat.le_of_ble_eq_true rfl⟩ dX5_read_9 (fun L_71487 f_71488 H locs I Y => ?_)
  refine lv_aload_n hx hb dX5_read_12 rfl (lv_at hl 0 rfl) ?_
  refine lv_iconst (v := 0) hx hb dX5_read_13 (by decide) ?_
  obtain ⟨v_71489, v_71491, v_71493, v_71495, v_71497, v_71499, v_71501, v_71503, v_71505, p_ad_2_0, b_71490, b_71492, b_71494, b_71496, b_71498, b_71500, b_71502, b_71504, b_71506⟩ := opnC_2r (j := 0) I (by decide)
  have p_ad_2_0 : pt L_71487 f_71488 (ad 2 0) (.inr (5, [.ref (ad 50 0), .ref (ad 51 0), .ref (ad 52 0), .ref (ad 53 0), .int v_71489, .int v_71491, .int v_71493, .int v_71495, .int v_71497, .int v_71499, .int v_71501, .ref (ad 30 t), .int v_71503, .int v_71505])) := p_ad_2_0
  refine pg_put S Y ok_X5 12 (by decide) kf5_24 rfl (fs' := [.ref (ad 50 0), .ref (ad 51 0), .ref (ad 52 0), .ref (ad 53 0), .int v_71489, .int v_71491, .int v_71493, .int v_71495, .int v_71497, .int v_71499, .int v_71501, .ref (ad 30 t), .int 0, .int v_71505]) (v := .int 0) p_ad_2_0 rfl rfl rfl (Nat.le_of_ble_eq_true rfl) dX5_read_14 (fun f_71507 H locs ef_71507 Y => ?_)
  have p_ad_2_0 := p_ad_2_0.me ef_71507
  have I := I.up (k := 2) (j := 0) (by decide) ef_71507 (okE_o (okFs_c okV_r (okFs_c okV_r (okFs_c okV_r (okFs_c okV_r (okFs_c (okV_i b_71490) (okFs_c (okV_i b_71492) (okFs_c (okV_i b_71494) (okFs_c (okV_i b_71496) (okFs_c (okV_i b_71498) (okFs_c (okV_i b_71500) (okFs_c (okV_i b_71502) (okFs_c okV_r (okFs_c (okV_i (bn_w (show bn 0 0 (0 : Int32) from bn_k (by decide)) (by decide))) (okFs_c (okV_i b_71506) okFs_n)))))))))))))))
  refine lv_aload_n hx hb dX5_read_17 rfl (lv_at hl 0 rfl) ?_
  refine lv_iconst (v := (-1)) hx hb dX5_read_18 (by decide) ?_
  refine pg_put S Y ok_X5 13 (by decide) kf5_28 rfl (fs' := [.ref (ad 50 0), .ref (ad 51 0), .ref (ad 52 0), .ref (ad 53 0), .int v_71489, .int v_71491, .int v_71493, .int v_71495, .int v_71497, .int v_71499, .int v_71501, .ref (ad 30 t), .int 0, .int (-1)]) (v := .int (-1)) p_ad_2_0 rfl rfl rfl (Nat.le_of_ble_eq_true rfl) dX5_read_19 (fun f_71508 H locs ef_71508 Y => ?_)
  have p_ad_2_0 := p_ad_2_0.me ef_71508
  have I := I.up (k := 2) (j := 0) (by decide) ef_71508 (okE_o (okFs_c okV_r (okFs_c okV_r (okFs_c okV_r (okFs_c okV_r (okFs_c (okV_i b_71490) (okFs_c (okV_i b_71492) (okFs_c (okV_i b_71494) (okFs_c (okV_i b_71496) (okFs_c (okV_i b_71498) (okFs_c (okV_i b_71500) (okFs_c (okV_i b_71502) (okFs_c okV_r (okFs_c (okV_i (bn_w (show bn 0 0 (0 : Int32) from bn_k (by decide)) (by decide))) (okFs_c (okV_i (bn_w (show bn (-1) (-1) ((-1) : Int32) from bn_k (by decide)) (by decide))) okFs_n)))))))))))))))
  refine lv_aload_n hx hb dX5_read_22 rfl (lv_at hl 0 rfl) ?_
  refine zVv (As := []) (rest := []) S Y hz (x_X5_cutTokens (l := l) I hW hT hQ) cw_X5_cutTokens km5_43 (recvO S Y (I.opo (k := 2) (j := 0) (by decide) rfl).choose_spec.1 ok_X5.1 rfl) rfl ⟨Nat.le_of_ble_eq_true rfl, Nat.le_of_ble_eq_true rfl⟩ hl.1 rfl (Nat.le_of_ble_eq_true rfl) ⟨Nat.le_of_ble_eq_true rfl, Nat.le_of_ble_eq_true rfl⟩ dX5_read_23 (fun L_71509 f_71510 H locs I Y => ?_)
  refine lv_aload_n hx hb dX5_read_26 rfl (lv_at hl 0 rfl) ?_
  refine lv_iconst (v := 0) hx hb dX5_read_27 (by decide) ?_
  obtain ⟨v_71511, v_71513, v_71515, v_71517, v_71519, v_71521, v_71523, v_71525, v_71527, p_ad_2_0, b_71512, b_71514, b_71516, b_71518, b_71520, b_71522, b_71524, b_71526, b_71528⟩ := opnC_2r (j := 0) I (by decide)
  have p_ad_2_0 : pt L_71509 f_71510 (ad 2 0) (.inr (5, [.ref (ad 50 0), .ref (ad 51 0), .ref (ad 52 0), .ref (ad 53 0), .int v_71511, .int v_71513, .int v_71515, .int v_71517, .int v_71519, .int v_71521, .int v_71523, .ref (ad 30 t), .int v_71525, .int v_71527])) := p_ad_2_0
  refine pg_put S Y ok_X5 6 (by decide) kf5_46 rfl (fs' := [.ref (ad 50 0), .ref (ad 51 0), .ref (ad 52 0), .ref (ad 53 0), .int v_71511, .int v_71513, .int 0, .int v_71517, .int v_71519, .int v_71521, .int v_71523, .ref (ad 30 t), .int v_71525, .int v_71527]) (v := .int 0) p_ad_2_0 rfl rfl rfl (Nat.le_of_ble_eq_true rfl) dX5_read_28 (fun f_71529 H locs ef_71529 Y => ?_)
  have p_ad_2_0 := p_ad_2_0.me ef_71529
  have I := I.up (k := 2) (j := 0) (by decide) ef_71529 (okE_o (okFs_c okV_r (okFs_c okV_r (okFs_c okV_r (okFs_c okV_r (okFs_c (okV_i b_71512) (okFs_c (okV_i b_71514) (okFs_c (okV_i (bn_w (show bn 0 0 (0 : Int32) from bn_k (by decide)) (by decide))) (okFs_c (okV_i b_71518) (okFs_c (okV_i b_71520) (okFs_c (okV_i b_71522) (okFs_c (okV_i b_71524) (okFs_c okV_r (okFs_c (okV_i b_71526) (okFs_c (okV_i b_71528) okFs_n)))))))))))))))
  refine lv_aload_n hx hb dX5_read_31 rfl (lv_at hl 0 rfl) ?_
  refine cVv (As := []) (rest := []) S Y (x_X5_step (l := l) I hW hT hQ) cw_X5_step km5_49 p_ad_2_0 ok_X5.1 rfl rfl ⟨Nat.le_of_ble_eq_true rfl, Nat.le_of_ble_eq_true rfl⟩ hl.1 rfl (Nat.le_of_ble_eq_true rfl) ⟨Nat.le_of_ble_eq_true rfl, Nat.le_of_ble_eq_true rfl⟩ dX5_read_32 (fun L_71530 f_71531 H locs I Y => ?_)
  refine lv_iconst (v := 1) hx hb dX5_read_35 (by decide) ?_
  refine lv_istore_n (lv' := [(2, .int 1), (0, .ref (ad 2 0)), (1, .ref (ad 30 t))]) hx hb dX5_read_36 rfl hl (by decide) rfl (fun ls hl => ?_)
  refine lv_iconst (v := 0) hx hb dX5_read_37 (by decide) ?_
  refine lv_istore_n (lv' := [(3, .int 0), (2, .int 1), (0, .ref (ad 2 0)), (1, .ref (ad 30 t))]) hx hb dX5_read_38 rfl hl (by decide) rfl (fun ls hl => ?_)
  exact J_39 _ 1 0 _ _  _ _ _ I (bn_w (show bn 1 1 (1 : Int32) from bn_k (by decide)) (by decide)) (bn_w (show bn 0 0 (0 : Int32) from bn_k (by decide)) (by decide)) rfl Y (lv_sub hl [2, 3, 1, 0] rfl)
