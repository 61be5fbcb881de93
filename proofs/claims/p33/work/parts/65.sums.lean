theorem dX5_readOne_0 : decode cX5_readOne 0 = .ok (.aload_n 0, 1) := by decide +kernel
theorem dX5_readOne_1 : decode cX5_readOne 1 = .ok (.getfield 52, 3) := by decide +kernel
theorem dX5_readOne_4 : decode cX5_readOne 4 = .ok (.istore_n 2, 1) := by decide +kernel
theorem dX5_readOne_5 : decode cX5_readOne 5 = .ok (.iload_n 2, 1) := by decide +kernel
theorem dX5_readOne_6 : decode cX5_readOne 6 = .ok (.sipush 1000, 3) := by decide +kernel
theorem dX5_readOne_9 : decode cX5_readOne 9 = .ok (.if_icmp .ne 8, 3) := by decide +kernel
theorem dX5_readOne_17 : decode cX5_readOne 17 = .ok (.iload_n 2, 1) := by decide +kernel
theorem dX5_readOne_18 : decode cX5_readOne 18 = .ok (.bipush 9, 2) := by decide +kernel
theorem dX5_readOne_20 : decode cX5_readOne 20 = .ok (.if_icmp .lt 14, 3) := by decide +kernel
theorem dX5_readOne_23 : decode cX5_readOne 23 = .ok (.iload_n 2, 1) := by decide +kernel
theorem dX5_readOne_24 : decode cX5_readOne 24 = .ok (.bipush 18, 2) := by decide +kernel
theorem dX5_readOne_26 : decode cX5_readOne 26 = .ok (.if_icmp .gt 8, 3) := by decide +kernel
theorem dX5_readOne_29 : decode cX5_readOne 29 = .ok (.aload_n 0, 1) := by decide +kernel
theorem dX5_readOne_30 : decode cX5_readOne 30 = .ok (.invokevirtual 178, 3) := by decide +kernel
theorem cw_X5_readName : CWv yX5_readName cX5_readName 1 (some .boolean) 0 := ⟨⟨⟨List.mem_of_getElem? (i := 130) (by decide +kernel), by decide +kernel⟩, ⟨List.mem_of_getElem? (i := 785) (by decide +kernel), by decide +kernel⟩, by decide +kernel⟩, ⟨List.mem_of_getElem? (i := 784) (by decide +kernel), by decide +kernel⟩, ⟨List.mem_of_getElem? (i := 16) (by decide +kernel), by decide +kernel⟩⟩
theorem km5_178 : inW (Cond.methodLink RX5 178 yX5_readName) := ⟨List.mem_of_getElem? (i := 782) (by decide +kernel), by decide +kernel⟩
theorem dX5_readOne_33 : decode cX5_readOne 33 = .ok (.ireturn, 1) := by decide +kernel
theorem dX5_readOne_12 : decode cX5_readOne 12 = .ok (.aload_n 0, 1) := by decide +kernel
theorem dX5_readOne_13 : decode cX5_readOne 13 = .ok (.invokevirtual 175, 3) := by decide +kernel
theorem cw_X5_readPlainNumber : CWv yX5_readPlainNumber cX5_readPlainNumber 1 (some .boolean) 0 := ⟨⟨⟨List.mem_of_getElem? (i := 130) (by decide +kernel), by decide +kernel⟩, ⟨List.mem_of_getElem? (i := 777) (by decide +kernel), by decide +kernel⟩, by decide +kernel⟩, ⟨List.mem_of_getElem? (i := 776) (by decide +kernel), by decide +kernel⟩, ⟨List.mem_of_getElem? (i := 15) (by decide +kernel), by decide +kernel⟩⟩
theorem km5_175 : inW (Cond.methodLink RX5 175 yX5_readPlainNumber) := ⟨List.mem_of_getElem? (i := 774) (by decide +kernel), by decide +kernel⟩
theorem dX5_readOne_16 : decode cX5_readOne 16 = .ok (.ireturn, 1) := by decide +kernel
theorem dX5_readOne_34 : decode cX5_readOne 34 = .ok (.iload_n 2, 1) := by decide +kernel
theorem dX5_readOne_35 : decode cX5_readOne 35 = .ok (.bipush 40, 2) := by decide +kernel
theorem dX5_readOne_37 : decode cX5_readOne 37 = .ok (.if_icmp .eq 27, 3) := by decide +kernel
theorem dX5_readOne_40 : decode cX5_readOne 40 = .ok (.iload_n 2, 1) := by decide +kernel
theorem dX5_readOne_41 : decode cX5_readOne 41 = .ok (.bipush 45, 2) := by decide +kernel
theorem dX5_readOne_43 : decode cX5_readOne 43 = .ok (.if_icmp .eq 21, 3) := by decide +kernel
theorem dX5_readOne_46 : decode cX5_readOne 46 = .ok (.iload_n 2, 1) := by decide +kernel
theorem dX5_readOne_47 : decode cX5_readOne 47 = .ok (.bipush 22, 2) := by decide +kernel
theorem dX5_readOne_49 : decode cX5_readOne 49 = .ok (.if_icmp .eq 15, 3) := by decide +kernel
theorem dX5_readOne_52 : decode cX5_readOne 52 = .ok (.iload_n 2, 1) := by decide +kernel
theorem dX5_readOne_53 : decode cX5_readOne 53 = .ok (.bipush 23, 2) := by decide +kernel
theorem dX5_readOne_55 : decode cX5_readOne 55 = .ok (.if_icmp .eq 9, 3) := by decide +kernel
theorem dX5_readOne_58 : decode cX5_readOne 58 = .ok (.aload_n 0, 1) := by decide +kernel
theorem dX5_readOne_59 : decode cX5_readOne 59 = .ok (.iconst 1, 1) := by decide +kernel
theorem dX5_readOne_60 : decode cX5_readOne 60 = .ok (.invokevirtual 121, 3) := by decide +kernel
theorem dX5_readOne_63 : decode cX5_readOne 63 = .ok (.ireturn, 1) := by decide +kernel
theorem dX5_readOne_64 : decode cX5_readOne 64 = .ok (.iload_n 1, 1) := by decide +kernel
theorem dX5_readOne_65 : decode cX5_readOne 65 = .ok (.bipush 8, 2) := by decide +kernel
theorem dX5_readOne_67 : decode cX5_readOne 67 = .ok (.if_icmp .lt 9, 3) := by decide +kernel
theorem dX5_readOne_70 : decode cX5_readOne 70 = .ok (.aload_n 0, 1) := by decide +kernel
theorem dX5_readOne_71 : decode cX5_readOne 71 = .ok (.iconst 3, 1) := by decide +kernel
theorem dX5_readOne_72 : decode cX5_readOne 72 = .ok (.invokevirtual 121, 3) := by decide +kernel
theorem dX5_readOne_75 : decode cX5_readOne 75 = .ok (.ireturn, 1) := by decide +kernel
theorem dX5_readProduct_0 : decode cX5_readProduct 0 = .ok (.aload_n 0, 1) := by decide +kernel
theorem dX5_readProduct_1 : decode cX5_readProduct 1 = .ok (.iload_n 1, 1) := by decide +kernel
theorem dX5_readProduct_2 : decode cX5_readProduct 2 = .ok (.invokevirtual 172, 3) := by decide +kernel
theorem cw_X5_readOne : CWv yX5_readOne cX5_readOne 3 (some .boolean) 1 := ⟨⟨⟨List.mem_of_getElem? (i := 130) (by decide +kernel), by decide +kernel⟩, ⟨List.mem_of_getElem? (i := 773) (by decide +kernel), by decide +kernel⟩, by decide +kernel⟩, ⟨List.mem_of_getElem? (i := 772) (by decide +kernel), by decide +kernel⟩, ⟨List.mem_of_getElem? (i := 14) (by decide +kernel), by decide +kernel⟩⟩
theorem km5_172 : inW (Cond.methodLink RX5 172 yX5_readOne) := ⟨List.mem_of_getElem? (i := 770) (by decide +kernel), by decide +kernel⟩
theorem dX5_readProduct_5 : decode cX5_readProduct 5 = .ok (.ifCond .ne 5, 3) := by decide +kernel
theorem dX5_readProduct_10 : decode cX5_readProduct 10 = .ok (.iconst 0, 1) := by decide +kernel
theorem dX5_readProduct_11 : decode cX5_readProduct 11 = .ok (.istore_n 2, 1) := by decide +kernel
theorem dX5_readProduct_8 : decode cX5_readProduct 8 = .ok (.iconst 0, 1) := by decide +kernel
theorem dX5_readProduct_9 : decode cX5_readProduct 9 = .ok (.ireturn, 1) := by decide +kernel
theorem dX5_readProduct_12 : decode cX5_readProduct 12 = .ok (.iload_n 2, 1) := by decide +kernel
theorem dX5_readProduct_13 : decode cX5_readProduct 13 = .ok (.sipush 300, 3) := by decide +kernel
theorem dX5_readProduct_16 : decode cX5_readProduct 16 = .ok (.if_icmp .ge 68, 3) := by decide +kernel
theorem dX5_readProduct_19 : decode cX5_readProduct 19 = .ok (.aload_n 0, 1) := by decide +kernel
theorem dX5_readProduct_20 : decode cX5_readProduct 20 = .ok (.getfield 52, 3) := by decide +kernel
theorem dX5_readProduct_23 : decode cX5_readProduct 23 = .ok (.bipush 42, 2) := by decide +kernel
theorem dX5_readProduct_25 : decode cX5_readProduct 25 = .ok (.if_icmp .eq 12, 3) := by decide +kernel
theorem dX5_readProduct_37 : decode cX5_readProduct 37 = .ok (.aload_n 0, 1) := by decide +kernel
theorem dX5_readProduct_38 : decode cX5_readProduct 38 = .ok (.getfield 52, 3) := by decide +kernel
theorem dX5_readProduct_41 : decode cX5_readProduct 41 = .ok (.bipush 42, 2) := by decide +kernel
theorem dX5_readProduct_43 : decode cX5_readProduct 43 = .ok (.if_icmp .ne 8, 3) := by decide +kernel
theorem dX5_readProduct_46 : decode cX5_readProduct 46 = .ok (.bipush 10, 2) := by decide +kernel
theorem dX5_readProduct_48 : decode cX5_readProduct 48 = .ok (.goto 5, 3) := by decide +kernel
theorem dX5_readProduct_53 : decode cX5_readProduct 53 = .ok (.istore_n 3, 1) := by decide +kernel
theorem dX5_readProduct_54 : decode cX5_readProduct 54 = .ok (.aload_n 0, 1) := by decide +kernel
theorem dX5_readProduct_55 : decode cX5_readProduct 55 = .ok (.invokevirtual 49, 3) := by decide +kernel
theorem dX5_readProduct_58 : decode cX5_readProduct 58 = .ok (.aload_n 0, 1) := by decide +kernel
theorem dX5_readProduct_59 : decode cX5_readProduct 59 = .ok (.iload_n 1, 1) := by decide +kernel
theorem dX5_readProduct_60 : decode cX5_readProduct 60 = .ok (.invokevirtual 172, 3) := by decide +kernel
theorem dX5_readProduct_63 : decode cX5_readProduct 63 = .ok (.ifCond .ne 5, 3) := by decide +kernel
theorem dX5_readProduct_68 : decode cX5_readProduct 68 = .ok (.aload_n 0, 1) := by decide +kernel
theorem dX5_readProduct_69 : decode cX5_readProduct 69 = .ok (.getfield 34, 3) := by decide +kernel
theorem dX5_readProduct_72 : decode cX5_readProduct 72 = .ok (.iload_n 3, 1) := by decide +kernel
theorem dX5_readProduct_73 : decode cX5_readProduct 73 = .ok (.iconst 0, 1) := by decide +kernel
theorem dX5_readProduct_74 : decode cX5_readProduct 74 = .ok (.invokevirtual 169, 3) := by decide +kernel
theorem dX5_readProduct_77 : decode cX5_readProduct 77 = .ok (.pop, 1) := by decide +kernel
theorem dX5_readProduct_78 : decode cX5_readProduct 78 = .ok (.iinc 2 1, 3) := by decide +kernel
theorem dX5_readProduct_81 : decode cX5_readProduct 81 = .ok (.goto (-69), 3) := by decide +kernel
theorem dX5_readProduct_66 : decode cX5_readProduct 66 = .ok (.iconst 0, 1) := by decide +kernel
theorem dX5_readProduct_67 : decode cX5_readProduct 67 = .ok (.ireturn, 1) := by decide +kernel
theorem dX5_readProduct_28 : decode cX5_readProduct 28 = .ok (.aload_n 0, 1) := by decide +kernel
theorem dX5_readProduct_29 : decode cX5_readProduct 29 = .ok (.getfield 52, 3) := by decide +kernel
theorem dX5_readProduct_32 : decode cX5_readProduct 32 = .ok (.bipush 47, 2) := by decide +kernel
theorem dX5_readProduct_34 : decode cX5_readProduct 34 = .ok (.if_icmp .ne 50, 3) := by decide +kernel
theorem dX5_readProduct_84 : decode cX5_readProduct 84 = .ok (.iconst 1, 1) := by decide +kernel
theorem dX5_readProduct_85 : decode cX5_readProduct 85 = .ok (.ireturn, 1) := by decide +kernel
theorem dX5_readProduct_51 : decode cX5_readProduct 51 = .ok (.bipush 11, 2) := by decide +kernel
theorem dX5_readSum_0 : decode cX5_readSum 0 = .ok (.aload_n 0, 1) := by decide +kernel
theorem dX5_readSum_1 : decode cX5_readSum 1 = .ok (.iload_n 1, 1) := by decide +kernel
theorem dX5_readSum_2 : decode cX5_readSum 2 = .ok (.invokevirtual 166, 3) := by decide +kernel
theorem cw_X5_readProduct : CWv yX5_readProduct cX5_readProduct 4 (some .boolean) 1 := ⟨⟨⟨List.mem_of_getElem? (i := 130) (by decide +kernel), by decide +kernel⟩, ⟨List.mem_of_getElem? (i := 769) (by decide +kernel), by decide +kernel⟩, by decide +kernel⟩, ⟨List.mem_of_getElem? (i := 768) (by decide +kernel), by decide +kernel⟩, ⟨List.mem_of_getElem? (i := 13) (by decide +kernel), by decide +kernel⟩⟩
theorem km5_166 : inW (Cond.methodLink RX5 166 yX5_readProduct) := ⟨List.mem_of_getElem? (i := 766) (by decide +kernel), by decide +kernel⟩
theorem dX5_readSum_5 : decode cX5_readSum 5 = .ok (.ifCond .ne 5, 3) := by decide +kernel
theorem dX5_readSum_10 : decode cX5_readSum 10 = .ok (.iconst 0, 1) := by decide +kernel
theorem dX5_readSum_11 : decode cX5_readSum 11 = .ok (.istore_n 2, 1) := by decide +kernel
theorem dX5_readSum_8 : decode cX5_readSum 8 = .ok (.iconst 0, 1) := by decide +kernel
theorem dX5_readSum_9 : decode cX5_readSum 9 = .ok (.ireturn, 1) := by decide +kernel
theorem dX5_readSum_12 : decode cX5_readSum 12 = .ok (.iload_n 2, 1) := by decide +kernel
theorem dX5_readSum_13 : decode cX5_readSum 13 = .ok (.sipush 300, 3) := by decide +kernel
theorem dX5_readSum_16 : decode cX5_readSum 16 = .ok (.if_icmp .ge 68, 3) := by decide +kernel
theorem dX5_readSum_19 : decode cX5_readSum 19 = .ok (.aload_n 0, 1) := by decide +kernel
theorem dX5_readSum_20 : decode cX5_readSum 20 = .ok (.getfield 52, 3) := by decide +kernel
theorem dX5_readSum_23 : decode cX5_readSum 23 = .ok (.bipush 43, 2) := by decide +kernel
theorem dX5_readSum_25 : decode cX5_readSum 25 = .ok (.if_icmp .eq 12, 3) := by decide +kernel
theorem dX5_readSum_37 : decode cX5_readSum 37 = .ok (.aload_n 0, 1) := by decide +kernel
theorem dX5_readSum_38 : decode cX5_readSum 38 = .ok (.getfield 52, 3) := by decide +kernel
theorem dX5_readSum_41 : decode cX5_readSum 41 = .ok (.bipush 43, 2) := by decide +kernel
theorem dX5_readSum_43 : decode cX5_readSum 43 = .ok (.if_icmp .ne 8, 3) := by decide +kernel
theorem dX5_readSum_46 : decode cX5_readSum 46 = .ok (.bipush 8, 2) := by decide +kernel
theorem dX5_readSum_48 : decode cX5_readSum 48 = .ok (.goto 5, 3) := by decide +kernel
theorem dX5_readSum_53 : decode cX5_readSum 53 = .ok (.istore_n 3, 1) := by decide +kernel
theorem dX5_readSum_54 : decode cX5_readSum 54 = .ok (.aload_n 0, 1) := by decide +kernel
theorem dX5_readSum_55 : decode cX5_readSum 55 = .ok (.invokevirtual 49, 3) := by decide +kernel
theorem dX5_readSum_58 : decode cX5_readSum 58 = .ok (.aload_n 0, 1) := by decide +kernel
theorem dX5_readSum_59 : decode cX5_readSum 59 = .ok (.iload_n 1, 1) := by decide +kernel
theorem dX5_readSum_60 : decode cX5_readSum 60 = .ok (.invokevirtual 166, 3) := by decide +kernel
theorem dX5_readSum_63 : decode cX5_readSum 63 = .ok (.ifCond .ne 5, 3) := by decide +kernel
theorem dX5_readSum_68 : decode cX5_readSum 68 = .ok (.aload_n 0, 1) := by decide +kernel
theorem dX5_readSum_69 : decode cX5_readSum 69 = .ok (.getfield 34, 3) := by decide +kernel
theorem dX5_readSum_72 : decode cX5_readSum 72 = .ok (.iload_n 3, 1) := by decide +kernel
theorem dX5_readSum_73 : decode cX5_readSum 73 = .ok (.iconst 0, 1) := by decide +kernel
theorem dX5_readSum_74 : decode cX5_readSum 74 = .ok (.invokevirtual 169, 3) := by decide +kernel
theorem dX5_readSum_77 : decode cX5_readSum 77 = .ok (.pop, 1) := by decide +kernel
theorem dX5_readSum_78 : decode cX5_readSum 78 = .ok (.iinc 2 1, 3) := by decide +kernel
theorem dX5_readSum_81 : decode cX5_readSum 81 = .ok (.goto (-69), 3) := by decide +kernel
theorem dX5_readSum_66 : decode cX5_readSum 66 = .ok (.iconst 0, 1) := by decide +kernel
theorem dX5_readSum_67 : decode cX5_readSum 67 = .ok (.ireturn, 1) := by decide +kernel
theorem dX5_readSum_28 : decode cX5_readSum 28 = .ok (.aload_n 0, 1) := by decide +kernel
theorem dX5_readSum_29 : decode cX5_readSum 29 = .ok (.getfield 52, 3) := by decide +kernel
theorem dX5_readSum_32 : decode cX5_readSum 32 = .ok (.bipush 45, 2) := by decide +kernel
theorem dX5_readSum_34 : decode cX5_readSum 34 = .ok (.if_icmp .ne 50, 3) := by decide +kernel
theorem dX5_readSum_84 : decode cX5_readSum 84 = .ok (.iconst 1, 1) := by decide +kernel
theorem dX5_readSum_85 : decode cX5_readSum 85 = .ok (.ireturn, 1) := by decide +kernel
theorem dX5_readSum_51 : decode cX5_readSum 51 = .ok (.bipush 9, 2) := by decide +kernel
theorem dX5_readComparison_0 : decode cX5_readComparison 0 = .ok (.aload_n 0, 1) := by decide +kernel
theorem dX5_readComparison_1 : decode cX5_readComparison 1 = .ok (.iload_n 1, 1) := by decide +kernel
theorem dX5_readComparison_2 : decode cX5_readComparison 2 = .ok (.invokevirtual 147, 3) := by decide +kernel
theorem cw_X5_readSum : CWv yX5_readSum cX5_readSum 4 (some .boolean) 1 := ⟨⟨⟨List.mem_of_getElem? (i := 130) (by decide +kernel), by decide +kernel⟩, ⟨List.mem_of_getElem? (i := 765) (by decide +kernel), by decide +kernel⟩, by decide +kernel⟩, ⟨List.mem_of_getElem? (i := 764) (by decide +kernel), by decide +kernel⟩, ⟨List.mem_of_getElem? (i := 12) (by decide +kernel), by decide +kernel⟩⟩
theorem km5_147 : inW (Cond.methodLink RX5 147 yX5_readSum) := ⟨List.mem_of_getElem? (i := 762) (by decide +kernel), by decide +kernel⟩
theorem dX5_readComparison_5 : decode cX5_readComparison 5 = .ok (.ifCond .ne 5, 3) := by decide +kernel
theorem dX5_readComparison_10 : decode cX5_readComparison 10 = .ok (.aload_n 0, 1) := by decide +kernel
theorem dX5_readComparison_11 : decode cX5_readComparison 11 = .ok (.getfield 52, 3) := by decide +kernel
theorem dX5_readComparison_14 : decode cX5_readComparison 14 = .ok (.invokestatic 202, 3) := by decide +kernel
theorem cw_X5_comparing : CWs yX5_comparing cX5_comparing 1 (some .int) 1 := ⟨⟨⟨List.mem_of_getElem? (i := 130) (by decide +kernel), by decide +kernel⟩, ⟨List.mem_of_getElem? (i := 812) (by decide +kernel), by decide +kernel⟩, by decide +kernel⟩, ⟨List.mem_of_getElem? (i := 811) (by decide +kernel), by decide +kernel⟩⟩
theorem km5_202 : inW (Cond.methodLink RX5 202 yX5_comparing) := ⟨List.mem_of_getElem? (i := 810) (by decide +kernel), by decide +kernel⟩
theorem dX5_readComparison_17 : decode cX5_readComparison 17 = .ok (.istore_n 2, 1) := by decide +kernel
theorem dX5_readComparison_18 : decode cX5_readComparison 18 = .ok (.iload_n 2, 1) := by decide +kernel
theorem dX5_readComparison_19 : decode cX5_readComparison 19 = .ok (.iconst (-1), 1) := by decide +kernel
theorem dX5_readComparison_20 : decode cX5_readComparison 20 = .ok (.if_icmp .ne 9, 3) := by decide +kernel
theorem dX5_readComparison_29 : decode cX5_readComparison 29 = .ok (.aload_n 0, 1) := by decide +kernel
theorem dX5_readComparison_30 : decode cX5_readComparison 30 = .ok (.invokevirtual 49, 3) := by decide +kernel
theorem dX5_readComparison_33 : decode cX5_readComparison 33 = .ok (.aload_n 0, 1) := by decide +kernel
theorem dX5_readComparison_34 : decode cX5_readComparison 34 = .ok (.iload_n 1, 1) := by decide +kernel
theorem dX5_readComparison_35 : decode cX5_readComparison 35 = .ok (.invokevirtual 147, 3) := by decide +kernel
theorem dX5_readComparison_38 : decode cX5_readComparison 38 = .ok (.ifCond .ne 5, 3) := by decide +kernel
theorem dX5_readComparison_43 : decode cX5_readComparison 43 = .ok (.aload_n 0, 1) := by decide +kernel
theorem dX5_readComparison_44 : decode cX5_readComparison 44 = .ok (.getfield 34, 3) := by decide +kernel
theorem dX5_readComparison_47 : decode cX5_readComparison 47 = .ok (.iload_n 2, 1) := by decide +kernel
theorem dX5_readComparison_48 : decode cX5_readComparison 48 = .ok (.iconst 0, 1) := by decide +kernel
theorem dX5_readComparison_49 : decode cX5_readComparison 49 = .ok (.invokevirtual 169, 3) := by decide +kernel
theorem dX5_readComparison_52 : decode cX5_readComparison 52 = .ok (.pop, 1) := by decide +kernel
theorem dX5_readComparison_53 : decode cX5_readComparison 53 = .ok (.iconst 1, 1) := by decide +kernel
theorem dX5_readComparison_54 : decode cX5_readComparison 54 = .ok (.ireturn, 1) := by decide +kernel
theorem dX5_readComparison_41 : decode cX5_readComparison 41 = .ok (.iconst 0, 1) := by decide +kernel
theorem dX5_readComparison_42 : decode cX5_readComparison 42 = .ok (.ireturn, 1) := by decide +kernel
theorem dX5_readComparison_23 : decode cX5_readComparison 23 = .ok (.aload_n 0, 1) := by decide +kernel
theorem dX5_readComparison_24 : decode cX5_readComparison 24 = .ok (.iconst 1, 1) := by decide +kernel
theorem dX5_readComparison_25 : decode cX5_readComparison 25 = .ok (.invokevirtual 121, 3) := by decide +kernel
theorem dX5_readComparison_28 : decode cX5_readComparison 28 = .ok (.ireturn, 1) := by decide +kernel
theorem dX5_readComparison_8 : decode cX5_readComparison 8 = .ok (.iconst 0, 1) := by decide +kernel
theorem dX5_readComparison_9 : decode cX5_readComparison 9 = .ok (.ireturn, 1) := by decide +kernel
theorem dX5_readAsk_0 : decode cX5_readAsk 0 = .ok (.aload_n 0, 1) := by decide +kernel
theorem dX5_readAsk_1 : decode cX5_readAsk 1 = .ok (.getfield 52, 3) := by decide +kernel
theorem dX5_readAsk_4 : decode cX5_readAsk 4 = .ok (.bipush 29, 2) := by decide +kernel
theorem dX5_readAsk_6 : decode cX5_readAsk 6 = .ok (.if_icmp .eq 18, 3) := by decide +kernel
theorem dX5_readAsk_9 : decode cX5_readAsk 9 = .ok (.aload_n 0, 1) := by decide +kernel
theorem dX5_readAsk_10 : decode cX5_readAsk 10 = .ok (.getfield 52, 3) := by decide +kernel
theorem dX5_readAsk_13 : decode cX5_readAsk 13 = .ok (.bipush 30, 2) := by decide +kernel
theorem dX5_readAsk_15 : decode cX5_readAsk 15 = .ok (.if_icmp .eq 9, 3) := by decide +kernel
theorem dX5_readAsk_18 : decode cX5_readAsk 18 = .ok (.aload_n 0, 1) := by decide +kernel
theorem dX5_readAsk_19 : decode cX5_readAsk 19 = .ok (.iload_n 1, 1) := by decide +kernel
theorem dX5_readAsk_20 : decode cX5_readAsk 20 = .ok (.invokevirtual 196, 3) := by decide +kernel
theorem cw_X5_readComparison : CWv yX5_readComparison cX5_readComparison 3 (some .boolean) 1 := ⟨⟨⟨List.mem_of_getElem? (i := 130) (by decide +kernel), by decide +kernel⟩, ⟨List.mem_of_getElem? (i := 809) (by decide +kernel), by decide +kernel⟩, by decide +kernel⟩, ⟨List.mem_of_getElem? (i := 808) (by decide +kernel), by decide +kernel⟩, ⟨List.mem_of_getElem? (i := 22) (by decide +kernel), by decide +kernel⟩⟩
theorem km5_196 : inW (Cond.methodLink RX5 196 yX5_readComparison) := ⟨List.mem_of_getElem? (i := 806) (by decide +kernel), by decide +kernel⟩
theorem dX5_readAsk_23 : decode cX5_readAsk 23 = .ok (.ireturn, 1) := by decide +kernel
theorem dX5_readAsk_24 : decode cX5_readAsk 24 = .ok (.iload_n 1, 1) := by decide +kernel
theorem dX5_readAsk_25 : decode cX5_readAsk 25 = .ok (.bipush 8, 2) := by decide +kernel
theorem dX5_readAsk_27 : decode cX5_readAsk 27 = .ok (.if_icmp .lt 9, 3) := by decide +kernel
theorem dX5_readAsk_30 : decode cX5_readAsk 30 = .ok (.aload_n 0, 1) := by decide +kernel
theorem dX5_readAsk_31 : decode cX5_readAsk 31 = .ok (.iconst 3, 1) := by decide +kernel
theorem dX5_readAsk_32 : decode cX5_readAsk 32 = .ok (.invokevirtual 121, 3) := by decide +kernel
theorem dX5_readAsk_35 : decode cX5_readAsk 35 = .ok (.ireturn, 1) := by decide +kernel
theorem dX5_readBoth_0 : decode cX5_readBoth 0 = .ok (.aload_n 0, 1) := by decide +kernel
theorem dX5_readBoth_1 : decode cX5_readBoth 1 = .ok (.iload_n 1, 1) := by decide +kernel
theorem dX5_readBoth_2 : decode cX5_readBoth 2 = .ok (.invokevirtual 193, 3) := by decide +kernel
theorem cw_X5_readAsk : CWv yX5_readAsk cX5_readAsk 3 (some .boolean) 1 := ⟨⟨⟨List.mem_of_getElem? (i := 130) (by decide +kernel), by decide +kernel⟩, ⟨List.mem_of_getElem? (i := 805) (by decide +kernel), by decide +kernel⟩, by decide +kernel⟩, ⟨List.mem_of_getElem? (i := 804) (by decide +kernel), by decide +kernel⟩, ⟨List.mem_of_getElem? (i := 21) (by decide +kernel), by decide +kernel⟩⟩
theorem km5_193 : inW (Cond.methodLink RX5 193 yX5_readAsk) := ⟨List.mem_of_getElem? (i := 802) (by decide +kernel), by decide +kernel⟩
theorem dX5_readBoth_5 : decode cX5_readBoth 5 = .ok (.ifCond .ne 5, 3) := by decide +kernel
theorem dX5_readBoth_10 : decode cX5_readBoth 10 = .ok (.iconst 0, 1) := by decide +kernel
theorem dX5_readBoth_11 : decode cX5_readBoth 11 = .ok (.istore_n 2, 1) := by decide +kernel
theorem dX5_readBoth_8 : decode cX5_readBoth 8 = .ok (.iconst 0, 1) := by decide +kernel
theorem dX5_readBoth_9 : decode cX5_readBoth 9 = .ok (.ireturn, 1) := by decide +kernel
theorem dX5_readBoth_12 : decode cX5_readBoth 12 = .ok (.iload_n 2, 1) := by decide +kernel
theorem dX5_readBoth_13 : decode cX5_readBoth 13 = .ok (.sipush 300, 3) := by decide +kernel
theorem dX5_readBoth_16 : decode cX5_readBoth 16 = .ok (.if_icmp .ge 43, 3) := by decide +kernel
theorem dX5_readBoth_19 : decode cX5_readBoth 19 = .ok (.aload_n 0, 1) := by decide +kernel
theorem dX5_readBoth_20 : decode cX5_readBoth 20 = .ok (.getfield 52, 3) := by decide +kernel
theorem dX5_readBoth_23 : decode cX5_readBoth 23 = .ok (.bipush 28, 2) := by decide +kernel
theorem dX5_readBoth_25 : decode cX5_readBoth 25 = .ok (.if_icmp .ne 34, 3) := by decide +kernel
theorem dX5_readBoth_59 : decode cX5_readBoth 59 = .ok (.iconst 1, 1) := by decide +kernel
theorem dX5_readBoth_60 : decode cX5_readBoth 60 = .ok (.ireturn, 1) := by decide +kernel
theorem dX5_readBoth_28 : decode cX5_readBoth 28 = .ok (.aload_n 0, 1) := by decide +kernel
theorem dX5_readBoth_29 : decode cX5_readBoth 29 = .ok (.invokevirtual 49, 3) := by decide +kernel
theorem dX5_readBoth_32 : decode cX5_readBoth 32 = .ok (.aload_n 0, 1) := by decide +kernel
theorem dX5_readBoth_33 : decode cX5_readBoth 33 = .ok (.iload_n 1, 1) := by decide +kernel
theorem dX5_readBoth_34 : decode cX5_readBoth 34 = .ok (.invokevirtual 193, 3) := by decide +kernel
theorem dX5_readBoth_37 : decode cX5_readBoth 37 = .ok (.ifCond .ne 5, 3) := by decide +kernel
theorem dX5_readBoth_42 : decode cX5_readBoth 42 = .ok (.aload_n 0, 1) := by decide +kernel
theorem dX5_readBoth_43 : decode cX5_readBoth 43 = .ok (.getfield 34, 3) := by decide +kernel
theorem dX5_readBoth_46 : decode cX5_readBoth 46 = .ok (.bipush 18, 2) := by decide +kernel
theorem dX5_readBoth_48 : decode cX5_readBoth 48 = .ok (.iconst 0, 1) := by decide +kernel
theorem dX5_readBoth_49 : decode cX5_readBoth 49 = .ok (.invokevirtual 169, 3) := by decide +kernel
theorem dX5_readBoth_52 : decode cX5_readBoth 52 = .ok (.pop, 1) := by decide +kernel
theorem dX5_readBoth_53 : decode cX5_readBoth 53 = .ok (.iinc 2 1, 3) := by decide +kernel
theorem dX5_readBoth_56 : decode cX5_readBoth 56 = .ok (.goto (-44), 3) := by decide +kernel
theorem dX5_readBoth_40 : decode cX5_readBoth 40 = .ok (.iconst 0, 1) := by decide +kernel
theorem dX5_readBoth_41 : decode cX5_readBoth 41 = .ok (.ireturn, 1) := by decide +kernel
theorem dX5_readEither_0 : decode cX5_readEither 0 = .ok (.aload_n 0, 1) := by decide +kernel
theorem dX5_readEither_1 : decode cX5_readEither 1 = .ok (.iload_n 1, 1) := by decide +kernel
theorem dX5_readEither_2 : decode cX5_readEither 2 = .ok (.invokevirtual 190, 3) := by decide +kernel
theorem cw_X5_readBoth : CWv yX5_readBoth cX5_readBoth 3 (some .boolean) 1 := ⟨⟨⟨List.mem_of_getElem? (i := 130) (by decide +kernel), by decide +kernel⟩, ⟨List.mem_of_getElem? (i := 801) (by decide +kernel), by decide +kernel⟩, by decide +kernel⟩, ⟨List.mem_of_getElem? (i := 800) (by decide +kernel), by decide +kernel⟩, ⟨List.mem_of_getElem? (i := 20) (by decide +kernel), by decide +kernel⟩⟩
theorem km5_190 : inW (Cond.methodLink RX5 190 yX5_readBoth) := ⟨List.mem_of_getElem? (i := 798) (by decide +kernel), by decide +kernel⟩
theorem dX5_readEither_5 : decode cX5_readEither 5 = .ok (.ifCond .ne 5, 3) := by decide +kernel
theorem dX5_readEither_10 : decode cX5_readEither 10 = .ok (.iconst 0, 1) := by decide +kernel
theorem dX5_readEither_11 : decode cX5_readEither 11 = .ok (.istore_n 2, 1) := by decide +kernel
theorem dX5_readEither_8 : decode cX5_readEither 8 = .ok (.iconst 0, 1) := by decide +kernel
theorem dX5_readEither_9 : decode cX5_readEither 9 = .ok (.ireturn, 1) := by decide +kernel
theorem dX5_readEither_12 : decode cX5_readEither 12 = .ok (.iload_n 2, 1) := by decide +kernel
theorem dX5_readEither_13 : decode cX5_readEither 13 = .ok (.sipush 300, 3) := by decide +kernel
theorem dX5_readEither_16 : decode cX5_readEither 16 = .ok (.if_icmp .ge 43, 3) := by decide +kernel
theorem dX5_readEither_19 : decode cX5_readEither 19 = .ok (.aload_n 0, 1) := by decide +kernel
theorem dX5_readEither_20 : decode cX5_readEither 20 = .ok (.getfield 52, 3) := by decide +kernel
theorem dX5_readEither_23 : decode cX5_readEither 23 = .ok (.bipush 27, 2) := by decide +kernel
theorem dX5_readEither_25 : decode cX5_readEither 25 = .ok (.if_icmp .ne 34, 3) := by decide +kernel
theorem dX5_readEither_59 : decode cX5_readEither 59 = .ok (.iconst 1, 1) := by decide +kernel
theorem dX5_readEither_60 : decode cX5_readEither 60 = .ok (.ireturn, 1) := by decide +kernel
theorem dX5_readEither_28 : decode cX5_readEither 28 = .ok (.aload_n 0, 1) := by decide +kernel
theorem dX5_readEither_29 : decode cX5_readEither 29 = .ok (.invokevirtual 49, 3) := by decide +kernel
theorem dX5_readEither_32 : decode cX5_readEither 32 = .ok (.aload_n 0, 1) := by decide +kernel
theorem dX5_readEither_33 : decode cX5_readEither 33 = .ok (.iload_n 1, 1) := by decide +kernel
theorem dX5_readEither_34 : decode cX5_readEither 34 = .ok (.invokevirtual 190, 3) := by decide +kernel
theorem dX5_readEither_37 : decode cX5_readEither 37 = .ok (.ifCond .ne 5, 3) := by decide +kernel
theorem dX5_readEither_42 : decode cX5_readEither 42 = .ok (.aload_n 0, 1) := by decide +kernel
theorem dX5_readEither_43 : decode cX5_readEither 43 = .ok (.getfield 34, 3) := by decide +kernel
theorem dX5_readEither_46 : decode cX5_readEither 46 = .ok (.bipush 19, 2) := by decide +kernel
theorem dX5_readEither_48 : decode cX5_readEither 48 = .ok (.iconst 0, 1) := by decide +kernel
theorem dX5_readEither_49 : decode cX5_readEither 49 = .ok (.invokevirtual 169, 3) := by decide +kernel
theorem dX5_readEither_52 : decode cX5_readEither 52 = .ok (.pop, 1) := by decide +kernel
theorem dX5_readEither_53 : decode cX5_readEither 53 = .ok (.iinc 2 1, 3) := by decide +kernel
theorem dX5_readEither_56 : decode cX5_readEither 56 = .ok (.goto (-44), 3) := by decide +kernel
theorem dX5_readEither_40 : decode cX5_readEither 40 = .ok (.iconst 0, 1) := by decide +kernel
theorem dX5_readEither_41 : decode cX5_readEither 41 = .ok (.ireturn, 1) := by decide +kernel
theorem dX5_readJust_0 : decode cX5_readJust 0 = .ok (.aload_n 0, 1) := by decide +kernel
theorem dX5_readJust_1 : decode cX5_readJust 1 = .ok (.bipush 40, 2) := by decide +kernel
theorem dX5_readJust_3 : decode cX5_readJust 3 = .ok (.invokevirtual 140, 3) := by decide +kernel
theorem dX5_readJust_6 : decode cX5_readJust 6 = .ok (.ifCond .eq 11, 3) := by decide +kernel
theorem dX5_readJust_17 : decode cX5_readJust 17 = .ok (.iconst 0, 1) := by decide +kernel
theorem dX5_readJust_18 : decode cX5_readJust 18 = .ok (.ireturn, 1) := by decide +kernel
theorem dX5_readJust_9 : decode cX5_readJust 9 = .ok (.aload_n 0, 1) := by decide +kernel
theorem dX5_readJust_10 : decode cX5_readJust 10 = .ok (.iload_n 1, 1) := by decide +kernel
theorem dX5_readJust_11 : decode cX5_readJust 11 = .ok (.invokevirtual 184, 3) := by decide +kernel
theorem cw_X5_readEither : CWv yX5_readEither cX5_readEither 3 (some .boolean) 1 := ⟨⟨⟨List.mem_of_getElem? (i := 130) (by decide +kernel), by decide +kernel⟩, ⟨List.mem_of_getElem? (i := 797) (by decide +kernel), by decide +kernel⟩, by decide +kernel⟩, ⟨List.mem_of_getElem? (i := 796) (by decide +kernel), by decide +kernel⟩, ⟨List.mem_of_getElem? (i := 19) (by decide +kernel), by decide +kernel⟩⟩
theorem km5_184 : inW (Cond.methodLink RX5 184 yX5_readEither) := ⟨List.mem_of_getElem? (i := 794) (by decide +kernel), by decide +kernel⟩
theorem dX5_readJust_14 : decode cX5_readJust 14 = .ok (.ifCond .ne 5, 3) := by decide +kernel
theorem dX5_readJust_19 : decode cX5_readJust 19 = .ok (.iconst 1, 1) := by decide +kernel
theorem dX5_readJust_20 : decode cX5_readJust 20 = .ok (.istore_n 2, 1) := by decide +kernel
theorem dX5_readJust_21 : decode cX5_readJust 21 = .ok (.iload_n 2, 1) := by decide +kernel
theorem dX5_readJust_22 : decode cX5_readJust 22 = .ok (.bipush 6, 2) := by decide +kernel
theorem dX5_readJust_24 : decode cX5_readJust 24 = .ok (.if_icmp .ge 32, 3) := by decide +kernel
theorem dX5_readJust_27 : decode cX5_readJust 27 = .ok (.aload_n 0, 1) := by decide +kernel
theorem dX5_readJust_28 : decode cX5_readJust 28 = .ok (.getfield 52, 3) := by decide +kernel
theorem dX5_readJust_31 : decode cX5_readJust 31 = .ok (.bipush 44, 2) := by decide +kernel
theorem dX5_readJust_33 : decode cX5_readJust 33 = .ok (.if_icmp .ne 23, 3) := by decide +kernel
theorem dX5_readJust_56 : decode cX5_readJust 56 = .ok (.aload_n 0, 1) := by decide +kernel
theorem dX5_readJust_57 : decode cX5_readJust 57 = .ok (.getfield 52, 3) := by decide +kernel
theorem dX5_readJust_60 : decode cX5_readJust 60 = .ok (.bipush 44, 2) := by decide +kernel
theorem dX5_readJust_62 : decode cX5_readJust 62 = .ok (.if_icmp .ne 10, 3) := by decide +kernel
theorem dX5_readJust_72 : decode cX5_readJust 72 = .ok (.aload_n 0, 1) := by decide +kernel
theorem dX5_readJust_73 : decode cX5_readJust 73 = .ok (.getfield 34, 3) := by decide +kernel
theorem dX5_readJust_76 : decode cX5_readJust 76 = .ok (.bipush 7, 2) := by decide +kernel
theorem dX5_readJust_78 : decode cX5_readJust 78 = .ok (.iload_n 2, 1) := by decide +kernel
theorem dX5_readJust_79 : decode cX5_readJust 79 = .ok (.invokevirtual 169, 3) := by decide +kernel
theorem dX5_readJust_82 : decode cX5_readJust 82 = .ok (.pop, 1) := by decide +kernel
theorem dX5_readJust_83 : decode cX5_readJust 83 = .ok (.aload_n 0, 1) := by decide +kernel
theorem dX5_readJust_84 : decode cX5_readJust 84 = .ok (.bipush 41, 2) := by decide +kernel
theorem dX5_readJust_86 : decode cX5_readJust 86 = .ok (.invokevirtual 140, 3) := by decide +kernel
theorem dX5_readJust_89 : decode cX5_readJust 89 = .ok (.ireturn, 1) := by decide +kernel
theorem dX5_readJust_36 : decode cX5_readJust 36 = .ok (.aload_n 0, 1) := by decide +kernel
theorem dX5_readJust_37 : decode cX5_readJust 37 = .ok (.invokevirtual 49, 3) := by decide +kernel
theorem dX5_readJust_40 : decode cX5_readJust 40 = .ok (.aload_n 0, 1) := by decide +kernel
theorem dX5_readJust_41 : decode cX5_readJust 41 = .ok (.iload_n 1, 1) := by decide +kernel
theorem dX5_readJust_42 : decode cX5_readJust 42 = .ok (.invokevirtual 184, 3) := by decide +kernel
theorem dX5_readJust_45 : decode cX5_readJust 45 = .ok (.ifCond .ne 5, 3) := by decide +kernel
theorem dX5_readJust_50 : decode cX5_readJust 50 = .ok (.iinc 2 1, 3) := by decide +kernel
theorem dX5_readJust_53 : decode cX5_readJust 53 = .ok (.goto (-32), 3) := by decide +kernel
theorem dX5_readJust_48 : decode cX5_readJust 48 = .ok (.iconst 0, 1) := by decide +kernel
theorem dX5_readJust_49 : decode cX5_readJust 49 = .ok (.ireturn, 1) := by decide +kernel
theorem dX5_readJust_65 : decode cX5_readJust 65 = .ok (.aload_n 0, 1) := by decide +kernel
theorem dX5_readJust_66 : decode cX5_readJust 66 = .ok (.bipush 7, 2) := by decide +kernel
theorem dX5_readJust_68 : decode cX5_readJust 68 = .ok (.invokevirtual 121, 3) := by decide +kernel
theorem dX5_readJust_71 : decode cX5_readJust 71 = .ok (.ireturn, 1) := by decide +kernel
theorem dX5_readChoice_0 : decode cX5_readChoice 0 = .ok (.aload_n 0, 1) := by decide +kernel
theorem dX5_readChoice_1 : decode cX5_readChoice 1 = .ok (.iload_n 1, 1) := by decide +kernel
theorem dX5_readChoice_2 : decode cX5_readChoice 2 = .ok (.invokevirtual 184, 3) := by decide +kernel
theorem dX5_readChoice_5 : decode cX5_readChoice 5 = .ok (.ifCond .eq 12, 3) := by decide +kernel
theorem dX5_readChoice_17 : decode cX5_readChoice 17 = .ok (.iconst 0, 1) := by decide +kernel
theorem dX5_readChoice_18 : decode cX5_readChoice 18 = .ok (.ireturn, 1) := by decide +kernel
theorem dX5_readChoice_8 : decode cX5_readChoice 8 = .ok (.aload_n 0, 1) := by decide +kernel
theorem dX5_readChoice_9 : decode cX5_readChoice 9 = .ok (.bipush 24, 2) := by decide +kernel
theorem dX5_readChoice_11 : decode cX5_readChoice 11 = .ok (.invokevirtual 140, 3) := by decide +kernel
theorem dX5_readChoice_14 : decode cX5_readChoice 14 = .ok (.ifCond .ne 5, 3) := by decide +kernel
theorem dX5_readChoice_19 : decode cX5_readChoice 19 = .ok (.aload_n 0, 1) := by decide +kernel
theorem dX5_readChoice_20 : decode cX5_readChoice 20 = .ok (.getfield 34, 3) := by decide +kernel
theorem dX5_readChoice_23 : decode cX5_readChoice 23 = .ok (.iconst 4, 1) := by decide +kernel
theorem dX5_readChoice_24 : decode cX5_readChoice 24 = .ok (.iconst 0, 1) := by decide +kernel
theorem dX5_readChoice_25 : decode cX5_readChoice 25 = .ok (.invokevirtual 169, 3) := by decide +kernel
theorem dX5_readChoice_28 : decode cX5_readChoice 28 = .ok (.istore_n 2, 1) := by decide +kernel
theorem dX5_readChoice_29 : decode cX5_readChoice 29 = .ok (.aload_n 0, 1) := by decide +kernel
theorem dX5_readChoice_30 : decode cX5_readChoice 30 = .ok (.iload_n 1, 1) := by decide +kernel
theorem dX5_readChoice_31 : decode cX5_readChoice 31 = .ok (.invokevirtual 147, 3) := by decide +kernel
theorem dX5_readChoice_34 : decode cX5_readChoice 34 = .ok (.ifCond .eq 12, 3) := by decide +kernel
theorem dX5_readChoice_46 : decode cX5_readChoice 46 = .ok (.iconst 0, 1) := by decide +kernel
theorem dX5_readChoice_47 : decode cX5_readChoice 47 = .ok (.ireturn, 1) := by decide +kernel
theorem dX5_readChoice_37 : decode cX5_readChoice 37 = .ok (.aload_n 0, 1) := by decide +kernel
theorem dX5_readChoice_38 : decode cX5_readChoice 38 = .ok (.bipush 25, 2) := by decide +kernel
theorem dX5_readChoice_40 : decode cX5_readChoice 40 = .ok (.invokevirtual 140, 3) := by decide +kernel
theorem dX5_readChoice_43 : decode cX5_readChoice 43 = .ok (.ifCond .ne 5, 3) := by decide +kernel
theorem dX5_readChoice_48 : decode cX5_readChoice 48 = .ok (.aload_n 0, 1) := by decide +kernel
theorem dX5_readChoice_49 : decode cX5_readChoice 49 = .ok (.getfield 34, 3) := by decide +kernel
theorem dX5_readChoice_52 : decode cX5_readChoice 52 = .ok (.iconst 3, 1) := by decide +kernel
theorem dX5_readChoice_53 : decode cX5_readChoice 53 = .ok (.iconst 0, 1) := by decide +kernel
theorem dX5_readChoice_54 : decode cX5_readChoice 54 = .ok (.invokevirtual 169, 3) := by decide +kernel
theorem dX5_readChoice_57 : decode cX5_readChoice 57 = .ok (.istore_n 3, 1) := by decide +kernel
theorem dX5_readChoice_58 : decode cX5_readChoice 58 = .ok (.aload_n 0, 1) := by decide +kernel
theorem dX5_readChoice_59 : decode cX5_readChoice 59 = .ok (.getfield 34, 3) := by decide +kernel
theorem dX5_readChoice_62 : decode cX5_readChoice 62 = .ok (.iload_n 2, 1) := by decide +kernel
theorem dX5_readChoice_63 : decode cX5_readChoice 63 = .ok (.invokevirtual 187, 3) := by decide +kernel
theorem cw_X7_leadHere : CWv yX7_leadHere cX7_leadHere 2 none 1 := ⟨⟨⟨List.mem_of_getElem? (i := 129) (by decide +kernel), by decide +kernel⟩, ⟨List.mem_of_getElem? (i := 820) (by decide +kernel), by decide +kernel⟩, by decide +kernel⟩, ⟨List.mem_of_getElem? (i := 818) (by decide +kernel), by decide +kernel⟩, ⟨List.mem_of_getElem? (i := 819) (by decide +kernel), by decide +kernel⟩⟩
theorem km5_187 : inW (Cond.methodLink RX5 187 yX7_leadHere) := ⟨List.mem_of_getElem? (i := 817) (by decide +kernel), by decide +kernel⟩
theorem dX5_readChoice_66 : decode cX5_readChoice 66 = .ok (.aload_n 0, 1) := by decide +kernel
theorem dX5_readChoice_67 : decode cX5_readChoice 67 = .ok (.iload_n 1, 1) := by decide +kernel
theorem dX5_readChoice_68 : decode cX5_readChoice 68 = .ok (.invokevirtual 147, 3) := by decide +kernel
theorem dX5_readChoice_71 : decode cX5_readChoice 71 = .ok (.ifCond .eq 12, 3) := by decide +kernel
theorem dX5_readChoice_83 : decode cX5_readChoice 83 = .ok (.iconst 0, 1) := by decide +kernel
theorem dX5_readChoice_84 : decode cX5_readChoice 84 = .ok (.ireturn, 1) := by decide +kernel
theorem dX5_readChoice_74 : decode cX5_readChoice 74 = .ok (.aload_n 0, 1) := by decide +kernel
theorem dX5_readChoice_75 : decode cX5_readChoice 75 = .ok (.bipush 26, 2) := by decide +kernel
theorem dX5_readChoice_77 : decode cX5_readChoice 77 = .ok (.invokevirtual 140, 3) := by decide +kernel
theorem dX5_readChoice_80 : decode cX5_readChoice 80 = .ok (.ifCond .ne 5, 3) := by decide +kernel
theorem dX5_readChoice_85 : decode cX5_readChoice 85 = .ok (.aload_n 0, 1) := by decide +kernel
theorem dX5_readChoice_86 : decode cX5_readChoice 86 = .ok (.getfield 34, 3) := by decide +kernel
theorem dX5_readChoice_89 : decode cX5_readChoice 89 = .ok (.iload_n 3, 1) := by decide +kernel
theorem dX5_readChoice_90 : decode cX5_readChoice 90 = .ok (.invokevirtual 187, 3) := by decide +kernel
theorem dX5_readChoice_93 : decode cX5_readChoice 93 = .ok (.iconst 1, 1) := by decide +kernel
theorem dX5_readChoice_94 : decode cX5_readChoice 94 = .ok (.ireturn, 1) := by decide +kernel
theorem dX5_readOne_76 : decode cX5_readOne 76 = .ok (.aload_n 0, 1) := by decide +kernel
theorem dX5_readOne_77 : decode cX5_readOne 77 = .ok (.invokevirtual 49, 3) := by decide +kernel
theorem dX5_readOne_80 : decode cX5_readOne 80 = .ok (.iload_n 2, 1) := by decide +kernel
theorem dX5_readOne_81 : decode cX5_readOne 81 = .ok (.bipush 40, 2) := by decide +kernel
theorem dX5_readOne_83 : decode cX5_readOne 83 = .ok (.if_icmp .ne 28, 3) := by decide +kernel
theorem dX5_readOne_111 : decode cX5_readOne 111 = .ok (.iload_n 2, 1) := by decide +kernel
theorem dX5_readOne_112 : decode cX5_readOne 112 = .ok (.bipush 23, 2) := by decide +kernel
theorem dX5_readOne_114 : decode cX5_readOne 114 = .ok (.if_icmp .ne 11, 3) := by decide +kernel
theorem dX5_readOne_125 : decode cX5_readOne 125 = .ok (.aload_n 0, 1) := by decide +kernel
theorem dX5_readOne_126 : decode cX5_readOne 126 = .ok (.iload_n 1, 1) := by decide +kernel
theorem dX5_readOne_127 : decode cX5_readOne 127 = .ok (.iconst 1, 1) := by decide +kernel
theorem dX5_readOne_128 : decode cX5_readOne 128 = .ok (.iadd, 1) := by decide +kernel
theorem dX5_readOne_129 : decode cX5_readOne 129 = .ok (.invokevirtual 172, 3) := by decide +kernel
theorem dX5_readOne_132 : decode cX5_readOne 132 = .ok (.ifCond .ne 5, 3) := by decide +kernel
theorem dX5_readOne_137 : decode cX5_readOne 137 = .ok (.aload_n 0, 1) := by decide +kernel
theorem dX5_readOne_138 : decode cX5_readOne 138 = .ok (.getfield 34, 3) := by decide +kernel
theorem dX5_readOne_141 : decode cX5_readOne 141 = .ok (.iload_n 2, 1) := by decide +kernel
theorem dX5_readOne_142 : decode cX5_readOne 142 = .ok (.bipush 45, 2) := by decide +kernel
theorem dX5_readOne_144 : decode cX5_readOne 144 = .ok (.if_icmp .ne 7, 3) := by decide +kernel
theorem dX5_readOne_151 : decode cX5_readOne 151 = .ok (.iconst 2, 1) := by decide +kernel
theorem dX5_readOne_147 : decode cX5_readOne 147 = .ok (.iconst 5, 1) := by decide +kernel
theorem dX5_readOne_148 : decode cX5_readOne 148 = .ok (.goto 4, 3) := by decide +kernel
theorem dX5_readOne_135 : decode cX5_readOne 135 = .ok (.iconst 0, 1) := by decide +kernel
theorem dX5_readOne_136 : decode cX5_readOne 136 = .ok (.ireturn, 1) := by decide +kernel
theorem dX5_readOne_117 : decode cX5_readOne 117 = .ok (.aload_n 0, 1) := by decide +kernel
theorem dX5_readOne_118 : decode cX5_readOne 118 = .ok (.iload_n 1, 1) := by decide +kernel
theorem dX5_readOne_119 : decode cX5_readOne 119 = .ok (.iconst 1, 1) := by decide +kernel
theorem dX5_readOne_120 : decode cX5_readOne 120 = .ok (.iadd, 1) := by decide +kernel
theorem dX5_readOne_121 : decode cX5_readOne 121 = .ok (.invokevirtual 181, 3) := by decide +kernel
theorem cw_X5_readChoice : CWv yX5_readChoice cX5_readChoice 4 (some .boolean) 1 := ⟨⟨⟨List.mem_of_getElem? (i := 130) (by decide +kernel), by decide +kernel⟩, ⟨List.mem_of_getElem? (i := 793) (by decide +kernel), by decide +kernel⟩, by decide +kernel⟩, ⟨List.mem_of_getElem? (i := 792) (by decide +kernel), by decide +kernel⟩, ⟨List.mem_of_getElem? (i := 18) (by decide +kernel), by decide +kernel⟩⟩
theorem km5_181 : inW (Cond.methodLink RX5 181 yX5_readChoice) := ⟨List.mem_of_getElem? (i := 790) (by decide +kernel), by decide +kernel⟩
theorem dX5_readOne_124 : decode cX5_readOne 124 = .ok (.ireturn, 1) := by decide +kernel
theorem dX5_readOne_86 : decode cX5_readOne 86 = .ok (.aload_n 0, 1) := by decide +kernel
theorem dX5_readOne_87 : decode cX5_readOne 87 = .ok (.iload_n 1, 1) := by decide +kernel
theorem dX5_readOne_88 : decode cX5_readOne 88 = .ok (.iconst 1, 1) := by decide +kernel
theorem dX5_readOne_89 : decode cX5_readOne 89 = .ok (.iadd, 1) := by decide +kernel
theorem dX5_readOne_90 : decode cX5_readOne 90 = .ok (.invokevirtual 147, 3) := by decide +kernel
theorem dX5_readOne_93 : decode cX5_readOne 93 = .ok (.ifCond .eq 16, 3) := by decide +kernel
theorem dX5_readOne_109 : decode cX5_readOne 109 = .ok (.iconst 0, 1) := by decide +kernel
theorem dX5_readOne_110 : decode cX5_readOne 110 = .ok (.ireturn, 1) := by decide +kernel
theorem dX5_readOne_96 : decode cX5_readOne 96 = .ok (.aload_n 0, 1) := by decide +kernel
theorem dX5_readOne_97 : decode cX5_readOne 97 = .ok (.bipush 41, 2) := by decide +kernel
theorem dX5_readOne_99 : decode cX5_readOne 99 = .ok (.invokevirtual 140, 3) := by decide +kernel
theorem dX5_readOne_102 : decode cX5_readOne 102 = .ok (.ifCond .eq 7, 3) := by decide +kernel
theorem dX5_readOne_105 : decode cX5_readOne 105 = .ok (.iconst 1, 1) := by decide +kernel
theorem dX5_readOne_106 : decode cX5_readOne 106 = .ok (.goto 4, 3) := by decide +kernel
theorem dX5_readOne_152 : decode cX5_readOne 152 = .ok (.iconst 0, 1) := by decide +kernel
theorem dX5_readOne_153 : decode cX5_readOne 153 = .ok (.invokevirtual 169, 3) := by decide +kernel
theorem dX5_readOne_156 : decode cX5_readOne 156 = .ok (.pop, 1) := by decide +kernel
theorem dX5_readOne_157 : decode cX5_readOne 157 = .ok (.iconst 1, 1) := by decide +kernel
theorem dX5_readOne_158 : decode cX5_readOne 158 = .ok (.ireturn, 1) := by decide +kernel
theorem dX5_readAsk_36 : decode cX5_readAsk 36 = .ok (.aload_n 0, 1) := by decide +kernel
theorem dX5_readAsk_37 : decode cX5_readAsk 37 = .ok (.getfield 52, 3) := by decide +kernel
theorem dX5_readAsk_40 : decode cX5_readAsk 40 = .ok (.bipush 30, 2) := by decide +kernel
theorem dX5_readAsk_42 : decode cX5_readAsk 42 = .ok (.if_icmp .ne 7, 3) := by decide +kernel
theorem dX5_readAsk_49 : decode cX5_readAsk 49 = .ok (.iconst 0, 1) := by decide +kernel
theorem dX5_readAsk_45 : decode cX5_readAsk 45 = .ok (.iconst 1, 1) := by decide +kernel
theorem dX5_readAsk_46 : decode cX5_readAsk 46 = .ok (.goto 4, 3) := by decide +kernel
theorem dX5_readAsk_50 : decode cX5_readAsk 50 = .ok (.istore_n 2, 1) := by decide +kernel
theorem dX5_readAsk_51 : decode cX5_readAsk 51 = .ok (.aload_n 0, 1) := by decide +kernel
theorem dX5_readAsk_52 : decode cX5_readAsk 52 = .ok (.invokevirtual 49, 3) := by decide +kernel
theorem dX5_readAsk_55 : decode cX5_readAsk 55 = .ok (.iload_n 2, 1) := by decide +kernel
theorem dX5_readAsk_56 : decode cX5_readAsk 56 = .ok (.ifCond .eq 11, 3) := by decide +kernel
theorem dX5_readAsk_67 : decode cX5_readAsk 67 = .ok (.aload_n 0, 1) := by decide +kernel
theorem dX5_readAsk_68 : decode cX5_readAsk 68 = .ok (.iload_n 1, 1) := by decide +kernel
theorem dX5_readAsk_69 : decode cX5_readAsk 69 = .ok (.iconst 1, 1) := by decide +kernel
theorem dX5_readAsk_70 : decode cX5_readAsk 70 = .ok (.iadd, 1) := by decide +kernel
theorem dX5_readAsk_71 : decode cX5_readAsk 71 = .ok (.invokevirtual 193, 3) := by decide +kernel
theorem dX5_readAsk_74 : decode cX5_readAsk 74 = .ok (.ifCond .ne 5, 3) := by decide +kernel
theorem dX5_readAsk_79 : decode cX5_readAsk 79 = .ok (.aload_n 0, 1) := by decide +kernel
theorem dX5_readAsk_80 : decode cX5_readAsk 80 = .ok (.getfield 34, 3) := by decide +kernel
theorem dX5_readAsk_83 : decode cX5_readAsk 83 = .ok (.bipush 6, 2) := by decide +kernel
theorem dX5_readAsk_85 : decode cX5_readAsk 85 = .ok (.iconst 0, 1) := by decide +kernel
theorem dX5_readAsk_86 : decode cX5_readAsk 86 = .ok (.invokevirtual 169, 3) := by decide +kernel
theorem dX5_readAsk_89 : decode cX5_readAsk 89 = .ok (.pop, 1) := by decide +kernel
theorem dX5_readAsk_90 : decode cX5_readAsk 90 = .ok (.iconst 1, 1) := by decide +kernel
theorem dX5_readAsk_91 : decode cX5_readAsk 91 = .ok (.ireturn, 1) := by decide +kernel
theorem dX5_readAsk_77 : decode cX5_readAsk 77 = .ok (.iconst 0, 1) := by decide +kernel
theorem dX5_readAsk_78 : decode cX5_readAsk 78 = .ok (.ireturn, 1) := by decide +kernel
theorem dX5_readAsk_59 : decode cX5_readAsk 59 = .ok (.aload_n 0, 1) := by decide +kernel
theorem dX5_readAsk_60 : decode cX5_readAsk 60 = .ok (.iload_n 1, 1) := by decide +kernel
theorem dX5_readAsk_61 : decode cX5_readAsk 61 = .ok (.iconst 1, 1) := by decide +kernel
theorem dX5_readAsk_62 : decode cX5_readAsk 62 = .ok (.iadd, 1) := by decide +kernel
theorem dX5_readAsk_63 : decode cX5_readAsk 63 = .ok (.invokevirtual 199, 3) := by decide +kernel
theorem cw_X5_readJust : CWv yX5_readJust cX5_readJust 3 (some .boolean) 1 := ⟨⟨⟨List.mem_of_getElem? (i := 130) (by decide +kernel), by decide +kernel⟩, ⟨List.mem_of_getElem? (i := 816) (by decide +kernel), by decide +kernel⟩, by decide +kernel⟩, ⟨List.mem_of_getElem? (i := 815) (by decide +kernel), by decide +kernel⟩, ⟨List.mem_of_getElem? (i := 23) (by decide +kernel), by decide +kernel⟩⟩
theorem km5_199 : inW (Cond.methodLink RX5 199 yX5_readJust) := ⟨List.mem_of_getElem? (i := 813) (by decide +kernel), by decide +kernel⟩
theorem dX5_readAsk_66 : decode cX5_readAsk 66 = .ok (.ireturn, 1) := by decide +kernel
theorem od_s {x y : Int32} {n : Nat} (e : x = y + 1) (h : bn 0 7 y) (hm : (8 - y.toInt).toNat ≤ n + 1) : (8 - x.toInt).toNat ≤ n := by
  obtain ⟨h1, h2⟩ := h
  have e2 : x.toInt = y.toInt + 1 := by rw [e]; exact ti_add (by rw [show (1 : Int32).toInt = 1 from rfl]; omega) (by rw [show (1 : Int32).toInt = 1 from rfl]; omega)
  omega
theorem od_0 {y : Int32} (h : bn 0 8 y) (hm : (8 - y.toInt).toNat ≤ 0) : bn 8 8 y := by
  obtain ⟨h1, h2⟩ := h; exact ⟨by omega, by omega⟩
set_option maxHeartbeats 4000000 in
set_option maxRecDepth 100000 in
theorem x_X5_readOne_z {l : Launch} {G : GG}  {L : List Nat} {f : HF} {ad : Nat → Nat → Nat} {fc : Int × Int} {tc w : Nat → Int × Int} {q : Nat → (Nat → Int32) → Prop} {t : Nat} {i1 : Int32} (I : SH (spC (RF 30 t) fc tc w q) nnC G ad L f) (hW : WBp w 8) (hT : WBp tc 4) (hQ : QIp q) (ht : t < 4) (b_i1 : bn 8 8 i1) : PMi l yX5_readOne cX5_readOne 3 .boolean 8 0 0 G [.ref (ad 2 0), .int i1] L f (fun r L1 f1 => bn 0 1 r ∧ SH (spC (RF 30 t) fc tc w q) nnC G ad L1 f1) := by
  refine PMi.of (post := fun r L1 f1 => bn 0 1 r ∧ SH (spC (RF 30 t) fc tc w q) nnC G ad L1 f1) (own := RX5) (by decide) rfl (Nat.le_of_ble_eq_true rfl) (fun sz p e s m args below meth c A ls hA1 hname S Y hl => ?_)
  have hx := S.hx
  have hb := S.hb
  have hl : lv_has ls 3 [(0, .ref (ad 2 0)), (1, .int i1)] := hl
  have J_64 : ∀ (y64_2 : Int32) (L_64 : List Nat) (f_64 : HF) (H : Heap) (locs : List Loc) (ls : Array Slot), (SH (spC (RF 30 t) fc tc w q) nnC G ad L_64 f_64) → (bn 22 45 y64_2) → (DY G A s [] L_64 f_64 H locs) → (lv_has ls 3 [(0, .ref (ad 2 0)), (1, .int i1), (2, .int y64_2)]) → W p l e (rmD 8 0 0) s m args below meth c H locs (0) (0) (MQ below (va_Qi (fun r (u : List Nat × HF) => (fun r L1 f1 => bn 0 1 r ∧ SH (spC (RF 30 t) fc tc w q) nnC G ad L1 f1) r u.1 u.2) (fun u t => pOut G (va_A (va_pl L f) sz) u.1 u.2 t) (va_A (va_pl L f) sz)) args s 0 0 A) (F0 m 64 ls []) := by
    intro y64_2 L_64 f_64 H locs ls I b_y64_2 Y hl
    refine lv_iload_n hx hb dX5_readOne_64 rfl (lv_at hl 1 rfl) ?_
    refine lv_bipush (v := 8) hx hb dX5_readOne_65 (by decide) ?_
    refine lv_icmp_lt (tgt := 76) hx hb dX5_readOne_67 (by decide) (fun h => absurd h (bd_nlt b_i1 (show bn 8 8 (8 : Int32) from bn_k (by decide)) (by decide))) (fun _ => ?_)
    refine lv_aload_n hx hb dX5_readOne_70 rfl (lv_at hl 0 rfl) ?_
    refine lv_iconst (v := 3) hx hb dX5_readOne_71 (by decide) ?_
    refine cVi (As := [.int 3]) (rest := []) S Y (x_X5_fail (l := l) I hW hT hQ) cw_X5_fail km5_121 (I.opo (k := 2) (j := 0) (by decide) rfl).choose_spec.1 ok_X5.1 rfl rfl ⟨Nat.le_of_ble_eq_true rfl, Nat.le_of_ble_eq_true rfl⟩ hl.1 rfl (Nat.le_of_ble_eq_true rfl) ⟨Nat.le_of_ble_eq_true rfl, Nat.le_of_ble_eq_true rfl⟩ dX5_readOne_72 (fun r_41692 L_41690 f_41691 H locs hr_41692 Y => ?_)
    obtain ⟨er_41692, I⟩ := hr_41692
    exact prI (post := fun r L1 f1 => bn 0 1 r ∧ SH (spC (RF 30 t) fc tc w q) nnC G ad L1 f1) S Y (nw_b (bn_w er_41692 (by decide))) (by decide) (by decide) hA1 ⟨bn_w er_41692 (by decide), I⟩ dX5_readOne_75
  have J_34 : ∀ (y34_2 : Int32) (L_34 : List Nat) (f_34 : HF) (H : Heap) (locs : List Loc) (ls : Array Slot), (SH (spC (RF 30 t) fc tc w q) nnC G ad L_34 f_34) → (DY G A s [] L_34 f_34 H locs) → (lv_has ls 3 [(0, .ref (ad 2 0)), (1, .int i1), (2, .int y34_2)]) → W p l e (rmD 8 0 0) s m args below meth c H locs (0) (0) (MQ below (va_Qi (fun r (u : List Nat × HF) => (fun r L1 f1 => bn 0 1 r ∧ SH (spC (RF 30 t) fc tc w q) nnC G ad L1 f1) r u.1 u.2) (fun u t => pOut G (va_A (va_pl L f) sz) u.1 u.2 t) (va_A (va_pl L f) sz)) args s 0 0 A) (F0 m 34 ls []) := by
    intro y34_2 L_34 f_34 H locs ls I Y hl
    refine lv_iload_n hx hb dX5_readOne_34 rfl (lv_at hl 2 rfl) ?_
    refine lv_bipush (v := 40) hx hb dX5_readOne_35 (by decide) ?_
    refine lv_icmp_eq (tgt := 64) hx hb dX5_readOne_37 (by decide) (fun c_41693 => ?_) (fun c_41693 => ?_)
    · have B_41694 : bn 40 40 y34_2 := bn_w (bn_eq c_41693 (show bn 40 40 (40 : Int32) from bn_k (by decide))) (by decide)
      exact J_64 y34_2 _ _  _ _ _ I (bn_w B_41694 (by decide)) Y (lv_sub hl [0, 1, 2] rfl)
    · refine lv_iload_n hx hb dX5_readOne_40 rfl (lv_at hl 2 rfl) ?_
      refine lv_bipush (v := 45) hx hb dX5_readOne_41 (by decide) ?_
      refine lv_icmp_eq (tgt := 64) hx hb dX5_readOne_43 (by decide) (fun c_41695 => ?_) (fun c_41695 => ?_)
      · have B_41696 : bn 45 45 y34_2 := bn_w (bn_eq c_41695 (show bn 45 45 (45 : Int32) from bn_k (by decide))) (by decide)
        exact J_64 y34_2 _ _  _ _ _ I (bn_w B_41696 (by decide)) Y (lv_sub hl [0, 1, 2] rfl)
      · refine lv_iload_n hx hb dX5_readOne_46 rfl (lv_at hl 2 rfl) ?_
        refine lv_bipush (v := 22) hx hb dX5_readOne_47 (by decide) ?_
        refine lv_icmp_eq (tgt := 64) hx hb dX5_readOne_49 (by decide) (fun c_41697 => ?_) (fun c_41697 => ?_)
        · have B_41698 : bn 22 22 y34_2 := bn_w (bn_eq c_41697 (show bn 22 22 (22 : Int32) from bn_k (by decide))) (by decide)
          exact J_64 y34_2 _ _  _ _ _ I (bn_w B_41698 (by decide)) Y (lv_sub hl [0, 1, 2] rfl)
        · refine lv_iload_n hx hb dX5_readOne_52 rfl (lv_at hl 2 rfl) ?_
          refine lv_bipush (v := 23) hx hb dX5_readOne_53 (by decide) ?_
          refine lv_icmp_eq (tgt := 64) hx hb dX5_readOne_55 (by decide) (fun c_41699 => ?_) (fun c_41699 => ?_)
          · have B_41700 : bn 23 23 y34_2 := bn_w (bn_eq c_41699 (show bn 23 23 (23 : Int32) from bn_k (by decide))) (by decide)
            exact J_64 y34_2 _ _  _ _ _ I (bn_w B_41700 (by decide)) Y (lv_sub hl [0, 1, 2] rfl)
          · refine lv_aload_n hx hb dX5_readOne_58 rfl (lv_at hl 0 rfl) ?_
            refine lv_iconst (v := 1) hx hb dX5_readOne_59 (by decide) ?_
            refine cVi (As := [.int 1]) (rest := []) S Y (x_X5_fail (l := l) I hW hT hQ) cw_X5_fail km5_121 (I.opo (k := 2) (j := 0) (by decide) rfl).choose_spec.1 ok_X5.1 rfl rfl ⟨Nat.le_of_ble_eq_true rfl, Nat.le_of_ble_eq_true rfl⟩ hl.1 rfl (Nat.le_of_ble_eq_true rfl) ⟨Nat.le_of_ble_eq_true rfl, Nat.le_of_ble_eq_true rfl⟩ dX5_readOne_60 (fun r_41703 L_41701 f_41702 H locs hr_41703 Y => ?_)
            obtain ⟨er_41703, I⟩ := hr_41703
            exact prI (post := fun r L1 f1 => bn 0 1 r ∧ SH (spC (RF 30 t) fc tc w q) nnC G ad L1 f1) S Y (nw_b (bn_w er_41703 (by decide))) (by decide) (by decide) hA1 ⟨bn_w er_41703 (by decide), I⟩ dX5_readOne_63
  refine lv_aload_n hx hb dX5_readOne_0 rfl (lv_at hl 0 rfl) ?_
  obtain ⟨v_41704, v_41706, v_41708, v_41710, v_41712, v_41714, v_41716, v_41718, v_41720, p_ad_2_0, b_41705, b_41707, b_41709, b_41711, b_41713, b_41715, b_41717, b_41719, b_41721⟩ := opnC_2r (j := 0) I (by decide)
  have p_ad_2_0 : pt L f (ad 2 0) (.inr (5, [.ref (ad 50 0), .ref (ad 51 0), .ref (ad 52 0), .ref (ad 53 0), .int v_41704, .int v_41706, .int v_41708, .int v_41710, .int v_41712, .int v_41714, .int v_41716, .ref (ad 30 t), .int v_41718, .int v_41720])) := p_ad_2_0
  refine pg_get S Y ok_X5 7 (by decide) kf5_52 (v := .int v_41710) p_ad_2_0 rfl dX5_readOne_1 ?_
  refine lv_istore_n (lv' := [(2, .int v_41710), (0, .ref (ad 2 0)), (1, .int i1)]) hx hb dX5_readOne_4 rfl hl (by decide) rfl (fun ls hl => ?_)
  refine lv_iload_n hx hb dX5_readOne_5 rfl (lv_at hl 0 rfl) ?_
  refine lv_sipush (v := 1000) hx hb dX5_readOne_6 (by decide) ?_
  refine lv_icmp_ne (tgt := 17) hx hb dX5_readOne_9 (by decide) (fun c_41722 => ?_) (fun c_41722 => ?_)
  · refine lv_iload_n hx hb dX5_readOne_17 rfl (lv_at hl 0 rfl) ?_
    refine lv_bipush (v := 9) hx hb dX5_readOne_18 (by decide) ?_
    refine lv_icmp_lt (tgt := 34) hx hb dX5_readOne_20 (by decide) (fun c_41724 => ?_) (fun c_41724 => ?_)
    · have B_41725 : bn (-2147483648) 8 v_41710 := bn_w (bn_ltl c_41724 (bn_any v_41710) (show bn 9 9 (9 : Int32) from bn_k (by decide))) (by decide)
      exact J_34 v_41710 _ _  _ _ _ I  Y (lv_sub hl [1, 2, 0] rfl)
    · have B_41726 : bn 9 2147483647 v_41710 := bn_w (bn_gel c_41724 (bn_any v_41710) (show bn 9 9 (9 : Int32) from bn_k (by decide))) (by decide)
      refine lv_iload_n hx hb dX5_readOne_23 rfl (lv_at hl 0 rfl) ?_
      refine lv_bipush (v := 18) hx hb dX5_readOne_24 (by decide) ?_
      refine lv_icmp_gt (tgt := 34) hx hb dX5_readOne_26 (by decide) (fun c_41727 => ?_) (fun c_41727 => ?_)
      · have B_41728 : bn 19 2147483647 v_41710 := bn_w (bn_ltr c_41727 (show bn 18 18 (18 : Int32) from bn_k (by decide)) B_41726) (by decide)
        exact J_34 v_41710 _ _  _ _ _ I  Y (lv_sub hl [1, 2, 0] rfl)
      · have B_41729 : bn 9 18 v_41710 := bn_w (bn_ger c_41727 (show bn 18 18 (18 : Int32) from bn_k (by decide)) B_41726) (by decide)
        refine lv_aload_n hx hb dX5_readOne_29 rfl (lv_at hl 1 rfl) ?_
        refine cVi (As := []) (rest := []) S Y (x_X5_readName (l := l) (t := t) I hW hT hQ ht) cw_X5_readName km5_178 p_ad_2_0 ok_X5.1 rfl rfl ⟨Nat.le_of_ble_eq_true rfl, Nat.le_of_ble_eq_true rfl⟩ hl.1 rfl (Nat.le_of_ble_eq_true rfl) ⟨Nat.le_of_ble_eq_true rfl, Nat.le_of_ble_eq_true rfl⟩ dX5_readOne_30 (fun r_41732 L_41730 f_41731 H locs hr_41732 Y => ?_)
        obtain ⟨er_41732, I⟩ := hr_41732
        exact prI (post := fun r L1 f1 => bn 0 1 r ∧ SH (spC (RF 30 t) fc tc w q) nnC G ad L1 f1) S Y (nw_b (bn_w er_41732 (by decide))) (by decide) (by decide) hA1 ⟨bn_w er_41732 (by decide), I⟩ dX5_readOne_33
  · have B_41723 : bn 1000 1000 v_41710 := bn_w (bn_eq c_41722 (show bn 1000 1000 (1000 : Int32) from bn_k (by decide))) (by decide)
    refine lv_aload_n hx hb dX5_readOne_12 rfl (lv_at hl 1 rfl) ?_
    refine cVi (As := []) (rest := []) S Y (x_X5_readPlainNumber (l := l) (t := t) I hW hT hQ ht) cw_X5_readPlainNumber km5_175 p_ad_2_0 ok_X5.1 rfl rfl ⟨Nat.le_of_ble_eq_true rfl, Nat.le_of_ble_eq_true rfl⟩ hl.1 rfl (Nat.le_of_ble_eq_true rfl) ⟨Nat.le_of_ble_eq_true rfl, Nat.le_of_ble_eq_true rfl⟩ dX5_readOne_13 (fun r_41735 L_41733 f_41734 H locs hr_41735 Y => ?_)
    obtain ⟨er_41735, I⟩ := hr_41735
    exact prI (post := fun r L1 f1 => bn 0 1 r ∧ SH (spC (RF 30 t) fc tc w q) nnC G ad L1 f1) S Y (nw_b (bn_w er_41735 (by decide))) (by decide) (by decide) hA1 ⟨bn_w er_41735 (by decide), I⟩ dX5_readOne_16
set_option maxHeartbeats 4000000 in
set_option maxRecDepth 100000 in
theorem x_X5_readProduct_z {l : Launch} {G : GG}  {L : List Nat} {f : HF} {ad : Nat → Nat → Nat} {fc : Int × Int} {tc w : Nat → Int × Int} {q : Nat → (Nat → Int32) → Prop} {t : Nat} {i1 : Int32} (I : SH (spC (RF 30 t) fc tc w q) nnC G ad L f) (hW : WBp w 8) (hT : WBp tc 4) (hQ : QIp q) (ht : t < 4) (b_i1 : bn 8 8 i1) : PMi l yX5_readProduct cX5_readProduct 4 .boolean 9 0 0 G [.ref (ad 2 0), .int i1] L f (fun r L1 f1 => bn 0 1 r ∧ SH (spC (RF 30 t) fc tc w q) nnC G ad L1 f1) := by
  refine PMi.of (post := fun r L1 f1 => bn 0 1 r ∧ SH (spC (RF 30 t) fc tc w q) nnC G ad L1 f1) (own := RX5) (by decide) rfl (Nat.le_of_ble_eq_true rfl) (fun sz p e s m args below meth c A ls hA1 hname S Y hl => ?_)
  have hx := S.hx
  have hb := S.hb
  have hl : lv_has ls 4 [(0, .ref (ad 2 0)), (1, .int i1)] := hl
  have J_12 : ∀ (n12 : Nat) (y12_2 : Int32) (L_12 : List Nat) (f_12 : HF) (H : Heap) (locs : List Loc) (ls : Array Slot), (SH (spC (RF 30 t) fc tc w q) nnC G ad L_12 f_12) → (bn 0 300 y12_2) → (((300 : Int) - y12_2.toInt).toNat = n12) → (DY G A s [] L_12 f_12 H locs) → (lv_has ls 4 [(0, .ref (ad 2 0)), (1, .int i1), (2, .int y12_2)]) → W p l e (rmD 9 0 0) s m args below meth c H locs (0) (0) (MQ below (va_Qi (fun r (u : List Nat × HF) => (fun r L1 f1 => bn 0 1 r ∧ SH (spC (RF 30 t) fc tc w q) nnC G ad L1 f1) r u.1 u.2) (fun u t => pOut G (va_A (va_pl L f) sz) u.1 u.2 t) (va_A (va_pl L f) sz)) args s 0 0 A) (F0 m 12 ls []) := by
    intro n12
    induction n12 using Nat.strongRecOn with
    | _ n12 ih12 =>
      intro y12_2 L_12 f_12 H locs ls I b_y12_2 hm12 Y hl
      refine lv_iload_n hx hb dX5_readProduct_12 rfl (lv_at hl 2 rfl) ?_
      refine lv_sipush (v := 300) hx hb dX5_readProduct_13 (by decide) ?_
      refine lv_icmp_ge (tgt := 84) hx hb dX5_readProduct_16 (by decide) (fun c_44952 => ?_) (fun c_44952 => ?_)
      · have B_44953 : bn 300 300 y12_2 := bn_w (bn_ler c_44952 (show bn 300 300 (300 : Int32) from bn_k (by decide)) b_y12_2) (by decide)
        refine lv_iconst (v := 1) hx hb dX5_readProduct_84 (by decide) ?_
        exact prI (post := fun r L1 f1 => bn 0 1 r ∧ SH (spC (RF 30 t) fc tc w q) nnC G ad L1 f1) S Y rfl (by decide) (by decide) hA1 ⟨bn_w (show bn 1 1 (1 : Int32) from bn_k (by decide)) (by decide), I⟩ dX5_readProduct_85
      · have B_44954 : bn 0 299 y12_2 := bn_w (bn_gtr c_44952 (show bn 300 300 (300 : Int32) from bn_k (by decide)) b_y12_2) (by decide)
        refine lv_aload_n hx hb dX5_readProduct_19 rfl (lv_at hl 0 rfl) ?_
        obtain ⟨v_44955, v_44957, v_44959, v_44961, v_44963, v_44965, v_44967, v_44969, v_44971, p_ad_2_0, b_44956, b_44958, b_44960, b_44962, b_44964, b_44966, b_44968, b_44970, b_44972⟩ := opnC_2r (j := 0) I (by decide)
        have p_ad_2_0 : pt L_12 f_12 (ad 2 0) (.inr (5, [.ref (ad 50 0), .ref (ad 51 0), .ref (ad 52 0), .ref (ad 53 0), .int v_44955, .int v_44957, .int v_44959, .int v_44961, .int v_44963, .int v_44965, .int v_44967, .ref (ad 30 t), .int v_44969, .int v_44971])) := p_ad_2_0
        refine pg_get S Y ok_X5 7 (by decide) kf5_52 (v := .int v_44961) p_ad_2_0 rfl dX5_readProduct_20 ?_
        refine lv_bipush (v := 42) hx hb dX5_readProduct_23 (by decide) ?_
        refine lv_icmp_eq (tgt := 37) hx hb dX5_readProduct_25 (by decide) (fun c_44973 => ?_) (fun c_44973 => ?_)
        · have B_44974 : bn 42 42 v_44961 := bn_w (bn_eq c_44973 (show bn 42 42 (42 : Int32) from bn_k (by decide))) (by decide)
          refine lv_aload_n hx hb dX5_readProduct_37 rfl (lv_at hl 0 rfl) ?_
          refine pg_get S Y ok_X5 7 (by decide) kf5_52 (v := .int v_44961) p_ad_2_0 rfl dX5_readProduct_38 ?_
          refine lv_bipush (v := 42) hx hb dX5_readProduct_41 (by decide) ?_
          refine lv_icmp_ne (tgt := 51) hx hb dX5_readProduct_43 (by decide) (fun h => absurd c_44973 h) (fun _ => ?_)
          refine lv_bipush (v := 10) hx hb dX5_readProduct_46 (by decide) ?_
          refine lv_goto (tgt := 53) hx hb dX5_readProduct_48 (by decide) ?_
          refine lv_istore_n (lv' := [(3, .int 10), (0, .ref (ad 2 0)), (1, .int i1), (2, .int y12_2)]) hx hb dX5_readProduct_53 rfl hl (by decide) rfl (fun ls hl => ?_)
          refine lv_aload_n hx hb dX5_readProduct_54 rfl (lv_at hl 1 rfl) ?_
          refine cVv (As := []) (rest := []) S Y (x_X5_step (l := l) I hW hT hQ) cw_X5_step km5_49 p_ad_2_0 ok_X5.1 rfl rfl ⟨Nat.le_of_ble_eq_true rfl, Nat.le_of_ble_eq_true rfl⟩ hl.1 rfl (Nat.le_of_ble_eq_true rfl) ⟨Nat.le_of_ble_eq_true rfl, Nat.le_of_ble_eq_true rfl⟩ dX5_readProduct_55 (fun L_44975 f_44976 H locs I Y => ?_)
          refine lv_aload_n hx hb dX5_readProduct_58 rfl (lv_at hl 1 rfl) ?_
          refine lv_iload_n hx hb dX5_readProduct_59 rfl (lv_at hl 2 rfl) ?_
          refine cVi (As := [.int i1]) (rest := []) S Y (x_X5_readOne_z (l := l) (t := t) I hW hT hQ ht (bn_w b_i1 (by decide))) cw_X5_readOne km5_172 (I.opo (k := 2) (j := 0) (by decide) rfl).choose_spec.1 ok_X5.1 rfl rfl ⟨Nat.le_of_ble_eq_true rfl, Nat.le_of_ble_eq_true rfl⟩ hl.1 rfl (Nat.le_of_ble_eq_true rfl) ⟨Nat.le_of_ble_eq_true rfl, Nat.le_of_ble_eq_true rfl⟩ dX5_readProduct_60 (fun r_44979 L_44977 f_44978 H locs hr_44979 Y => ?_)
          obtain ⟨er_44979, I⟩ := hr_44979
          refine lv_if_ne (tgt := 68) hx hb dX5_readProduct_63 (by decide) (fun c_44980 => ?_) (fun c_44980 => ?_)
          · have B_44981 : bn 1 1 r_44979 := bn_w (bn_nel c_44980 er_44979 (show bn 0 0 (0 : Int32) from bn_k (by decide))) (by decide)
            refine lv_aload_n hx hb dX5_readProduct_68 rfl (lv_at hl 1 rfl) ?_
            obtain ⟨v_44983, v_44985, v_44987, v_44989, v_44991, v_44993, v_44995, v_44997, v_44999, p_ad_2_0, b_44984, b_44986, b_44988, b_44990, b_44992, b_44994, b_44996, b_44998, b_45000⟩ := opnC_2r (j := 0) I (by decide)
            have p_ad_2_0 : pt L_44977 f_44978 (ad 2 0) (.inr (5, [.ref (ad 50 0), .ref (ad 51 0), .ref (ad 52 0), .ref (ad 53 0), .int v_44983, .int v_44985, .int v_44987, .int v_44989, .int v_44991, .int v_44993, .int v_44995, .ref (ad 30 t), .int v_44997, .int v_44999])) := p_ad_2_0
            refine pg_get S Y ok_X5 11 (by decide) kf5_34 (v := .ref (ad 30 t)) p_ad_2_0 rfl dX5_readProduct_69 ?_
            refine lv_iload_n hx hb dX5_readProduct_72 rfl (lv_at hl 0 rfl) ?_
            refine lv_iconst (v := 0) hx hb dX5_readProduct_73 (by decide) ?_
            refine cVi (As := [.int 10, .int 0]) (rest := []) S Y (x_X7_add (l := l) (j := t) I hW hT hQ (show t < 8 from by omega)) cw_X7_add km5_169 (I.opo (k := 30) (j := t) (show t < 8 from by omega) rfl).choose_spec.1 ok_X7.1 rfl rfl ⟨Nat.le_of_ble_eq_true rfl, Nat.le_of_ble_eq_true rfl⟩ hl.1 rfl (Nat.le_of_ble_eq_true rfl) ⟨Nat.le_of_ble_eq_true rfl, Nat.le_of_ble_eq_true rfl⟩ dX5_readProduct_74 (fun r_45003 L_45001 f_45002 H locs I Y => ?_)
            refine lv_pop hx hb dX5_readProduct_77 rfl ?_
            obtain ⟨x_45004, ex_45004⟩ : ∃ z : Int32, z = y12_2 + 1 := ⟨_, rfl⟩
            refine lv_iinc (v := x_45004) (lv' := [(2, .int x_45004), (3, .int 10), (0, .ref (ad 2 0)), (1, .int i1)]) hx hb dX5_readProduct_78 hl (k := 3) rfl (by rw [ex_45004]; rfl) (by decide) rfl (fun ls hl => ?_)
            refine lv_goto (tgt := 12) hx hb dX5_readProduct_81 (by decide) ?_
            exact ih12 _ (by rw [← hm12]; exact ms_up (m := 1) ex_45004 (show bn 1 1 (1 : Int32) from bn_k (by decide)) B_44954 (bn_w (bn_eq ex_45004 (bn_add B_44954 (show bn 1 1 (1 : Int32) from bn_k (by decide)) (by decide))) (by decide) : bn 0 300 x_45004) (by decide)) x_45004 _ _  _ _ _ I (bn_w (bn_eq ex_45004 (bn_add B_44954 (show bn 1 1 (1 : Int32) from bn_k (by decide)) (by decide))) (by decide)) rfl Y (lv_sub hl [2, 3, 0] rfl)
          · have B_44982 : bn 0 0 r_44979 := bn_w (bn_eq c_44980 (show bn 0 0 (0 : Int32) from bn_k (by decide))) (by decide)
            refine lv_iconst (v := 0) hx hb dX5_readProduct_66 (by decide) ?_
            exact prI (post := fun r L1 f1 => bn 0 1 r ∧ SH (spC (RF 30 t) fc tc w q) nnC G ad L1 f1) S Y rfl (by decide) (by decide) hA1 ⟨bn_w (show bn 0 0 (0 : Int32) from bn_k (by decide)) (by decide), I⟩ dX5_readProduct_67
        · refine lv_aload_n hx hb dX5_readProduct_28 rfl (lv_at hl 0 rfl) ?_
          refine pg_get S Y ok_X5 7 (by decide) kf5_52 (v := .int v_44961) p_ad_2_0 rfl dX5_readProduct_29 ?_
          refine lv_bipush (v := 47) hx hb dX5_readProduct_32 (by decide) ?_
          refine lv_icmp_ne (tgt := 84) hx hb dX5_readProduct_34 (by decide) (fun c_45005 => ?_) (fun c_45005 => ?_)
          · refine lv_iconst (v := 1) hx hb dX5_readProduct_84 (by decide) ?_
            exact prI (post := fun r L1 f1 => bn 0 1 r ∧ SH (spC (RF 30 t) fc tc w q) nnC G ad L1 f1) S Y rfl (by decide) (by decide) hA1 ⟨bn_w (show bn 1 1 (1 : Int32) from bn_k (by decide)) (by decide), I⟩ dX5_readProduct_85
          · have B_45006 : bn 47 47 v_44961 := bn_w (bn_eq c_45005 (show bn 47 47 (47 : Int32) from bn_k (by decide))) (by decide)
            refine lv_aload_n hx hb dX5_readProduct_37 rfl (lv_at hl 0 rfl) ?_
            refine pg_get S Y ok_X5 7 (by decide) kf5_52 (v := .int v_44961) p_ad_2_0 rfl dX5_readProduct_38 ?_
            refine lv_bipush (v := 42) hx hb dX5_readProduct_41 (by decide) ?_
            refine lv_icmp_ne (tgt := 51) hx hb dX5_readProduct_43 (by decide) (fun _ => ?_) (fun h => absurd h c_44973)
            refine lv_bipush (v := 11) hx hb dX5_readProduct_51 (by decide) ?_
            refine lv_istore_n (lv' := [(3, .int 11), (0, .ref (ad 2 0)), (1, .int i1), (2, .int y12_2)]) hx hb dX5_readProduct_53 rfl hl (by decide) rfl (fun ls hl => ?_)
            refine lv_aload_n hx hb dX5_readProduct_54 rfl (lv_at hl 1 rfl) ?_
            refine cVv (As := []) (rest := []) S Y (x_X5_step (l := l) I hW hT hQ) cw_X5_step km5_49 p_ad_2_0 ok_X5.1 rfl rfl ⟨Nat.le_of_ble_eq_true rfl, Nat.le_of_ble_eq_true rfl⟩ hl.1 rfl (Nat.le_of_ble_eq_true rfl) ⟨Nat.le_of_ble_eq_true rfl, Nat.le_of_ble_eq_true rfl⟩ dX5_readProduct_55 (fun L_45007 f_45008 H locs I Y => ?_)
            refine lv_aload_n hx hb dX5_readProduct_58 rfl (lv_at hl 1 rfl) ?_
            refine lv_iload_n hx hb dX5_readProduct_59 rfl (lv_at hl 2 rfl) ?_
            refine cVi (As := [.int i1]) (rest := []) S Y (x_X5_readOne_z (l := l) (t := t) I hW hT hQ ht (bn_w b_i1 (by decide))) cw_X5_readOne km5_172 (I.opo (k := 2) (j := 0) (by decide) rfl).choose_spec.1 ok_X5.1 rfl rfl ⟨Nat.le_of_ble_eq_true rfl, Nat.le_of_ble_eq_true rfl⟩ hl.1 rfl (Nat.le_of_ble_eq_true rfl) ⟨Nat.le_of_ble_eq_true rfl, Nat.le_of_ble_eq_true rfl⟩ dX5_readProduct_60 (fun r_45011 L_45009 f_45010 H locs hr_45011 Y => ?_)
            obtain ⟨er_45011, I⟩ := hr_45011
            refine lv_if_ne (tgt := 68) hx hb dX5_readProduct_63 (by decide) (fun c_45012 => ?_) (fun c_45012 => ?_)
            · have B_45013 : bn 1 1 r_45011 := bn_w (bn_nel c_45012 er_45011 (show bn 0 0 (0 : Int32) from bn_k (by decide))) (by decide)
              refine lv_aload_n hx hb dX5_readProduct_68 rfl (lv_at hl 1 rfl) ?_
              obtain ⟨v_45015, v_45017, v_45019, v_45021, v_45023, v_45025, v_45027, v_45029, v_45031, p_ad_2_0, b_45016, b_45018, b_45020, b_45022, b_45024, b_45026, b_45028, b_45030, b_45032⟩ := opnC_2r (j := 0) I (by decide)
              have p_ad_2_0 : pt L_45009 f_45010 (ad 2 0) (.inr (5, [.ref (ad 50 0), .ref (ad 51 0), .ref (ad 52 0), .ref (ad 53 0), .int v_45015, .int v_45017, .int v_45019, .int v_45021, .int v_45023, .int v_45025, .int v_45027, .ref (ad 30 t), .int v_45029, .int v_45031])) := p_ad_2_0
              refine pg_get S Y ok_X5 11 (by decide) kf5_34 (v := .ref (ad 30 t)) p_ad_2_0 rfl dX5_readProduct_69 ?_
              refine lv_iload_n hx hb dX5_readProduct_72 rfl (lv_at hl 0 rfl) ?_
              refine lv_iconst (v := 0) hx hb dX5_readProduct_73 (by decide) ?_
              refine cVi (As := [.int 11, .int 0]) (rest := []) S Y (x_X7_add (l := l) (j := t) I hW hT hQ (show t < 8 from by omega)) cw_X7_add km5_169 (I.opo (k := 30) (j := t) (show t < 8 from by omega) rfl).choose_spec.1 ok_X7.1 rfl rfl ⟨Nat.le_of_ble_eq_true rfl, Nat.le_of_ble_eq_true rfl⟩ hl.1 rfl (Nat.le_of_ble_eq_true rfl) ⟨Nat.le_of_ble_eq_true rfl, Nat.le_of_ble_eq_true rfl⟩ dX5_readProduct_74 (fun r_45035 L_45033 f_45034 H locs I Y => ?_)
              refine lv_pop hx hb dX5_readProduct_77 rfl ?_
              obtain ⟨x_45036, ex_45036⟩ : ∃ z : Int32, z = y12_2 + 1 := ⟨_, rfl⟩
              refine lv_iinc (v := x_45036) (lv' := [(2, .int x_45036), (3, .int 11), (0, .ref (ad 2 0)), (1, .int i1)]) hx hb dX5_readProduct_78 hl (k := 3) rfl (by rw [ex_45036]; rfl) (by decide) rfl (fun ls hl => ?_)
              refine lv_goto (tgt := 12) hx hb dX5_readProduct_81 (by decide) ?_
              exact ih12 _ (by rw [← hm12]; exact ms_up (m := 1) ex_45036 (show bn 1 1 (1 : Int32) from bn_k (by decide)) B_44954 (bn_w (bn_eq ex_45036 (bn_add B_44954 (show bn 1 1 (1 : Int32) from bn_k (by decide)) (by decide))) (by decide) : bn 0 300 x_45036) (by decide)) x_45036 _ _  _ _ _ I (bn_w (bn_eq ex_45036 (bn_add B_44954 (show bn 1 1 (1 : Int32) from bn_k (by decide)) (by decide))) (by decide)) rfl Y (lv_sub hl [2, 3, 0] rfl)
            · have B_45014 : bn 0 0 r_45011 := bn_w (bn_eq c_45012 (show bn 0 0 (0 : Int32) from bn_k (by decide))) (by decide)
              refine lv_iconst (v := 0) hx hb dX5_readProduct_66 (by decide) ?_
              exact prI (post := fun r L1 f1 => bn 0 1 r ∧ SH (spC (RF 30 t) fc tc w q) nnC G ad L1 f1) S Y rfl (by decide) (by decide) hA1 ⟨bn_w (show bn 0 0 (0 : Int32) from bn_k (by decide)) (by decide), I⟩ dX5_readProduct_67
  refine lv_aload_n hx hb dX5_readProduct_0 rfl (lv_at hl 0 rfl) ?_
  refine lv_iload_n hx hb dX5_readProduct_1 rfl (lv_at hl 1 rfl) ?_
  refine cVi (As := [.int i1]) (rest := []) S Y (x_X5_readOne_z (l := l) (t := t) I hW hT hQ ht (bn_w b_i1 (by decide))) cw_X5_readOne km5_172 (I.opo (k := 2) (j := 0) (by decide) rfl).choose_spec.1 ok_X5.1 rfl rfl ⟨Nat.le_of_ble_eq_true rfl, Nat.le_of_ble_eq_true rfl⟩ hl.1 rfl (Nat.le_of_ble_eq_true rfl) ⟨Nat.le_of_ble_eq_true rfl, Nat.le_of_ble_eq_true rfl⟩ dX5_readProduct_2 (fun r_45039 L_45037 f_45038 H locs hr_45039 Y => ?_)
  obtain ⟨er_45039, I⟩ := hr_45039
  refine lv_if_ne (tgt := 10) hx hb dX5_readProduct_5 (by decide) (fun c_45040 => ?_) (fun c_45040 => ?_)
  · have B_45041 : bn 1 1 r_45039 := bn_w (bn_nel c_45040 er_45039 (show bn 0 0 (0 : Int32) from bn_k (by decide))) (by decide)
    refine lv_iconst (v := 0) hx hb dX5_readProduct_10 (by decide) ?_
    refine lv_istore_n (lv' := [(2, .int 0), (0, .ref (ad 2 0)), (1, .int i1)]) hx hb dX5_readProduct_11 rfl hl (by decide) rfl (fun ls hl => ?_)
    exact J_12 _ 0 _ _  _ _ _ I (bn_w (show bn 0 0 (0 : Int32) from bn_k (by decide)) (by decide)) rfl Y (lv_sub hl [1, 2, 0] rfl)
  · have B_45042 : bn 0 0 r_45039 := bn_w (bn_eq c_45040 (show bn 0 0 (0 : Int32) from bn_k (by decide))) (by decide)
    refine lv_iconst (v := 0) hx hb dX5_readProduct_8 (by decide) ?_
    exact prI (post := fun r L1 f1 => bn 0 1 r ∧ SH (spC (RF 30 t) fc tc w q) nnC G ad L1 f1) S Y rfl (by decide) (by decide) hA1 ⟨bn_w (show bn 0 0 (0 : Int32) from bn_k (by decide)) (by decide), I⟩ dX5_readProduct_9
set_option maxHeartbeats 4000000 in
set_option maxRecDepth 100000 in
theorem x_X5_readSum_z {l : Launch} {G : GG}  {L : List Nat} {f : HF} {ad : Nat → Nat → Nat} {fc : Int × Int} {tc w : Nat → Int × Int} {q : Nat → (Nat → Int32) → Prop} {t : Nat} {i1 : Int32} (I : SH (spC (RF 30 t) fc tc w q) nnC G ad L f) (hW : WBp w 8) (hT : WBp tc 4) (hQ : QIp q) (ht : t < 4) (b_i1 : bn 8 8 i1) : PMi l yX5_readSum cX5_readSum 4 .boolean 10 0 0 G [.ref (ad 2 0), .int i1] L f (fun r L1 f1 => bn 0 1 r ∧ SH (spC (RF 30 t) fc tc w q) nnC G ad L1 f1) := by
  refine PMi.of (post := fun r L1 f1 => bn 0 1 r ∧ SH (spC (RF 30 t) fc tc w q) nnC G ad L1 f1) (own := RX5) (by decide) rfl (Nat.le_of_ble_eq_true rfl) (fun sz p e s m args below meth c A ls hA1 hname S Y hl => ?_)
  have hx := S.hx
  have hb := S.hb
  have hl : lv_has ls 4 [(0, .ref (ad 2 0)), (1, .int i1)] := hl
  have J_12 : ∀ (n12 : Nat) (y12_2 : Int32) (L_12 : List Nat) (f_12 : HF) (H : Heap) (locs : List Loc) (ls : Array Slot), (SH (spC (RF 30 t) fc tc w q) nnC G ad L_12 f_12) → (bn 0 300 y12_2) → (((300 : Int) - y12_2.toInt).toNat = n12) → (DY G A s [] L_12 f_12 H locs) → (lv_has ls 4 [(0, .ref (ad 2 0)), (1, .int i1), (2, .int y12_2)]) → W p l e (rmD 10 0 0) s m args below meth c H locs (0) (0) (MQ below (va_Qi (fun r (u : List Nat × HF) => (fun r L1 f1 => bn 0 1 r ∧ SH (spC (RF 30 t) fc tc w q) nnC G ad L1 f1) r u.1 u.2) (fun u t => pOut G (va_A (va_pl L f) sz) u.1 u.2 t) (va_A (va_pl L f) sz)) args s 0 0 A) (F0 m 12 ls []) := by
    intro n12
    induction n12 using Nat.strongRecOn with
    | _ n12 ih12 =>
      intro y12_2 L_12 f_12 H locs ls I b_y12_2 hm12 Y hl
      refine lv_iload_n hx hb dX5_readSum_12 rfl (lv_at hl 2 rfl) ?_
      refine lv_sipush (v := 300) hx hb dX5_readSum_13 (by decide) ?_
      refine lv_icmp_ge (tgt := 84) hx hb dX5_readSum_16 (by decide) (fun c_48259 => ?_) (fun c_48259 => ?_)
      · have B_48260 : bn 300 300 y12_2 := bn_w (bn_ler c_48259 (show bn 300 300 (300 : Int32) from bn_k (by decide)) b_y12_2) (by decide)
        refine lv_iconst (v := 1) hx hb dX5_readSum_84 (by decide) ?_
        exact prI (post := fun r L1 f1 => bn 0 1 r ∧ SH (spC (RF 30 t) fc tc w q) nnC G ad L1 f1) S Y rfl (by decide) (by decide) hA1 ⟨bn_w (show bn 1 1 (1 : Int32) from bn_k (by decide)) (by decide), I⟩ dX5_readSum_85
      · have B_48261 : bn 0 299 y12_2 := bn_w (bn_gtr c_48259 (show bn 300 300 (300 : Int32) from bn_k (by decide)) b_y12_2) (by decide)
        refine lv_aload_n hx hb dX5_readSum_19 rfl (lv_at hl 0 rfl) ?_
        obtain ⟨v_48262, v_48264, v_48266, v_48268, v_48270, v_48272, v_48274, v_48276, v_48278, p_ad_2_0, b_48263, b_48265, b_48267, b_48269, b_48271, b_48273, b_48275, b_48277, b_48279⟩ := opnC_2r (j := 0) I (by decide)
        have p_ad_2_0 : pt L_12 f_12 (ad 2 0) (.inr (5, [.ref (ad 50 0), .ref (ad 51 0), .ref (ad 52 0), .ref (ad 53 0), .int v_48262, .int v_48264, .int v_48266, .int v_48268, .int v_48270, .int v_48272, .int v_48274, .ref (ad 30 t), .int v_48276, .int v_48278])) := p_ad_2_0
        refine pg_get S Y ok_X5 7 (by decide) kf5_52 (v := .int v_48268) p_ad_2_0 rfl dX5_readSum_20 ?_
        refine lv_bipush (v := 43) hx hb dX5_readSum_23 (by decide) ?_
        refine lv_icmp_eq (tgt := 37) hx hb dX5_readSum_25 (by decide) (fun c_48280 => ?_) (fun c_48280 => ?_)
        · have B_48281 : bn 43 43 v_48268 := bn_w (bn_eq c_48280 (show bn 43 43 (43 : Int32) from bn_k (by decide))) (by decide)
          refine lv_aload_n hx hb dX5_readSum_37 rfl (lv_at hl 0 rfl) ?_
          refine pg_get S Y ok_X5 7 (by decide) kf5_52 (v := .int v_48268) p_ad_2_0 rfl dX5_readSum_38 ?_
          refine lv_bipush (v := 43) hx hb dX5_readSum_41 (by decide) ?_
          refine lv_icmp_ne (tgt := 51) hx hb dX5_readSum_43 (by decide) (fun h => absurd c_48280 h) (fun _ => ?_)
          refine lv_bipush (v := 8) hx hb dX5_readSum_46 (by decide) ?_
          refine lv_goto (tgt := 53) hx hb dX5_readSum_48 (by decide) ?_
          refine lv_istore_n (lv' := [(3, .int 8), (0, .ref (ad 2 0)), (1, .int i1), (2, .int y12_2)]) hx hb dX5_readSum_53 rfl hl (by decide) rfl (fun ls hl => ?_)
          refine lv_aload_n hx hb dX5_readSum_54 rfl (lv_at hl 1 rfl) ?_
          refine cVv (As := []) (rest := []) S Y (x_X5_step (l := l) I hW hT hQ) cw_X5_step km5_49 p_ad_2_0 ok_X5.1 rfl rfl ⟨Nat.le_of_ble_eq_true rfl, Nat.le_of_ble_eq_true rfl⟩ hl.1 rfl (Nat.le_of_ble_eq_true rfl) ⟨Nat.le_of_ble_eq_true rfl, Nat.le_of_ble_eq_true rfl⟩ dX5_readSum_55 (fun L_48282 f_48283 H locs I Y => ?_)
          refine lv_aload_n hx hb dX5_readSum_58 rfl (lv_at hl 1 rfl) ?_
          refine lv_iload_n hx hb dX5_readSum_59 rfl (lv_at hl 2 rfl) ?_
          refine cVi (As := [.int i1]) (rest := []) S Y (x_X5_readProduct_z (l := l) (t := t) I hW hT hQ ht (bn_w b_i1 (by decide))) cw_X5_readProduct km5_166 (I.opo (k := 2) (j := 0) (by decide) rfl).choose_spec.1 ok_X5.1 rfl rfl ⟨Nat.le_of_ble_eq_true rfl, Nat.le_of_ble_eq_true rfl⟩ hl.1 rfl (Nat.le_of_ble_eq_true rfl) ⟨Nat.le_of_ble_eq_true rfl, Nat.le_of_ble_eq_true rfl⟩ dX5_readSum_60 (fun r_48286 L_48284 f_48285 H locs hr_48286 Y => ?_)
          obtain ⟨er_48286, I⟩ := hr_48286
          refine lv_if_ne (tgt := 68) hx hb dX5_readSum_63 (by decide) (fun c_48287 => ?_) (fun c_48287 => ?_)
          · have B_48288 : bn 1 1 r_48286 := bn_w (bn_nel c_48287 er_48286 (show bn 0 0 (0 : Int32) from bn_k (by decide))) (by decide)
            refine lv_aload_n hx hb dX5_readSum_68 rfl (lv_at hl 1 rfl) ?_
            obtain ⟨v_48290, v_48292, v_48294, v_48296, v_48298, v_48300, v_48302, v_48304, v_48306, p_ad_2_0, b_48291, b_48293, b_48295, b_48297, b_48299, b_48301, b_48303, b_48305, b_48307⟩ := opnC_2r (j := 0) I (by decide)
            have p_ad_2_0 : pt L_48284 f_48285 (ad 2 0) (.inr (5, [.ref (ad 50 0), .ref (ad 51 0), .ref (ad 52 0), .ref (ad 53 0), .int v_48290, .int v_48292, .int v_48294, .int v_48296, .int v_48298, .int v_48300, .int v_48302, .ref (ad 30 t), .int v_48304, .int v_48306])) := p_ad_2_0
            refine pg_get S Y ok_X5 11 (by decide) kf5_34 (v := .ref (ad 30 t)) p_ad_2_0 rfl dX5_readSum_69 ?_
            refine lv_iload_n hx hb dX5_readSum_72 rfl (lv_at hl 0 rfl) ?_
            refine lv_iconst (v := 0) hx hb dX5_readSum_73 (by decide) ?_
            refine cVi (As := [.int 8, .int 0]) (rest := []) S Y (x_X7_add (l := l) (j := t) I hW hT hQ (show t < 8 from by omega)) cw_X7_add km5_169 (I.opo (k := 30) (j := t) (show t < 8 from by omega) rfl).choose_spec.1 ok_X7.1 rfl rfl ⟨Nat.le_of_ble_eq_true rfl, Nat.le_of_ble_eq_true rfl⟩ hl.1 rfl (Nat.le_of_ble_eq_true rfl) ⟨Nat.le_of_ble_eq_true rfl, Nat.le_of_ble_eq_true rfl⟩ dX5_readSum_74 (fun r_48310 L_48308 f_48309 H locs I Y => ?_)
            refine lv_pop hx hb dX5_readSum_77 rfl ?_
            obtain ⟨x_48311, ex_48311⟩ : ∃ z : Int32, z = y12_2 + 1 := ⟨_, rfl⟩
            refine lv_iinc (v := x_48311) (lv' := [(2, .int x_48311), (3, .int 8), (0, .ref (ad 2 0)), (1, .int i1)]) hx hb dX5_readSum_78 hl (k := 3) rfl (by rw [ex_48311]; rfl) (by decide) rfl (fun ls hl => ?_)
            refine lv_goto (tgt := 12) hx hb dX5_readSum_81 (by decide) ?_
            exact ih12 _ (by rw [← hm12]; exact ms_up (m := 1) ex_48311 (show bn 1 1 (1 : Int32) from bn_k (by decide)) B_48261 (bn_w (bn_eq ex_48311 (bn_add B_48261 (show bn 1 1 (1 : Int32) from bn_k (by decide)) (by decide))) (by decide) : bn 0 300 x_48311) (by decide)) x_48311 _ _  _ _ _ I (bn_w (bn_eq ex_48311 (bn_add B_48261 (show bn 1 1 (1 : Int32) from bn_k (by decide)) (by decide))) (by decide)) rfl Y (lv_sub hl [2, 3, 0] rfl)
          · have B_48289 : bn 0 0 r_48286 := bn_w (bn_eq c_48287 (show bn 0 0 (0 : Int32) from bn_k (by decide))) (by decide)
            refine lv_iconst (v := 0) hx hb dX5_readSum_66 (by decide) ?_
            exact prI (post := fun r L1 f1 => bn 0 1 r ∧ SH (spC (RF 30 t) fc tc w q) nnC G ad L1 f1) S Y rfl (by decide) (by decide) hA1 ⟨bn_w (show bn 0 0 (0 : Int32) from bn_k (by decide)) (by decide), I⟩ dX5_readSum_67
        · refine lv_aload_n hx hb dX5_readSum_28 rfl (lv_at hl 0 rfl) ?_
          refine pg_get S Y ok_X5 7 (by decide) kf5_52 (v := .int v_48268) p_ad_2_0 rfl dX5_readSum_29 ?_
          refine lv_bipush (v := 45) hx hb dX5_readSum_32 (by decide) ?_
          refine lv_icmp_ne (tgt := 84) hx hb dX5_readSum_34 (by decide) (fun c_48312 => ?_) (fun c_48312 => ?_)
          · refine lv_iconst (v := 1) hx hb dX5_readSum_84 (by decide) ?_
            exact prI (post := fun r L1 f1 => bn 0 1 r ∧ SH (spC (RF 30 t) fc tc w q) nnC G ad L1 f1) S Y rfl (by decide) (by decide) hA1 ⟨bn_w (show bn 1 1 (1 : Int32) from bn_k (by decide)) (by decide), I⟩ dX5_readSum_85
          · have B_48313 : bn 45 45 v_48268 := bn_w (bn_eq c_48312 (show bn 45 45 (45 : Int32) from bn_k (by decide))) (by decide)
            refine lv_aload_n hx hb dX5_readSum_37 rfl (lv_at hl 0 rfl) ?_
            refine pg_get S Y ok_X5 7 (by decide) kf5_52 (v := .int v_48268) p_ad_2_0 rfl dX5_readSum_38 ?_
            refine lv_bipush (v := 43) hx hb dX5_readSum_41 (by decide) ?_
            refine lv_icmp_ne (tgt := 51) hx hb dX5_readSum_43 (by decide) (fun _ => ?_) (fun h => absurd h c_48280)
            refine lv_bipush (v := 9) hx hb dX5_readSum_51 (by decide) ?_
            refine lv_istore_n (lv' := [(3, .int 9), (0, .ref (ad 2 0)), (1, .int i1), (2, .int y12_2)]) hx hb dX5_readSum_53 rfl hl (by decide) rfl (fun ls hl => ?_)
            refine lv_aload_n hx hb dX5_readSum_54 rfl (lv_at hl 1 rfl) ?_
            refine cVv (As := []) (rest := []) S Y (x_X5_step (l := l) I hW hT hQ) cw_X5_step km5_49 p_ad_2_0 ok_X5.1 rfl rfl ⟨Nat.le_of_ble_eq_true rfl, Nat.le_of_ble_eq_true rfl⟩ hl.1 rfl (Nat.le_of_ble_eq_true rfl) ⟨Nat.le_of_ble_eq_true rfl, Nat.le_of_ble_eq_true rfl⟩ dX5_readSum_55 (fun L_48314 f_48315 H locs I Y => ?_)
            refine lv_aload_n hx hb dX5_readSum_58 rfl (lv_at hl 1 rfl) ?_
            refine lv_iload_n hx hb dX5_readSum_59 rfl (lv_at hl 2 rfl) ?_
            refine cVi (As := [.int i1]) (rest := []) S Y (x_X5_readProduct_z (l := l) (t := t) I hW hT hQ ht (bn_w b_i1 (by decide))) cw_X5_readProduct km5_166 (I.opo (k := 2) (j := 0) (by decide) rfl).choose_spec.1 ok_X5.1 rfl rfl ⟨Nat.le_of_ble_eq_true rfl, Nat.le_of_ble_eq_true rfl⟩ hl.1 rfl (Nat.le_of_ble_eq_true rfl) ⟨Nat.le_of_ble_eq_true rfl, Nat.le_of_ble_eq_true rfl⟩ dX5_readSum_60 (fun r_48318 L_48316 f_48317 H locs hr_48318 Y => ?_)
            obtain ⟨er_48318, I⟩ := hr_48318
            refine lv_if_ne (tgt := 68) hx hb dX5_readSum_63 (by decide) (fun c_48319 => ?_) (fun c_48319 => ?_)
            · have B_48320 : bn 1 1 r_48318 := bn_w (bn_nel c_48319 er_48318 (show bn 0 0 (0 : Int32) from bn_k (by decide))) (by decide)
              refine lv_aload_n hx hb dX5_readSum_68 rfl (lv_at hl 1 rfl) ?_
              obtain ⟨v_48322, v_48324, v_48326, v_48328, v_48330, v_48332, v_48334, v_48336, v_48338, p_ad_2_0, b_48323, b_48325, b_48327, b_48329, b_48331, b_48333, b_48335, b_48337, b_48339⟩ := opnC_2r (j := 0) I (by decide)
              have p_ad_2_0 : pt L_48316 f_48317 (ad 2 0) (.inr (5, [.ref (ad 50 0), .ref (ad 51 0), .ref (ad 52 0), .ref (ad 53 0), .int v_48322, .int v_48324, .int v_48326, .int v_48328, .int v_48330, .int v_48332, .int v_48334, .ref (ad 30 t), .int v_48336, .int v_48338])) := p_ad_2_0
              refine pg_get S Y ok_X5 11 (by decide) kf5_34 (v := .ref (ad 30 t)) p_ad_2_0 rfl dX5_readSum_69 ?_
              refine lv_iload_n hx hb dX5_readSum_72 rfl (lv_at hl 0 rfl) ?_
              refine lv_iconst (v := 0) hx hb dX5_readSum_73 (by decide) ?_
              refine cVi (As := [.int 9, .int 0]) (rest := []) S Y (x_X7_add (l := l) (j := t) I hW hT hQ (show t < 8 from by omega)) cw_X7_add km5_169 (I.opo (k := 30) (j := t) (show t < 8 from by omega) rfl).choose_spec.1 ok_X7.1 rfl rfl ⟨Nat.le_of_ble_eq_true rfl, Nat.le_of_ble_eq_true rfl⟩ hl.1 rfl (Nat.le_of_ble_eq_true rfl) ⟨Nat.le_of_ble_eq_true rfl, Nat.le_of_ble_eq_true rfl⟩ dX5_readSum_74 (fun r_48342 L_48340 f_48341 H locs I Y => ?_)
              refine lv_pop hx hb dX5_readSum_77 rfl ?_
              obtain ⟨x_48343, ex_48343⟩ : ∃ z : Int32, z = y12_2 + 1 := ⟨_, rfl⟩
              refine lv_iinc (v := x_48343) (lv' := [(2, .int x_48343), (3, .int 9), (0, .ref (ad 2 0)), (1, .int i1)]) hx hb dX5_readSum_78 hl (k := 3) rfl (by rw [ex_48343]; rfl) (by decide) rfl (fun ls hl => ?_)
              refine lv_goto (tgt := 12) hx hb dX5_readSum_81 (by decide) ?_
              exact ih12 _ (by rw [← hm12]; exact ms_up (m := 1) ex_48343 (show bn 1 1 (1 : Int32) from bn_k (by decide)) B_48261 (bn_w (bn_eq ex_48343 (bn_add B_48261 (show bn 1 1 (1 : Int32) from bn_k (by decide)) (by decide))) (by decide) : bn 0 300 x_48343) (by decide)) x_48343 _ _  _ _ _ I (bn_w (bn_eq ex_48343 (bn_add B_48261 (show bn 1 1 (1 : Int32) from bn_k (by decide)) (by decide))) (by decide)) rfl Y (lv_sub hl [2, 3, 0] rfl)
            · have B_48321 : bn 0 0 r_48318 := bn_w (bn_eq c_48319 (show bn 0 0 (0 : Int32) from bn_k (by decide))) (by decide)
              refine lv_iconst (v := 0) hx hb dX5_readSum_66 (by decide) ?_
              exact prI (post := fun r L1 f1 => bn 0 1 r ∧ SH (spC (RF 30 t) fc tc w q) nnC G ad L1 f1) S Y rfl (by decide) (by decide) hA1 ⟨bn_w (show bn 0 0 (0 : Int32) from bn_k (by decide)) (by decide), I⟩ dX5_readSum_67
  refine lv_aload_n hx hb dX5_readSum_0 rfl (lv_at hl 0 rfl) ?_
  refine lv_iload_n hx hb dX5_readSum_1 rfl (lv_at hl 1 rfl) ?_
  refine cVi (As := [.int i1]) (rest := []) S Y (x_X5_readProduct_z (l := l) (t := t) I hW hT hQ ht (bn_w b_i1 (by decide))) cw_X5_readProduct km5_166 (I.opo (k := 2) (j := 0) (by decide) rfl).choose_spec.1 ok_X5.1 rfl rfl ⟨Nat.le_of_ble_eq_true rfl, Nat.le_of_ble_eq_true rfl⟩ hl.1 rfl (Nat.le_of_ble_eq_true rfl) ⟨Nat.le_of_ble_eq_true rfl, Nat.le_of_ble_eq_true rfl⟩ dX5_readSum_2 (fun r_48346 L_48344 f_48345 H locs hr_48346 Y => ?_)
  obtain ⟨er_48346, I⟩ := hr_48346
  refine lv_if_ne (tgt := 10) hx hb dX5_readSum_5 (by decide) (fun c_48347 => ?_) (fun c_48347 => ?_)
  · have B_48348 : bn 1 1 r_48346 := bn_w (bn_nel c_48347 er_48346 (show bn 0 0 (0 : Int32) from bn_k (by decide))) (by decide)
    refine lv_iconst (v := 0) hx hb dX5_readSum_10 (by decide) ?_
    refine lv_istore_n (lv' := [(2, .int 0), (0, .ref (ad 2 0)), (1, .int i1)]) hx hb dX5_readSum_11 rfl hl (by decide) rfl (fun ls hl => ?_)
    exact J_12 _ 0 _ _  _ _ _ I (bn_w (show bn 0 0 (0 : Int32) from bn_k (by decide)) (by decide)) rfl Y (lv_sub hl [1, 2, 0] rfl)
  · have B_48349 : bn 0 0 r_48346 := bn_w (bn_eq c_48347 (show bn 0 0 (0 : Int32) from bn_k (by decide))) (by decide)
    refine lv_iconst (v := 0) hx hb dX5_readSum_8 (by decide) ?_
    exact prI (post := fun r L1 f1 => bn 0 1 r ∧ SH (spC (RF 30 t) fc tc w q) nnC G ad L1 f1) S Y rfl (by decide) (by decide) hA1 ⟨bn_w (show bn 0 0 (0 : Int32) from bn_k (by decide)) (by decide), I⟩ dX5_readSum_9
set_option maxHeartbeats 4000000 in
set_option maxRecDepth 100000 in
theorem x_X5_readComparison_z {l : Launch} {G : GG}  {L : List Nat} {f : HF} {ad : Nat → Nat → Nat} {fc : Int × Int} {tc w : Nat → Int × Int} {q : Nat → (Nat → Int32) → Prop} {t : Nat} {i1 : Int32} (I : SH (spC (RF 30 t) fc tc w q) nnC G ad L f) (hW : WBp w 8) (hT : WBp tc 4) (hQ : QIp q) (ht : t < 4) (b_i1 : bn 8 8 i1) : PMi l yX5_readComparison cX5_readComparison 3 .boolean 11 0 0 G [.ref (ad 2 0), .int i1] L f (fun r L1 f1 => bn 0 1 r ∧ SH (spC (RF 30 t) fc tc w q) nnC G ad L1 f1) := by
  refine PMi.of (post := fun r L1 f1 => bn 0 1 r ∧ SH (spC (RF 30 t) fc tc w q) nnC G ad L1 f1) (own := RX5) (by decide) rfl (Nat.le_of_ble_eq_true rfl) (fun sz p e s m args below meth c A ls hA1 hname S Y hl => ?_)
  have hx := S.hx
  have hb := S.hb
  have hl : lv_has ls 3 [(0, .ref (ad 2 0)), (1, .int i1)] := hl
  refine lv_aload_n hx hb dX5_readComparison_0 rfl (lv_at hl 0 rfl) ?_
  refine lv_iload_n hx hb dX5_readComparison_1 rfl (lv_at hl 1 rfl) ?_
  refine cVi (As := [.int i1]) (rest := []) S Y (x_X5_readSum_z (l := l) (t := t) I hW hT hQ ht (bn_w b_i1 (by decide))) cw_X5_readSum km5_147 (I.opo (k := 2) (j := 0) (by decide) rfl).choose_spec.1 ok_X5.1 rfl rfl ⟨Nat.le_of_ble_eq_true rfl, Nat.le_of_ble_eq_true rfl⟩ hl.1 rfl (Nat.le_of_ble_eq_true rfl) ⟨Nat.le_of_ble_eq_true rfl, Nat.le_of_ble_eq_true rfl⟩ dX5_readComparison_2 (fun r_48470 L_48468 f_48469 H locs hr_48470 Y => ?_)
  obtain ⟨er_48470, I⟩ := hr_48470
  refine lv_if_ne (tgt := 10) hx hb dX5_readComparison_5 (by decide) (fun c_48471 => ?_) (fun c_48471 => ?_)
  · have B_48472 : bn 1 1 r_48470 := bn_w (bn_nel c_48471 er_48470 (show bn 0 0 (0 : Int32) from bn_k (by decide))) (by decide)
    refine lv_aload_n hx hb dX5_readComparison_10 rfl (lv_at hl 0 rfl) ?_
    obtain ⟨v_48474, v_48476, v_48478, v_48480, v_48482, v_48484, v_48486, v_48488, v_48490, p_ad_2_0, b_48475, b_48477, b_48479, b_48481, b_48483, b_48485, b_48487, b_48489, b_48491⟩ := opnC_2r (j := 0) I (by decide)
    have p_ad_2_0 : pt L_48468 f_48469 (ad 2 0) (.inr (5, [.ref (ad 50 0), .ref (ad 51 0), .ref (ad 52 0), .ref (ad 53 0), .int v_48474, .int v_48476, .int v_48478, .int v_48480, .int v_48482, .int v_48484, .int v_48486, .ref (ad 30 t), .int v_48488, .int v_48490])) := p_ad_2_0
    refine pg_get S Y ok_X5 7 (by decide) kf5_52 (v := .int v_48480) p_ad_2_0 rfl dX5_readComparison_11 ?_
    refine cSp (As := [.int v_48480]) (rest := []) S Y (x_X5_comparing (l := l) ) cw_X5_comparing km5_202 rfl ⟨Nat.le_of_ble_eq_true rfl, Nat.le_of_ble_eq_true rfl⟩ hl.1 rfl (Nat.le_of_ble_eq_true rfl) ⟨Nat.le_of_ble_eq_true rfl, Nat.le_of_ble_eq_true rfl⟩ dX5_readComparison_14 (fun r_48492 H locs er_48492 Y => ?_)
    refine lv_istore_n (lv' := [(2, .int r_48492), (0, .ref (ad 2 0)), (1, .int i1)]) hx hb dX5_readComparison_17 rfl hl (by decide) rfl (fun ls hl => ?_)
    refine lv_iload_n hx hb dX5_readComparison_18 rfl (lv_at hl 0 rfl) ?_
    refine lv_iconst (v := (-1)) hx hb dX5_readComparison_19 (by decide) ?_
    refine lv_icmp_ne (tgt := 29) hx hb dX5_readComparison_20 (by decide) (fun c_48493 => ?_) (fun c_48493 => ?_)
    · refine lv_aload_n hx hb dX5_readComparison_29 rfl (lv_at hl 1 rfl) ?_
      refine cVv (As := []) (rest := []) S Y (x_X5_step (l := l) I hW hT hQ) cw_X5_step km5_49 p_ad_2_0 ok_X5.1 rfl rfl ⟨Nat.le_of_ble_eq_true rfl, Nat.le_of_ble_eq_true rfl⟩ hl.1 rfl (Nat.le_of_ble_eq_true rfl) ⟨Nat.le_of_ble_eq_true rfl, Nat.le_of_ble_eq_true rfl⟩ dX5_readComparison_30 (fun L_48495 f_48496 H locs I Y => ?_)
      refine lv_aload_n hx hb dX5_readComparison_33 rfl (lv_at hl 1 rfl) ?_
      refine lv_iload_n hx hb dX5_readComparison_34 rfl (lv_at hl 2 rfl) ?_
      refine cVi (As := [.int i1]) (rest := []) S Y (x_X5_readSum_z (l := l) (t := t) I hW hT hQ ht (bn_w b_i1 (by decide))) cw_X5_readSum km5_147 (I.opo (k := 2) (j := 0) (by decide) rfl).choose_spec.1 ok_X5.1 rfl rfl ⟨Nat.le_of_ble_eq_true rfl, Nat.le_of_ble_eq_true rfl⟩ hl.1 rfl (Nat.le_of_ble_eq_true rfl) ⟨Nat.le_of_ble_eq_true rfl, Nat.le_of_ble_eq_true rfl⟩ dX5_readComparison_35 (fun r_48499 L_48497 f_48498 H locs hr_48499 Y => ?_)
      obtain ⟨er_48499, I⟩ := hr_48499
      refine lv_if_ne (tgt := 43) hx hb dX5_readComparison_38 (by decide) (fun c_48500 => ?_) (fun c_48500 => ?_)
      · have B_48501 : bn 1 1 r_48499 := bn_w (bn_nel c_48500 er_48499 (show bn 0 0 (0 : Int32) from bn_k (by decide))) (by decide)
        refine lv_aload_n hx hb dX5_readComparison_43 rfl (lv_at hl 1 rfl) ?_
        obtain ⟨v_48503, v_48505, v_48507, v_48509, v_48511, v_48513, v_48515, v_48517, v_48519, p_ad_2_0, b_48504, b_48506, b_48508, b_48510, b_48512, b_48514, b_48516, b_48518, b_48520⟩ := opnC_2r (j := 0) I (by decide)
        have p_ad_2_0 : pt L_48497 f_48498 (ad 2 0) (.inr (5, [.ref (ad 50 0), .ref (ad 51 0), .ref (ad 52 0), .ref (ad 53 0), .int v_48503, .int v_48505, .int v_48507, .int v_48509, .int v_48511, .int v_48513, .int v_48515, .ref (ad 30 t), .int v_48517, .int v_48519])) := p_ad_2_0
        refine pg_get S Y ok_X5 11 (by decide) kf5_34 (v := .ref (ad 30 t)) p_ad_2_0 rfl dX5_readComparison_44 ?_
        refine lv_iload_n hx hb dX5_readComparison_47 rfl (lv_at hl 0 rfl) ?_
        refine lv_iconst (v := 0) hx hb dX5_readComparison_48 (by decide) ?_
        refine cVi (As := [.int r_48492, .int 0]) (rest := []) S Y (x_X7_add (l := l) (j := t) I hW hT hQ (show t < 8 from by omega)) cw_X7_add km5_169 (I.opo (k := 30) (j := t) (show t < 8 from by omega) rfl).choose_spec.1 ok_X7.1 rfl rfl ⟨Nat.le_of_ble_eq_true rfl, Nat.le_of_ble_eq_true rfl⟩ hl.1 rfl (Nat.le_of_ble_eq_true rfl) ⟨Nat.le_of_ble_eq_true rfl, Nat.le_of_ble_eq_true rfl⟩ dX5_readComparison_49 (fun r_48523 L_48521 f_48522 H locs I Y => ?_)
        refine lv_pop hx hb dX5_readComparison_52 rfl ?_
        refine lv_iconst (v := 1) hx hb dX5_readComparison_53 (by decide) ?_
        exact prI (post := fun r L1 f1 => bn 0 1 r ∧ SH (spC (RF 30 t) fc tc w q) nnC G ad L1 f1) S Y rfl (by decide) (by decide) hA1 ⟨bn_w (show bn 1 1 (1 : Int32) from bn_k (by decide)) (by decide), I⟩ dX5_readComparison_54
      · have B_48502 : bn 0 0 r_48499 := bn_w (bn_eq c_48500 (show bn 0 0 (0 : Int32) from bn_k (by decide))) (by decide)
        refine lv_iconst (v := 0) hx hb dX5_readComparison_41 (by decide) ?_
        exact prI (post := fun r L1 f1 => bn 0 1 r ∧ SH (spC (RF 30 t) fc tc w q) nnC G ad L1 f1) S Y rfl (by decide) (by decide) hA1 ⟨bn_w (show bn 0 0 (0 : Int32) from bn_k (by decide)) (by decide), I⟩ dX5_readComparison_42
    · have B_48494 : bn (-1) (-1) r_48492 := bn_w (bn_eq c_48493 (show bn (-1) (-1) ((-1) : Int32) from bn_k (by decide))) (by decide)
      refine lv_aload_n hx hb dX5_readComparison_23 rfl (lv_at hl 1 rfl) ?_
      refine lv_iconst (v := 1) hx hb dX5_readComparison_24 (by decide) ?_
      refine cVi (As := [.int 1]) (rest := []) S Y (x_X5_fail (l := l) I hW hT hQ) cw_X5_fail km5_121 p_ad_2_0 ok_X5.1 rfl rfl ⟨Nat.le_of_ble_eq_true rfl, Nat.le_of_ble_eq_true rfl⟩ hl.1 rfl (Nat.le_of_ble_eq_true rfl) ⟨Nat.le_of_ble_eq_true rfl, Nat.le_of_ble_eq_true rfl⟩ dX5_readComparison_25 (fun r_48526 L_48524 f_48525 H locs hr_48526 Y => ?_)
      obtain ⟨er_48526, I⟩ := hr_48526
      exact prI (post := fun r L1 f1 => bn 0 1 r ∧ SH (spC (RF 30 t) fc tc w q) nnC G ad L1 f1) S Y (nw_b (bn_w er_48526 (by decide))) (by decide) (by decide) hA1 ⟨bn_w er_48526 (by decide), I⟩ dX5_readComparison_28
  · have B_48473 : bn 0 0 r_48470 := bn_w (bn_eq c_48471 (show bn 0 0 (0 : Int32) from bn_k (by decide))) (by decide)
    refine lv_iconst (v := 0) hx hb dX5_readComparison_8 (by decide) ?_
    exact prI (post := fun r L1 f1 => bn 0 1 r ∧ SH (spC (RF 30 t) fc tc w q) nnC G ad L1 f1) S Y rfl (by decide) (by decide) hA1 ⟨bn_w (show bn 0 0 (0 : Int32) from bn_k (by decide)) (by decide), I⟩ dX5_readComparison_9
set_option maxHeartbeats 4000000 in
set_option maxRecDepth 100000 in
theorem x_X5_readAsk_z {l : Launch} {G : GG}  {L : List Nat} {f : HF} {ad : Nat → Nat → Nat} {fc : Int × Int} {tc w : Nat → Int × Int} {q : Nat → (Nat → Int32) → Prop} {t : Nat} {i1 : Int32} (I : SH (spC (RF 30 t) fc tc w q) nnC G ad L f) (hW : WBp w 8) (hT : WBp tc 4) (hQ : QIp q) (ht : t < 4) (b_i1 : bn 8 8 i1) : PMi l yX5_readAsk cX5_readAsk 3 .boolean 12 0 0 G [.ref (ad 2 0), .int i1] L f (fun r L1 f1 => bn 0 1 r ∧ SH (spC (RF 30 t) fc tc w q) nnC G ad L1 f1) := by
  refine PMi.of (post := fun r L1 f1 => bn 0 1 r ∧ SH (spC (RF 30 t) fc tc w q) nnC G ad L1 f1) (own := RX5) (by decide) rfl (Nat.le_of_ble_eq_true rfl) (fun sz p e s m args below meth c A ls hA1 hname S Y hl => ?_)
  have hx := S.hx
  have hb := S.hb
  have hl : lv_has ls 3 [(0, .ref (ad 2 0)), (1, .int i1)] := hl
  have J_24 : ∀ (L_24 : List Nat) (f_24 : HF) (H : Heap) (locs : List Loc) (ls : Array Slot), (SH (spC (RF 30 t) fc tc w q) nnC G ad L_24 f_24) → (DY G A s [] L_24 f_24 H locs) → (lv_has ls 3 [(0, .ref (ad 2 0)), (1, .int i1)]) → W p l e (rmD 12 0 0) s m args below meth c H locs (0) (0) (MQ below (va_Qi (fun r (u : List Nat × HF) => (fun r L1 f1 => bn 0 1 r ∧ SH (spC (RF 30 t) fc tc w q) nnC G ad L1 f1) r u.1 u.2) (fun u t => pOut G (va_A (va_pl L f) sz) u.1 u.2 t) (va_A (va_pl L f) sz)) args s 0 0 A) (F0 m 24 ls []) := by
    intro L_24 f_24 H locs ls I Y hl
    refine lv_iload_n hx hb dX5_readAsk_24 rfl (lv_at hl 1 rfl) ?_
    refine lv_bipush (v := 8) hx hb dX5_readAsk_25 (by decide) ?_
    refine lv_icmp_lt (tgt := 36) hx hb dX5_readAsk_27 (by decide) (fun h => absurd h (bd_nlt b_i1 (show bn 8 8 (8 : Int32) from bn_k (by decide)) (by decide))) (fun _ => ?_)
    refine lv_aload_n hx hb dX5_readAsk_30 rfl (lv_at hl 0 rfl) ?_
    refine lv_iconst (v := 3) hx hb dX5_readAsk_31 (by decide) ?_
    refine cVi (As := [.int 3]) (rest := []) S Y (x_X5_fail (l := l) I hW hT hQ) cw_X5_fail km5_121 (I.opo (k := 2) (j := 0) (by decide) rfl).choose_spec.1 ok_X5.1 rfl rfl ⟨Nat.le_of_ble_eq_true rfl, Nat.le_of_ble_eq_true rfl⟩ hl.1 rfl (Nat.le_of_ble_eq_true rfl) ⟨Nat.le_of_ble_eq_true rfl, Nat.le_of_ble_eq_true rfl⟩ dX5_readAsk_32 (fun r_48585 L_48583 f_48584 H locs hr_48585 Y => ?_)
    obtain ⟨er_48585, I⟩ := hr_48585
    exact prI (post := fun r L1 f1 => bn 0 1 r ∧ SH (spC (RF 30 t) fc tc w q) nnC G ad L1 f1) S Y (nw_b (bn_w er_48585 (by decide))) (by decide) (by decide) hA1 ⟨bn_w er_48585 (by decide), I⟩ dX5_readAsk_35
  refine lv_aload_n hx hb dX5_readAsk_0 rfl (lv_at hl 0 rfl) ?_
  obtain ⟨v_48586, v_48588, v_48590, v_48592, v_48594, v_48596, v_48598, v_48600, v_48602, p_ad_2_0, b_48587, b_48589, b_48591, b_48593, b_48595, b_48597, b_48599, b_48601, b_48603⟩ := opnC_2r (j := 0) I (by decide)
  have p_ad_2_0 : pt L f (ad 2 0) (.inr (5, [.ref (ad 50 0), .ref (ad 51 0), .ref (ad 52 0), .ref (ad 53 0), .int v_48586, .int v_48588, .int v_48590, .int v_48592, .int v_48594, .int v_48596, .int v_48598, .ref (ad 30 t), .int v_48600, .int v_48602])) := p_ad_2_0
  refine pg_get S Y ok_X5 7 (by decide) kf5_52 (v := .int v_48592) p_ad_2_0 rfl dX5_readAsk_1 ?_
  refine lv_bipush (v := 29) hx hb dX5_readAsk_4 (by decide) ?_
  refine lv_icmp_eq (tgt := 24) hx hb dX5_readAsk_6 (by decide) (fun c_48604 => ?_) (fun c_48604 => ?_)
  · have B_48605 : bn 29 29 v_48592 := bn_w (bn_eq c_48604 (show bn 29 29 (29 : Int32) from bn_k (by decide))) (by decide)
    exact J_24  _ _  _ _ _ I  Y (lv_sub hl [0, 1] rfl)
  · refine lv_aload_n hx hb dX5_readAsk_9 rfl (lv_at hl 0 rfl) ?_
    refine pg_get S Y ok_X5 7 (by decide) kf5_52 (v := .int v_48592) p_ad_2_0 rfl dX5_readAsk_10 ?_
    refine lv_bipush (v := 30) hx hb dX5_readAsk_13 (by decide) ?_
    refine lv_icmp_eq (tgt := 24) hx hb dX5_readAsk_15 (by decide) (fun c_48606 => ?_) (fun c_48606 => ?_)
    · have B_48607 : bn 30 30 v_48592 := bn_w (bn_eq c_48606 (show bn 30 30 (30 : Int32) from bn_k (by decide))) (by decide)
      exact J_24  _ _  _ _ _ I  Y (lv_sub hl [0, 1] rfl)
    · refine lv_aload_n hx hb dX5_readAsk_18 rfl (lv_at hl 0 rfl) ?_
      refine lv_iload_n hx hb dX5_readAsk_19 rfl (lv_at hl 1 rfl) ?_
      refine cVi (As := [.int i1]) (rest := []) S Y (x_X5_readComparison_z (l := l) (t := t) I hW hT hQ ht (bn_w b_i1 (by decide))) cw_X5_readComparison km5_196 p_ad_2_0 ok_X5.1 rfl rfl ⟨Nat.le_of_ble_eq_true rfl, Nat.le_of_ble_eq_true rfl⟩ hl.1 rfl (Nat.le_of_ble_eq_true rfl) ⟨Nat.le_of_ble_eq_true rfl, Nat.le_of_ble_eq_true rfl⟩ dX5_readAsk_20 (fun r_48610 L_48608 f_48609 H locs hr_48610 Y => ?_)
      obtain ⟨er_48610, I⟩ := hr_48610
      exact prI (post := fun r L1 f1 => bn 0 1 r ∧ SH (spC (RF 30 t) fc tc w q) nnC G ad L1 f1) S Y (nw_b (bn_w er_48610 (by decide))) (by decide) (by decide) hA1 ⟨bn_w er_48610 (by decide), I⟩ dX5_readAsk_23
set_option maxHeartbeats 4000000 in
set_option maxRecDepth 100000 in
theorem x_X5_readBoth_z {l : Launch} {G : GG}  {L : List Nat} {f : HF} {ad : Nat → Nat → Nat} {fc : Int × Int} {tc w : Nat → Int × Int} {q : Nat → (Nat → Int32) → Prop} {t : Nat} {i1 : Int32} (I : SH (spC (RF 30 t) fc tc w q) nnC G ad L f) (hW : WBp w 8) (hT : WBp tc 4) (hQ : QIp q) (ht : t < 4) (b_i1 : bn 8 8 i1) : PMi l yX5_readBoth cX5_readBoth 3 .boolean 13 0 0 G [.ref (ad 2 0), .int i1] L f (fun r L1 f1 => bn 0 1 r ∧ SH (spC (RF 30 t) fc tc w q) nnC G ad L1 f1) := by
  refine PMi.of (post := fun r L1 f1 => bn 0 1 r ∧ SH (spC (RF 30 t) fc tc w q) nnC G ad L1 f1) (own := RX5) (by decide) rfl (Nat.le_of_ble_eq_true rfl) (fun sz p e s m args below meth c A ls hA1 hname S Y hl => ?_)
  have hx := S.hx
  have hb := S.hb
  have hl : lv_has ls 3 [(0, .ref (ad 2 0)), (1, .int i1)] := hl
  have J_12 : ∀ (n12 : Nat) (y12_2 : Int32) (L_12 : List Nat) (f_12 : HF) (H : Heap) (locs : List Loc) (ls : Array Slot), (SH (spC (RF 30 t) fc tc w q) nnC G ad L_12 f_12) → (bn 0 300 y12_2) → (((300 : Int) - y12_2.toInt).toNat = n12) → (DY G A s [] L_12 f_12 H locs) → (lv_has ls 3 [(0, .ref (ad 2 0)), (1, .int i1), (2, .int y12_2)]) → W p l e (rmD 13 0 0) s m args below meth c H locs (0) (0) (MQ below (va_Qi (fun r (u : List Nat × HF) => (fun r L1 f1 => bn 0 1 r ∧ SH (spC (RF 30 t) fc tc w q) nnC G ad L1 f1) r u.1 u.2) (fun u t => pOut G (va_A (va_pl L f) sz) u.1 u.2 t) (va_A (va_pl L f) sz)) args s 0 0 A) (F0 m 12 ls []) := by
    intro n12
    induction n12 using Nat.strongRecOn with
    | _ n12 ih12 =>
      intro y12_2 L_12 f_12 H locs ls I b_y12_2 hm12 Y hl
      refine lv_iload_n hx hb dX5_readBoth_12 rfl (lv_at hl 2 rfl) ?_
      refine lv_sipush (v := 300) hx hb dX5_readBoth_13 (by decide) ?_
      refine lv_icmp_ge (tgt := 59) hx hb dX5_readBoth_16 (by decide) (fun c_50579 => ?_) (fun c_50579 => ?_)
      · have B_50580 : bn 300 300 y12_2 := bn_w (bn_ler c_50579 (show bn 300 300 (300 : Int32) from bn_k (by decide)) b_y12_2) (by decide)
        refine lv_iconst (v := 1) hx hb dX5_readBoth_59 (by decide) ?_
        exact prI (post := fun r L1 f1 => bn 0 1 r ∧ SH (spC (RF 30 t) fc tc w q) nnC G ad L1 f1) S Y rfl (by decide) (by decide) hA1 ⟨bn_w (show bn 1 1 (1 : Int32) from bn_k (by decide)) (by decide), I⟩ dX5_readBoth_60
      · have B_50581 : bn 0 299 y12_2 := bn_w (bn_gtr c_50579 (show bn 300 300 (300 : Int32) from bn_k (by decide)) b_y12_2) (by decide)
        refine lv_aload_n hx hb dX5_readBoth_19 rfl (lv_at hl 0 rfl) ?_
        obtain ⟨v_50582, v_50584, v_50586, v_50588, v_50590, v_50592, v_50594, v_50596, v_50598, p_ad_2_0, b_50583, b_50585, b_50587, b_50589, b_50591, b_50593, b_50595, b_50597, b_50599⟩ := opnC_2r (j := 0) I (by decide)
        have p_ad_2_0 : pt L_12 f_12 (ad 2 0) (.inr (5, [.ref (ad 50 0), .ref (ad 51 0), .ref (ad 52 0), .ref (ad 53 0), .int v_50582, .int v_50584, .int v_50586, .int v_50588, .int v_50590, .int v_50592, .int v_50594, .ref (ad 30 t), .int v_50596, .int v_50598])) := p_ad_2_0
        refine pg_get S Y ok_X5 7 (by decide) kf5_52 (v := .int v_50588) p_ad_2_0 rfl dX5_readBoth_20 ?_
        refine lv_bipush (v := 28) hx hb dX5_readBoth_23 (by decide) ?_
        refine lv_icmp_ne (tgt := 59) hx hb dX5_readBoth_25 (by decide) (fun c_50600 => ?_) (fun c_50600 => ?_)
        · refine lv_iconst (v := 1) hx hb dX5_readBoth_59 (by decide) ?_
          exact prI (post := fun r L1 f1 => bn 0 1 r ∧ SH (spC (RF 30 t) fc tc w q) nnC G ad L1 f1) S Y rfl (by decide) (by decide) hA1 ⟨bn_w (show bn 1 1 (1 : Int32) from bn_k (by decide)) (by decide), I⟩ dX5_readBoth_60
        · have B_50601 : bn 28 28 v_50588 := bn_w (bn_eq c_50600 (show bn 28 28 (28 : Int32) from bn_k (by decide))) (by decide)
          refine lv_aload_n hx hb dX5_readBoth_28 rfl (lv_at hl 0 rfl) ?_
          refine cVv (As := []) (rest := []) S Y (x_X5_step (l := l) I hW hT hQ) cw_X5_step km5_49 p_ad_2_0 ok_X5.1 rfl rfl ⟨Nat.le_of_ble_eq_true rfl, Nat.le_of_ble_eq_true rfl⟩ hl.1 rfl (Nat.le_of_ble_eq_true rfl) ⟨Nat.le_of_ble_eq_true rfl, Nat.le_of_ble_eq_true rfl⟩ dX5_readBoth_29 (fun L_50602 f_50603 H locs I Y => ?_)
          refine lv_aload_n hx hb dX5_readBoth_32 rfl (lv_at hl 0 rfl) ?_
          refine lv_iload_n hx hb dX5_readBoth_33 rfl (lv_at hl 1 rfl) ?_
          refine cVi (As := [.int i1]) (rest := []) S Y (x_X5_readAsk_z (l := l) (t := t) I hW hT hQ ht (bn_w b_i1 (by decide))) cw_X5_readAsk km5_193 (I.opo (k := 2) (j := 0) (by decide) rfl).choose_spec.1 ok_X5.1 rfl rfl ⟨Nat.le_of_ble_eq_true rfl, Nat.le_of_ble_eq_true rfl⟩ hl.1 rfl (Nat.le_of_ble_eq_true rfl) ⟨Nat.le_of_ble_eq_true rfl, Nat.le_of_ble_eq_true rfl⟩ dX5_readBoth_34 (fun r_50606 L_50604 f_50605 H locs hr_50606 Y => ?_)
          obtain ⟨er_50606, I⟩ := hr_50606
          refine lv_if_ne (tgt := 42) hx hb dX5_readBoth_37 (by decide) (fun c_50607 => ?_) (fun c_50607 => ?_)
          · have B_50608 : bn 1 1 r_50606 := bn_w (bn_nel c_50607 er_50606 (show bn 0 0 (0 : Int32) from bn_k (by decide))) (by decide)
            refine lv_aload_n hx hb dX5_readBoth_42 rfl (lv_at hl 0 rfl) ?_
            obtain ⟨v_50610, v_50612, v_50614, v_50616, v_50618, v_50620, v_50622, v_50624, v_50626, p_ad_2_0, b_50611, b_50613, b_50615, b_50617, b_50619, b_50621, b_50623, b_50625, b_50627⟩ := opnC_2r (j := 0) I (by decide)
            have p_ad_2_0 : pt L_50604 f_50605 (ad 2 0) (.inr (5, [.ref (ad 50 0), .ref (ad 51 0), .ref (ad 52 0), .ref (ad 53 0), .int v_50610, .int v_50612, .int v_50614, .int v_50616, .int v_50618, .int v_50620, .int v_50622, .ref (ad 30 t), .int v_50624, .int v_50626])) := p_ad_2_0
            refine pg_get S Y ok_X5 11 (by decide) kf5_34 (v := .ref (ad 30 t)) p_ad_2_0 rfl dX5_readBoth_43 ?_
            refine lv_bipush (v := 18) hx hb dX5_readBoth_46 (by decide) ?_
            refine lv_iconst (v := 0) hx hb dX5_readBoth_48 (by decide) ?_
            refine cVi (As := [.int 18, .int 0]) (rest := []) S Y (x_X7_add (l := l) (j := t) I hW hT hQ (show t < 8 from by omega)) cw_X7_add km5_169 (I.opo (k := 30) (j := t) (show t < 8 from by omega) rfl).choose_spec.1 ok_X7.1 rfl rfl ⟨Nat.le_of_ble_eq_true rfl, Nat.le_of_ble_eq_true rfl⟩ hl.1 rfl (Nat.le_of_ble_eq_true rfl) ⟨Nat.le_of_ble_eq_true rfl, Nat.le_of_ble_eq_true rfl⟩ dX5_readBoth_49 (fun r_50630 L_50628 f_50629 H locs I Y => ?_)
            refine lv_pop hx hb dX5_readBoth_52 rfl ?_
            obtain ⟨x_50631, ex_50631⟩ : ∃ z : Int32, z = y12_2 + 1 := ⟨_, rfl⟩
            refine lv_iinc (v := x_50631) (lv' := [(2, .int x_50631), (0, .ref (ad 2 0)), (1, .int i1)]) hx hb dX5_readBoth_53 hl (k := 2) rfl (by rw [ex_50631]; rfl) (by decide) rfl (fun ls hl => ?_)
            refine lv_goto (tgt := 12) hx hb dX5_readBoth_56 (by decide) ?_
            exact ih12 _ (by rw [← hm12]; exact ms_up (m := 1) ex_50631 (show bn 1 1 (1 : Int32) from bn_k (by decide)) B_50581 (bn_w (bn_eq ex_50631 (bn_add B_50581 (show bn 1 1 (1 : Int32) from bn_k (by decide)) (by decide))) (by decide) : bn 0 300 x_50631) (by decide)) x_50631 _ _  _ _ _ I (bn_w (bn_eq ex_50631 (bn_add B_50581 (show bn 1 1 (1 : Int32) from bn_k (by decide)) (by decide))) (by decide)) rfl Y (lv_sub hl [1, 2, 0] rfl)
          · have B_50609 : bn 0 0 r_50606 := bn_w (bn_eq c_50607 (show bn 0 0 (0 : Int32) from bn_k (by decide))) (by decide)
            refine lv_iconst (v := 0) hx hb dX5_readBoth_40 (by decide) ?_
            exact prI (post := fun r L1 f1 => bn 0 1 r ∧ SH (spC (RF 30 t) fc tc w q) nnC G ad L1 f1) S Y rfl (by decide) (by decide) hA1 ⟨bn_w (show bn 0 0 (0 : Int32) from bn_k (by decide)) (by decide), I⟩ dX5_readBoth_41
  refine lv_aload_n hx hb dX5_readBoth_0 rfl (lv_at hl 0 rfl) ?_
  refine lv_iload_n hx hb dX5_readBoth_1 rfl (lv_at hl 1 rfl) ?_
  refine cVi (As := [.int i1]) (rest := []) S Y (x_X5_readAsk_z (l := l) (t := t) I hW hT hQ ht (bn_w b_i1 (by decide))) cw_X5_readAsk km5_193 (I.opo (k := 2) (j := 0) (by decide) rfl).choose_spec.1 ok_X5.1 rfl rfl ⟨Nat.le_of_ble_eq_true rfl, Nat.le_of_ble_eq_true rfl⟩ hl.1 rfl (Nat.le_of_ble_eq_true rfl) ⟨Nat.le_of_ble_eq_true rfl, Nat.le_of_ble_eq_true rfl⟩ dX5_readBoth_2 (fun r_50634 L_50632 f_50633 H locs hr_50634 Y => ?_)
  obtain ⟨er_50634, I⟩ := hr_50634
  refine lv_if_ne (tgt := 10) hx hb dX5_readBoth_5 (by decide) (fun c_50635 => ?_) (fun c_50635 => ?_)
  · have B_50636 : bn 1 1 r_50634 := bn_w (bn_nel c_50635 er_50634 (show bn 0 0 (0 : Int32) from bn_k (by decide))) (by decide)
    refine lv_iconst (v := 0) hx hb dX5_readBoth_10 (by decide) ?_
    refine lv_istore_n (lv' := [(2, .int 0), (0, .ref (ad 2 0)), (1, .int i1)]) hx hb dX5_readBoth_11 rfl hl (by decide) rfl (fun ls hl => ?_)
    exact J_12 _ 0 _ _  _ _ _ I (bn_w (show bn 0 0 (0 : Int32) from bn_k (by decide)) (by decide)) rfl Y (lv_sub hl [1, 2, 0] rfl)
  · have B_50637 : bn 0 0 r_50634 := bn_w (bn_eq c_50635 (show bn 0 0 (0 : Int32) from bn_k (by decide))) (by decide)
    refine lv_iconst (v := 0) hx hb dX5_readBoth_8 (by decide) ?_
    exact prI (post := fun r L1 f1 => bn 0 1 r ∧ SH (spC (RF 30 t) fc tc w q) nnC G ad L1 f1) S Y rfl (by decide) (by decide) hA1 ⟨bn_w (show bn 0 0 (0 : Int32) from bn_k (by decide)) (by decide), I⟩ dX5_readBoth_9
set_option maxHeartbeats 4000000 in
set_option maxRecDepth 100000 in
theorem x_X5_readEither_z {l : Launch} {G : GG}  {L : List Nat} {f : HF} {ad : Nat → Nat → Nat} {fc : Int × Int} {tc w : Nat → Int × Int} {q : Nat → (Nat → Int32) → Prop} {t : Nat} {i1 : Int32} (I : SH (spC (RF 30 t) fc tc w q) nnC G ad L f) (hW : WBp w 8) (hT : WBp tc 4) (hQ : QIp q) (ht : t < 4) (b_i1 : bn 8 8 i1) : PMi l yX5_readEither cX5_readEither 3 .boolean 14 0 0 G [.ref (ad 2 0), .int i1] L f (fun r L1 f1 => bn 0 1 r ∧ SH (spC (RF 30 t) fc tc w q) nnC G ad L1 f1) := by
  refine PMi.of (post := fun r L1 f1 => bn 0 1 r ∧ SH (spC (RF 30 t) fc tc w q) nnC G ad L1 f1) (own := RX5) (by decide) rfl (Nat.le_of_ble_eq_true rfl) (fun sz p e s m args below meth c A ls hA1 hname S Y hl => ?_)
  have hx := S.hx
  have hb := S.hb
  have hl : lv_has ls 3 [(0, .ref (ad 2 0)), (1, .int i1)] := hl
  have J_12 : ∀ (n12 : Nat) (y12_2 : Int32) (L_12 : List Nat) (f_12 : HF) (H : Heap) (locs : List Loc) (ls : Array Slot), (SH (spC (RF 30 t) fc tc w q) nnC G ad L_12 f_12) → (bn 0 300 y12_2) → (((300 : Int) - y12_2.toInt).toNat = n12) → (DY G A s [] L_12 f_12 H locs) → (lv_has ls 3 [(0, .ref (ad 2 0)), (1, .int i1), (2, .int y12_2)]) → W p l e (rmD 14 0 0) s m args below meth c H locs (0) (0) (MQ below (va_Qi (fun r (u : List Nat × HF) => (fun r L1 f1 => bn 0 1 r ∧ SH (spC (RF 30 t) fc tc w q) nnC G ad L1 f1) r u.1 u.2) (fun u t => pOut G (va_A (va_pl L f) sz) u.1 u.2 t) (va_A (va_pl L f) sz)) args s 0 0 A) (F0 m 12 ls []) := by
    intro n12
    induction n12 using Nat.strongRecOn with
    | _ n12 ih12 =>
      intro y12_2 L_12 f_12 H locs ls I b_y12_2 hm12 Y hl
      refine lv_iload_n hx hb dX5_readEither_12 rfl (lv_at hl 2 rfl) ?_
      refine lv_sipush (v := 300) hx hb dX5_readEither_13 (by decide) ?_
      refine lv_icmp_ge (tgt := 59) hx hb dX5_readEither_16 (by decide) (fun c_52606 => ?_) (fun c_52606 => ?_)
      · have B_52607 : bn 300 300 y12_2 := bn_w (bn_ler c_52606 (show bn 300 300 (300 : Int32) from bn_k (by decide)) b_y12_2) (by decide)
        refine lv_iconst (v := 1) hx hb dX5_readEither_59 (by decide) ?_
        exact prI (post := fun r L1 f1 => bn 0 1 r ∧ SH (spC (RF 30 t) fc tc w q) nnC G ad L1 f1) S Y rfl (by decide) (by decide) hA1 ⟨bn_w (show bn 1 1 (1 : Int32) from bn_k (by decide)) (by decide), I⟩ dX5_readEither_60
      · have B_52608 : bn 0 299 y12_2 := bn_w (bn_gtr c_52606 (show bn 300 300 (300 : Int32) from bn_k (by decide)) b_y12_2) (by decide)
        refine lv_aload_n hx hb dX5_readEither_19 rfl (lv_at hl 0 rfl) ?_
        obtain ⟨v_52609, v_52611, v_52613, v_52615, v_52617, v_52619, v_52621, v_52623, v_52625, p_ad_2_0, b_52610, b_52612, b_52614, b_52616, b_52618, b_52620, b_52622, b_52624, b_52626⟩ := opnC_2r (j := 0) I (by decide)
        have p_ad_2_0 : pt L_12 f_12 (ad 2 0) (.inr (5, [.ref (ad 50 0), .ref (ad 51 0), .ref (ad 52 0), .ref (ad 53 0), .int v_52609, .int v_52611, .int v_52613, .int v_52615, .int v_52617, .int v_52619, .int v_52621, .ref (ad 30 t), .int v_52623, .int v_52625])) := p_ad_2_0
        refine pg_get S Y ok_X5 7 (by decide) kf5_52 (v := .int v_52615) p_ad_2_0 rfl dX5_readEither_20 ?_
        refine lv_bipush (v := 27) hx hb dX5_readEither_23 (by decide) ?_
        refine lv_icmp_ne (tgt := 59) hx hb dX5_readEither_25 (by decide) (fun c_52627 => ?_) (fun c_52627 => ?_)
        · refine lv_iconst (v := 1) hx hb dX5_readEither_59 (by decide) ?_
          exact prI (post := fun r L1 f1 => bn 0 1 r ∧ SH (spC (RF 30 t) fc tc w q) nnC G ad L1 f1) S Y rfl (by decide) (by decide) hA1 ⟨bn_w (show bn 1 1 (1 : Int32) from bn_k (by decide)) (by decide), I⟩ dX5_readEither_60
        · have B_52628 : bn 27 27 v_52615 := bn_w (bn_eq c_52627 (show bn 27 27 (27 : Int32) from bn_k (by decide))) (by decide)
          refine lv_aload_n hx hb dX5_readEither_28 rfl (lv_at hl 0 rfl) ?_
          refine cVv (As := []) (rest := []) S Y (x_X5_step (l := l) I hW hT hQ) cw_X5_step km5_49 p_ad_2_0 ok_X5.1 rfl rfl ⟨Nat.le_of_ble_eq_true rfl, Nat.le_of_ble_eq_true rfl⟩ hl.1 rfl (Nat.le_of_ble_eq_true rfl) ⟨Nat.le_of_ble_eq_true rfl, Nat.le_of_ble_eq_true rfl⟩ dX5_readEither_29 (fun L_52629 f_52630 H locs I Y => ?_)
          refine lv_aload_n hx hb dX5_readEither_32 rfl (lv_at hl 0 rfl) ?_
          refine lv_iload_n hx hb dX5_readEither_33 rfl (lv_at hl 1 rfl) ?_
          refine cVi (As := [.int i1]) (rest := []) S Y (x_X5_readBoth_z (l := l) (t := t) I hW hT hQ ht (bn_w b_i1 (by decide))) cw_X5_readBoth km5_190 (I.opo (k := 2) (j := 0) (by decide) rfl).choose_spec.1 ok_X5.1 rfl rfl ⟨Nat.le_of_ble_eq_true rfl, Nat.le_of_ble_eq_true rfl⟩ hl.1 rfl (Nat.le_of_ble_eq_true rfl) ⟨Nat.le_of_ble_eq_true rfl, Nat.le_of_ble_eq_true rfl⟩ dX5_readEither_34 (fun r_52633 L_52631 f_52632 H locs hr_52633 Y => ?_)
          obtain ⟨er_52633, I⟩ := hr_52633
          refine lv_if_ne (tgt := 42) hx hb dX5_readEither_37 (by decide) (fun c_52634 => ?_) (fun c_52634 => ?_)
          · have B_52635 : bn 1 1 r_52633 := bn_w (bn_nel c_52634 er_52633 (show bn 0 0 (0 : Int32) from bn_k (by decide))) (by decide)
            refine lv_aload_n hx hb dX5_readEither_42 rfl (lv_at hl 0 rfl) ?_
            obtain ⟨v_52637, v_52639, v_52641, v_52643, v_52645, v_52647, v_52649, v_52651, v_52653, p_ad_2_0, b_52638, b_52640, b_52642, b_52644, b_52646, b_52648, b_52650, b_52652, b_52654⟩ := opnC_2r (j := 0) I (by decide)
            have p_ad_2_0 : pt L_52631 f_52632 (ad 2 0) (.inr (5, [.ref (ad 50 0), .ref (ad 51 0), .ref (ad 52 0), .ref (ad 53 0), .int v_52637, .int v_52639, .int v_52641, .int v_52643, .int v_52645, .int v_52647, .int v_52649, .ref (ad 30 t), .int v_52651, .int v_52653])) := p_ad_2_0
            refine pg_get S Y ok_X5 11 (by decide) kf5_34 (v := .ref (ad 30 t)) p_ad_2_0 rfl dX5_readEither_43 ?_
            refine lv_bipush (v := 19) hx hb dX5_readEither_46 (by decide) ?_
            refine lv_iconst (v := 0) hx hb dX5_readEither_48 (by decide) ?_
            refine cVi (As := [.int 19, .int 0]) (rest := []) S Y (x_X7_add (l := l) (j := t) I hW hT hQ (show t < 8 from by omega)) cw_X7_add km5_169 (I.opo (k := 30) (j := t) (show t < 8 from by omega) rfl).choose_spec.1 ok_X7.1 rfl rfl ⟨Nat.le_of_ble_eq_true rfl, Nat.le_of_ble_eq_true rfl⟩ hl.1 rfl (Nat.le_of_ble_eq_true rfl) ⟨Nat.le_of_ble_eq_true rfl, Nat.le_of_ble_eq_true rfl⟩ dX5_readEither_49 (fun r_52657 L_52655 f_52656 H locs I Y => ?_)
            refine lv_pop hx hb dX5_readEither_52 rfl ?_
            obtain ⟨x_52658, ex_52658⟩ : ∃ z : Int32, z = y12_2 + 1 := ⟨_, rfl⟩
            refine lv_iinc (v := x_52658) (lv' := [(2, .int x_52658), (0, .ref (ad 2 0)), (1, .int i1)]) hx hb dX5_readEither_53 hl (k := 2) rfl (by rw [ex_52658]; rfl) (by decide) rfl (fun ls hl => ?_)
            refine lv_goto (tgt := 12) hx hb dX5_readEither_56 (by decide) ?_
            exact ih12 _ (by rw [← hm12]; exact ms_up (m := 1) ex_52658 (show bn 1 1 (1 : Int32) from bn_k (by decide)) B_52608 (bn_w (bn_eq ex_52658 (bn_add B_52608 (show bn 1 1 (1 : Int32) from bn_k (by decide)) (by decide))) (by decide) : bn 0 300 x_52658) (by decide)) x_52658 _ _  _ _ _ I (bn_w (bn_eq ex_52658 (bn_add B_52608 (show bn 1 1 (1 : Int32) from bn_k (by decide)) (by decide))) (by decide)) rfl Y (lv_sub hl [1, 2, 0] rfl)
          · have B_52636 : bn 0 0 r_52633 := bn_w (bn_eq c_52634 (show bn 0 0 (0 : Int32) from bn_k (by decide))) (by decide)
            refine lv_iconst (v := 0) hx hb dX5_readEither_40 (by decide) ?_
            exact prI (post := fun r L1 f1 => bn 0 1 r ∧ SH (spC (RF 30 t) fc tc w q) nnC G ad L1 f1) S Y rfl (by decide) (by decide) hA1 ⟨bn_w (show bn 0 0 (0 : Int32) from bn_k (by decide)) (by decide), I⟩ dX5_readEither_41
  refine lv_aload_n hx hb dX5_readEither_0 rfl (lv_at hl 0 rfl) ?_
  refine lv_iload_n hx hb dX5_readEither_1 rfl (lv_at hl 1 rfl) ?_
  refine cVi (As := [.int i1]) (rest := []) S Y (x_X5_readBoth_z (l := l) (t := t) I hW hT hQ ht (bn_w b_i1 (by decide))) cw_X5_readBoth km5_190 (I.opo (k := 2) (j := 0) (by decide) rfl).choose_spec.1 ok_X5.1 rfl rfl ⟨Nat.le_of_ble_eq_true rfl, Nat.le_of_ble_eq_true rfl⟩ hl.1 rfl (Nat.le_of_ble_eq_true rfl) ⟨Nat.le_of_ble_eq_true rfl, Nat.le_of_ble_eq_true rfl⟩ dX5_readEither_2 (fun r_52661 L_52659 f_52660 H locs hr_52661 Y => ?_)
  obtain ⟨er_52661, I⟩ := hr_52661
  refine lv_if_ne (tgt := 10) hx hb dX5_readEither_5 (by decide) (fun c_52662 => ?_) (fun c_52662 => ?_)
  · have B_52663 : bn 1 1 r_52661 := bn_w (bn_nel c_52662 er_52661 (show bn 0 0 (0 : Int32) from bn_k (by decide))) (by decide)
    refine lv_iconst (v := 0) hx hb dX5_readEither_10 (by decide) ?_
    refine lv_istore_n (lv' := [(2, .int 0), (0, .ref (ad 2 0)), (1, .int i1)]) hx hb dX5_readEither_11 rfl hl (by decide) rfl (fun ls hl => ?_)
    exact J_12 _ 0 _ _  _ _ _ I (bn_w (show bn 0 0 (0 : Int32) from bn_k (by decide)) (by decide)) rfl Y (lv_sub hl [1, 2, 0] rfl)
  · have B_52664 : bn 0 0 r_52661 := bn_w (bn_eq c_52662 (show bn 0 0 (0 : Int32) from bn_k (by decide))) (by decide)
    refine lv_iconst (v := 0) hx hb dX5_readEither_8 (by decide) ?_
    exact prI (post := fun r L1 f1 => bn 0 1 r ∧ SH (spC (RF 30 t) fc tc w q) nnC G ad L1 f1) S Y rfl (by decide) (by decide) hA1 ⟨bn_w (show bn 0 0 (0 : Int32) from bn_k (by decide)) (by decide), I⟩ dX5_readEither_9
set_option maxHeartbeats 4000000 in
set_option maxRecDepth 100000 in
theorem x_X5_readJust_z {l : Launch} {G : GG}  {L : List Nat} {f : HF} {ad : Nat → Nat → Nat} {fc : Int × Int} {tc w : Nat → Int × Int} {q : Nat → (Nat → Int32) → Prop} {t : Nat} {i1 : Int32} (I : SH (spC (RF 30 t) fc tc w q) nnC G ad L f) (hW : WBp w 8) (hT : WBp tc 4) (hQ : QIp q) (ht : t < 4) (b_i1 : bn 8 8 i1) : PMi l yX5_readJust cX5_readJust 3 .boolean 15 0 0 G [.ref (ad 2 0), .int i1] L f (fun r L1 f1 => bn 0 1 r ∧ SH (spC (RF 30 t) fc tc w q) nnC G ad L1 f1) := by
  refine PMi.of (post := fun r L1 f1 => bn 0 1 r ∧ SH (spC (RF 30 t) fc tc w q) nnC G ad L1 f1) (own := RX5) (by decide) rfl (Nat.le_of_ble_eq_true rfl) (fun sz p e s m args below meth c A ls hA1 hname S Y hl => ?_)
  have hx := S.hx
  have hb := S.hb
  have hl : lv_has ls 3 [(0, .ref (ad 2 0)), (1, .int i1)] := hl
  have J_21 : ∀ (n21 : Nat) (y21_2 : Int32) (L_21 : List Nat) (f_21 : HF) (H : Heap) (locs : List Loc) (ls : Array Slot), (SH (spC (RF 30 t) fc tc w q) nnC G ad L_21 f_21) → (bn 1 6 y21_2) → (((6 : Int) - y21_2.toInt).toNat = n21) → (DY G A s [] L_21 f_21 H locs) → (lv_has ls 3 [(0, .ref (ad 2 0)), (1, .int i1), (2, .int y21_2)]) → W p l e (rmD 15 0 0) s m args below meth c H locs (0) (0) (MQ below (va_Qi (fun r (u : List Nat × HF) => (fun r L1 f1 => bn 0 1 r ∧ SH (spC (RF 30 t) fc tc w q) nnC G ad L1 f1) r u.1 u.2) (fun u t => pOut G (va_A (va_pl L f) sz) u.1 u.2 t) (va_A (va_pl L f) sz)) args s 0 0 A) (F0 m 21 ls []) := by
    intro n21
    induction n21 using Nat.strongRecOn with
    | _ n21 ih21 =>
      intro y21_2 L_21 f_21 H locs ls I b_y21_2 hm21 Y hl
      refine lv_iload_n hx hb dX5_readJust_21 rfl (lv_at hl 2 rfl) ?_
      refine lv_bipush (v := 6) hx hb dX5_readJust_22 (by decide) ?_
      refine lv_icmp_ge (tgt := 56) hx hb dX5_readJust_24 (by decide) (fun c_52998 => ?_) (fun c_52998 => ?_)
      · have B_52999 : bn 6 6 y21_2 := bn_w (bn_ler c_52998 (show bn 6 6 (6 : Int32) from bn_k (by decide)) b_y21_2) (by decide)
        refine lv_aload_n hx hb dX5_readJust_56 rfl (lv_at hl 0 rfl) ?_
        obtain ⟨v_53001, v_53003, v_53005, v_53007, v_53009, v_53011, v_53013, v_53015, v_53017, p_ad_2_0, b_53002, b_53004, b_53006, b_53008, b_53010, b_53012, b_53014, b_53016, b_53018⟩ := opnC_2r (j := 0) I (by decide)
        have p_ad_2_0 : pt L_21 f_21 (ad 2 0) (.inr (5, [.ref (ad 50 0), .ref (ad 51 0), .ref (ad 52 0), .ref (ad 53 0), .int v_53001, .int v_53003, .int v_53005, .int v_53007, .int v_53009, .int v_53011, .int v_53013, .ref (ad 30 t), .int v_53015, .int v_53017])) := p_ad_2_0
        refine pg_get S Y ok_X5 7 (by decide) kf5_52 (v := .int v_53007) p_ad_2_0 rfl dX5_readJust_57 ?_
        refine lv_bipush (v := 44) hx hb dX5_readJust_60 (by decide) ?_
        refine lv_icmp_ne (tgt := 72) hx hb dX5_readJust_62 (by decide) (fun c_53019 => ?_) (fun c_53019 => ?_)
        · refine lv_aload_n hx hb dX5_readJust_72 rfl (lv_at hl 0 rfl) ?_
          refine pg_get S Y ok_X5 11 (by decide) kf5_34 (v := .ref (ad 30 t)) p_ad_2_0 rfl dX5_readJust_73 ?_
          refine lv_bipush (v := 7) hx hb dX5_readJust_76 (by decide) ?_
          refine lv_iload_n hx hb dX5_readJust_78 rfl (lv_at hl 2 rfl) ?_
          refine cVi (As := [.int 7, .int y21_2]) (rest := []) S Y (x_X7_add (l := l) (j := t) I hW hT hQ (show t < 8 from by omega)) cw_X7_add km5_169 (I.opo (k := 30) (j := t) (show t < 8 from by omega) rfl).choose_spec.1 ok_X7.1 rfl rfl ⟨Nat.le_of_ble_eq_true rfl, Nat.le_of_ble_eq_true rfl⟩ hl.1 rfl (Nat.le_of_ble_eq_true rfl) ⟨Nat.le_of_ble_eq_true rfl, Nat.le_of_ble_eq_true rfl⟩ dX5_readJust_79 (fun r_53023 L_53021 f_53022 H locs I Y => ?_)
          refine lv_pop hx hb dX5_readJust_82 rfl ?_
          refine lv_aload_n hx hb dX5_readJust_83 rfl (lv_at hl 0 rfl) ?_
          refine lv_bipush (v := 41) hx hb dX5_readJust_84 (by decide) ?_
          refine cVi (As := [.int 41]) (rest := []) S Y (x_X5_expect (l := l) I hW hT hQ) cw_X5_expect km5_140 (I.opo (k := 2) (j := 0) (by decide) rfl).choose_spec.1 ok_X5.1 rfl rfl ⟨Nat.le_of_ble_eq_true rfl, Nat.le_of_ble_eq_true rfl⟩ hl.1 rfl (Nat.le_of_ble_eq_true rfl) ⟨Nat.le_of_ble_eq_true rfl, Nat.le_of_ble_eq_true rfl⟩ dX5_readJust_86 (fun r_53026 L_53024 f_53025 H locs hr_53026 Y => ?_)
          obtain ⟨er_53026, I⟩ := hr_53026
          exact prI (post := fun r L1 f1 => bn 0 1 r ∧ SH (spC (RF 30 t) fc tc w q) nnC G ad L1 f1) S Y (nw_b (bn_w er_53026 (by decide))) (by decide) (by decide) hA1 ⟨bn_w er_53026 (by decide), I⟩ dX5_readJust_89
        · have B_53020 : bn 44 44 v_53007 := bn_w (bn_eq c_53019 (show bn 44 44 (44 : Int32) from bn_k (by decide))) (by decide)
          refine lv_aload_n hx hb dX5_readJust_65 rfl (lv_at hl 0 rfl) ?_
          refine lv_bipush (v := 7) hx hb dX5_readJust_66 (by decide) ?_
          refine cVi (As := [.int 7]) (rest := []) S Y (x_X5_fail (l := l) I hW hT hQ) cw_X5_fail km5_121 p_ad_2_0 ok_X5.1 rfl rfl ⟨Nat.le_of_ble_eq_true rfl, Nat.le_of_ble_eq_true rfl⟩ hl.1 rfl (Nat.le_of_ble_eq_true rfl) ⟨Nat.le_of_ble_eq_true rfl, Nat.le_of_ble_eq_true rfl⟩ dX5_readJust_68 (fun r_53029 L_53027 f_53028 H locs hr_53029 Y => ?_)
          obtain ⟨er_53029, I⟩ := hr_53029
          exact prI (post := fun r L1 f1 => bn 0 1 r ∧ SH (spC (RF 30 t) fc tc w q) nnC G ad L1 f1) S Y (nw_b (bn_w er_53029 (by decide))) (by decide) (by decide) hA1 ⟨bn_w er_53029 (by decide), I⟩ dX5_readJust_71
      · have B_53000 : bn 1 5 y21_2 := bn_w (bn_gtr c_52998 (show bn 6 6 (6 : Int32) from bn_k (by decide)) b_y21_2) (by decide)
        refine lv_aload_n hx hb dX5_readJust_27 rfl (lv_at hl 0 rfl) ?_
        obtain ⟨v_53030, v_53032, v_53034, v_53036, v_53038, v_53040, v_53042, v_53044, v_53046, p_ad_2_0, b_53031, b_53033, b_53035, b_53037, b_53039, b_53041, b_53043, b_53045, b_53047⟩ := opnC_2r (j := 0) I (by decide)
        have p_ad_2_0 : pt L_21 f_21 (ad 2 0) (.inr (5, [.ref (ad 50 0), .ref (ad 51 0), .ref (ad 52 0), .ref (ad 53 0), .int v_53030, .int v_53032, .int v_53034, .int v_53036, .int v_53038, .int v_53040, .int v_53042, .ref (ad 30 t), .int v_53044, .int v_53046])) := p_ad_2_0
        refine pg_get S Y ok_X5 7 (by decide) kf5_52 (v := .int v_53036) p_ad_2_0 rfl dX5_readJust_28 ?_
        refine lv_bipush (v := 44) hx hb dX5_readJust_31 (by decide) ?_
        refine lv_icmp_ne (tgt := 56) hx hb dX5_readJust_33 (by decide) (fun c_53048 => ?_) (fun c_53048 => ?_)
        · refine lv_aload_n hx hb dX5_readJust_56 rfl (lv_at hl 0 rfl) ?_
          refine pg_get S Y ok_X5 7 (by decide) kf5_52 (v := .int v_53036) p_ad_2_0 rfl dX5_readJust_57 ?_
          refine lv_bipush (v := 44) hx hb dX5_readJust_60 (by decide) ?_
          refine lv_icmp_ne (tgt := 72) hx hb dX5_readJust_62 (by decide) (fun _ => ?_) (fun h => absurd h c_53048)
          refine lv_aload_n hx hb dX5_readJust_72 rfl (lv_at hl 0 rfl) ?_
          refine pg_get S Y ok_X5 11 (by decide) kf5_34 (v := .ref (ad 30 t)) p_ad_2_0 rfl dX5_readJust_73 ?_
          refine lv_bipush (v := 7) hx hb dX5_readJust_76 (by decide) ?_
          refine lv_iload_n hx hb dX5_readJust_78 rfl (lv_at hl 2 rfl) ?_
          refine cVi (As := [.int 7, .int y21_2]) (rest := []) S Y (x_X7_add (l := l) (j := t) I hW hT hQ (show t < 8 from by omega)) cw_X7_add km5_169 (I.opo (k := 30) (j := t) (show t < 8 from by omega) rfl).choose_spec.1 ok_X7.1 rfl rfl ⟨Nat.le_of_ble_eq_true rfl, Nat.le_of_ble_eq_true rfl⟩ hl.1 rfl (Nat.le_of_ble_eq_true rfl) ⟨Nat.le_of_ble_eq_true rfl, Nat.le_of_ble_eq_true rfl⟩ dX5_readJust_79 (fun r_53052 L_53050 f_53051 H locs I Y => ?_)
          refine lv_pop hx hb dX5_readJust_82 rfl ?_
          refine lv_aload_n hx hb dX5_readJust_83 rfl (lv_at hl 0 rfl) ?_
          refine lv_bipush (v := 41) hx hb dX5_readJust_84 (by decide) ?_
          refine cVi (As := [.int 41]) (rest := []) S Y (x_X5_expect (l := l) I hW hT hQ) cw_X5_expect km5_140 (I.opo (k := 2) (j := 0) (by decide) rfl).choose_spec.1 ok_X5.1 rfl rfl ⟨Nat.le_of_ble_eq_true rfl, Nat.le_of_ble_eq_true rfl⟩ hl.1 rfl (Nat.le_of_ble_eq_true rfl) ⟨Nat.le_of_ble_eq_true rfl, Nat.le_of_ble_eq_true rfl⟩ dX5_readJust_86 (fun r_53055 L_53053 f_53054 H locs hr_53055 Y => ?_)
          obtain ⟨er_53055, I⟩ := hr_53055
          exact prI (post := fun r L1 f1 => bn 0 1 r ∧ SH (spC (RF 30 t) fc tc w q) nnC G ad L1 f1) S Y (nw_b (bn_w er_53055 (by decide))) (by decide) (by decide) hA1 ⟨bn_w er_53055 (by decide), I⟩ dX5_readJust_89
        · have B_53049 : bn 44 44 v_53036 := bn_w (bn_eq c_53048 (show bn 44 44 (44 : Int32) from bn_k (by decide))) (by decide)
          refine lv_aload_n hx hb dX5_readJust_36 rfl (lv_at hl 0 rfl) ?_
          refine cVv (As := []) (rest := []) S Y (x_X5_step (l := l) I hW hT hQ) cw_X5_step km5_49 p_ad_2_0 ok_X5.1 rfl rfl ⟨Nat.le_of_ble_eq_true rfl, Nat.le_of_ble_eq_true rfl⟩ hl.1 rfl (Nat.le_of_ble_eq_true rfl) ⟨Nat.le_of_ble_eq_true rfl, Nat.le_of_ble_eq_true rfl⟩ dX5_readJust_37 (fun L_53056 f_53057 H locs I Y => ?_)
          refine lv_aload_n hx hb dX5_readJust_40 rfl (lv_at hl 0 rfl) ?_
          refine lv_iload_n hx hb dX5_readJust_41 rfl (lv_at hl 1 rfl) ?_
          refine cVi (As := [.int i1]) (rest := []) S Y (x_X5_readEither_z (l := l) (t := t) I hW hT hQ ht (bn_w b_i1 (by decide))) cw_X5_readEither km5_184 (I.opo (k := 2) (j := 0) (by decide) rfl).choose_spec.1 ok_X5.1 rfl rfl ⟨Nat.le_of_ble_eq_true rfl, Nat.le_of_ble_eq_true rfl⟩ hl.1 rfl (Nat.le_of_ble_eq_true rfl) ⟨Nat.le_of_ble_eq_true rfl, Nat.le_of_ble_eq_true rfl⟩ dX5_readJust_42 (fun r_53060 L_53058 f_53059 H locs hr_53060 Y => ?_)
          obtain ⟨er_53060, I⟩ := hr_53060
          refine lv_if_ne (tgt := 50) hx hb dX5_readJust_45 (by decide) (fun c_53061 => ?_) (fun c_53061 => ?_)
          · have B_53062 : bn 1 1 r_53060 := bn_w (bn_nel c_53061 er_53060 (show bn 0 0 (0 : Int32) from bn_k (by decide))) (by decide)
            obtain ⟨x_53064, ex_53064⟩ : ∃ z : Int32, z = y21_2 + 1 := ⟨_, rfl⟩
            refine lv_iinc (v := x_53064) (lv' := [(2, .int x_53064), (0, .ref (ad 2 0)), (1, .int i1)]) hx hb dX5_readJust_50 hl (k := 2) rfl (by rw [ex_53064]; rfl) (by decide) rfl (fun ls hl => ?_)
            refine lv_goto (tgt := 21) hx hb dX5_readJust_53 (by decide) ?_
            exact ih21 _ (by rw [← hm21]; exact ms_up (m := 1) ex_53064 (show bn 1 1 (1 : Int32) from bn_k (by decide)) B_53000 (bn_w (bn_eq ex_53064 (bn_add B_53000 (show bn 1 1 (1 : Int32) from bn_k (by decide)) (by decide))) (by decide) : bn 1 6 x_53064) (by decide)) x_53064 _ _  _ _ _ I (bn_w (bn_eq ex_53064 (bn_add B_53000 (show bn 1 1 (1 : Int32) from bn_k (by decide)) (by decide))) (by decide)) rfl Y (lv_sub hl [1, 2, 0] rfl)
          · have B_53063 : bn 0 0 r_53060 := bn_w (bn_eq c_53061 (show bn 0 0 (0 : Int32) from bn_k (by decide))) (by decide)
            refine lv_iconst (v := 0) hx hb dX5_readJust_48 (by decide) ?_
            exact prI (post := fun r L1 f1 => bn 0 1 r ∧ SH (spC (RF 30 t) fc tc w q) nnC G ad L1 f1) S Y rfl (by decide) (by decide) hA1 ⟨bn_w (show bn 0 0 (0 : Int32) from bn_k (by decide)) (by decide), I⟩ dX5_readJust_49
  refine lv_aload_n hx hb dX5_readJust_0 rfl (lv_at hl 0 rfl) ?_
  refine lv_bipush (v := 40) hx hb dX5_readJust_1 (by decide) ?_
  refine cVi (As := [.int 40]) (rest := []) S Y (x_X5_expect (l := l) I hW hT hQ) cw_X5_expect km5_140 (I.opo (k := 2) (j := 0) (by decide) rfl).choose_spec.1 ok_X5.1 rfl rfl ⟨Nat.le_of_ble_eq_true rfl, Nat.le_of_ble_eq_true rfl⟩ hl.1 rfl (Nat.le_of_ble_eq_true rfl) ⟨Nat.le_of_ble_eq_true rfl, Nat.le_of_ble_eq_true rfl⟩ dX5_readJust_3 (fun r_53067 L_53065 f_53066 H locs hr_53067 Y => ?_)
  obtain ⟨er_53067, I⟩ := hr_53067
  refine lv_if_eq (tgt := 17) hx hb dX5_readJust_6 (by decide) (fun c_53068 => ?_) (fun c_53068 => ?_)
  · have B_53069 : bn 0 0 r_53067 := bn_w (bn_eq c_53068 (show bn 0 0 (0 : Int32) from bn_k (by decide))) (by decide)
    refine lv_iconst (v := 0) hx hb dX5_readJust_17 (by decide) ?_
    exact prI (post := fun r L1 f1 => bn 0 1 r ∧ SH (spC (RF 30 t) fc tc w q) nnC G ad L1 f1) S Y rfl (by decide) (by decide) hA1 ⟨bn_w (show bn 0 0 (0 : Int32) from bn_k (by decide)) (by decide), I⟩ dX5_readJust_18
  · have B_53070 : bn 1 1 r_53067 := bn_w (bn_nel c_53068 er_53067 (show bn 0 0 (0 : Int32) from bn_k (by decide))) (by decide)
    refine lv_aload_n hx hb dX5_readJust_9 rfl (lv_at hl 0 rfl) ?_
    refine lv_iload_n hx hb dX5_readJust_10 rfl (lv_at hl 1 rfl) ?_
    refine cVi (As := [.int i1]) (rest := []) S Y (x_X5_readEither_z (l := l) (t := t) I hW hT hQ ht (bn_w b_i1 (by decide))) cw_X5_readEither km5_184 (I.opo (k := 2) (j := 0) (by decide) rfl).choose_spec.1 ok_X5.1 rfl rfl ⟨Nat.le_of_ble_eq_true rfl, Nat.le_of_ble_eq_true rfl⟩ hl.1 rfl (Nat.le_of_ble_eq_true rfl) ⟨Nat.le_of_ble_eq_true rfl, Nat.le_of_ble_eq_true rfl⟩ dX5_readJust_11 (fun r_53073 L_53071 f_53072 H locs hr_53073 Y => ?_)
    obtain ⟨er_53073, I⟩ := hr_53073
    refine lv_if_ne (tgt := 19) hx hb dX5_readJust_14 (by decide) (fun c_53074 => ?_) (fun c_53074 => ?_)
    · have B_53075 : bn 1 1 r_53073 := bn_w (bn_nel c_53074 er_53073 (show bn 0 0 (0 : Int32) from bn_k (by decide))) (by decide)
      refine lv_iconst (v := 1) hx hb dX5_readJust_19 (by decide) ?_
      refine lv_istore_n (lv' := [(2, .int 1), (0, .ref (ad 2 0)), (1, .int i1)]) hx hb dX5_readJust_20 rfl hl (by decide) rfl (fun ls hl => ?_)
      exact J_21 _ 1 _ _  _ _ _ I (bn_w (show bn 1 1 (1 : Int32) from bn_k (by decide)) (by decide)) rfl Y (lv_sub hl [1, 2, 0] rfl)
    · have B_53076 : bn 0 0 r_53073 := bn_w (bn_eq c_53074 (show bn 0 0 (0 : Int32) from bn_k (by decide))) (by decide)
      refine lv_iconst (v := 0) hx hb dX5_readJust_17 (by decide) ?_
      exact prI (post := fun r L1 f1 => bn 0 1 r ∧ SH (spC (RF 30 t) fc tc w q) nnC G ad L1 f1) S Y rfl (by decide) (by decide) hA1 ⟨bn_w (show bn 0 0 (0 : Int32) from bn_k (by decide)) (by decide), I⟩ dX5_readJust_18
set_option maxHeartbeats 4000000 in
set_option maxRecDepth 100000 in
theorem x_X5_readChoice_z {l : Launch} {G : GG}  {L : List Nat} {f : HF} {ad : Nat → Nat → Nat} {fc : Int × Int} {tc w : Nat → Int × Int} {q : Nat → (Nat → Int32) → Prop} {t : Nat} {i1 : Int32} (I : SH (spC (RF 30 t) fc tc w q) nnC G ad L f) (hW : WBp w 8) (hT : WBp tc 4) (hQ : QIp q) (ht : t < 4) (b_i1 : bn 8 8 i1) : PMi l yX5_readChoice cX5_readChoice 4 .boolean 15 0 0 G [.ref (ad 2 0), .int i1] L f (fun r L1 f1 => bn 0 1 r ∧ SH (spC (RF 30 t) fc tc w q) nnC G ad L1 f1) := by
  refine PMi.of (post := fun r L1 f1 => bn 0 1 r ∧ SH (spC (RF 30 t) fc tc w q) nnC G ad L1 f1) (own := RX5) (by decide) rfl (Nat.le_of_ble_eq_true rfl) (fun sz p e s m args below meth c A ls hA1 hname S Y hl => ?_)
  have hx := S.hx
  have hb := S.hb
  have hl : lv_has ls 4 [(0, .ref (ad 2 0)), (1, .int i1)] := hl
  refine lv_aload_n hx hb dX5_readChoice_0 rfl (lv_at hl 0 rfl) ?_
  refine lv_iload_n hx hb dX5_readChoice_1 rfl (lv_at hl 1 rfl) ?_
  refine cVi (As := [.int i1]) (rest := []) S Y (x_X5_readEither_z (l := l) (t := t) I hW hT hQ ht (bn_w b_i1 (by decide))) cw_X5_readEither km5_184 (I.opo (k := 2) (j := 0) (by decide) rfl).choose_spec.1 ok_X5.1 rfl rfl ⟨Nat.le_of_ble_eq_true rfl, Nat.le_of_ble_eq_true rfl⟩ hl.1 rfl (Nat.le_of_ble_eq_true rfl) ⟨Nat.le_of_ble_eq_true rfl, Nat.le_of_ble_eq_true rfl⟩ dX5_readChoice_2 (fun r_53315 L_53313 f_53314 H locs hr_53315 Y => ?_)
  obtain ⟨er_53315, I⟩ := hr_53315
  refine lv_if_eq (tgt := 17) hx hb dX5_readChoice_5 (by decide) (fun c_53316 => ?_) (fun c_53316 => ?_)
  · have B_53317 : bn 0 0 r_53315 := bn_w (bn_eq c_53316 (show bn 0 0 (0 : Int32) from bn_k (by decide))) (by decide)
    refine lv_iconst (v := 0) hx hb dX5_readChoice_17 (by decide) ?_
    exact prI (post := fun r L1 f1 => bn 0 1 r ∧ SH (spC (RF 30 t) fc tc w q) nnC G ad L1 f1) S Y rfl (by decide) (by decide) hA1 ⟨bn_w (show bn 0 0 (0 : Int32) from bn_k (by decide)) (by decide), I⟩ dX5_readChoice_18
  · have B_53318 : bn 1 1 r_53315 := bn_w (bn_nel c_53316 er_53315 (show bn 0 0 (0 : Int32) from bn_k (by decide))) (by decide)
    refine lv_aload_n hx hb dX5_readChoice_8 rfl (lv_at hl 0 rfl) ?_
    refine lv_bipush (v := 24) hx hb dX5_readChoice_9 (by decide) ?_
    refine cVi (As := [.int 24]) (rest := []) S Y (x_X5_expect (l := l) I hW hT hQ) cw_X5_expect km5_140 (I.opo (k := 2) (j := 0) (by decide) rfl).choose_spec.1 ok_X5.1 rfl rfl ⟨Nat.le_of_ble_eq_true rfl, Nat.le_of_ble_eq_true rfl⟩ hl.1 rfl (Nat.le_of_ble_eq_true rfl) ⟨Nat.le_of_ble_eq_true rfl, Nat.le_of_ble_eq_true rfl⟩ dX5_readChoice_11 (fun r_53321 L_53319 f_53320 H locs hr_53321 Y => ?_)
    obtain ⟨er_53321, I⟩ := hr_53321
    refine lv_if_ne (tgt := 19) hx hb dX5_readChoice_14 (by decide) (fun c_53322 => ?_) (fun c_53322 => ?_)
    · have B_53323 : bn 1 1 r_53321 := bn_w (bn_nel c_53322 er_53321 (show bn 0 0 (0 : Int32) from bn_k (by decide))) (by decide)
      refine lv_aload_n hx hb dX5_readChoice_19 rfl (lv_at hl 0 rfl) ?_
      obtain ⟨v_53325, v_53327, v_53329, v_53331, v_53333, v_53335, v_53337, v_53339, v_53341, p_ad_2_0, b_53326, b_53328, b_53330, b_53332, b_53334, b_53336, b_53338, b_53340, b_53342⟩ := opnC_2r (j := 0) I (by decide)
      have p_ad_2_0 : pt L_53319 f_53320 (ad 2 0) (.inr (5, [.ref (ad 50 0), .ref (ad 51 0), .ref (ad 52 0), .ref (ad 53 0), .int v_53325, .int v_53327, .int v_53329, .int v_53331, .int v_53333, .int v_53335, .int v_53337, .ref (ad 30 t), .int v_53339, .int v_53341])) := p_ad_2_0
      refine pg_get S Y ok_X5 11 (by decide) kf5_34 (v := .ref (ad 30 t)) p_ad_2_0 rfl dX5_readChoice_20 ?_
      refine lv_iconst (v := 4) hx hb dX5_readChoice_23 (by decide) ?_
      refine lv_iconst (v := 0) hx hb dX5_readChoice_24 (by decide) ?_
      refine cVi (As := [.int 4, .int 0]) (rest := []) S Y (x_X7_add (l := l) (j := t) I hW hT hQ (show t < 8 from by omega)) cw_X7_add km5_169 (I.opo (k := 30) (j := t) (show t < 8 from by omega) rfl).choose_spec.1 ok_X7.1 rfl rfl ⟨Nat.le_of_ble_eq_true rfl, Nat.le_of_ble_eq_true rfl⟩ hl.1 rfl (Nat.le_of_ble_eq_true rfl) ⟨Nat.le_of_ble_eq_true rfl, Nat.le_of_ble_eq_true rfl⟩ dX5_readChoice_25 (fun r_53345 L_53343 f_53344 H locs I Y => ?_)
      refine lv_istore_n (lv' := [(2, .int r_53345), (0, .ref (ad 2 0)), (1, .int i1)]) hx hb dX5_readChoice_28 rfl hl (by decide) rfl (fun ls hl => ?_)
      refine lv_aload_n hx hb dX5_readChoice_29 rfl (lv_at hl 1 rfl) ?_
      refine lv_iload_n hx hb dX5_readChoice_30 rfl (lv_at hl 2 rfl) ?_
      refine cVi (As := [.int i1]) (rest := []) S Y (x_X5_readSum_z (l := l) (t := t) I hW hT hQ ht (bn_w b_i1 (by decide))) cw_X5_readSum km5_147 (I.opo (k := 2) (j := 0) (by decide) rfl).choose_spec.1 ok_X5.1 rfl rfl ⟨Nat.le_of_ble_eq_true rfl, Nat.le_of_ble_eq_true rfl⟩ hl.1 rfl (Nat.le_of_ble_eq_true rfl) ⟨Nat.le_of_ble_eq_true rfl, Nat.le_of_ble_eq_true rfl⟩ dX5_readChoice_31 (fun r_53348 L_53346 f_53347 H locs hr_53348 Y => ?_)
      obtain ⟨er_53348, I⟩ := hr_53348
      refine lv_if_eq (tgt := 46) hx hb dX5_readChoice_34 (by decide) (fun c_53349 => ?_) (fun c_53349 => ?_)
      · have B_53350 : bn 0 0 r_53348 := bn_w (bn_eq c_53349 (show bn 0 0 (0 : Int32) from bn_k (by decide))) (by decide)
        refine lv_iconst (v := 0) hx hb dX5_readChoice_46 (by decide) ?_
        exact prI (post := fun r L1 f1 => bn 0 1 r ∧ SH (spC (RF 30 t) fc tc w q) nnC G ad L1 f1) S Y rfl (by decide) (by decide) hA1 ⟨bn_w (show bn 0 0 (0 : Int32) from bn_k (by decide)) (by decide), I⟩ dX5_readChoice_47
      · have B_53351 : bn 1 1 r_53348 := bn_w (bn_nel c_53349 er_53348 (show bn 0 0 (0 : Int32) from bn_k (by decide))) (by decide)
        refine lv_aload_n hx hb dX5_readChoice_37 rfl (lv_at hl 1 rfl) ?_
        refine lv_bipush (v := 25) hx hb dX5_readChoice_38 (by decide) ?_
        refine cVi (As := [.int 25]) (rest := []) S Y (x_X5_expect (l := l) I hW hT hQ) cw_X5_expect km5_140 (I.opo (k := 2) (j := 0) (by decide) rfl).choose_spec.1 ok_X5.1 rfl rfl ⟨Nat.le_of_ble_eq_true rfl, Nat.le_of_ble_eq_true rfl⟩ hl.1 rfl (Nat.le_of_ble_eq_true rfl) ⟨Nat.le_of_ble_eq_true rfl, Nat.le_of_ble_eq_true rfl⟩ dX5_readChoice_40 (fun r_53354 L_53352 f_53353 H locs hr_53354 Y => ?_)
        obtain ⟨er_53354, I⟩ := hr_53354
        refine lv_if_ne (tgt := 48) hx hb dX5_readChoice_43 (by decide) (fun c_53355 => ?_) (fun c_53355 => ?_)
        · have B_53356 : bn 1 1 r_53354 := bn_w (bn_nel c_53355 er_53354 (show bn 0 0 (0 : Int32) from bn_k (by decide))) (by decide)
          refine lv_aload_n hx hb dX5_readChoice_48 rfl (lv_at hl 1 rfl) ?_
          obtain ⟨v_53358, v_53360, v_53362, v_53364, v_53366, v_53368, v_53370, v_53372, v_53374, p_ad_2_0, b_53359, b_53361, b_53363, b_53365, b_53367, b_53369, b_53371, b_53373, b_53375⟩ := opnC_2r (j := 0) I (by decide)
          have p_ad_2_0 : pt L_53352 f_53353 (ad 2 0) (.inr (5, [.ref (ad 50 0), .ref (ad 51 0), .ref (ad 52 0), .ref (ad 53 0), .int v_53358, .int v_53360, .int v_53362, .int v_53364, .int v_53366, .int v_53368, .int v_53370, .ref (ad 30 t), .int v_53372, .int v_53374])) := p_ad_2_0
          refine pg_get S Y ok_X5 11 (by decide) kf5_34 (v := .ref (ad 30 t)) p_ad_2_0 rfl dX5_readChoice_49 ?_
          refine lv_iconst (v := 3) hx hb dX5_readChoice_52 (by decide) ?_
          refine lv_iconst (v := 0) hx hb dX5_readChoice_53 (by decide) ?_
          refine cVi (As := [.int 3, .int 0]) (rest := []) S Y (x_X7_add (l := l) (j := t) I hW hT hQ (show t < 8 from by omega)) cw_X7_add km5_169 (I.opo (k := 30) (j := t) (show t < 8 from by omega) rfl).choose_spec.1 ok_X7.1 rfl rfl ⟨Nat.le_of_ble_eq_true rfl, Nat.le_of_ble_eq_true rfl⟩ hl.1 rfl (Nat.le_of_ble_eq_true rfl) ⟨Nat.le_of_ble_eq_true rfl, Nat.le_of_ble_eq_true rfl⟩ dX5_readChoice_54 (fun r_53378 L_53376 f_53377 H locs I Y => ?_)
          refine lv_istore_n (lv' := [(3, .int r_53378), (2, .int r_53345), (0, .ref (ad 2 0)), (1, .int i1)]) hx hb dX5_readChoice_57 rfl hl (by decide) rfl (fun ls hl => ?_)
          refine lv_aload_n hx hb dX5_readChoice_58 rfl (lv_at hl 2 rfl) ?_
          obtain ⟨v_53379, v_53381, v_53383, v_53385, v_53387, v_53389, v_53391, v_53393, v_53395, p_ad_2_0, b_53380, b_53382, b_53384, b_53386, b_53388, b_53390, b_53392, b_53394, b_53396⟩ := opnC_2r (j := 0) I (by decide)
          have p_ad_2_0 : pt L_53376 f_53377 (ad 2 0) (.inr (5, [.ref (ad 50 0), .ref (ad 51 0), .ref (ad 52 0), .ref (ad 53 0), .int v_53379, .int v_53381, .int v_53383, .int v_53385, .int v_53387, .int v_53389, .int v_53391, .ref (ad 30 t), .int v_53393, .int v_53395])) := p_ad_2_0
          refine pg_get S Y ok_X5 11 (by decide) kf5_34 (v := .ref (ad 30 t)) p_ad_2_0 rfl dX5_readChoice_59 ?_
          refine lv_iload_n hx hb dX5_readChoice_62 rfl (lv_at hl 1 rfl) ?_
          refine cVv (As := [.int r_53345]) (rest := []) S Y (x_X7_leadHere (l := l) (j := t) I hW hT hQ (show t < 8 from by omega)) cw_X7_leadHere km5_187 (I.opo (k := 30) (j := t) (show t < 8 from by omega) rfl).choose_spec.1 ok_X7.1 rfl rfl ⟨Nat.le_of_ble_eq_true rfl, Nat.le_of_ble_eq_true rfl⟩ hl.1 rfl (Nat.le_of_ble_eq_true rfl) ⟨Nat.le_of_ble_eq_true rfl, Nat.le_of_ble_eq_true rfl⟩ dX5_readChoice_63 (fun L_53397 f_53398 H locs I Y => ?_)
          refine lv_aload_n hx hb dX5_readChoice_66 rfl (lv_at hl 2 rfl) ?_
          refine lv_iload_n hx hb dX5_readChoice_67 rfl (lv_at hl 3 rfl) ?_
          refine cVi (As := [.int i1]) (rest := []) S Y (x_X5_readSum_z (l := l) (t := t) I hW hT hQ ht (bn_w b_i1 (by decide))) cw_X5_readSum km5_147 (I.opo (k := 2) (j := 0) (by decide) rfl).choose_spec.1 ok_X5.1 rfl rfl ⟨Nat.le_of_ble_eq_true rfl, Nat.le_of_ble_eq_true rfl⟩ hl.1 rfl (Nat.le_of_ble_eq_true rfl) ⟨Nat.le_of_ble_eq_true rfl, Nat.le_of_ble_eq_true rfl⟩ dX5_readChoice_68 (fun r_53401 L_53399 f_53400 H locs hr_53401 Y => ?_)
          obtain ⟨er_53401, I⟩ := hr_53401
          refine lv_if_eq (tgt := 83) hx hb dX5_readChoice_71 (by decide) (fun c_53402 => ?_) (fun c_53402 => ?_)
          · have B_53403 : bn 0 0 r_53401 := bn_w (bn_eq c_53402 (show bn 0 0 (0 : Int32) from bn_k (by decide))) (by decide)
            refine lv_iconst (v := 0) hx hb dX5_readChoice_83 (by decide) ?_
            exact prI (post := fun r L1 f1 => bn 0 1 r ∧ SH (spC (RF 30 t) fc tc w q) nnC G ad L1 f1) S Y rfl (by decide) (by decide) hA1 ⟨bn_w (show bn 0 0 (0 : Int32) from bn_k (by decide)) (by decide), I⟩ dX5_readChoice_84
          · have B_53404 : bn 1 1 r_53401 := bn_w (bn_nel c_53402 er_53401 (show bn 0 0 (0 : Int32) from bn_k (by decide))) (by decide)
            refine lv_aload_n hx hb dX5_readChoice_74 rfl (lv_at hl 2 rfl) ?_
            refine lv_bipush (v := 26) hx hb dX5_readChoice_75 (by decide) ?_
            refine cVi (As := [.int 26]) (rest := []) S Y (x_X5_expect (l := l) I hW hT hQ) cw_X5_expect km5_140 (I.opo (k := 2) (j := 0) (by decide) rfl).choose_spec.1 ok_X5.1 rfl rfl ⟨Nat.le_of_ble_eq_true rfl, Nat.le_of_ble_eq_true rfl⟩ hl.1 rfl (Nat.le_of_ble_eq_true rfl) ⟨Nat.le_of_ble_eq_true rfl, Nat.le_of_ble_eq_true rfl⟩ dX5_readChoice_77 (fun r_53407 L_53405 f_53406 H locs hr_53407 Y => ?_)
            obtain ⟨er_53407, I⟩ := hr_53407
            refine lv_if_ne (tgt := 85) hx hb dX5_readChoice_80 (by decide) (fun c_53408 => ?_) (fun c_53408 => ?_)
            · have B_53409 : bn 1 1 r_53407 := bn_w (bn_nel c_53408 er_53407 (show bn 0 0 (0 : Int32) from bn_k (by decide))) (by decide)
              refine lv_aload_n hx hb dX5_readChoice_85 rfl (lv_at hl 2 rfl) ?_
              obtain ⟨v_53411, v_53413, v_53415, v_53417, v_53419, v_53421, v_53423, v_53425, v_53427, p_ad_2_0, b_53412, b_53414, b_53416, b_53418, b_53420, b_53422, b_53424, b_53426, b_53428⟩ := opnC_2r (j := 0) I (by decide)
              have p_ad_2_0 : pt L_53405 f_53406 (ad 2 0) (.inr (5, [.ref (ad 50 0), .ref (ad 51 0), .ref (ad 52 0), .ref (ad 53 0), .int v_53411, .int v_53413, .int v_53415, .int v_53417, .int v_53419, .int v_53421, .int v_53423, .ref (ad 30 t), .int v_53425, .int v_53427])) := p_ad_2_0
              refine pg_get S Y ok_X5 11 (by decide) kf5_34 (v := .ref (ad 30 t)) p_ad_2_0 rfl dX5_readChoice_86 ?_
              refine lv_iload_n hx hb dX5_readChoice_89 rfl (lv_at hl 0 rfl) ?_
              refine cVv (As := [.int r_53378]) (rest := []) S Y (x_X7_leadHere (l := l) (j := t) I hW hT hQ (show t < 8 from by omega)) cw_X7_leadHere km5_187 (I.opo (k := 30) (j := t) (show t < 8 from by omega) rfl).choose_spec.1 ok_X7.1 rfl rfl ⟨Nat.le_of_ble_eq_true rfl, Nat.le_of_ble_eq_true rfl⟩ hl.1 rfl (Nat.le_of_ble_eq_true rfl) ⟨Nat.le_of_ble_eq_true rfl, Nat.le_of_ble_eq_true rfl⟩ dX5_readChoice_90 (fun L_53429 f_53430 H locs I Y => ?_)
              refine lv_iconst (v := 1) hx hb dX5_readChoice_93 (by decide) ?_
              exact prI (post := fun r L1 f1 => bn 0 1 r ∧ SH (spC (RF 30 t) fc tc w q) nnC G ad L1 f1) S Y rfl (by decide) (by decide) hA1 ⟨bn_w (show bn 1 1 (1 : Int32) from bn_k (by decide)) (by decide), I⟩ dX5_readChoice_94
            · have B_53410 : bn 0 0 r_53407 := bn_w (bn_eq c_53408 (show bn 0 0 (0 : Int32) from bn_k (by decide))) (by decide)
              refine lv_iconst (v := 0) hx hb dX5_readChoice_83 (by decide) ?_
              exact prI (post := fun r L1 f1 => bn 0 1 r ∧ SH (spC (RF 30 t) fc tc w q) nnC G ad L1 f1) S Y rfl (by decide) (by decide) hA1 ⟨bn_w (show bn 0 0 (0 : Int32) from bn_k (by decide)) (by decide), I⟩ dX5_readChoice_84
        · have B_53357 : bn 0 0 r_53354 := bn_w (bn_eq c_53355 (show bn 0 0 (0 : Int32) from bn_k (by decide))) (by decide)
          refine lv_iconst (v := 0) hx hb dX5_readChoice_46 (by decide) ?_
          exact prI (post := fun r L1 f1 => bn 0 1 r ∧ SH (spC (RF 30 t) fc tc w q) nnC G ad L1 f1) S Y rfl (by decide) (by decide) hA1 ⟨bn_w (show bn 0 0 (0 : Int32) from bn_k (by decide)) (by decide), I⟩ dX5_readChoice_47
    · have B_53324 : bn 0 0 r_53321 := bn_w (bn_eq c_53322 (show bn 0 0 (0 : Int32) from bn_k (by decide))) (by decide)
      refine lv_iconst (v := 0) hx hb dX5_readChoice_17 (by decide) ?_
      exact prI (post := fun r L1 f1 => bn 0 1 r ∧ SH (spC (RF 30 t) fc tc w q) nnC G ad L1 f1) S Y rfl (by decide) (by decide) hA1 ⟨bn_w (show bn 0 0 (0 : Int32) from bn_k (by decide)) (by decide), I⟩ dX5_readChoice_18
set_option maxHeartbeats 4000000 in
set_option maxRecDepth 100000 in
theorem x_X5_readOne_s {l : Launch} {G : GG}  {L : List Nat} {f : HF} {ad : Nat → Nat → Nat} {fc : Int × Int} {tc w : Nat → Int × Int} {q : Nat → (Nat → Int32) → Prop} {t : Nat} {i1 : Int32} {n : Nat} (I : SH (spC (RF 30 t) fc tc w q) nnC G ad L f) (hW : WBp w 8) (hT : WBp tc 4) (hQ : QIp q) (ht : t < 4) (b_i1 : bn 0 8 i1) (hm : (8 - i1.toInt).toNat ≤ n + 1) (ihS : ∀ {L : List Nat} {f : HF} {t : Nat} {i1 : Int32}, (SH (spC (RF 30 t) fc tc w q) nnC G ad L f) → (WBp w 8) → (WBp tc 4) → (QIp q) → (t < 4) → (bn 0 8 i1) → ((8 - i1.toInt).toNat ≤ n) → PMi l yX5_readSum cX5_readSum 4 .boolean (16 * n + 10) 0 0 G [.ref (ad 2 0), .int i1] L f (fun r L1 f1 => bn 0 1 r ∧ SH (spC (RF 30 t) fc tc w q) nnC G ad L1 f1)) (ihC : ∀ {L : List Nat} {f : HF} {t : Nat} {i1 : Int32}, (SH (spC (RF 30 t) fc tc w q) nnC G ad L f) → (WBp w 8) → (WBp tc 4) → (QIp q) → (t < 4) → (bn 0 8 i1) → ((8 - i1.toInt).toNat ≤ n) → PMi l yX5_readChoice cX5_readChoice 4 .boolean (16 * n + 15) 0 0 G [.ref (ad 2 0), .int i1] L f (fun r L1 f1 => bn 0 1 r ∧ SH (spC (RF 30 t) fc tc w q) nnC G ad L1 f1)) (ihO : ∀ {L : List Nat} {f : HF} {t : Nat} {i1 : Int32}, (SH (spC (RF 30 t) fc tc w q) nnC G ad L f) → (WBp w 8) → (WBp tc 4) → (QIp q) → (t < 4) → (bn 0 8 i1) → ((8 - i1.toInt).toNat ≤ n) → PMi l yX5_readOne cX5_readOne 3 .boolean (16 * n + 8) 0 0 G [.ref (ad 2 0), .int i1] L f (fun r L1 f1 => bn 0 1 r ∧ SH (spC (RF 30 t) fc tc w q) nnC G ad L1 f1)) (ihJ : ∀ {L : List Nat} {f : HF} {t : Nat} {i1 : Int32}, (SH (spC (RF 30 t) fc tc w q) nnC G ad L f) → (WBp w 8) → (WBp tc 4) → (QIp q) → (t < 4) → (bn 0 8 i1) → ((8 - i1.toInt).toNat ≤ n) → PMi l yX5_readJust cX5_readJust 3 .boolean (16 * n + 15) 0 0 G [.ref (ad 2 0), .int i1] L f (fun r L1 f1 => bn 0 1 r ∧ SH (spC (RF 30 t) fc tc w q) nnC G ad L1 f1)) (ihA : ∀ {L : List Nat} {f : HF} {t : Nat} {i1 : Int32}, (SH (spC (RF 30 t) fc tc w q) nnC G ad L f) → (WBp w 8) → (WBp tc 4) → (QIp q) → (t < 4) → (bn 0 8 i1) → ((8 - i1.toInt).toNat ≤ n) → PMi l yX5_readAsk cX5_readAsk 3 .boolean (16 * n + 12) 0 0 G [.ref (ad 2 0), .int i1] L f (fun r L1 f1 => bn 0 1 r ∧ SH (spC (RF 30 t) fc tc w q) nnC G ad L1 f1)) : PMi l yX5_readOne cX5_readOne 3 .boolean (16 * (n + 1) + 8) 0 0 G [.ref (ad 2 0), .int i1] L f (fun r L1 f1 => bn 0 1 r ∧ SH (spC (RF 30 t) fc tc w q) nnC G ad L1 f1) := by
  refine PMi.of (post := fun r L1 f1 => bn 0 1 r ∧ SH (spC (RF 30 t) fc tc w q) nnC G ad L1 f1) (own := RX5) (by decide) rfl (Nat.le_of_ble_eq_true rfl) (fun sz p e s m args below meth c A ls hA1 hname S Y hl => ?_)
  have hx := S.hx
  have hb := S.hb
  have hl : lv_has ls 3 [(0, .ref (ad 2 0)), (1, .int i1)] := hl
  have J_152 : ∀ (y152_2 y152_s0 : Int32) (L_152 : List Nat) (f_152 : HF) (H : Heap) (locs : List Loc) (ls : Array Slot), (SH (spC (RF 30 t) fc tc w q) nnC G ad L_152 f_152) → (bn 22 45 y152_2) → (bn 2 5 y152_s0) → (bn 0 7 i1) → (DY G A s [] L_152 f_152 H locs) → (lv_has ls 3 [(0, .ref (ad 2 0)), (1, .int i1), (2, .int y152_2)]) → W p l e (rmD (16 * (n + 1) + 8) 0 0) s m args below meth c H locs (0) (0) (MQ below (va_Qi (fun r (u : List Nat × HF) => (fun r L1 f1 => bn 0 1 r ∧ SH (spC (RF 30 t) fc tc w q) nnC G ad L1 f1) r u.1 u.2) (fun u t => pOut G (va_A (va_pl L f) sz) u.1 u.2 t) (va_A (va_pl L f) sz)) args s 0 0 A) (F0 m 152 ls [.int y152_s0, .ref (ad 30 t)]) := by
    intro y152_2 y152_s0 L_152 f_152 H locs ls I b_y152_2 b_y152_s0 b152_i1 Y hl
    refine lv_iconst (v := 0) hx hb dX5_readOne_152 (by decide) ?_
    refine cVi (As := [.int y152_s0, .int 0]) (rest := []) S Y (x_X7_add (l := l) (j := t) I hW hT hQ (show t < 8 from by omega)) cw_X7_add km5_169 (I.opo (k := 30) (j := t) (show t < 8 from by omega) rfl).choose_spec.1 ok_X7.1 rfl rfl (by unfold rmD; dsimp only; omega) hl.1 rfl (Nat.le_of_ble_eq_true rfl) (by unfold rmD; dsimp only; omega) dX5_readOne_153 (fun r_53639 L_53637 f_53638 H locs I Y => ?_)
    refine lv_pop hx hb dX5_readOne_156 rfl ?_
    refine lv_iconst (v := 1) hx hb dX5_readOne_157 (by decide) ?_
    exact prI (post := fun r L1 f1 => bn 0 1 r ∧ SH (spC (RF 30 t) fc tc w q) nnC G ad L1 f1) S Y rfl (by decide) (by decide) hA1 ⟨bn_w (show bn 1 1 (1 : Int32) from bn_k (by decide)) (by decide), I⟩ dX5_readOne_158
  have J_64 : ∀ (y64_2 : Int32) (L_64 : List Nat) (f_64 : HF) (H : Heap) (locs : List Loc) (ls : Array Slot), (SH (spC (RF 30 t) fc tc w q) nnC G ad L_64 f_64) → (bn 22 45 y64_2) → (DY G A s [] L_64 f_64 H locs) → (lv_has ls 3 [(0, .ref (ad 2 0)), (1, .int i1), (2, .int y64_2)]) → W p l e (rmD (16 * (n + 1) + 8) 0 0) s m args below meth c H locs (0) (0) (MQ below (va_Qi (fun r (u : List Nat × HF) => (fun r L1 f1 => bn 0 1 r ∧ SH (spC (RF 30 t) fc tc w q) nnC G ad L1 f1) r u.1 u.2) (fun u t => pOut G (va_A (va_pl L f) sz) u.1 u.2 t) (va_A (va_pl L f) sz)) args s 0 0 A) (F0 m 64 ls []) := by
    intro y64_2 L_64 f_64 H locs ls I b_y64_2 Y hl
    refine lv_iload_n hx hb dX5_readOne_64 rfl (lv_at hl 1 rfl) ?_
    refine lv_bipush (v := 8) hx hb dX5_readOne_65 (by decide) ?_
    refine lv_icmp_lt (tgt := 76) hx hb dX5_readOne_67 (by decide) (fun c_53640 => ?_) (fun c_53640 => ?_)
    · have B_53641 : bn 0 7 i1 := bn_w (bn_ltl c_53640 b_i1 (show bn 8 8 (8 : Int32) from bn_k (by decide))) (by decide)
      refine lv_aload_n hx hb dX5_readOne_76 rfl (lv_at hl 0 rfl) ?_
      refine cVv (As := []) (rest := []) S Y (x_X5_step (l := l) I hW hT hQ) cw_X5_step km5_49 (I.opo (k := 2) (j := 0) (by decide) rfl).choose_spec.1 ok_X5.1 rfl rfl (by unfold rmD; dsimp only; omega) hl.1 rfl (Nat.le_of_ble_eq_true rfl) (by unfold rmD; dsimp only; omega) dX5_readOne_77 (fun L_53643 f_53644 H locs I Y => ?_)
      refine lv_iload_n hx hb dX5_readOne_80 rfl (lv_at hl 2 rfl) ?_
      refine lv_bipush (v := 40) hx hb dX5_readOne_81 (by decide) ?_
      refine lv_icmp_ne (tgt := 111) hx hb dX5_readOne_83 (by decide) (fun c_53645 => ?_) (fun c_53645 => ?_)
      · refine lv_iload_n hx hb dX5_readOne_111 rfl (lv_at hl 2 rfl) ?_
        refine lv_bipush (v := 23) hx hb dX5_readOne_112 (by decide) ?_
        refine lv_icmp_ne (tgt := 125) hx hb dX5_readOne_114 (by decide) (fun c_53647 => ?_) (fun c_53647 => ?_)
        · refine lv_aload_n hx hb dX5_readOne_125 rfl (lv_at hl 0 rfl) ?_
          refine lv_iload_n hx hb dX5_readOne_126 rfl (lv_at hl 1 rfl) ?_
          refine lv_iconst (v := 1) hx hb dX5_readOne_127 (by decide) ?_
          refine lv_iadd hx hb dX5_readOne_128 ?_
          refine lv_topi (fun x_53649 ex_53649 => ?_)
          refine cVi (As := [.int x_53649]) (rest := []) S Y (ihO I hW hT hQ ht (bn_w (bn_eq ex_53649 (bn_add B_53641 (show bn 1 1 (1 : Int32) from bn_k (by decide)) (by decide))) (by decide)) (od_s ex_53649 (bn_w B_53641 (by decide)) hm)) cw_X5_readOne km5_172 (I.opo (k := 2) (j := 0) (by decide) rfl).choose_spec.1 ok_X5.1 rfl rfl (by unfold rmD; dsimp only; omega) hl.1 rfl (Nat.le_of_ble_eq_true rfl) (by unfold rmD; dsimp only; omega) dX5_readOne_129 (fun r_53652 L_53650 f_53651 H locs hr_53652 Y => ?_)
          obtain ⟨er_53652, I⟩ := hr_53652
          refine lv_if_ne (tgt := 137) hx hb dX5_readOne_132 (by decide) (fun c_53653 => ?_) (fun c_53653 => ?_)
          · have B_53654 : bn 1 1 r_53652 := bn_w (bn_nel c_53653 er_53652 (show bn 0 0 (0 : Int32) from bn_k (by decide))) (by decide)
            refine lv_aload_n hx hb dX5_readOne_137 rfl (lv_at hl 0 rfl) ?_
            obtain ⟨v_53656, v_53658, v_53660, v_53662, v_53664, v_53666, v_53668, v_53670, v_53672, p_ad_2_0, b_53657, b_53659, b_53661, b_53663, b_53665, b_53667, b_53669, b_53671, b_53673⟩ := opnC_2r (j := 0) I (by decide)
            have p_ad_2_0 : pt L_53650 f_53651 (ad 2 0) (.inr (5, [.ref (ad 50 0), .ref (ad 51 0), .ref (ad 52 0), .ref (ad 53 0), .int v_53656, .int v_53658, .int v_53660, .int v_53662, .int v_53664, .int v_53666, .int v_53668, .ref (ad 30 t), .int v_53670, .int v_53672])) := p_ad_2_0
            refine pg_get S Y ok_X5 11 (by decide) kf5_34 (v := .ref (ad 30 t)) p_ad_2_0 rfl dX5_readOne_138 ?_
            refine lv_iload_n hx hb dX5_readOne_141 rfl (lv_at hl 2 rfl) ?_
            refine lv_bipush (v := 45) hx hb dX5_readOne_142 (by decide) ?_
            refine lv_icmp_ne (tgt := 151) hx hb dX5_readOne_144 (by decide) (fun c_53674 => ?_) (fun c_53674 => ?_)
            · have B_53675 : bn 22 44 y64_2 := bn_w (bn_neu c_53674 b_y64_2 (show bn 45 45 (45 : Int32) from bn_k (by decide))) (by decide)
              refine lv_iconst (v := 2) hx hb dX5_readOne_151 (by decide) ?_
              exact J_152 y64_2 2 _ _  _ _ _ I (bn_w B_53675 (by decide)) (bn_w (show bn 2 2 (2 : Int32) from bn_k (by decide)) (by decide)) (bn_w B_53641 (by decide)) Y (lv_sub hl [0, 1, 2] rfl)
            · have B_53676 : bn 45 45 y64_2 := bn_w (bn_eq c_53674 (show bn 45 45 (45 : Int32) from bn_k (by decide))) (by decide)
              refine lv_iconst (v := 5) hx hb dX5_readOne_147 (by decide) ?_
              refine lv_goto (tgt := 152) hx hb dX5_readOne_148 (by decide) ?_
              exact J_152 y64_2 5 _ _  _ _ _ I (bn_w B_53676 (by decide)) (bn_w (show bn 5 5 (5 : Int32) from bn_k (by decide)) (by decide)) (bn_w B_53641 (by decide)) Y (lv_sub hl [0, 1, 2] rfl)
          · have B_53655 : bn 0 0 r_53652 := bn_w (bn_eq c_53653 (show bn 0 0 (0 : Int32) from bn_k (by decide))) (by decide)
            refine lv_iconst (v := 0) hx hb dX5_readOne_135 (by decide) ?_
            exact prI (post := fun r L1 f1 => bn 0 1 r ∧ SH (spC (RF 30 t) fc tc w q) nnC G ad L1 f1) S Y rfl (by decide) (by decide) hA1 ⟨bn_w (show bn 0 0 (0 : Int32) from bn_k (by decide)) (by decide), I⟩ dX5_readOne_136
        · have B_53648 : bn 23 23 y64_2 := bn_w (bn_eq c_53647 (show bn 23 23 (23 : Int32) from bn_k (by decide))) (by decide)
          refine lv_aload_n hx hb dX5_readOne_117 rfl (lv_at hl 0 rfl) ?_
          refine lv_iload_n hx hb dX5_readOne_118 rfl (lv_at hl 1 rfl) ?_
          refine lv_iconst (v := 1) hx hb dX5_readOne_119 (by decide) ?_
          refine lv_iadd hx hb dX5_readOne_120 ?_
          refine lv_topi (fun x_53677 ex_53677 => ?_)
          refine cVi (As := [.int x_53677]) (rest := []) S Y (ihC I hW hT hQ ht (bn_w (bn_eq ex_53677 (bn_add B_53641 (show bn 1 1 (1 : Int32) from bn_k (by decide)) (by decide))) (by decide)) (od_s ex_53677 (bn_w B_53641 (by decide)) hm)) cw_X5_readChoice km5_181 (I.opo (k := 2) (j := 0) (by decide) rfl).choose_spec.1 ok_X5.1 rfl rfl (by unfold rmD; dsimp only; omega) hl.1 rfl (Nat.le_of_ble_eq_true rfl) (by unfold rmD; dsimp only; omega) dX5_readOne_121 (fun r_53680 L_53678 f_53679 H locs hr_53680 Y => ?_)
          obtain ⟨er_53680, I⟩ := hr_53680
          exact prI (post := fun r L1 f1 => bn 0 1 r ∧ SH (spC (RF 30 t) fc tc w q) nnC G ad L1 f1) S Y (nw_b (bn_w er_53680 (by decide))) (by decide) (by decide) hA1 ⟨bn_w er_53680 (by decide), I⟩ dX5_readOne_124
      · have B_53646 : bn 40 40 y64_2 := bn_w (bn_eq c_53645 (show bn 40 40 (40 : Int32) from bn_k (by decide))) (by decide)
        refine lv_aload_n hx hb dX5_readOne_86 rfl (lv_at hl 0 rfl) ?_
        refine lv_iload_n hx hb dX5_readOne_87 rfl (lv_at hl 1 rfl) ?_
        refine lv_iconst (v := 1) hx hb dX5_readOne_88 (by decide) ?_
        refine lv_iadd hx hb dX5_readOne_89 ?_
        refine lv_topi (fun x_53681 ex_53681 => ?_)
        refine cVi (As := [.int x_53681]) (rest := []) S Y (ihS I hW hT hQ ht (bn_w (bn_eq ex_53681 (bn_add B_53641 (show bn 1 1 (1 : Int32) from bn_k (by decide)) (by decide))) (by decide)) (od_s ex_53681 (bn_w B_53641 (by decide)) hm)) cw_X5_readSum km5_147 (I.opo (k := 2) (j := 0) (by decide) rfl).choose_spec.1 ok_X5.1 rfl rfl (by unfold rmD; dsimp only; omega) hl.1 rfl (Nat.le_of_ble_eq_true rfl) (by unfold rmD; dsimp only; omega) dX5_readOne_90 (fun r_53684 L_53682 f_53683 H locs hr_53684 Y => ?_)
        obtain ⟨er_53684, I⟩ := hr_53684
        refine lv_if_eq (tgt := 109) hx hb dX5_readOne_93 (by decide) (fun c_53685 => ?_) (fun c_53685 => ?_)
        · have B_53686 : bn 0 0 r_53684 := bn_w (bn_eq c_53685 (show bn 0 0 (0 : Int32) from bn_k (by decide))) (by decide)
          refine lv_iconst (v := 0) hx hb dX5_readOne_109 (by decide) ?_
          exact prI (post := fun r L1 f1 => bn 0 1 r ∧ SH (spC (RF 30 t) fc tc w q) nnC G ad L1 f1) S Y rfl (by decide) (by decide) hA1 ⟨bn_w (show bn 0 0 (0 : Int32) from bn_k (by decide)) (by decide), I⟩ dX5_readOne_110
        · have B_53687 : bn 1 1 r_53684 := bn_w (bn_nel c_53685 er_53684 (show bn 0 0 (0 : Int32) from bn_k (by decide))) (by decide)
          refine lv_aload_n hx hb dX5_readOne_96 rfl (lv_at hl 0 rfl) ?_
          refine lv_bipush (v := 41) hx hb dX5_readOne_97 (by decide) ?_
          refine cVi (As := [.int 41]) (rest := []) S Y (x_X5_expect (l := l) I hW hT hQ) cw_X5_expect km5_140 (I.opo (k := 2) (j := 0) (by decide) rfl).choose_spec.1 ok_X5.1 rfl rfl (by unfold rmD; dsimp only; omega) hl.1 rfl (Nat.le_of_ble_eq_true rfl) (by unfold rmD; dsimp only; omega) dX5_readOne_99 (fun r_53690 L_53688 f_53689 H locs hr_53690 Y => ?_)
          obtain ⟨er_53690, I⟩ := hr_53690
          refine lv_if_eq (tgt := 109) hx hb dX5_readOne_102 (by decide) (fun c_53691 => ?_) (fun c_53691 => ?_)
          · have B_53692 : bn 0 0 r_53690 := bn_w (bn_eq c_53691 (show bn 0 0 (0 : Int32) from bn_k (by decide))) (by decide)
            refine lv_iconst (v := 0) hx hb dX5_readOne_109 (by decide) ?_
            exact prI (post := fun r L1 f1 => bn 0 1 r ∧ SH (spC (RF 30 t) fc tc w q) nnC G ad L1 f1) S Y rfl (by decide) (by decide) hA1 ⟨bn_w (show bn 0 0 (0 : Int32) from bn_k (by decide)) (by decide), I⟩ dX5_readOne_110
          · have B_53693 : bn 1 1 r_53690 := bn_w (bn_nel c_53691 er_53690 (show bn 0 0 (0 : Int32) from bn_k (by decide))) (by decide)
            refine lv_iconst (v := 1) hx hb dX5_readOne_105 (by decide) ?_
            refine lv_goto (tgt := 110) hx hb dX5_readOne_106 (by decide) ?_
            exact prI (post := fun r L1 f1 => bn 0 1 r ∧ SH (spC (RF 30 t) fc tc w q) nnC G ad L1 f1) S Y rfl (by decide) (by decide) hA1 ⟨bn_w (show bn 1 1 (1 : Int32) from bn_k (by decide)) (by decide), I⟩ dX5_readOne_110
    · have B_53642 : bn 8 8 i1 := bn_w (bn_gel c_53640 b_i1 (show bn 8 8 (8 : Int32) from bn_k (by decide))) (by decide)
      refine lv_aload_n hx hb dX5_readOne_70 rfl (lv_at hl 0 rfl) ?_
      refine lv_iconst (v := 3) hx hb dX5_readOne_71 (by decide) ?_
      refine cVi (As := [.int 3]) (rest := []) S Y (x_X5_fail (l := l) I hW hT hQ) cw_X5_fail km5_121 (I.opo (k := 2) (j := 0) (by decide) rfl).choose_spec.1 ok_X5.1 rfl rfl (by unfold rmD; dsimp only; omega) hl.1 rfl (Nat.le_of_ble_eq_true rfl) (by unfold rmD; dsimp only; omega) dX5_readOne_72 (fun r_53696 L_53694 f_53695 H locs hr_53696 Y => ?_)
      obtain ⟨er_53696, I⟩ := hr_53696
      exact prI (post := fun r L1 f1 => bn 0 1 r ∧ SH (spC (RF 30 t) fc tc w q) nnC G ad L1 f1) S Y (nw_b (bn_w er_53696 (by decide))) (by decide) (by decide) hA1 ⟨bn_w er_53696 (by decide), I⟩ dX5_readOne_75
  have J_34 : ∀ (y34_2 : Int32) (L_34 : List Nat) (f_34 : HF) (H : Heap) (locs : List Loc) (ls : Array Slot), (SH (spC (RF 30 t) fc tc w q) nnC G ad L_34 f_34) → (DY G A s [] L_34 f_34 H locs) → (lv_has ls 3 [(0, .ref (ad 2 0)), (1, .int i1), (2, .int y34_2)]) → W p l e (rmD (16 * (n + 1) + 8) 0 0) s m args below meth c H locs (0) (0) (MQ below (va_Qi (fun r (u : List Nat × HF) => (fun r L1 f1 => bn 0 1 r ∧ SH (spC (RF 30 t) fc tc w q) nnC G ad L1 f1) r u.1 u.2) (fun u t => pOut G (va_A (va_pl L f) sz) u.1 u.2 t) (va_A (va_pl L f) sz)) args s 0 0 A) (F0 m 34 ls []) := by
    intro y34_2 L_34 f_34 H locs ls I Y hl
    refine lv_iload_n hx hb dX5_readOne_34 rfl (lv_at hl 2 rfl) ?_
    refine lv_bipush (v := 40) hx hb dX5_readOne_35 (by decide) ?_
    refine lv_icmp_eq (tgt := 64) hx hb dX5_readOne_37 (by decide) (fun c_53697 => ?_) (fun c_53697 => ?_)
    · have B_53698 : bn 40 40 y34_2 := bn_w (bn_eq c_53697 (show bn 40 40 (40 : Int32) from bn_k (by decide))) (by decide)
      exact J_64 y34_2 _ _  _ _ _ I (bn_w B_53698 (by decide)) Y (lv_sub hl [0, 1, 2] rfl)
    · refine lv_iload_n hx hb dX5_readOne_40 rfl (lv_at hl 2 rfl) ?_
      refine lv_bipush (v := 45) hx hb dX5_readOne_41 (by decide) ?_
      refine lv_icmp_eq (tgt := 64) hx hb dX5_readOne_43 (by decide) (fun c_53699 => ?_) (fun c_53699 => ?_)
      · have B_53700 : bn 45 45 y34_2 := bn_w (bn_eq c_53699 (show bn 45 45 (45 : Int32) from bn_k (by decide))) (by decide)
        exact J_64 y34_2 _ _  _ _ _ I (bn_w B_53700 (by decide)) Y (lv_sub hl [0, 1, 2] rfl)
      · refine lv_iload_n hx hb dX5_readOne_46 rfl (lv_at hl 2 rfl) ?_
        refine lv_bipush (v := 22) hx hb dX5_readOne_47 (by decide) ?_
        refine lv_icmp_eq (tgt := 64) hx hb dX5_readOne_49 (by decide) (fun c_53701 => ?_) (fun c_53701 => ?_)
        · have B_53702 : bn 22 22 y34_2 := bn_w (bn_eq c_53701 (show bn 22 22 (22 : Int32) from bn_k (by decide))) (by decide)
          exact J_64 y34_2 _ _  _ _ _ I (bn_w B_53702 (by decide)) Y (lv_sub hl [0, 1, 2] rfl)
        · refine lv_iload_n hx hb dX5_readOne_52 rfl (lv_at hl 2 rfl) ?_
          refine lv_bipush (v := 23) hx hb dX5_readOne_53 (by decide) ?_
          refine lv_icmp_eq (tgt := 64) hx hb dX5_readOne_55 (by decide) (fun c_53703 => ?_) (fun c_53703 => ?_)
          · have B_53704 : bn 23 23 y34_2 := bn_w (bn_eq c_53703 (show bn 23 23 (23 : Int32) from bn_k (by decide))) (by decide)
            exact J_64 y34_2 _ _  _ _ _ I (bn_w B_53704 (by decide)) Y (lv_sub hl [0, 1, 2] rfl)
          · refine lv_aload_n hx hb dX5_readOne_58 rfl (lv_at hl 0 rfl) ?_
            refine lv_iconst (v := 1) hx hb dX5_readOne_59 (by decide) ?_
            refine cVi (As := [.int 1]) (rest := []) S Y (x_X5_fail (l := l) I hW hT hQ) cw_X5_fail km5_121 (I.opo (k := 2) (j := 0) (by decide) rfl).choose_spec.1 ok_X5.1 rfl rfl (by unfold rmD; dsimp only; omega) hl.1 rfl (Nat.le_of_ble_eq_true rfl) (by unfold rmD; dsimp only; omega) dX5_readOne_60 (fun r_53707 L_53705 f_53706 H locs hr_53707 Y => ?_)
            obtain ⟨er_53707, I⟩ := hr_53707
            exact prI (post := fun r L1 f1 => bn 0 1 r ∧ SH (spC (RF 30 t) fc tc w q) nnC G ad L1 f1) S Y (nw_b (bn_w er_53707 (by decide))) (by decide) (by decide) hA1 ⟨bn_w er_53707 (by decide), I⟩ dX5_readOne_63
  refine lv_aload_n hx hb dX5_readOne_0 rfl (lv_at hl 0 rfl) ?_
  obtain ⟨v_53708, v_53710, v_53712, v_53714, v_53716, v_53718, v_53720, v_53722, v_53724, p_ad_2_0, b_53709, b_53711, b_53713, b_53715, b_53717, b_53719, b_53721, b_53723, b_53725⟩ := opnC_2r (j := 0) I (by decide)
  have p_ad_2_0 : pt L f (ad 2 0) (.inr (5, [.ref (ad 50 0), .ref (ad 51 0), .ref (ad 52 0), .ref (ad 53 0), .int v_53708, .int v_53710, .int v_53712, .int v_53714, .int v_53716, .int v_53718, .int v_53720, .ref (ad 30 t), .int v_53722, .int v_53724])) := p_ad_2_0
  refine pg_get S Y ok_X5 7 (by decide) kf5_52 (v := .int v_53714) p_ad_2_0 rfl dX5_readOne_1 ?_
  refine lv_istore_n (lv' := [(2, .int v_53714), (0, .ref (ad 2 0)), (1, .int i1)]) hx hb dX5_readOne_4 rfl hl (by decide) rfl (fun ls hl => ?_)
  refine lv_iload_n hx hb dX5_readOne_5 rfl (lv_at hl 0 rfl) ?_
  refine lv_sipush (v := 1000) hx hb dX5_readOne_6 (by decide) ?_
  refine lv_icmp_ne (tgt := 17) hx hb dX5_readOne_9 (by decide) (fun c_53726 => ?_) (fun c_53726 => ?_)
  · refine lv_iload_n hx hb dX5_readOne_17 rfl (lv_at hl 0 rfl) ?_
    refine lv_bipush (v := 9) hx hb dX5_readOne_18 (by decide) ?_
    refine lv_icmp_lt (tgt := 34) hx hb dX5_readOne_20 (by decide) (fun c_53728 => ?_) (fun c_53728 => ?_)
    · have B_53729 : bn (-2147483648) 8 v_53714 := bn_w (bn_ltl c_53728 (bn_any v_53714) (show bn 9 9 (9 : Int32) from bn_k (by decide))) (by decide)
      exact J_34 v_53714 _ _  _ _ _ I  Y (lv_sub hl [1, 2, 0] rfl)
    · have B_53730 : bn 9 2147483647 v_53714 := bn_w (bn_gel c_53728 (bn_any v_53714) (show bn 9 9 (9 : Int32) from bn_k (by decide))) (by decide)
      refine lv_iload_n hx hb dX5_readOne_23 rfl (lv_at hl 0 rfl) ?_
      refine lv_bipush (v := 18) hx hb dX5_readOne_24 (by decide) ?_
      refine lv_icmp_gt (tgt := 34) hx hb dX5_readOne_26 (by decide) (fun c_53731 => ?_) (fun c_53731 => ?_)
      · have B_53732 : bn 19 2147483647 v_53714 := bn_w (bn_ltr c_53731 (show bn 18 18 (18 : Int32) from bn_k (by decide)) B_53730) (by decide)
        exact J_34 v_53714 _ _  _ _ _ I  Y (lv_sub hl [1, 2, 0] rfl)
      · have B_53733 : bn 9 18 v_53714 := bn_w (bn_ger c_53731 (show bn 18 18 (18 : Int32) from bn_k (by decide)) B_53730) (by decide)
        refine lv_aload_n hx hb dX5_readOne_29 rfl (lv_at hl 1 rfl) ?_
        refine cVi (As := []) (rest := []) S Y (x_X5_readName (l := l) (t := t) I hW hT hQ ht) cw_X5_readName km5_178 p_ad_2_0 ok_X5.1 rfl rfl (by unfold rmD; dsimp only; omega) hl.1 rfl (Nat.le_of_ble_eq_true rfl) (by unfold rmD; dsimp only; omega) dX5_readOne_30 (fun r_53736 L_53734 f_53735 H locs hr_53736 Y => ?_)
        obtain ⟨er_53736, I⟩ := hr_53736
        exact prI (post := fun r L1 f1 => bn 0 1 r ∧ SH (spC (RF 30 t) fc tc w q) nnC G ad L1 f1) S Y (nw_b (bn_w er_53736 (by decide))) (by decide) (by decide) hA1 ⟨bn_w er_53736 (by decide), I⟩ dX5_readOne_33
  · have B_53727 : bn 1000 1000 v_53714 := bn_w (bn_eq c_53726 (show bn 1000 1000 (1000 : Int32) from bn_k (by decide))) (by decide)
    refine lv_aload_n hx hb dX5_readOne_12 rfl (lv_at hl 1 rfl) ?_
    refine cVi (As := []) (rest := []) S Y (x_X5_readPlainNumber (l := l) (t := t) I hW hT hQ ht) cw_X5_readPlainNumber km5_175 p_ad_2_0 ok_X5.1 rfl rfl (by unfold rmD; dsimp only; omega) hl.1 rfl (Nat.le_of_ble_eq_true rfl) (by unfold rmD; dsimp only; omega) dX5_readOne_13 (fun r_53739 L_53737 f_53738 H locs hr_53739 Y => ?_)
    obtain ⟨er_53739, I⟩ := hr_53739
    exact prI (post := fun r L1 f1 => bn 0 1 r ∧ SH (spC (RF 30 t) fc tc w q) nnC G ad L1 f1) S Y (nw_b (bn_w er_53739 (by decide))) (by decide) (by decide) hA1 ⟨bn_w er_53739 (by decide), I⟩ dX5_readOne_16
set_option maxHeartbeats 4000000 in
set_option maxRecDepth 100000 in
theorem x_X5_readProduct_s {l : Launch} {G : GG}  {L : List Nat} {f : HF} {ad : Nat → Nat → Nat} {fc : Int × Int} {tc w : Nat → Int × Int} {q : Nat → (Nat → Int32) → Prop} {t : Nat} {i1 : Int32} {n : Nat} (I : SH (spC (RF 30 t) fc tc w q) nnC G ad L f) (hW : WBp w 8) (hT : WBp tc 4) (hQ : QIp q) (ht : t < 4) (b_i1 : bn 0 8 i1) (hm : (8 - i1.toInt).toNat ≤ n + 1) (ihS : ∀ {L : List Nat} {f : HF} {t : Nat} {i1 : Int32}, (SH (spC (RF 30 t) fc tc w q) nnC G ad L f) → (WBp w 8) → (WBp tc 4) → (QIp q) → (t < 4) → (bn 0 8 i1) → ((8 - i1.toInt).toNat ≤ n) → PMi l yX5_readSum cX5_readSum 4 .boolean (16 * n + 10) 0 0 G [.ref (ad 2 0), .int i1] L f (fun r L1 f1 => bn 0 1 r ∧ SH (spC (RF 30 t) fc tc w q) nnC G ad L1 f1)) (ihC : ∀ {L : List Nat} {f : HF} {t : Nat} {i1 : Int32}, (SH (spC (RF 30 t) fc tc w q) nnC G ad L f) → (WBp w 8) → (WBp tc 4) → (QIp q) → (t < 4) → (bn 0 8 i1) → ((8 - i1.toInt).toNat ≤ n) → PMi l yX5_readChoice cX5_readChoice 4 .boolean (16 * n + 15) 0 0 G [.ref (ad 2 0), .int i1] L f (fun r L1 f1 => bn 0 1 r ∧ SH (spC (RF 30 t) fc tc w q) nnC G ad L1 f1)) (ihO : ∀ {L : List Nat} {f : HF} {t : Nat} {i1 : Int32}, (SH (spC (RF 30 t) fc tc w q) nnC G ad L f) → (WBp w 8) → (WBp tc 4) → (QIp q) → (t < 4) → (bn 0 8 i1) → ((8 - i1.toInt).toNat ≤ n) → PMi l yX5_readOne cX5_readOne 3 .boolean (16 * n + 8) 0 0 G [.ref (ad 2 0), .int i1] L f (fun r L1 f1 => bn 0 1 r ∧ SH (spC (RF 30 t) fc tc w q) nnC G ad L1 f1)) (ihJ : ∀ {L : List Nat} {f : HF} {t : Nat} {i1 : Int32}, (SH (spC (RF 30 t) fc tc w q) nnC G ad L f) → (WBp w 8) → (WBp tc 4) → (QIp q) → (t < 4) → (bn 0 8 i1) → ((8 - i1.toInt).toNat ≤ n) → PMi l yX5_readJust cX5_readJust 3 .boolean (16 * n + 15) 0 0 G [.ref (ad 2 0), .int i1] L f (fun r L1 f1 => bn 0 1 r ∧ SH (spC (RF 30 t) fc tc w q) nnC G ad L1 f1)) (ihA : ∀ {L : List Nat} {f : HF} {t : Nat} {i1 : Int32}, (SH (spC (RF 30 t) fc tc w q) nnC G ad L f) → (WBp w 8) → (WBp tc 4) → (QIp q) → (t < 4) → (bn 0 8 i1) → ((8 - i1.toInt).toNat ≤ n) → PMi l yX5_readAsk cX5_readAsk 3 .boolean (16 * n + 12) 0 0 G [.ref (ad 2 0), .int i1] L f (fun r L1 f1 => bn 0 1 r ∧ SH (spC (RF 30 t) fc tc w q) nnC G ad L1 f1)) : PMi l yX5_readProduct cX5_readProduct 4 .boolean (16 * (n + 1) + 9) 0 0 G [.ref (ad 2 0), .int i1] L f (fun r L1 f1 => bn 0 1 r ∧ SH (spC (RF 30 t) fc tc w q) nnC G ad L1 f1) := by
  refine PMi.of (post := fun r L1 f1 => bn 0 1 r ∧ SH (spC (RF 30 t) fc tc w q) nnC G ad L1 f1) (own := RX5) (by decide) rfl (Nat.le_of_ble_eq_true rfl) (fun sz p e s m args below meth c A ls hA1 hname S Y hl => ?_)
  have hx := S.hx
  have hb := S.hb
  have hl : lv_has ls 4 [(0, .ref (ad 2 0)), (1, .int i1)] := hl
  have J_12 : ∀ (n12 : Nat) (y12_2 : Int32) (L_12 : List Nat) (f_12 : HF) (H : Heap) (locs : List Loc) (ls : Array Slot), (SH (spC (RF 30 t) fc tc w q) nnC G ad L_12 f_12) → (bn 0 300 y12_2) → (((300 : Int) - y12_2.toInt).toNat = n12) → (DY G A s [] L_12 f_12 H locs) → (lv_has ls 4 [(0, .ref (ad 2 0)), (1, .int i1), (2, .int y12_2)]) → W p l e (rmD (16 * (n + 1) + 9) 0 0) s m args below meth c H locs (0) (0) (MQ below (va_Qi (fun r (u : List Nat × HF) => (fun r L1 f1 => bn 0 1 r ∧ SH (spC (RF 30 t) fc tc w q) nnC G ad L1 f1) r u.1 u.2) (fun u t => pOut G (va_A (va_pl L f) sz) u.1 u.2 t) (va_A (va_pl L f) sz)) args s 0 0 A) (F0 m 12 ls []) := by
    intro n12
    induction n12 using Nat.strongRecOn with
    | _ n12 ih12 =>
      intro y12_2 L_12 f_12 H locs ls I b_y12_2 hm12 Y hl
      refine lv_iload_n hx hb dX5_readProduct_12 rfl (lv_at hl 2 rfl) ?_
      refine lv_sipush (v := 300) hx hb dX5_readProduct_13 (by decide) ?_
      refine lv_icmp_ge (tgt := 84) hx hb dX5_readProduct_16 (by decide) (fun c_56956 => ?_) (fun c_56956 => ?_)
      · have B_56957 : bn 300 300 y12_2 := bn_w (bn_ler c_56956 (show bn 300 300 (300 : Int32) from bn_k (by decide)) b_y12_2) (by decide)
        refine lv_iconst (v := 1) hx hb dX5_readProduct_84 (by decide) ?_
        exact prI (post := fun r L1 f1 => bn 0 1 r ∧ SH (spC (RF 30 t) fc tc w q) nnC G ad L1 f1) S Y rfl (by decide) (by decide) hA1 ⟨bn_w (show bn 1 1 (1 : Int32) from bn_k (by decide)) (by decide), I⟩ dX5_readProduct_85
      · have B_56958 : bn 0 299 y12_2 := bn_w (bn_gtr c_56956 (show bn 300 300 (300 : Int32) from bn_k (by decide)) b_y12_2) (by decide)
        refine lv_aload_n hx hb dX5_readProduct_19 rfl (lv_at hl 0 rfl) ?_
        obtain ⟨v_56959, v_56961, v_56963, v_56965, v_56967, v_56969, v_56971, v_56973, v_56975, p_ad_2_0, b_56960, b_56962, b_56964, b_56966, b_56968, b_56970, b_56972, b_56974, b_56976⟩ := opnC_2r (j := 0) I (by decide)
        have p_ad_2_0 : pt L_12 f_12 (ad 2 0) (.inr (5, [.ref (ad 50 0), .ref (ad 51 0), .ref (ad 52 0), .ref (ad 53 0), .int v_56959, .int v_56961, .int v_56963, .int v_56965, .int v_56967, .int v_56969, .int v_56971, .ref (ad 30 t), .int v_56973, .int v_56975])) := p_ad_2_0
        refine pg_get S Y ok_X5 7 (by decide) kf5_52 (v := .int v_56965) p_ad_2_0 rfl dX5_readProduct_20 ?_
        refine lv_bipush (v := 42) hx hb dX5_readProduct_23 (by decide) ?_
        refine lv_icmp_eq (tgt := 37) hx hb dX5_readProduct_25 (by decide) (fun c_56977 => ?_) (fun c_56977 => ?_)
        · have B_56978 : bn 42 42 v_56965 := bn_w (bn_eq c_56977 (show bn 42 42 (42 : Int32) from bn_k (by decide))) (by decide)
          refine lv_aload_n hx hb dX5_readProduct_37 rfl (lv_at hl 0 rfl) ?_
          refine pg_get S Y ok_X5 7 (by decide) kf5_52 (v := .int v_56965) p_ad_2_0 rfl dX5_readProduct_38 ?_
          refine lv_bipush (v := 42) hx hb dX5_readProduct_41 (by decide) ?_
          refine lv_icmp_ne (tgt := 51) hx hb dX5_readProduct_43 (by decide) (fun h => absurd c_56977 h) (fun _ => ?_)
          refine lv_bipush (v := 10) hx hb dX5_readProduct_46 (by decide) ?_
          refine lv_goto (tgt := 53) hx hb dX5_readProduct_48 (by decide) ?_
          refine lv_istore_n (lv' := [(3, .int 10), (0, .ref (ad 2 0)), (1, .int i1), (2, .int y12_2)]) hx hb dX5_readProduct_53 rfl hl (by decide) rfl (fun ls hl => ?_)
          refine lv_aload_n hx hb dX5_readProduct_54 rfl (lv_at hl 1 rfl) ?_
          refine cVv (As := []) (rest := []) S Y (x_X5_step (l := l) I hW hT hQ) cw_X5_step km5_49 p_ad_2_0 ok_X5.1 rfl rfl (by unfold rmD; dsimp only; omega) hl.1 rfl (Nat.le_of_ble_eq_true rfl) (by unfold rmD; dsimp only; omega) dX5_readProduct_55 (fun L_56979 f_56980 H locs I Y => ?_)
          refine lv_aload_n hx hb dX5_readProduct_58 rfl (lv_at hl 1 rfl) ?_
          refine lv_iload_n hx hb dX5_readProduct_59 rfl (lv_at hl 2 rfl) ?_
          refine cVi (As := [.int i1]) (rest := []) S Y (x_X5_readOne_s (l := l) (t := t) I hW hT hQ ht (bn_w b_i1 (by decide)) hm ihS ihC ihO ihJ ihA) cw_X5_readOne km5_172 (I.opo (k := 2) (j := 0) (by decide) rfl).choose_spec.1 ok_X5.1 rfl rfl (by unfold rmD; dsimp only; omega) hl.1 rfl (Nat.le_of_ble_eq_true rfl) (by unfold rmD; dsimp only; omega) dX5_readProduct_60 (fun r_56983 L_56981 f_56982 H locs hr_56983 Y => ?_)
          obtain ⟨er_56983, I⟩ := hr_56983
          refine lv_if_ne (tgt := 68) hx hb dX5_readProduct_63 (by decide) (fun c_56984 => ?_) (fun c_56984 => ?_)
          · have B_56985 : bn 1 1 r_56983 := bn_w (bn_nel c_56984 er_56983 (show bn 0 0 (0 : Int32) from bn_k (by decide))) (by decide)
            refine lv_aload_n hx hb dX5_readProduct_68 rfl (lv_at hl 1 rfl) ?_
            obtain ⟨v_56987, v_56989, v_56991, v_56993, v_56995, v_56997, v_56999, v_57001, v_57003, p_ad_2_0, b_56988, b_56990, b_56992, b_56994, b_56996, b_56998, b_57000, b_57002, b_57004⟩ := opnC_2r (j := 0) I (by decide)
            have p_ad_2_0 : pt L_56981 f_56982 (ad 2 0) (.inr (5, [.ref (ad 50 0), .ref (ad 51 0), .ref (ad 52 0), .ref (ad 53 0), .int v_56987, .int v_56989, .int v_56991, .int v_56993, .int v_56995, .int v_56997, .int v_56999, .ref (ad 30 t), .int v_57001, .int v_57003])) := p_ad_2_0
            refine pg_get S Y ok_X5 11 (by decide) kf5_34 (v := .ref (ad 30 t)) p_ad_2_0 rfl dX5_readProduct_69 ?_
            refine lv_iload_n hx hb dX5_readProduct_72 rfl (lv_at hl 0 rfl) ?_
            refine lv_iconst (v := 0) hx hb dX5_readProduct_73 (by decide) ?_
            refine cVi (As := [.int 10, .int 0]) (rest := []) S Y (x_X7_add (l := l) (j := t) I hW hT hQ (show t < 8 from by omega)) cw_X7_add km5_169 (I.opo (k := 30) (j := t) (show t < 8 from by omega) rfl).choose_spec.1 ok_X7.1 rfl rfl (by unfold rmD; dsimp only; omega) hl.1 rfl (Nat.le_of_ble_eq_true rfl) (by unfold rmD; dsimp only; omega) dX5_readProduct_74 (fun r_57007 L_57005 f_57006 H locs I Y => ?_)
            refine lv_pop hx hb dX5_readProduct_77 rfl ?_
            obtain ⟨x_57008, ex_57008⟩ : ∃ z : Int32, z = y12_2 + 1 := ⟨_, rfl⟩
            refine lv_iinc (v := x_57008) (lv' := [(2, .int x_57008), (3, .int 10), (0, .ref (ad 2 0)), (1, .int i1)]) hx hb dX5_readProduct_78 hl (k := 3) rfl (by rw [ex_57008]; rfl) (by decide) rfl (fun ls hl => ?_)
            refine lv_goto (tgt := 12) hx hb dX5_readProduct_81 (by decide) ?_
            exact ih12 _ (by rw [← hm12]; exact ms_up (m := 1) ex_57008 (show bn 1 1 (1 : Int32) from bn_k (by decide)) B_56958 (bn_w (bn_eq ex_57008 (bn_add B_56958 (show bn 1 1 (1 : Int32) from bn_k (by decide)) (by decide))) (by decide) : bn 0 300 x_57008) (by decide)) x_57008 _ _  _ _ _ I (bn_w (bn_eq ex_57008 (bn_add B_56958 (show bn 1 1 (1 : Int32) from bn_k (by decide)) (by decide))) (by decide)) rfl Y (lv_sub hl [2, 3, 0] rfl)
          · have B_56986 : bn 0 0 r_56983 := bn_w (bn_eq c_56984 (show bn 0 0 (0 : Int32) from bn_k (by decide))) (by decide)
            refine lv_iconst (v := 0) hx hb dX5_readProduct_66 (by decide) ?_
            exact prI (post := fun r L1 f1 => bn 0 1 r ∧ SH (spC (RF 30 t) fc tc w q) nnC G ad L1 f1) S Y rfl (by decide) (by decide) hA1 ⟨bn_w (show bn 0 0 (0 : Int32) from bn_k (by decide)) (by decide), I⟩ dX5_readProduct_67
        · refine lv_aload_n hx hb dX5_readProduct_28 rfl (lv_at hl 0 rfl) ?_
          refine pg_get S Y ok_X5 7 (by decide) kf5_52 (v := .int v_56965) p_ad_2_0 rfl dX5_readProduct_29 ?_
          refine lv_bipush (v := 47) hx hb dX5_readProduct_32 (by decide) ?_
          refine lv_icmp_ne (tgt := 84) hx hb dX5_readProduct_34 (by decide) (fun c_57009 => ?_) (fun c_57009 => ?_)
          · refine lv_iconst (v := 1) hx hb dX5_readProduct_84 (by decide) ?_
            exact prI (post := fun r L1 f1 => bn 0 1 r ∧ SH (spC (RF 30 t) fc tc w q) nnC G ad L1 f1) S Y rfl (by decide) (by decide) hA1 ⟨bn_w (show bn 1 1 (1 : Int32) from bn_k (by decide)) (by decide), I⟩ dX5_readProduct_85
          · have B_57010 : bn 47 47 v_56965 := bn_w (bn_eq c_57009 (show bn 47 47 (47 : Int32) from bn_k (by decide))) (by decide)
            refine lv_aload_n hx hb dX5_readProduct_37 rfl (lv_at hl 0 rfl) ?_
            refine pg_get S Y ok_X5 7 (by decide) kf5_52 (v := .int v_56965) p_ad_2_0 rfl dX5_readProduct_38 ?_
            refine lv_bipush (v := 42) hx hb dX5_readProduct_41 (by decide) ?_
            refine lv_icmp_ne (tgt := 51) hx hb dX5_readProduct_43 (by decide) (fun _ => ?_) (fun h => absurd h c_56977)
            refine lv_bipush (v := 11) hx hb dX5_readProduct_51 (by decide) ?_
            refine lv_istore_n (lv' := [(3, .int 11), (0, .ref (ad 2 0)), (1, .int i1), (2, .int y12_2)]) hx hb dX5_readProduct_53 rfl hl (by decide) rfl (fun ls hl => ?_)
            refine lv_aload_n hx hb dX5_readProduct_54 rfl (lv_at hl 1 rfl) ?_
            refine cVv (As := []) (rest := []) S Y (x_X5_step (l := l) I hW hT hQ) cw_X5_step km5_49 p_ad_2_0 ok_X5.1 rfl rfl (by unfold rmD; dsimp only; omega) hl.1 rfl (Nat.le_of_ble_eq_true rfl) (by unfold rmD; dsimp only; omega) dX5_readProduct_55 (fun L_57011 f_57012 H locs I Y => ?_)
            refine lv_aload_n hx hb dX5_readProduct_58 rfl (lv_at hl 1 rfl) ?_
            refine lv_iload_n hx hb dX5_readProduct_59 rfl (lv_at hl 2 rfl) ?_
            refine cVi (As := [.int i1]) (rest := []) S Y (x_X5_readOne_s (l := l) (t := t) I hW hT hQ ht (bn_w b_i1 (by decide)) hm ihS ihC ihO ihJ ihA) cw_X5_readOne km5_172 (I.opo (k := 2) (j := 0) (by decide) rfl).choose_spec.1 ok_X5.1 rfl rfl (by unfold rmD; dsimp only; omega) hl.1 rfl (Nat.le_of_ble_eq_true rfl) (by unfold rmD; dsimp only; omega) dX5_readProduct_60 (fun r_57015 L_57013 f_57014 H locs hr_57015 Y => ?_)
            obtain ⟨er_57015, I⟩ := hr_57015
            refine lv_if_ne (tgt := 68) hx hb dX5_readProduct_63 (by decide) (fun c_57016 => ?_) (fun c_57016 => ?_)
            · have B_57017 : bn 1 1 r_57015 := bn_w (bn_nel c_57016 er_57015 (show bn 0 0 (0 : Int32) from bn_k (by decide))) (by decide)
              refine lv_aload_n hx hb dX5_readProduct_68 rfl (lv_at hl 1 rfl) ?_
              obtain ⟨v_57019, v_57021, v_57023, v_57025, v_57027, v_57029, v_57031, v_57033, v_57035, p_ad_2_0, b_57020, b_57022, b_57024, b_57026, b_57028, b_57030, b_57032, b_57034, b_57036⟩ := opnC_2r (j := 0) I (by decide)
              have p_ad_2_0 : pt L_57013 f_57014 (ad 2 0) (.inr (5, [.ref (ad 50 0), .ref (ad 51 0), .ref (ad 52 0), .ref (ad 53 0), .int v_57019, .int v_57021, .int v_57023, .int v_57025, .int v_57027, .int v_57029, .int v_57031, .ref (ad 30 t), .int v_57033, .int v_57035])) := p_ad_2_0
              refine pg_get S Y ok_X5 11 (by decide) kf5_34 (v := .ref (ad 30 t)) p_ad_2_0 rfl dX5_readProduct_69 ?_
              refine lv_iload_n hx hb dX5_readProduct_72 rfl (lv_at hl 0 rfl) ?_
              refine lv_iconst (v := 0) hx hb dX5_readProduct_73 (by decide) ?_
              refine cVi (As := [.int 11, .int 0]) (rest := []) S Y (x_X7_add (l := l) (j := t) I hW hT hQ (show t < 8 from by omega)) cw_X7_add km5_169 (I.opo (k := 30) (j := t) (show t < 8 from by omega) rfl).choose_spec.1 ok_X7.1 rfl rfl (by unfold rmD; dsimp only; omega) hl.1 rfl (Nat.le_of_ble_eq_true rfl) (by unfold rmD; dsimp only; omega) dX5_readProduct_74 (fun r_57039 L_57037 f_57038 H locs I Y => ?_)
              refine lv_pop hx hb dX5_readProduct_77 rfl ?_
              obtain ⟨x_57040, ex_57040⟩ : ∃ z : Int32, z = y12_2 + 1 := ⟨_, rfl⟩
              refine lv_iinc (v := x_57040) (lv' := [(2, .int x_57040), (3, .int 11), (0, .ref (ad 2 0)), (1, .int i1)]) hx hb dX5_readProduct_78 hl (k := 3) rfl (by rw [ex_57040]; rfl) (by decide) rfl (fun ls hl => ?_)
              refine lv_goto (tgt := 12) hx hb dX5_readProduct_81 (by decide) ?_
              exact ih12 _ (by rw [← hm12]; exact ms_up (m := 1) ex_57040 (show bn 1 1 (1 : Int32) from bn_k (by decide)) B_56958 (bn_w (bn_eq ex_57040 (bn_add B_56958 (show bn 1 1 (1 : Int32) from bn_k (by decide)) (by decide))) (by decide) : bn 0 300 x_57040) (by decide)) x_57040 _ _  _ _ _ I (bn_w (bn_eq ex_57040 (bn_add B_56958 (show bn 1 1 (1 : Int32) from bn_k (by decide)) (by decide))) (by decide)) rfl Y (lv_sub hl [2, 3, 0] rfl)
            · have B_57018 : bn 0 0 r_57015 := bn_w (bn_eq c_57016 (show bn 0 0 (0 : Int32) from bn_k (by decide))) (by decide)
              refine lv_iconst (v := 0) hx hb dX5_readProduct_66 (by decide) ?_
              exact prI (post := fun r L1 f1 => bn 0 1 r ∧ SH (spC (RF 30 t) fc tc w q) nnC G ad L1 f1) S Y rfl (by decide) (by decide) hA1 ⟨bn_w (show bn 0 0 (0 : Int32) from bn_k (by decide)) (by decide), I⟩ dX5_readProduct_67
  refine lv_aload_n hx hb dX5_readProduct_0 rfl (lv_at hl 0 rfl) ?_
  refine lv_iload_n hx hb dX5_readProduct_1 rfl (lv_at hl 1 rfl) ?_
  refine cVi (As := [.int i1]) (rest := []) S Y (x_X5_readOne_s (l := l) (t := t) I hW hT hQ ht (bn_w b_i1 (by decide)) hm ihS ihC ihO ihJ ihA) cw_X5_readOne km5_172 (I.opo (k := 2) (j := 0) (by decide) rfl).choose_spec.1 ok_X5.1 rfl rfl (by unfold rmD; dsimp only; omega) hl.1 rfl (Nat.le_of_ble_eq_true rfl) (by unfold rmD; dsimp only; omega) dX5_readProduct_2 (fun r_57043 L_57041 f_57042 H locs hr_57043 Y => ?_)
  obtain ⟨er_57043, I⟩ := hr_57043
  refine lv_if_ne (tgt := 10) hx hb dX5_readProduct_5 (by decide) (fun c_57044 => ?_) (fun c_57044 => ?_)
  · have B_57045 : bn 1 1 r_57043 := bn_w (bn_nel c_57044 er_57043 (show bn 0 0 (0 : Int32) from bn_k (by decide))) (by decide)
    refine lv_iconst (v := 0) hx hb dX5_readProduct_10 (by decide) ?_
    refine lv_istore_n (lv' := [(2, .int 0), (0, .ref (ad 2 0)), (1, .int i1)]) hx hb dX5_readProduct_11 rfl hl (by decide) rfl (fun ls hl => ?_)
    exact J_12 _ 0 _ _  _ _ _ I (bn_w (show bn 0 0 (0 : Int32) from bn_k (by decide)) (by decide)) rfl Y (lv_sub hl [1, 2, 0] rfl)
  · have B_57046 : bn 0 0 r_57043 := bn_w (bn_eq c_57044 (show bn 0 0 (0 : Int32) from bn_k (by decide))) (by decide)
    refine lv_iconst (v := 0) hx hb dX5_readProduct_8 (by decide) ?_
    exact prI (post := fun r L1 f1 => bn 0 1 r ∧ SH (spC (RF 30 t) fc tc w q) nnC G ad L1 f1) S Y rfl (by decide) (by decide) hA1 ⟨bn_w (show bn 0 0 (0 : Int32) from bn_k (by decide)) (by decide), I⟩ dX5_readProduct_9
set_option maxHeartbeats 4000000 in
set_option maxRecDepth 100000 in
theorem x_X5_readSum_s {l : Launch} {G : GG}  {L : List Nat} {f : HF} {ad : Nat → Nat → Nat} {fc : Int × Int} {tc w : Nat → Int × Int} {q : Nat → (Nat → Int32) → Prop} {t : Nat} {i1 : Int32} {n : Nat} (I : SH (spC (RF 30 t) fc tc w q) nnC G ad L f) (hW : WBp w 8) (hT : WBp tc 4) (hQ : QIp q) (ht : t < 4) (b_i1 : bn 0 8 i1) (hm : (8 - i1.toInt).toNat ≤ n + 1) (ihS : ∀ {L : List Nat} {f : HF} {t : Nat} {i1 : Int32}, (SH (spC (RF 30 t) fc tc w q) nnC G ad L f) → (WBp w 8) → (WBp tc 4) → (QIp q) → (t < 4) → (bn 0 8 i1) → ((8 - i1.toInt).toNat ≤ n) → PMi l yX5_readSum cX5_readSum 4 .boolean (16 * n + 10) 0 0 G [.ref (ad 2 0), .int i1] L f (fun r L1 f1 => bn 0 1 r ∧ SH (spC (RF 30 t) fc tc w q) nnC G ad L1 f1)) (ihC : ∀ {L : List Nat} {f : HF} {t : Nat} {i1 : Int32}, (SH (spC (RF 30 t) fc tc w q) nnC G ad L f) → (WBp w 8) → (WBp tc 4) → (QIp q) → (t < 4) → (bn 0 8 i1) → ((8 - i1.toInt).toNat ≤ n) → PMi l yX5_readChoice cX5_readChoice 4 .boolean (16 * n + 15) 0 0 G [.ref (ad 2 0), .int i1] L f (fun r L1 f1 => bn 0 1 r ∧ SH (spC (RF 30 t) fc tc w q) nnC G ad L1 f1)) (ihO : ∀ {L : List Nat} {f : HF} {t : Nat} {i1 : Int32}, (SH (spC (RF 30 t) fc tc w q) nnC G ad L f) → (WBp w 8) → (WBp tc 4) → (QIp q) → (t < 4) → (bn 0 8 i1) → ((8 - i1.toInt).toNat ≤ n) → PMi l yX5_readOne cX5_readOne 3 .boolean (16 * n + 8) 0 0 G [.ref (ad 2 0), .int i1] L f (fun r L1 f1 => bn 0 1 r ∧ SH (spC (RF 30 t) fc tc w q) nnC G ad L1 f1)) (ihJ : ∀ {L : List Nat} {f : HF} {t : Nat} {i1 : Int32}, (SH (spC (RF 30 t) fc tc w q) nnC G ad L f) → (WBp w 8) → (WBp tc 4) → (QIp q) → (t < 4) → (bn 0 8 i1) → ((8 - i1.toInt).toNat ≤ n) → PMi l yX5_readJust cX5_readJust 3 .boolean (16 * n + 15) 0 0 G [.ref (ad 2 0), .int i1] L f (fun r L1 f1 => bn 0 1 r ∧ SH (spC (RF 30 t) fc tc w q) nnC G ad L1 f1)) (ihA : ∀ {L : List Nat} {f : HF} {t : Nat} {i1 : Int32}, (SH (spC (RF 30 t) fc tc w q) nnC G ad L f) → (WBp w 8) → (WBp tc 4) → (QIp q) → (t < 4) → (bn 0 8 i1) → ((8 - i1.toInt).toNat ≤ n) → PMi l yX5_readAsk cX5_readAsk 3 .boolean (16 * n + 12) 0 0 G [.ref (ad 2 0), .int i1] L f (fun r L1 f1 => bn 0 1 r ∧ SH (spC (RF 30 t) fc tc w q) nnC G ad L1 f1)) : PMi l yX5_readSum cX5_readSum 4 .boolean (16 * (n + 1) + 10) 0 0 G [.ref (ad 2 0), .int i1] L f (fun r L1 f1 => bn 0 1 r ∧ SH (spC (RF 30 t) fc tc w q) nnC G ad L1 f1) := by
  refine PMi.of (post := fun r L1 f1 => bn 0 1 r ∧ SH (spC (RF 30 t) fc tc w q) nnC G ad L1 f1) (own := RX5) (by decide) rfl (Nat.le_of_ble_eq_true rfl) (fun sz p e s m args below meth c A ls hA1 hname S Y hl => ?_)
  have hx := S.hx
  have hb := S.hb
  have hl : lv_has ls 4 [(0, .ref (ad 2 0)), (1, .int i1)] := hl
  have J_12 : ∀ (n12 : Nat) (y12_2 : Int32) (L_12 : List Nat) (f_12 : HF) (H : Heap) (locs : List Loc) (ls : Array Slot), (SH (spC (RF 30 t) fc tc w q) nnC G ad L_12 f_12) → (bn 0 300 y12_2) → (((300 : Int) - y12_2.toInt).toNat = n12) → (DY G A s [] L_12 f_12 H locs) → (lv_has ls 4 [(0, .ref (ad 2 0)), (1, .int i1), (2, .int y12_2)]) → W p l e (rmD (16 * (n + 1) + 10) 0 0) s m args below meth c H locs (0) (0) (MQ below (va_Qi (fun r (u : List Nat × HF) => (fun r L1 f1 => bn 0 1 r ∧ SH (spC (RF 30 t) fc tc w q) nnC G ad L1 f1) r u.1 u.2) (fun u t => pOut G (va_A (va_pl L f) sz) u.1 u.2 t) (va_A (va_pl L f) sz)) args s 0 0 A) (F0 m 12 ls []) := by
    intro n12
    induction n12 using Nat.strongRecOn with
    | _ n12 ih12 =>
      intro y12_2 L_12 f_12 H locs ls I b_y12_2 hm12 Y hl
      refine lv_iload_n hx hb dX5_readSum_12 rfl (lv_at hl 2 rfl) ?_
      refine lv_sipush (v := 300) hx hb dX5_readSum_13 (by decide) ?_
      refine lv_icmp_ge (tgt := 84) hx hb dX5_readSum_16 (by decide) (fun c_60263 => ?_) (fun c_60263 => ?_)
      · have B_60264 : bn 300 300 y12_2 := bn_w (bn_ler c_60263 (show bn 300 300 (300 : Int32) from bn_k (by decide)) b_y12_2) (by decide)
        refine lv_iconst (v := 1) hx hb dX5_readSum_84 (by decide) ?_
        exact prI (post := fun r L1 f1 => bn 0 1 r ∧ SH (spC (RF 30 t) fc tc w q) nnC G ad L1 f1) S Y rfl (by decide) (by decide) hA1 ⟨bn_w (show bn 1 1 (1 : Int32) from bn_k (by decide)) (by decide), I⟩ dX5_readSum_85
      · have B_60265 : bn 0 299 y12_2 := bn_w (bn_gtr c_60263 (show bn 300 300 (300 : Int32) from bn_k (by decide)) b_y12_2) (by decide)
        refine lv_aload_n hx hb dX5_readSum_19 rfl (lv_at hl 0 rfl) ?_
        obtain ⟨v_60266, v_60268, v_60270, v_60272, v_60274, v_60276, v_60278, v_60280, v_60282, p_ad_2_0, b_60267, b_60269, b_60271, b_60273, b_60275, b_60277, b_60279, b_60281, b_60283⟩ := opnC_2r (j := 0) I (by decide)
        have p_ad_2_0 : pt L_12 f_12 (ad 2 0) (.inr (5, [.ref (ad 50 0), .ref (ad 51 0), .ref (ad 52 0), .ref (ad 53 0), .int v_60266, .int v_60268, .int v_60270, .int v_60272, .int v_60274, .int v_60276, .int v_60278, .ref (ad 30 t), .int v_60280, .int v_60282])) := p_ad_2_0
        refine pg_get S Y ok_X5 7 (by decide) kf5_52 (v := .int v_60272) p_ad_2_0 rfl dX5_readSum_20 ?_
        refine lv_bipush (v := 43) hx hb dX5_readSum_23 (by decide) ?_
        refine lv_icmp_eq (tgt := 37) hx hb dX5_readSum_25 (by decide) (fun c_60284 => ?_) (fun c_60284 => ?_)
        · have B_60285 : bn 43 43 v_60272 := bn_w (bn_eq c_60284 (show bn 43 43 (43 : Int32) from bn_k (by decide))) (by decide)
          refine lv_aload_n hx hb dX5_readSum_37 rfl (lv_at hl 0 rfl) ?_
          refine pg_get S Y ok_X5 7 (by decide) kf5_52 (v := .int v_60272) p_ad_2_0 rfl dX5_readSum_38 ?_
          refine lv_bipush (v := 43) hx hb dX5_readSum_41 (by decide) ?_
          refine lv_icmp_ne (tgt := 51) hx hb dX5_readSum_43 (by decide) (fun h => absurd c_60284 h) (fun _ => ?_)
          refine lv_bipush (v := 8) hx hb dX5_readSum_46 (by decide) ?_
          refine lv_goto (tgt := 53) hx hb dX5_readSum_48 (by decide) ?_
          refine lv_istore_n (lv' := [(3, .int 8), (0, .ref (ad 2 0)), (1, .int i1), (2, .int y12_2)]) hx hb dX5_readSum_53 rfl hl (by decide) rfl (fun ls hl => ?_)
          refine lv_aload_n hx hb dX5_readSum_54 rfl (lv_at hl 1 rfl) ?_
          refine cVv (As := []) (rest := []) S Y (x_X5_step (l := l) I hW hT hQ) cw_X5_step km5_49 p_ad_2_0 ok_X5.1 rfl rfl (by unfold rmD; dsimp only; omega) hl.1 rfl (Nat.le_of_ble_eq_true rfl) (by unfold rmD; dsimp only; omega) dX5_readSum_55 (fun L_60286 f_60287 H locs I Y => ?_)
          refine lv_aload_n hx hb dX5_readSum_58 rfl (lv_at hl 1 rfl) ?_
          refine lv_iload_n hx hb dX5_readSum_59 rfl (lv_at hl 2 rfl) ?_
          refine cVi (As := [.int i1]) (rest := []) S Y (x_X5_readProduct_s (l := l) (t := t) I hW hT hQ ht (bn_w b_i1 (by decide)) hm ihS ihC ihO ihJ ihA) cw_X5_readProduct km5_166 (I.opo (k := 2) (j := 0) (by decide) rfl).choose_spec.1 ok_X5.1 rfl rfl (by unfold rmD; dsimp only; omega) hl.1 rfl (Nat.le_of_ble_eq_true rfl) (by unfold rmD; dsimp only; omega) dX5_readSum_60 (fun r_60290 L_60288 f_60289 H locs hr_60290 Y => ?_)
          obtain ⟨er_60290, I⟩ := hr_60290
          refine lv_if_ne (tgt := 68) hx hb dX5_readSum_63 (by decide) (fun c_60291 => ?_) (fun c_60291 => ?_)
          · have B_60292 : bn 1 1 r_60290 := bn_w (bn_nel c_60291 er_60290 (show bn 0 0 (0 : Int32) from bn_k (by decide))) (by decide)
            refine lv_aload_n hx hb dX5_readSum_68 rfl (lv_at hl 1 rfl) ?_
            obtain ⟨v_60294, v_60296, v_60298, v_60300, v_60302, v_60304, v_60306, v_60308, v_60310, p_ad_2_0, b_60295, b_60297, b_60299, b_60301, b_60303, b_60305, b_60307, b_60309, b_60311⟩ := opnC_2r (j := 0) I (by decide)
            have p_ad_2_0 : pt L_60288 f_60289 (ad 2 0) (.inr (5, [.ref (ad 50 0), .ref (ad 51 0), .ref (ad 52 0), .ref (ad 53 0), .int v_60294, .int v_60296, .int v_60298, .int v_60300, .int v_60302, .int v_60304, .int v_60306, .ref (ad 30 t), .int v_60308, .int v_60310])) := p_ad_2_0
            refine pg_get S Y ok_X5 11 (by decide) kf5_34 (v := .ref (ad 30 t)) p_ad_2_0 rfl dX5_readSum_69 ?_
            refine lv_iload_n hx hb dX5_readSum_72 rfl (lv_at hl 0 rfl) ?_
            refine lv_iconst (v := 0) hx hb dX5_readSum_73 (by decide) ?_
            refine cVi (As := [.int 8, .int 0]) (rest := []) S Y (x_X7_add (l := l) (j := t) I hW hT hQ (show t < 8 from by omega)) cw_X7_add km5_169 (I.opo (k := 30) (j := t) (show t < 8 from by omega) rfl).choose_spec.1 ok_X7.1 rfl rfl (by unfold rmD; dsimp only; omega) hl.1 rfl (Nat.le_of_ble_eq_true rfl) (by unfold rmD; dsimp only; omega) dX5_readSum_74 (fun r_60314 L_60312 f_60313 H locs I Y => ?_)
            refine lv_pop hx hb dX5_readSum_77 rfl ?_
            obtain ⟨x_60315, ex_60315⟩ : ∃ z : Int32, z = y12_2 + 1 := ⟨_, rfl⟩
            refine lv_iinc (v := x_60315) (lv' := [(2, .int x_60315), (3, .int 8), (0, .ref (ad 2 0)), (1, .int i1)]) hx hb dX5_readSum_78 hl (k := 3) rfl (by rw [ex_60315]; rfl) (by decide) rfl (fun ls hl => ?_)
            refine lv_goto (tgt := 12) hx hb dX5_readSum_81 (by decide) ?_
            exact ih12 _ (by rw [← hm12]; exact ms_up (m := 1) ex_60315 (show bn 1 1 (1 : Int32) from bn_k (by decide)) B_60265 (bn_w (bn_eq ex_60315 (bn_add B_60265 (show bn 1 1 (1 : Int32) from bn_k (by decide)) (by decide))) (by decide) : bn 0 300 x_60315) (by decide)) x_60315 _ _  _ _ _ I (bn_w (bn_eq ex_60315 (bn_add B_60265 (show bn 1 1 (1 : Int32) from bn_k (by decide)) (by decide))) (by decide)) rfl Y (lv_sub hl [2, 3, 0] rfl)
          · have B_60293 : bn 0 0 r_60290 := bn_w (bn_eq c_60291 (show bn 0 0 (0 : Int32) from bn_k (by decide))) (by decide)
            refine lv_iconst (v := 0) hx hb dX5_readSum_66 (by decide) ?_
            exact prI (post := fun r L1 f1 => bn 0 1 r ∧ SH (spC (RF 30 t) fc tc w q) nnC G ad L1 f1) S Y rfl (by decide) (by decide) hA1 ⟨bn_w (show bn 0 0 (0 : Int32) from bn_k (by decide)) (by decide), I⟩ dX5_readSum_67
        · refine lv_aload_n hx hb dX5_readSum_28 rfl (lv_at hl 0 rfl) ?_
          refine pg_get S Y ok_X5 7 (by decide) kf5_52 (v := .int v_60272) p_ad_2_0 rfl dX5_readSum_29 ?_
          refine lv_bipush (v := 45) hx hb dX5_readSum_32 (by decide) ?_
          refine lv_icmp_ne (tgt := 84) hx hb dX5_readSum_34 (by decide) (fun c_60316 => ?_) (fun c_60316 => ?_)
          · refine lv_iconst (v := 1) hx hb dX5_readSum_84 (by decide) ?_
            exact prI (post := fun r L1 f1 => bn 0 1 r ∧ SH (spC (RF 30 t) fc tc w q) nnC G ad L1 f1) S Y rfl (by decide) (by decide) hA1 ⟨bn_w (show bn 1 1 (1 : Int32) from bn_k (by decide)) (by decide), I⟩ dX5_readSum_85
          · have B_60317 : bn 45 45 v_60272 := bn_w (bn_eq c_60316 (show bn 45 45 (45 : Int32) from bn_k (by decide))) (by decide)
            refine lv_aload_n hx hb dX5_readSum_37 rfl (lv_at hl 0 rfl) ?_
            refine pg_get S Y ok_X5 7 (by decide) kf5_52 (v := .int v_60272) p_ad_2_0 rfl dX5_readSum_38 ?_
            refine lv_bipush (v := 43) hx hb dX5_readSum_41 (by decide) ?_
            refine lv_icmp_ne (tgt := 51) hx hb dX5_readSum_43 (by decide) (fun _ => ?_) (fun h => absurd h c_60284)
            refine lv_bipush (v := 9) hx hb dX5_readSum_51 (by decide) ?_
            refine lv_istore_n (lv' := [(3, .int 9), (0, .ref (ad 2 0)), (1, .int i1), (2, .int y12_2)]) hx hb dX5_readSum_53 rfl hl (by decide) rfl (fun ls hl => ?_)
            refine lv_aload_n hx hb dX5_readSum_54 rfl (lv_at hl 1 rfl) ?_
            refine cVv (As := []) (rest := []) S Y (x_X5_step (l := l) I hW hT hQ) cw_X5_step km5_49 p_ad_2_0 ok_X5.1 rfl rfl (by unfold rmD; dsimp only; omega) hl.1 rfl (Nat.le_of_ble_eq_true rfl) (by unfold rmD; dsimp only; omega) dX5_readSum_55 (fun L_60318 f_60319 H locs I Y => ?_)
            refine lv_aload_n hx hb dX5_readSum_58 rfl (lv_at hl 1 rfl) ?_
            refine lv_iload_n hx hb dX5_readSum_59 rfl (lv_at hl 2 rfl) ?_
            refine cVi (As := [.int i1]) (rest := []) S Y (x_X5_readProduct_s (l := l) (t := t) I hW hT hQ ht (bn_w b_i1 (by decide)) hm ihS ihC ihO ihJ ihA) cw_X5_readProduct km5_166 (I.opo (k := 2) (j := 0) (by decide) rfl).choose_spec.1 ok_X5.1 rfl rfl (by unfold rmD; dsimp only; omega) hl.1 rfl (Nat.le_of_ble_eq_true rfl) (by unfold rmD; dsimp only; omega) dX5_readSum_60 (fun r_60322 L_60320 f_60321 H locs hr_60322 Y => ?_)
            obtain ⟨er_60322, I⟩ := hr_60322
            refine lv_if_ne (tgt := 68) hx hb dX5_readSum_63 (by decide) (fun c_60323 => ?_) (fun c_60323 => ?_)
            · have B_60324 : bn 1 1 r_60322 := bn_w (bn_nel c_60323 er_60322 (show bn 0 0 (0 : Int32) from bn_k (by decide))) (by decide)
              refine lv_aload_n hx hb dX5_readSum_68 rfl (lv_at hl 1 rfl) ?_
              obtain ⟨v_60326, v_60328, v_60330, v_60332, v_60334, v_60336, v_60338, v_60340, v_60342, p_ad_2_0, b_60327, b_60329, b_60331, b_60333, b_60335, b_60337, b_60339, b_60341, b_60343⟩ := opnC_2r (j := 0) I (by decide)
              have p_ad_2_0 : pt L_60320 f_60321 (ad 2 0) (.inr (5, [.ref (ad 50 0), .ref (ad 51 0), .ref (ad 52 0), .ref (ad 53 0), .int v_60326, .int v_60328, .int v_60330, .int v_60332, .int v_60334, .int v_60336, .int v_60338, .ref (ad 30 t), .int v_60340, .int v_60342])) := p_ad_2_0
              refine pg_get S Y ok_X5 11 (by decide) kf5_34 (v := .ref (ad 30 t)) p_ad_2_0 rfl dX5_readSum_69 ?_
              refine lv_iload_n hx hb dX5_readSum_72 rfl (lv_at hl 0 rfl) ?_
              refine lv_iconst (v := 0) hx hb dX5_readSum_73 (by decide) ?_
              refine cVi (As := [.int 9, .int 0]) (rest := []) S Y (x_X7_add (l := l) (j := t) I hW hT hQ (show t < 8 from by omega)) cw_X7_add km5_169 (I.opo (k := 30) (j := t) (show t < 8 from by omega) rfl).choose_spec.1 ok_X7.1 rfl rfl (by unfold rmD; dsimp only; omega) hl.1 rfl (Nat.le_of_ble_eq_true rfl) (by unfold rmD; dsimp only; omega) dX5_readSum_74 (fun r_60346 L_60344 f_60345 H locs I Y => ?_)
              refine lv_pop hx hb dX5_readSum_77 rfl ?_
              obtain ⟨x_60347, ex_60347⟩ : ∃ z : Int32, z = y12_2 + 1 := ⟨_, rfl⟩
              refine lv_iinc (v := x_60347) (lv' := [(2, .int x_60347), (3, .int 9), (0, .ref (ad 2 0)), (1, .int i1)]) hx hb dX5_readSum_78 hl (k := 3) rfl (by rw [ex_60347]; rfl) (by decide) rfl (fun ls hl => ?_)
              refine lv_goto (tgt := 12) hx hb dX5_readSum_81 (by decide) ?_
              exact ih12 _ (by rw [← hm12]; exact ms_up (m := 1) ex_60347 (show bn 1 1 (1 : Int32) from bn_k (by decide)) B_60265 (bn_w (bn_eq ex_60347 (bn_add B_60265 (show bn 1 1 (1 : Int32) from bn_k (by decide)) (by decide))) (by decide) : bn 0 300 x_60347) (by decide)) x_60347 _ _  _ _ _ I (bn_w (bn_eq ex_60347 (bn_add B_60265 (show bn 1 1 (1 : Int32) from bn_k (by decide)) (by decide))) (by decide)) rfl Y (lv_sub hl [2, 3, 0] rfl)
            · have B_60325 : bn 0 0 r_60322 := bn_w (bn_eq c_60323 (show bn 0 0 (0 : Int32) from bn_k (by decide))) (by decide)
              refine lv_iconst (v := 0) hx hb dX5_readSum_66 (by decide) ?_
              exact prI (post := fun r L1 f1 => bn 0 1 r ∧ SH (spC (RF 30 t) fc tc w q) nnC G ad L1 f1) S Y rfl (by decide) (by decide) hA1 ⟨bn_w (show bn 0 0 (0 : Int32) from bn_k (by decide)) (by decide), I⟩ dX5_readSum_67
  refine lv_aload_n hx hb dX5_readSum_0 rfl (lv_at hl 0 rfl) ?_
  refine lv_iload_n hx hb dX5_readSum_1 rfl (lv_at hl 1 rfl) ?_
  refine cVi (As := [.int i1]) (rest := []) S Y (x_X5_readProduct_s (l := l) (t := t) I hW hT hQ ht (bn_w b_i1 (by decide)) hm ihS ihC ihO ihJ ihA) cw_X5_readProduct km5_166 (I.opo (k := 2) (j := 0) (by decide) rfl).choose_spec.1 ok_X5.1 rfl rfl (by unfold rmD; dsimp only; omega) hl.1 rfl (Nat.le_of_ble_eq_true rfl) (by unfold rmD; dsimp only; omega) dX5_readSum_2 (fun r_60350 L_60348 f_60349 H locs hr_60350 Y => ?_)
  obtain ⟨er_60350, I⟩ := hr_60350
  refine lv_if_ne (tgt := 10) hx hb dX5_readSum_5 (by decide) (fun c_60351 => ?_) (fun c_60351 => ?_)
  · have B_60352 : bn 1 1 r_60350 := bn_w (bn_nel c_60351 er_60350 (show bn 0 0 (0 : Int32) from bn_k (by decide))) (by decide)
    refine lv_iconst (v := 0) hx hb dX5_readSum_10 (by decide) ?_
    refine lv_istore_n (lv' := [(2, .int 0), (0, .ref (ad 2 0)), (1, .int i1)]) hx hb dX5_readSum_11 rfl hl (by decide) rfl (fun ls hl => ?_)
    exact J_12 _ 0 _ _  _ _ _ I (bn_w (show bn 0 0 (0 : Int32) from bn_k (by decide)) (by decide)) rfl Y (lv_sub hl [1, 2, 0] rfl)
  · have B_60353 : bn 0 0 r_60350 := bn_w (bn_eq c_60351 (show bn 0 0 (0 : Int32) from bn_k (by decide))) (by decide)
    refine lv_iconst (v := 0) hx hb dX5_readSum_8 (by decide) ?_
    exact prI (post := fun r L1 f1 => bn 0 1 r ∧ SH (spC (RF 30 t) fc tc w q) nnC G ad L1 f1) S Y rfl (by decide) (by decide) hA1 ⟨bn_w (show bn 0 0 (0 : Int32) from bn_k (by decide)) (by decide), I⟩ dX5_readSum_9
set_option maxHeartbeats 4000000 in
set_option maxRecDepth 100000 in
theorem x_X5_readComparison_s {l : Launch} {G : GG}  {L : List Nat} {f : HF} {ad : Nat → Nat → Nat} {fc : Int × Int} {tc w : Nat → Int × Int} {q : Nat → (Nat → Int32) → Prop} {t : Nat} {i1 : Int32} {n : Nat} (I : SH (spC (RF 30 t) fc tc w q) nnC G ad L f) (hW : WBp w 8) (hT : WBp tc 4) (hQ : QIp q) (ht : t < 4) (b_i1 : bn 0 8 i1) (hm : (8 - i1.toInt).toNat ≤ n + 1) (ihS : ∀ {L : List Nat} {f : HF} {t : Nat} {i1 : Int32}, (SH (spC (RF 30 t) fc tc w q) nnC G ad L f) → (WBp w 8) → (WBp tc 4) → (QIp q) → (t < 4) → (bn 0 8 i1) → ((8 - i1.toInt).toNat ≤ n) → PMi l yX5_readSum cX5_readSum 4 .boolean (16 * n + 10) 0 0 G [.ref (ad 2 0), .int i1] L f (fun r L1 f1 => bn 0 1 r ∧ SH (spC (RF 30 t) fc tc w q) nnC G ad L1 f1)) (ihC : ∀ {L : List Nat} {f : HF} {t : Nat} {i1 : Int32}, (SH (spC (RF 30 t) fc tc w q) nnC G ad L f) → (WBp w 8) → (WBp tc 4) → (QIp q) → (t < 4) → (bn 0 8 i1) → ((8 - i1.toInt).toNat ≤ n) → PMi l yX5_readChoice cX5_readChoice 4 .boolean (16 * n + 15) 0 0 G [.ref (ad 2 0), .int i1] L f (fun r L1 f1 => bn 0 1 r ∧ SH (spC (RF 30 t) fc tc w q) nnC G ad L1 f1)) (ihO : ∀ {L : List Nat} {f : HF} {t : Nat} {i1 : Int32}, (SH (spC (RF 30 t) fc tc w q) nnC G ad L f) → (WBp w 8) → (WBp tc 4) → (QIp q) → (t < 4) → (bn 0 8 i1) → ((8 - i1.toInt).toNat ≤ n) → PMi l yX5_readOne cX5_readOne 3 .boolean (16 * n + 8) 0 0 G [.ref (ad 2 0), .int i1] L f (fun r L1 f1 => bn 0 1 r ∧ SH (spC (RF 30 t) fc tc w q) nnC G ad L1 f1)) (ihJ : ∀ {L : List Nat} {f : HF} {t : Nat} {i1 : Int32}, (SH (spC (RF 30 t) fc tc w q) nnC G ad L f) → (WBp w 8) → (WBp tc 4) → (QIp q) → (t < 4) → (bn 0 8 i1) → ((8 - i1.toInt).toNat ≤ n) → PMi l yX5_readJust cX5_readJust 3 .boolean (16 * n + 15) 0 0 G [.ref (ad 2 0), .int i1] L f (fun r L1 f1 => bn 0 1 r ∧ SH (spC (RF 30 t) fc tc w q) nnC G ad L1 f1)) (ihA : ∀ {L : List Nat} {f : HF} {t : Nat} {i1 : Int32}, (SH (spC (RF 30 t) fc tc w q) nnC G ad L f) → (WBp w 8) → (WBp tc 4) → (QIp q) → (t < 4) → (bn 0 8 i1) → ((8 - i1.toInt).toNat ≤ n) → PMi l yX5_readAsk cX5_readAsk 3 .boolean (16 * n + 12) 0 0 G [.ref (ad 2 0), .int i1] L f (fun r L1 f1 => bn 0 1 r ∧ SH (spC (RF 30 t) fc tc w q) nnC G ad L1 f1)) : PMi l yX5_readComparison cX5_readComparison 3 .boolean (16 * (n + 1) + 11) 0 0 G [.ref (ad 2 0), .int i1] L f (fun r L1 f1 => bn 0 1 r ∧ SH (spC (RF 30 t) fc tc w q) nnC G ad L1 f1) := by
  refine PMi.of (post := fun r L1 f1 => bn 0 1 r ∧ SH (spC (RF 30 t) fc tc w q) nnC G ad L1 f1) (own := RX5) (by decide) rfl (Nat.le_of_ble_eq_true rfl) (fun sz p e s m args below meth c A ls hA1 hname S Y hl => ?_)
  have hx := S.hx
  have hb := S.hb
  have hl : lv_has ls 3 [(0, .ref (ad 2 0)), (1, .int i1)] := hl
  refine lv_aload_n hx hb dX5_readComparison_0 rfl (lv_at hl 0 rfl) ?_
  refine lv_iload_n hx hb dX5_readComparison_1 rfl (lv_at hl 1 rfl) ?_
  refine cVi (As := [.int i1]) (rest := []) S Y (x_X5_readSum_s (l := l) (t := t) I hW hT hQ ht (bn_w b_i1 (by decide)) hm ihS ihC ihO ihJ ihA) cw_X5_readSum km5_147 (I.opo (k := 2) (j := 0) (by decide) rfl).choose_spec.1 ok_X5.1 rfl rfl (by unfold rmD; dsimp only; omega) hl.1 rfl (Nat.le_of_ble_eq_true rfl) (by unfold rmD; dsimp only; omega) dX5_readComparison_2 (fun r_60474 L_60472 f_60473 H locs hr_60474 Y => ?_)
  obtain ⟨er_60474, I⟩ := hr_60474
  refine lv_if_ne (tgt := 10) hx hb dX5_readComparison_5 (by decide) (fun c_60475 => ?_) (fun c_60475 => ?_)
  · have B_60476 : bn 1 1 r_60474 := bn_w (bn_nel c_60475 er_60474 (show bn 0 0 (0 : Int32) from bn_k (by decide))) (by decide)
    refine lv_aload_n hx hb dX5_readComparison_10 rfl (lv_at hl 0 rfl) ?_
    obtain ⟨v_60478, v_60480, v_60482, v_60484, v_60486, v_60488, v_60490, v_60492, v_60494, p_ad_2_0, b_60479, b_60481, b_60483, b_60485, b_60487, b_60489, b_60491, b_60493, b_60495⟩ := opnC_2r (j := 0) I (by decide)
    have p_ad_2_0 : pt L_60472 f_60473 (ad 2 0) (.inr (5, [.ref (ad 50 0), .ref (ad 51 0), .ref (ad 52 0), .ref (ad 53 0), .int v_60478, .int v_60480, .int v_60482, .int v_60484, .int v_60486, .int v_60488, .int v_60490, .ref (ad 30 t), .int v_60492, .int v_60494])) := p_ad_2_0
    refine pg_get S Y ok_X5 7 (by decide) kf5_52 (v := .int v_60484) p_ad_2_0 rfl dX5_readComparison_11 ?_
    refine cSp (As := [.int v_60484]) (rest := []) S Y (x_X5_comparing (l := l) ) cw_X5_comparing km5_202 rfl (by unfold rmD; dsimp only; omega) hl.1 rfl (Nat.le_of_ble_eq_true rfl) (by unfold rmD; dsimp only; omega) dX5_readComparison_14 (fun r_60496 H locs er_60496 Y => ?_)
    refine lv_istore_n (lv' := [(2, .int r_60496), (0, .ref (ad 2 0)), (1, .int i1)]) hx hb dX5_readComparison_17 rfl hl (by decide) rfl (fun ls hl => ?_)
    refine lv_iload_n hx hb dX5_readComparison_18 rfl (lv_at hl 0 rfl) ?_
    refine lv_iconst (v := (-1)) hx hb dX5_readComparison_19 (by decide) ?_
    refine lv_icmp_ne (tgt := 29) hx hb dX5_readComparison_20 (by decide) (fun c_60497 => ?_) (fun c_60497 => ?_)
    · refine lv_aload_n hx hb dX5_readComparison_29 rfl (lv_at hl 1 rfl) ?_
      refine cVv (As := []) (rest := []) S Y (x_X5_step (l := l) I hW hT hQ) cw_X5_step km5_49 p_ad_2_0 ok_X5.1 rfl rfl (by unfold rmD; dsimp only; omega) hl.1 rfl (Nat.le_of_ble_eq_true rfl) (by unfold rmD; dsimp only; omega) dX5_readComparison_30 (fun L_60499 f_60500 H locs I Y => ?_)
      refine lv_aload_n hx hb dX5_readComparison_33 rfl (lv_at hl 1 rfl) ?_
      refine lv_iload_n hx hb dX5_readComparison_34 rfl (lv_at hl 2 rfl) ?_
      refine cVi (As := [.int i1]) (rest := []) S Y (x_X5_readSum_s (l := l) (t := t) I hW hT hQ ht (bn_w b_i1 (by decide)) hm ihS ihC ihO ihJ ihA) cw_X5_readSum km5_147 (I.opo (k := 2) (j := 0) (by decide) rfl).choose_spec.1 ok_X5.1 rfl rfl (by unfold rmD; dsimp only; omega) hl.1 rfl (Nat.le_of_ble_eq_true rfl) (by unfold rmD; dsimp only; omega) dX5_readComparison_35 (fun r_60503 L_60501 f_60502 H locs hr_60503 Y => ?_)
      obtain ⟨er_60503, I⟩ := hr_60503
      refine lv_if_ne (tgt := 43) hx hb dX5_readComparison_38 (by decide) (fun c_60504 => ?_) (fun c_60504 => ?_)
      · have B_60505 : bn 1 1 r_60503 := bn_w (bn_nel c_60504 er_60503 (show bn 0 0 (0 : Int32) from bn_k (by decide))) (by decide)
        refine lv_aload_n hx hb dX5_readComparison_43 rfl (lv_at hl 1 rfl) ?_
        obtain ⟨v_60507, v_60509, v_60511, v_60513, v_60515, v_60517, v_60519, v_60521, v_60523, p_ad_2_0, b_60508, b_60510, b_60512, b_60514, b_60516, b_60518, b_60520, b_60522, b_60524⟩ := opnC_2r (j := 0) I (by decide)
        have p_ad_2_0 : pt L_60501 f_60502 (ad 2 0) (.inr (5, [.ref (ad 50 0), .ref (ad 51 0), .ref (ad 52 0), .ref (ad 53 0), .int v_60507, .int v_60509, .int v_60511, .int v_60513, .int v_60515, .int v_60517, .int v_60519, .ref (ad 30 t), .int v_60521, .int v_60523])) := p_ad_2_0
        refine pg_get S Y ok_X5 11 (by decide) kf5_34 (v := .ref (ad 30 t)) p_ad_2_0 rfl dX5_readComparison_44 ?_
        refine lv_iload_n hx hb dX5_readComparison_47 rfl (lv_at hl 0 rfl) ?_
        refine lv_iconst (v := 0) hx hb dX5_readComparison_48 (by decide) ?_
        refine cVi (As := [.int r_60496, .int 0]) (rest := []) S Y (x_X7_add (l := l) (j := t) I hW hT hQ (show t < 8 from by omega)) cw_X7_add km5_169 (I.opo (k := 30) (j := t) (show t < 8 from by omega) rfl).choose_spec.1 ok_X7.1 rfl rfl (by unfold rmD; dsimp only; omega) hl.1 rfl (Nat.le_of_ble_eq_true rfl) (by unfold rmD; dsimp only; omega) dX5_readComparison_49 (fun r_60527 L_60525 f_60526 H locs I Y => ?_)
        refine lv_pop hx hb dX5_readComparison_52 rfl ?_
        refine lv_iconst (v := 1) hx hb dX5_readComparison_53 (by decide) ?_
        exact prI (post := fun r L1 f1 => bn 0 1 r ∧ SH (spC (RF 30 t) fc tc w q) nnC G ad L1 f1) S Y rfl (by decide) (by decide) hA1 ⟨bn_w (show bn 1 1 (1 : Int32) from bn_k (by decide)) (by decide), I⟩ dX5_readComparison_54
      · have B_60506 : bn 0 0 r_60503 := bn_w (bn_eq c_60504 (show bn 0 0 (0 : Int32) from bn_k (by decide))) (by decide)
        refine lv_iconst (v := 0) hx hb dX5_readComparison_41 (by decide) ?_
        exact prI (post := fun r L1 f1 => bn 0 1 r ∧ SH (spC (RF 30 t) fc tc w q) nnC G ad L1 f1) S Y rfl (by decide) (by decide) hA1 ⟨bn_w (show bn 0 0 (0 : Int32) from bn_k (by decide)) (by decide), I⟩ dX5_readComparison_42
    · have B_60498 : bn (-1) (-1) r_60496 := bn_w (bn_eq c_60497 (show bn (-1) (-1) ((-1) : Int32) from bn_k (by decide))) (by decide)
      refine lv_aload_n hx hb dX5_readComparison_23 rfl (lv_at hl 1 rfl) ?_
      refine lv_iconst (v := 1) hx hb dX5_readComparison_24 (by decide) ?_
      refine cVi (As := [.int 1]) (rest := []) S Y (x_X5_fail (l := l) I hW hT hQ) cw_X5_fail km5_121 p_ad_2_0 ok_X5.1 rfl rfl (by unfold rmD; dsimp only; omega) hl.1 rfl (Nat.le_of_ble_eq_true rfl) (by unfold rmD; dsimp only; omega) dX5_readComparison_25 (fun r_60530 L_60528 f_60529 H locs hr_60530 Y => ?_)
      obtain ⟨er_60530, I⟩ := hr_60530
      exact prI (post := fun r L1 f1 => bn 0 1 r ∧ SH (spC (RF 30 t) fc tc w q) nnC G ad L1 f1) S Y (nw_b (bn_w er_60530 (by decide))) (by decide) (by decide) hA1 ⟨bn_w er_60530 (by decide), I⟩ dX5_readComparison_28
  · have B_60477 : bn 0 0 r_60474 := bn_w (bn_eq c_60475 (show bn 0 0 (0 : Int32) from bn_k (by decide))) (by decide)
    refine lv_iconst (v := 0) hx hb dX5_readComparison_8 (by decide) ?_
    exact prI (post := fun r L1 f1 => bn 0 1 r ∧ SH (spC (RF 30 t) fc tc w q) nnC G ad L1 f1) S Y rfl (by decide) (by decide) hA1 ⟨bn_w (show bn 0 0 (0 : Int32) from bn_k (by decide)) (by decide), I⟩ dX5_readComparison_9
set_option maxHeartbeats 4000000 in
set_option maxRecDepth 100000 in
theorem x_X5_readAsk_s {l : Launch} {G : GG}  {L : List Nat} {f : HF} {ad : Nat → Nat → Nat} {fc : Int × Int} {tc w : Nat → Int × Int} {q : Nat → (Nat → Int32) → Prop} {t : Nat} {i1 : Int32} {n : Nat} (I : SH (spC (RF 30 t) fc tc w q) nnC G ad L f) (hW : WBp w 8) (hT : WBp tc 4) (hQ : QIp q) (ht : t < 4) (b_i1 : bn 0 8 i1) (hm : (8 - i1.toInt).toNat ≤ n + 1) (ihS : ∀ {L : List Nat} {f : HF} {t : Nat} {i1 : Int32}, (SH (spC (RF 30 t) fc tc w q) nnC G ad L f) → (WBp w 8) → (WBp tc 4) → (QIp q) → (t < 4) → (bn 0 8 i1) → ((8 - i1.toInt).toNat ≤ n) → PMi l yX5_readSum cX5_readSum 4 .boolean (16 * n + 10) 0 0 G [.ref (ad 2 0), .int i1] L f (fun r L1 f1 => bn 0 1 r ∧ SH (spC (RF 30 t) fc tc w q) nnC G ad L1 f1)) (ihC : ∀ {L : List Nat} {f : HF} {t : Nat} {i1 : Int32}, (SH (spC (RF 30 t) fc tc w q) nnC G ad L f) → (WBp w 8) → (WBp tc 4) → (QIp q) → (t < 4) → (bn 0 8 i1) → ((8 - i1.toInt).toNat ≤ n) → PMi l yX5_readChoice cX5_readChoice 4 .boolean (16 * n + 15) 0 0 G [.ref (ad 2 0), .int i1] L f (fun r L1 f1 => bn 0 1 r ∧ SH (spC (RF 30 t) fc tc w q) nnC G ad L1 f1)) (ihO : ∀ {L : List Nat} {f : HF} {t : Nat} {i1 : Int32}, (SH (spC (RF 30 t) fc tc w q) nnC G ad L f) → (WBp w 8) → (WBp tc 4) → (QIp q) → (t < 4) → (bn 0 8 i1) → ((8 - i1.toInt).toNat ≤ n) → PMi l yX5_readOne cX5_readOne 3 .boolean (16 * n + 8) 0 0 G [.ref (ad 2 0), .int i1] L f (fun r L1 f1 => bn 0 1 r ∧ SH (spC (RF 30 t) fc tc w q) nnC G ad L1 f1)) (ihJ : ∀ {L : List Nat} {f : HF} {t : Nat} {i1 : Int32}, (SH (spC (RF 30 t) fc tc w q) nnC G ad L f) → (WBp w 8) → (WBp tc 4) → (QIp q) → (t < 4) → (bn 0 8 i1) → ((8 - i1.toInt).toNat ≤ n) → PMi l yX5_readJust cX5_readJust 3 .boolean (16 * n + 15) 0 0 G [.ref (ad 2 0), .int i1] L f (fun r L1 f1 => bn 0 1 r ∧ SH (spC (RF 30 t) fc tc w q) nnC G ad L1 f1)) (ihA : ∀ {L : List Nat} {f : HF} {t : Nat} {i1 : Int32}, (SH (spC (RF 30 t) fc tc w q) nnC G ad L f) → (WBp w 8) → (WBp tc 4) → (QIp q) → (t < 4) → (bn 0 8 i1) → ((8 - i1.toInt).toNat ≤ n) → PMi l yX5_readAsk cX5_readAsk 3 .boolean (16 * n + 12) 0 0 G [.ref (ad 2 0), .int i1] L f (fun r L1 f1 => bn 0 1 r ∧ SH (spC (RF 30 t) fc tc w q) nnC G ad L1 f1)) : PMi l yX5_readAsk cX5_readAsk 3 .boolean (16 * (n + 1) + 12) 0 0 G [.ref (ad 2 0), .int i1] L f (fun r L1 f1 => bn 0 1 r ∧ SH (spC (RF 30 t) fc tc w q) nnC G ad L1 f1) := by
  refine PMi.of (post := fun r L1 f1 => bn 0 1 r ∧ SH (spC (RF 30 t) fc tc w q) nnC G ad L1 f1) (own := RX5) (by decide) rfl (Nat.le_of_ble_eq_true rfl) (fun sz p e s m args below meth c A ls hA1 hname S Y hl => ?_)
  have hx := S.hx
  have hb := S.hb
  have hl : lv_has ls 3 [(0, .ref (ad 2 0)), (1, .int i1)] := hl
  have J_50 : ∀ (y50_s0 : Int32) (L_50 : List Nat) (f_50 : HF) (H : Heap) (locs : List Loc) (ls : Array Slot), (SH (spC (RF 30 t) fc tc w q) nnC G ad L_50 f_50) → (bn 0 1 y50_s0) → (bn 0 7 i1) → (DY G A s [] L_50 f_50 H locs) → (lv_has ls 3 [(0, .ref (ad 2 0)), (1, .int i1)]) → W p l e (rmD (16 * (n + 1) + 12) 0 0) s m args below meth c H locs (0) (0) (MQ below (va_Qi (fun r (u : List Nat × HF) => (fun r L1 f1 => bn 0 1 r ∧ SH (spC (RF 30 t) fc tc w q) nnC G ad L1 f1) r u.1 u.2) (fun u t => pOut G (va_A (va_pl L f) sz) u.1 u.2 t) (va_A (va_pl L f) sz)) args s 0 0 A) (F0 m 50 ls [.int y50_s0]) := by
    intro y50_s0 L_50 f_50 H locs ls I b_y50_s0 b50_i1 Y hl
    refine lv_istore_n (lv' := [(2, .int y50_s0), (0, .ref (ad 2 0)), (1, .int i1)]) hx hb dX5_readAsk_50 rfl hl (by decide) rfl (fun ls hl => ?_)
    refine lv_aload_n hx hb dX5_readAsk_51 rfl (lv_at hl 1 rfl) ?_
    refine cVv (As := []) (rest := []) S Y (x_X5_step (l := l) I hW hT hQ) cw_X5_step km5_49 (I.opo (k := 2) (j := 0) (by decide) rfl).choose_spec.1 ok_X5.1 rfl rfl (by unfold rmD; dsimp only; omega) hl.1 rfl (Nat.le_of_ble_eq_true rfl) (by unfold rmD; dsimp only; omega) dX5_readAsk_52 (fun L_60707 f_60708 H locs I Y => ?_)
    refine lv_iload_n hx hb dX5_readAsk_55 rfl (lv_at hl 0 rfl) ?_
    refine lv_if_eq (tgt := 67) hx hb dX5_readAsk_56 (by decide) (fun c_60709 => ?_) (fun c_60709 => ?_)
    · have B_60710 : bn 0 0 y50_s0 := bn_w (bn_eq c_60709 (show bn 0 0 (0 : Int32) from bn_k (by decide))) (by decide)
      refine lv_aload_n hx hb dX5_readAsk_67 rfl (lv_at hl 1 rfl) ?_
      refine lv_iload_n hx hb dX5_readAsk_68 rfl (lv_at hl 2 rfl) ?_
      refine lv_iconst (v := 1) hx hb dX5_readAsk_69 (by decide) ?_
      refine lv_iadd hx hb dX5_readAsk_70 ?_
      refine lv_topi (fun x_60712 ex_60712 => ?_)
      refine cVi (As := [.int x_60712]) (rest := []) S Y (ihA I hW hT hQ ht (bn_w (bn_eq ex_60712 (bn_add b50_i1 (show bn 1 1 (1 : Int32) from bn_k (by decide)) (by decide))) (by decide)) (od_s ex_60712 (bn_w b50_i1 (by decide)) hm)) cw_X5_readAsk km5_193 (I.opo (k := 2) (j := 0) (by decide) rfl).choose_spec.1 ok_X5.1 rfl rfl (by unfold rmD; dsimp only; omega) hl.1 rfl (Nat.le_of_ble_eq_true rfl) (by unfold rmD; dsimp only; omega) dX5_readAsk_71 (fun r_60715 L_60713 f_60714 H locs hr_60715 Y => ?_)
      obtain ⟨er_60715, I⟩ := hr_60715
      refine lv_if_ne (tgt := 79) hx hb dX5_readAsk_74 (by decide) (fun c_60716 => ?_) (fun c_60716 => ?_)
      · have B_60717 : bn 1 1 r_60715 := bn_w (bn_nel c_60716 er_60715 (show bn 0 0 (0 : Int32) from bn_k (by decide))) (by decide)
        refine lv_aload_n hx hb dX5_readAsk_79 rfl (lv_at hl 1 rfl) ?_
        obtain ⟨v_60719, v_60721, v_60723, v_60725, v_60727, v_60729, v_60731, v_60733, v_60735, p_ad_2_0, b_60720, b_60722, b_60724, b_60726, b_60728, b_60730, b_60732, b_60734, b_60736⟩ := opnC_2r (j := 0) I (by decide)
        have p_ad_2_0 : pt L_60713 f_60714 (ad 2 0) (.inr (5, [.ref (ad 50 0), .ref (ad 51 0), .ref (ad 52 0), .ref (ad 53 0), .int v_60719, .int v_60721, .int v_60723, .int v_60725, .int v_60727, .int v_60729, .int v_60731, .ref (ad 30 t), .int v_60733, .int v_60735])) := p_ad_2_0
        refine pg_get S Y ok_X5 11 (by decide) kf5_34 (v := .ref (ad 30 t)) p_ad_2_0 rfl dX5_readAsk_80 ?_
        refine lv_bipush (v := 6) hx hb dX5_readAsk_83 (by decide) ?_
        refine lv_iconst (v := 0) hx hb dX5_readAsk_85 (by decide) ?_
        refine cVi (As := [.int 6, .int 0]) (rest := []) S Y (x_X7_add (l := l) (j := t) I hW hT hQ (show t < 8 from by omega)) cw_X7_add km5_169 (I.opo (k := 30) (j := t) (show t < 8 from by omega) rfl).choose_spec.1 ok_X7.1 rfl rfl (by unfold rmD; dsimp only; omega) hl.1 rfl (Nat.le_of_ble_eq_true rfl) (by unfold rmD; dsimp only; omega) dX5_readAsk_86 (fun r_60739 L_60737 f_60738 H locs I Y => ?_)
        refine lv_pop hx hb dX5_readAsk_89 rfl ?_
        refine lv_iconst (v := 1) hx hb dX5_readAsk_90 (by decide) ?_
        exact prI (post := fun r L1 f1 => bn 0 1 r ∧ SH (spC (RF 30 t) fc tc w q) nnC G ad L1 f1) S Y rfl (by decide) (by decide) hA1 ⟨bn_w (show bn 1 1 (1 : Int32) from bn_k (by decide)) (by decide), I⟩ dX5_readAsk_91
      · have B_60718 : bn 0 0 r_60715 := bn_w (bn_eq c_60716 (show bn 0 0 (0 : Int32) from bn_k (by decide))) (by decide)
        refine lv_iconst (v := 0) hx hb dX5_readAsk_77 (by decide) ?_
        exact prI (post := fun r L1 f1 => bn 0 1 r ∧ SH (spC (RF 30 t) fc tc w q) nnC G ad L1 f1) S Y rfl (by decide) (by decide) hA1 ⟨bn_w (show bn 0 0 (0 : Int32) from bn_k (by decide)) (by decide), I⟩ dX5_readAsk_78
    · have B_60711 : bn 1 1 y50_s0 := bn_w (bn_nel c_60709 b_y50_s0 (show bn 0 0 (0 : Int32) from bn_k (by decide))) (by decide)
      refine lv_aload_n hx hb dX5_readAsk_59 rfl (lv_at hl 1 rfl) ?_
      refine lv_iload_n hx hb dX5_readAsk_60 rfl (lv_at hl 2 rfl) ?_
      refine lv_iconst (v := 1) hx hb dX5_readAsk_61 (by decide) ?_
      refine lv_iadd hx hb dX5_readAsk_62 ?_
      refine lv_topi (fun x_60740 ex_60740 => ?_)
      refine cVi (As := [.int x_60740]) (rest := []) S Y (ihJ I hW hT hQ ht (bn_w (bn_eq ex_60740 (bn_add b50_i1 (show bn 1 1 (1 : Int32) from bn_k (by decide)) (by decide))) (by decide)) (od_s ex_60740 (bn_w b50_i1 (by decide)) hm)) cw_X5_readJust km5_199 (I.opo (k := 2) (j := 0) (by decide) rfl).choose_spec.1 ok_X5.1 rfl rfl (by unfold rmD; dsimp only; omega) hl.1 rfl (Nat.le_of_ble_eq_true rfl) (by unfold rmD; dsimp only; omega) dX5_readAsk_63 (fun r_60743 L_60741 f_60742 H locs hr_60743 Y => ?_)
      obtain ⟨er_60743, I⟩ := hr_60743
      exact prI (post := fun r L1 f1 => bn 0 1 r ∧ SH (spC (RF 30 t) fc tc w q) nnC G ad L1 f1) S Y (nw_b (bn_w er_60743 (by decide))) (by decide) (by decide) hA1 ⟨bn_w er_60743 (by decide), I⟩ dX5_readAsk_66
  have J_24 : ∀ (L_24 : List Nat) (f_24 : HF) (H : Heap) (locs : List Loc) (ls : Array Slot), (SH (spC (RF 30 t) fc tc w q) nnC G ad L_24 f_24) → (DY G A s [] L_24 f_24 H locs) → (lv_has ls 3 [(0, .ref (ad 2 0)), (1, .int i1)]) → W p l e (rmD (16 * (n + 1) + 12) 0 0) s m args below meth c H locs (0) (0) (MQ below (va_Qi (fun r (u : List Nat × HF) => (fun r L1 f1 => bn 0 1 r ∧ SH (spC (RF 30 t) fc tc w q) nnC G ad L1 f1) r u.1 u.2) (fun u t => pOut G (va_A (va_pl L f) sz) u.1 u.2 t) (va_A (va_pl L f) sz)) args s 0 0 A) (F0 m 24 ls []) := by
    intro L_24 f_24 H locs ls I Y hl
    refine lv_iload_n hx hb dX5_readAsk_24 rfl (lv_at hl 1 rfl) ?_
    refine lv_bipush (v := 8) hx hb dX5_readAsk_25 (by decide) ?_
    refine lv_icmp_lt (tgt := 36) hx hb dX5_readAsk_27 (by decide) (fun c_60744 => ?_) (fun c_60744 => ?_)
    · have B_60745 : bn 0 7 i1 := bn_w (bn_ltl c_60744 b_i1 (show bn 8 8 (8 : Int32) from bn_k (by decide))) (by decide)
      refine lv_aload_n hx hb dX5_readAsk_36 rfl (lv_at hl 0 rfl) ?_
      obtain ⟨v_60747, v_60749, v_60751, v_60753, v_60755, v_60757, v_60759, v_60761, v_60763, p_ad_2_0, b_60748, b_60750, b_60752, b_60754, b_60756, b_60758, b_60760, b_60762, b_60764⟩ := opnC_2r (j := 0) I (by decide)
      have p_ad_2_0 : pt L_24 f_24 (ad 2 0) (.inr (5, [.ref (ad 50 0), .ref (ad 51 0), .ref (ad 52 0), .ref (ad 53 0), .int v_60747, .int v_60749, .int v_60751, .int v_60753, .int v_60755, .int v_60757, .int v_60759, .ref (ad 30 t), .int v_60761, .int v_60763])) := p_ad_2_0
      refine pg_get S Y ok_X5 7 (by decide) kf5_52 (v := .int v_60753) p_ad_2_0 rfl dX5_readAsk_37 ?_
      refine lv_bipush (v := 30) hx hb dX5_readAsk_40 (by decide) ?_
      refine lv_icmp_ne (tgt := 49) hx hb dX5_readAsk_42 (by decide) (fun c_60765 => ?_) (fun c_60765 => ?_)
      · refine lv_iconst (v := 0) hx hb dX5_readAsk_49 (by decide) ?_
        exact J_50 0 _ _  _ _ _ I (bn_w (show bn 0 0 (0 : Int32) from bn_k (by decide)) (by decide)) (bn_w B_60745 (by decide)) Y (lv_sub hl [0, 1] rfl)
      · have B_60766 : bn 30 30 v_60753 := bn_w (bn_eq c_60765 (show bn 30 30 (30 : Int32) from bn_k (by decide))) (by decide)
        refine lv_iconst (v := 1) hx hb dX5_readAsk_45 (by decide) ?_
        refine lv_goto (tgt := 50) hx hb dX5_readAsk_46 (by decide) ?_
        exact J_50 1 _ _  _ _ _ I (bn_w (show bn 1 1 (1 : Int32) from bn_k (by decide)) (by decide)) (bn_w B_60745 (by decide)) Y (lv_sub hl [0, 1] rfl)
    · have B_60746 : bn 8 8 i1 := bn_w (bn_gel c_60744 b_i1 (show bn 8 8 (8 : Int32) from bn_k (by decide))) (by decide)
      refine lv_aload_n hx hb dX5_readAsk_30 rfl (lv_at hl 0 rfl) ?_
      refine lv_iconst (v := 3) hx hb dX5_readAsk_31 (by decide) ?_
      refine cVi (As := [.int 3]) (rest := []) S Y (x_X5_fail (l := l) I hW hT hQ) cw_X5_fail km5_121 (I.opo (k := 2) (j := 0) (by decide) rfl).choose_spec.1 ok_X5.1 rfl rfl (by unfold rmD; dsimp only; omega) hl.1 rfl (Nat.le_of_ble_eq_true rfl) (by unfold rmD; dsimp only; omega) dX5_readAsk_32 (fun r_60769 L_60767 f_60768 H locs hr_60769 Y => ?_)
      obtain ⟨er_60769, I⟩ := hr_60769
      exact prI (post := fun r L1 f1 => bn 0 1 r ∧ SH (spC (RF 30 t) fc tc w q) nnC G ad L1 f1) S Y (nw_b (bn_w er_60769 (by decide))) (by decide) (by decide) hA1 ⟨bn_w er_60769 (by decide), I⟩ dX5_readAsk_35
  refine lv_aload_n hx hb dX5_readAsk_0 rfl (lv_at hl 0 rfl) ?_
  obtain ⟨v_60770, v_60772, v_60774, v_60776, v_60778, v_60780, v_60782, v_60784, v_60786, p_ad_2_0, b_60771, b_60773, b_60775, b_60777, b_60779, b_60781, b_60783, b_60785, b_60787⟩ := opnC_2r (j := 0) I (by decide)
  have p_ad_2_0 : pt L f (ad 2 0) (.inr (5, [.ref (ad 50 0), .ref (ad 51 0), .ref (ad 52 0), .ref (ad 53 0), .int v_60770, .int v_60772, .int v_60774, .int v_60776, .int v_60778, .int v_60780, .int v_60782, .ref (ad 30 t), .int v_60784, .int v_60786])) := p_ad_2_0
  refine pg_get S Y ok_X5 7 (by decide) kf5_52 (v := .int v_60776) p_ad_2_0 rfl dX5_readAsk_1 ?_
  refine lv_bipush (v := 29) hx hb dX5_readAsk_4 (by decide) ?_
  refine lv_icmp_eq (tgt := 24) hx hb dX5_readAsk_6 (by decide) (fun c_60788 => ?_) (fun c_60788 => ?_)
  · have B_60789 : bn 29 29 v_60776 := bn_w (bn_eq c_60788 (show bn 29 29 (29 : Int32) from bn_k (by decide))) (by decide)
    exact J_24  _ _  _ _ _ I  Y (lv_sub hl [0, 1] rfl)
  · refine lv_aload_n hx hb dX5_readAsk_9 rfl (lv_at hl 0 rfl) ?_
    refine pg_get S Y ok_X5 7 (by decide) kf5_52 (v := .int v_60776) p_ad_2_0 rfl dX5_readAsk_10 ?_
    refine lv_bipush (v := 30) hx hb dX5_readAsk_13 (by decide) ?_
    refine lv_icmp_eq (tgt := 24) hx hb dX5_readAsk_15 (by decide) (fun c_60790 => ?_) (fun c_60790 => ?_)
    · have B_60791 : bn 30 30 v_60776 := bn_w (bn_eq c_60790 (show bn 30 30 (30 : Int32) from bn_k (by decide))) (by decide)
      exact J_24  _ _  _ _ _ I  Y (lv_sub hl [0, 1] rfl)
    · refine lv_aload_n hx hb dX5_readAsk_18 rfl (lv_at hl 0 rfl) ?_
      refine lv_iload_n hx hb dX5_readAsk_19 rfl (lv_at hl 1 rfl) ?_
      refine cVi (As := [.int i1]) (rest := []) S Y (x_X5_readComparison_s (l := l) (t := t) I hW hT hQ ht (bn_w b_i1 (by decide)) hm ihS ihC ihO ihJ ihA) cw_X5_readComparison km5_196 p_ad_2_0 ok_X5.1 rfl rfl (by unfold rmD; dsimp only; omega) hl.1 rfl (Nat.le_of_ble_eq_true rfl) (by unfold rmD; dsimp only; omega) dX5_readAsk_20 (fun r_60794 L_60792 f_60793 H locs hr_60794 Y => ?_)
      obtain ⟨er_60794, I⟩ := hr_60794
      exact prI (post := fun r L1 f1 => bn 0 1 r ∧ SH (spC (RF 30 t) fc tc w q) nnC G ad L1 f1) S Y (nw_b (bn_w er_60794 (by decide))) (by decide) (by decide) hA1 ⟨bn_w er_60794 (by decide), I⟩ dX5_readAsk_23
set_option maxHeartbeats 4000000 in
set_option maxRecDepth 100000 in
theorem x_X5_readBoth_s {l : Launch} {G : GG}  {L : List Nat} {f : HF} {ad : Nat → Nat → Nat} {fc : Int × Int} {tc w : Nat → Int × Int} {q : Nat → (Nat → Int32) → Prop} {t : Nat} {i1 : Int32} {n : Nat} (I : SH (spC (RF 30 t) fc tc w q) nnC G ad L f) (hW : WBp w 8) (hT : WBp tc 4) (hQ : QIp q) (ht : t < 4) (b_i1 : bn 0 8 i1) (hm : (8 - i1.toInt).toNat ≤ n + 1) (ihS : ∀ {L : List Nat} {f : HF} {t : Nat} {i1 : Int32}, (SH (spC (RF 30 t) fc tc w q) nnC G ad L f) → (WBp w 8) → (WBp tc 4) → (QIp q) → (t < 4) → (bn 0 8 i1) → ((8 - i1.toInt).toNat ≤ n) → PMi l yX5_readSum cX5_readSum 4 .boolean (16 * n + 10) 0 0 G [.ref (ad 2 0), .int i1] L f (fun r L1 f1 => bn 0 1 r ∧ SH (spC (RF 30 t) fc tc w q) nnC G ad L1 f1)) (ihC : ∀ {L : List Nat} {f : HF} {t : Nat} {i1 : Int32}, (SH (spC (RF 30 t) fc tc w q) nnC G ad L f) → (WBp w 8) → (WBp tc 4) → (QIp q) → (t < 4) → (bn 0 8 i1) → ((8 - i1.toInt).toNat ≤ n) → PMi l yX5_readChoice cX5_readChoice 4 .boolean (16 * n + 15) 0 0 G [.ref (ad 2 0), .int i1] L f (fun r L1 f1 => bn 0 1 r ∧ SH (spC (RF 30 t) fc tc w q) nnC G ad L1 f1)) (ihO : ∀ {L : List Nat} {f : HF} {t : Nat} {i1 : Int32}, (SH (spC (RF 30 t) fc tc w q) nnC G ad L f) → (WBp w 8) → (WBp tc 4) → (QIp q) → (t < 4) → (bn 0 8 i1) → ((8 - i1.toInt).toNat ≤ n) → PMi l yX5_readOne cX5_readOne 3 .boolean (16 * n + 8) 0 0 G [.ref (ad 2 0), .int i1] L f (fun r L1 f1 => bn 0 1 r ∧ SH (spC (RF 30 t) fc tc w q) nnC G ad L1 f1)) (ihJ : ∀ {L : List Nat} {f : HF} {t : Nat} {i1 : Int32}, (SH (spC (RF 30 t) fc tc w q) nnC G ad L f) → (WBp w 8) → (WBp tc 4) → (QIp q) → (t < 4) → (bn 0 8 i1) → ((8 - i1.toInt).toNat ≤ n) → PMi l yX5_readJust cX5_readJust 3 .boolean (16 * n + 15) 0 0 G [.ref (ad 2 0), .int i1] L f (fun r L1 f1 => bn 0 1 r ∧ SH (spC (RF 30 t) fc tc w q) nnC G ad L1 f1)) (ihA : ∀ {L : List Nat} {f : HF} {t : Nat} {i1 : Int32}, (SH (spC (RF 30 t) fc tc w q) nnC G ad L f) → (WBp w 8) → (WBp tc 4) → (QIp q) → (t < 4) → (bn 0 8 i1) → ((8 - i1.toInt).toNat ≤ n) → PMi l yX5_readAsk cX5_readAsk 3 .boolean (16 * n + 12) 0 0 G [.ref (ad 2 0), .int i1] L f (fun r L1 f1 => bn 0 1 r ∧ SH (spC (RF 30 t) fc tc w q) nnC G ad L1 f1)) : PMi l yX5_readBoth cX5_readBoth 3 .boolean (16 * (n + 1) + 13) 0 0 G [.ref (ad 2 0), .int i1] L f (fun r L1 f1 => bn 0 1 r ∧ SH (spC (RF 30 t) fc tc w q) nnC G ad L1 f1) := by
  refine PMi.of (post := fun r L1 f1 => bn 0 1 r ∧ SH (spC (RF 30 t) fc tc w q) nnC G ad L1 f1) (own := RX5) (by decide) rfl (Nat.le_of_ble_eq_true rfl) (fun sz p e s m args below meth c A ls hA1 hname S Y hl => ?_)
  have hx := S.hx
  have hb := S.hb
  have hl : lv_has ls 3 [(0, .ref (ad 2 0)), (1, .int i1)] := hl
  have J_12 : ∀ (n12 : Nat) (y12_2 : Int32) (L_12 : List Nat) (f_12 : HF) (H : Heap) (locs : List Loc) (ls : Array Slot), (SH (spC (RF 30 t) fc tc w q) nnC G ad L_12 f_12) → (bn 0 300 y12_2) → (((300 : Int) - y12_2.toInt).toNat = n12) → (DY G A s [] L_12 f_12 H locs) → (lv_has ls 3 [(0, .ref (ad 2 0)), (1, .int i1), (2, .int y12_2)]) → W p l e (rmD (16 * (n + 1) + 13) 0 0) s m args below meth c H locs (0) (0) (MQ below (va_Qi (fun r (u : List Nat × HF) => (fun r L1 f1 => bn 0 1 r ∧ SH (spC (RF 30 t) fc tc w q) nnC G ad L1 f1) r u.1 u.2) (fun u t => pOut G (va_A (va_pl L f) sz) u.1 u.2 t) (va_A (va_pl L f) sz)) args s 0 0 A) (F0 m 12 ls []) := by
    intro n12
    induction n12 using Nat.strongRecOn with
    | _ n12 ih12 =>
      intro y12_2 L_12 f_12 H locs ls I b_y12_2 hm12 Y hl
      refine lv_iload_n hx hb dX5_readBoth_12 rfl (lv_at hl 2 rfl) ?_
      refine lv_sipush (v := 300) hx hb dX5_readBoth_13 (by decide) ?_
      refine lv_icmp_ge (tgt := 59) hx hb dX5_readBoth_16 (by decide) (fun c_62763 => ?_) (fun c_62763 => ?_)
      · have B_62764 : bn 300 300 y12_2 := bn_w (bn_ler c_62763 (show bn 300 300 (300 : Int32) from bn_k (by decide)) b_y12_2) (by decide)
        refine lv_iconst (v := 1) hx hb dX5_readBoth_59 (by decide) ?_
        exact prI (post := fun r L1 f1 => bn 0 1 r ∧ SH (spC (RF 30 t) fc tc w q) nnC G ad L1 f1) S Y rfl (by decide) (by decide) hA1 ⟨bn_w (show bn 1 1 (1 : Int32) from bn_k (by decide)) (by decide), I⟩ dX5_readBoth_60
      · have B_62765 : bn 0 299 y12_2 := bn_w (bn_gtr c_62763 (show bn 300 300 (300 : Int32) from bn_k (by decide)) b_y12_2) (by decide)
        refine lv_aload_n hx hb dX5_readBoth_19 rfl (lv_at hl 0 rfl) ?_
        obtain ⟨v_62766, v_62768, v_62770, v_62772, v_62774, v_62776, v_62778, v_62780, v_62782, p_ad_2_0, b_62767, b_62769, b_62771, b_62773, b_62775, b_62777, b_62779, b_62781, b_62783⟩ := opnC_2r (j := 0) I (by decide)
        have p_ad_2_0 : pt L_12 f_12 (ad 2 0) (.inr (5, [.ref (ad 50 0), .ref (ad 51 0), .ref (ad 52 0), .ref (ad 53 0), .int v_62766, .int v_62768, .int v_62770, .int v_62772, .int v_62774, .int v_62776, .int v_62778, .ref (ad 30 t), .int v_62780, .int v_62782])) := p_ad_2_0
        refine pg_get S Y ok_X5 7 (by decide) kf5_52 (v := .int v_62772) p_ad_2_0 rfl dX5_readBoth_20 ?_
        refine lv_bipush (v := 28) hx hb dX5_readBoth_23 (by decide) ?_
        refine lv_icmp_ne (tgt := 59) hx hb dX5_readBoth_25 (by decide) (fun c_62784 => ?_) (fun c_62784 => ?_)
        · refine lv_iconst (v := 1) hx hb dX5_readBoth_59 (by decide) ?_
          exact prI (post := fun r L1 f1 => bn 0 1 r ∧ SH (spC (RF 30 t) fc tc w q) nnC G ad L1 f1) S Y rfl (by decide) (by decide) hA1 ⟨bn_w (show bn 1 1 (1 : Int32) from bn_k (by decide)) (by decide), I⟩ dX5_readBoth_60
        · have B_62785 : bn 28 28 v_62772 := bn_w (bn_eq c_62784 (show bn 28 28 (28 : Int32) from bn_k (by decide))) (by decide)
          refine lv_aload_n hx hb dX5_readBoth_28 rfl (lv_at hl 0 rfl) ?_
          refine cVv (As := []) (rest := []) S Y (x_X5_step (l := l) I hW hT hQ) cw_X5_step km5_49 p_ad_2_0 ok_X5.1 rfl rfl (by unfold rmD; dsimp only; omega) hl.1 rfl (Nat.le_of_ble_eq_true rfl) (by unfold rmD; dsimp only; omega) dX5_readBoth_29 (fun L_62786 f_62787 H locs I Y => ?_)
          refine lv_aload_n hx hb dX5_readBoth_32 rfl (lv_at hl 0 rfl) ?_
          refine lv_iload_n hx hb dX5_readBoth_33 rfl (lv_at hl 1 rfl) ?_
          refine cVi (As := [.int i1]) (rest := []) S Y (x_X5_readAsk_s (l := l) (t := t) I hW hT hQ ht (bn_w b_i1 (by decide)) hm ihS ihC ihO ihJ ihA) cw_X5_readAsk km5_193 (I.opo (k := 2) (j := 0) (by decide) rfl).choose_spec.1 ok_X5.1 rfl rfl (by unfold rmD; dsimp only; omega) hl.1 rfl (Nat.le_of_ble_eq_true rfl) (by unfold rmD; dsimp only; omega) dX5_readBoth_34 (fun r_62790 L_62788 f_62789 H locs hr_62790 Y => ?_)
          obtain ⟨er_62790, I⟩ := hr_62790
          refine lv_if_ne (tgt := 42) hx hb dX5_readBoth_37 (by decide) (fun c_62791 => ?_) (fun c_62791 => ?_)
          · have B_62792 : bn 1 1 r_62790 := bn_w (bn_nel c_62791 er_62790 (show bn 0 0 (0 : Int32) from bn_k (by decide))) (by decide)
            refine lv_aload_n hx hb dX5_readBoth_42 rfl (lv_at hl 0 rfl) ?_
            obtain ⟨v_62794, v_62796, v_62798, v_62800, v_62802, v_62804, v_62806, v_62808, v_62810, p_ad_2_0, b_62795, b_62797, b_62799, b_62801, b_62803, b_62805, b_62807, b_62809, b_62811⟩ := opnC_2r (j := 0) I (by decide)
            have p_ad_2_0 : pt L_62788 f_62789 (ad 2 0) (.inr (5, [.ref (ad 50 0), .ref (ad 51 0), .ref (ad 52 0), .ref (ad 53 0), .int v_62794, .int v_62796, .int v_62798, .int v_62800, .int v_62802, .int v_62804, .int v_62806, .ref (ad 30 t), .int v_62808, .int v_62810])) := p_ad_2_0
            refine pg_get S Y ok_X5 11 (by decide) kf5_34 (v := .ref (ad 30 t)) p_ad_2_0 rfl dX5_readBoth_43 ?_
            refine lv_bipush (v := 18) hx hb dX5_readBoth_46 (by decide) ?_
            refine lv_iconst (v := 0) hx hb dX5_readBoth_48 (by decide) ?_
            refine cVi (As := [.int 18, .int 0]) (rest := []) S Y (x_X7_add (l := l) (j := t) I hW hT hQ (show t < 8 from by omega)) cw_X7_add km5_169 (I.opo (k := 30) (j := t) (show t < 8 from by omega) rfl).choose_spec.1 ok_X7.1 rfl rfl (by unfold rmD; dsimp only; omega) hl.1 rfl (Nat.le_of_ble_eq_true rfl) (by unfold rmD; dsimp only; omega) dX5_readBoth_49 (fun r_62814 L_62812 f_62813 H locs I Y => ?_)
            refine lv_pop hx hb dX5_readBoth_52 rfl ?_
            obtain ⟨x_62815, ex_62815⟩ : ∃ z : Int32, z = y12_2 + 1 := ⟨_, rfl⟩
            refine lv_iinc (v := x_62815) (lv' := [(2, .int x_62815), (0, .ref (ad 2 0)), (1, .int i1)]) hx hb dX5_readBoth_53 hl (k := 2) rfl (by rw [ex_62815]; rfl) (by decide) rfl (fun ls hl => ?_)
            refine lv_goto (tgt := 12) hx hb dX5_readBoth_56 (by decide) ?_
            exact ih12 _ (by rw [← hm12]; exact ms_up (m := 1) ex_62815 (show bn 1 1 (1 : Int32) from bn_k (by decide)) B_62765 (bn_w (bn_eq ex_62815 (bn_add B_62765 (show bn 1 1 (1 : Int32) from bn_k (by decide)) (by decide))) (by decide) : bn 0 300 x_62815) (by decide)) x_62815 _ _  _ _ _ I (bn_w (bn_eq ex_62815 (bn_add B_62765 (show bn 1 1 (1 : Int32) from bn_k (by decide)) (by decide))) (by decide)) rfl Y (lv_sub hl [1, 2, 0] rfl)
          · have B_62793 : bn 0 0 r_62790 := bn_w (bn_eq c_62791 (show bn 0 0 (0 : Int32) from bn_k (by decide))) (by decide)
            refine lv_iconst (v := 0) hx hb dX5_readBoth_40 (by decide) ?_
            exact prI (post := fun r L1 f1 => bn 0 1 r ∧ SH (spC (RF 30 t) fc tc w q) nnC G ad L1 f1) S Y rfl (by decide) (by decide) hA1 ⟨bn_w (show bn 0 0 (0 : Int32) from bn_k (by decide)) (by decide), I⟩ dX5_readBoth_41
  refine lv_aload_n hx hb dX5_readBoth_0 rfl (lv_at hl 0 rfl) ?_
  refine lv_iload_n hx hb dX5_readBoth_1 rfl (lv_at hl 1 rfl) ?_
  refine cVi (As := [.int i1]) (rest := []) S Y (x_X5_readAsk_s (l := l) (t := t) I hW hT hQ ht (bn_w b_i1 (by decide)) hm ihS ihC ihO ihJ ihA) cw_X5_readAsk km5_193 (I.opo (k := 2) (j := 0) (by decide) rfl).choose_spec.1 ok_X5.1 rfl rfl (by unfold rmD; dsimp only; omega) hl.1 rfl (Nat.le_of_ble_eq_true rfl) (by unfold rmD; dsimp only; omega) dX5_readBoth_2 (fun r_62818 L_62816 f_62817 H locs hr_62818 Y => ?_)
  obtain ⟨er_62818, I⟩ := hr_62818
  refine lv_if_ne (tgt := 10) hx hb dX5_readBoth_5 (by decide) (fun c_62819 => ?_) (fun c_62819 => ?_)
  · have B_62820 : bn 1 1 r_62818 := bn_w (bn_nel c_62819 er_62818 (show bn 0 0 (0 : Int32) from bn_k (by decide))) (by decide)
    refine lv_iconst (v := 0) hx hb dX5_readBoth_10 (by decide) ?_
    refine lv_istore_n (lv' := [(2, .int 0), (0, .ref (ad 2 0)), (1, .int i1)]) hx hb dX5_readBoth_11 rfl hl (by decide) rfl (fun ls hl => ?_)
    exact J_12 _ 0 _ _  _ _ _ I (bn_w (show bn 0 0 (0 : Int32) from bn_k (by decide)) (by decide)) rfl Y (lv_sub hl [1, 2, 0] rfl)
  · have B_62821 : bn 0 0 r_62818 := bn_w (bn_eq c_62819 (show bn 0 0 (0 : Int32) from bn_k (by decide))) (by decide)
    refine lv_iconst (v := 0) hx hb dX5_readBoth_8 (by decide) ?_
    exact prI (post := fun r L1 f1 => bn 0 1 r ∧ SH (spC (RF 30 t) fc tc w q) nnC G ad L1 f1) S Y rfl (by decide) (by decide) hA1 ⟨bn_w (show bn 0 0 (0 : Int32) from bn_k (by decide)) (by decide), I⟩ dX5_readBoth_9
set_option maxHeartbeats 4000000 in
set_option maxRecDepth 100000 in
theorem x_X5_readEither_s {l : Launch} {G : GG}  {L : List Nat} {f : HF} {ad : Nat → Nat → Nat} {fc : Int × Int} {tc w : Nat → Int × Int} {q : Nat → (Nat → Int32) → Prop} {t : Nat} {i1 : Int32} {n : Nat} (I : SH (spC (RF 30 t) fc tc w q) nnC G ad L f) (hW : WBp w 8) (hT : WBp tc 4) (hQ : QIp q) (ht : t < 4) (b_i1 : bn 0 8 i1) (hm : (8 - i1.toInt).toNat ≤ n + 1) (ihS : ∀ {L : List Nat} {f : HF} {t : Nat} {i1 : Int32}, (SH (spC (RF 30 t) fc tc w q) nnC G ad L f) → (WBp w 8) → (WBp tc 4) → (QIp q) → (t < 4) → (bn 0 8 i1) → ((8 - i1.toInt).toNat ≤ n) → PMi l yX5_readSum cX5_readSum 4 .boolean (16 * n + 10) 0 0 G [.ref (ad 2 0), .int i1] L f (fun r L1 f1 => bn 0 1 r ∧ SH (spC (RF 30 t) fc tc w q) nnC G ad L1 f1)) (ihC : ∀ {L : List Nat} {f : HF} {t : Nat} {i1 : Int32}, (SH (spC (RF 30 t) fc tc w q) nnC G ad L f) → (WBp w 8) → (WBp tc 4) → (QIp q) → (t < 4) → (bn 0 8 i1) → ((8 - i1.toInt).toNat ≤ n) → PMi l yX5_readChoice cX5_readChoice 4 .boolean (16 * n + 15) 0 0 G [.ref (ad 2 0), .int i1] L f (fun r L1 f1 => bn 0 1 r ∧ SH (spC (RF 30 t) fc tc w q) nnC G ad L1 f1)) (ihO : ∀ {L : List Nat} {f : HF} {t : Nat} {i1 : Int32}, (SH (spC (RF 30 t) fc tc w q) nnC G ad L f) → (WBp w 8) → (WBp tc 4) → (QIp q) → (t < 4) → (bn 0 8 i1) → ((8 - i1.toInt).toNat ≤ n) → PMi l yX5_readOne cX5_readOne 3 .boolean (16 * n + 8) 0 0 G [.ref (ad 2 0), .int i1] L f (fun r L1 f1 => bn 0 1 r ∧ SH (spC (RF 30 t) fc tc w q) nnC G ad L1 f1)) (ihJ : ∀ {L : List Nat} {f : HF} {t : Nat} {i1 : Int32}, (SH (spC (RF 30 t) fc tc w q) nnC G ad L f) → (WBp w 8) → (WBp tc 4) → (QIp q) → (t < 4) → (bn 0 8 i1) → ((8 - i1.toInt).toNat ≤ n) → PMi l yX5_readJust cX5_readJust 3 .boolean (16 * n + 15) 0 0 G [.ref (ad 2 0), .int i1] L f (fun r L1 f1 => bn 0 1 r ∧ SH (spC (RF 30 t) fc tc w q) nnC G ad L1 f1)) (ihA : ∀ {L : List Nat} {f : HF} {t : Nat} {i1 : Int32}, (SH (spC (RF 30 t) fc tc w q) nnC G ad L f) → (WBp w 8) → (WBp tc 4) → (QIp q) → (t < 4) → (bn 0 8 i1) → ((8 - i1.toInt).toNat ≤ n) → PMi l yX5_readAsk cX5_readAsk 3 .boolean (16 * n + 12) 0 0 G [.ref (ad 2 0), .int i1] L f (fun r L1 f1 => bn 0 1 r ∧ SH (spC (RF 30 t) fc tc w q) nnC G ad L1 f1)) : PMi l yX5_readEither cX5_readEither 3 .boolean (16 * (n + 1) + 14) 0 0 G [.ref (ad 2 0), .int i1] L f (fun r L1 f1 => bn 0 1 r ∧ SH (spC (RF 30 t) fc tc w q) nnC G ad L1 f1) := by
  refine PMi.of (post := fun r L1 f1 => bn 0 1 r ∧ SH (spC (RF 30 t) fc tc w q) nnC G ad L1 f1) (own := RX5) (by decide) rfl (Nat.le_of_ble_eq_true rfl) (fun sz p e s m args below meth c A ls hA1 hname S Y hl => ?_)
  have hx := S.hx
  have hb := S.hb
  have hl : lv_has ls 3 [(0, .ref (ad 2 0)), (1, .int i1)] := hl
  have J_12 : ∀ (n12 : Nat) (y12_2 : Int32) (L_12 : List Nat) (f_12 : HF) (H : Heap) (locs : List Loc) (ls : Array Slot), (SH (spC (RF 30 t) fc tc w q) nnC G ad L_12 f_12) → (bn 0 300 y12_2) → (((300 : Int) - y12_2.toInt).toNat = n12) → (DY G A s [] L_12 f_12 H locs) → (lv_has ls 3 [(0, .ref (ad 2 0)), (1, .int i1), (2, .int y12_2)]) → W p l e (rmD (16 * (n + 1) + 14) 0 0) s m args below meth c H locs (0) (0) (MQ below (va_Qi (fun r (u : List Nat × HF) => (fun r L1 f1 => bn 0 1 r ∧ SH (spC (RF 30 t) fc tc w q) nnC G ad L1 f1) r u.1 u.2) (fun u t => pOut G (va_A (va_pl L f) sz) u.1 u.2 t) (va_A (va_pl L f) sz)) args s 0 0 A) (F0 m 12 ls []) := by
    intro n12
    induction n12 using Nat.strongRecOn with
    | _ n12 ih12 =>
      intro y12_2 L_12 f_12 H locs ls I b_y12_2 hm12 Y hl
      refine lv_iload_n hx hb dX5_readEither_12 rfl (lv_at hl 2 rfl) ?_
      refine lv_sipush (v := 300) hx hb dX5_readEither_13 (by decide) ?_
      refine lv_icmp_ge (tgt := 59) hx hb dX5_readEither_16 (by decide) (fun c_64790 => ?_) (fun c_64790 => ?_)
      · have B_64791 : bn 300 300 y12_2 := bn_w (bn_ler c_64790 (show bn 300 300 (300 : Int32) from bn_k (by decide)) b_y12_2) (by decide)
        refine lv_iconst (v := 1) hx hb dX5_readEither_59 (by decide) ?_
        exact prI (post := fun r L1 f1 => bn 0 1 r ∧ SH (spC (RF 30 t) fc tc w q) nnC G ad L1 f1) S Y rfl (by decide) (by decide) hA1 ⟨bn_w (show bn 1 1 (1 : Int32) from bn_k (by decide)) (by decide), I⟩ dX5_readEither_60
      · have B_64792 : bn 0 299 y12_2 := bn_w (bn_gtr c_64790 (show bn 300 300 (300 : Int32) from bn_k (by decide)) b_y12_2) (by decide)
        refine lv_aload_n hx hb dX5_readEither_19 rfl (lv_at hl 0 rfl) ?_
        obtain ⟨v_64793, v_64795, v_64797, v_64799, v_64801, v_64803, v_64805, v_64807, v_64809, p_ad_2_0, b_64794, b_64796, b_64798, b_64800, b_64802, b_64804, b_64806, b_64808, b_64810⟩ := opnC_2r (j := 0) I (by decide)
        have p_ad_2_0 : pt L_12 f_12 (ad 2 0) (.inr (5, [.ref (ad 50 0), .ref (ad 51 0), .ref (ad 52 0), .ref (ad 53 0), .int v_64793, .int v_64795, .int v_64797, .int v_64799, .int v_64801, .int v_64803, .int v_64805, .ref (ad 30 t), .int v_64807, .int v_64809])) := p_ad_2_0
        refine pg_get S Y ok_X5 7 (by decide) kf5_52 (v := .int v_64799) p_ad_2_0 rfl dX5_readEither_20 ?_
        refine lv_bipush (v := 27) hx hb dX5_readEither_23 (by decide) ?_
        refine lv_icmp_ne (tgt := 59) hx hb dX5_readEither_25 (by decide) (fun c_64811 => ?_) (fun c_64811 => ?_)
        · refine lv_iconst (v := 1) hx hb dX5_readEither_59 (by decide) ?_
          exact prI (post := fun r L1 f1 => bn 0 1 r ∧ SH (spC (RF 30 t) fc tc w q) nnC G ad L1 f1) S Y rfl (by decide) (by decide) hA1 ⟨bn_w (show bn 1 1 (1 : Int32) from bn_k (by decide)) (by decide), I⟩ dX5_readEither_60
        · have B_64812 : bn 27 27 v_64799 := bn_w (bn_eq c_64811 (show bn 27 27 (27 : Int32) from bn_k (by decide))) (by decide)
          refine lv_aload_n hx hb dX5_readEither_28 rfl (lv_at hl 0 rfl) ?_
          refine cVv (As := []) (rest := []) S Y (x_X5_step (l := l) I hW hT hQ) cw_X5_step km5_49 p_ad_2_0 ok_X5.1 rfl rfl (by unfold rmD; dsimp only; omega) hl.1 rfl (Nat.le_of_ble_eq_true rfl) (by unfold rmD; dsimp only; omega) dX5_readEither_29 (fun L_64813 f_64814 H locs I Y => ?_)
          refine lv_aload_n hx hb dX5_readEither_32 rfl (lv_at hl 0 rfl) ?_
          refine lv_iload_n hx hb dX5_readEither_33 rfl (lv_at hl 1 rfl) ?_
          refine cVi (As := [.int i1]) (rest := []) S Y (x_X5_readBoth_s (l := l) (t := t) I hW hT hQ ht (bn_w b_i1 (by decide)) hm ihS ihC ihO ihJ ihA) cw_X5_readBoth km5_190 (I.opo (k := 2) (j := 0) (by decide) rfl).choose_spec.1 ok_X5.1 rfl rfl (by unfold rmD; dsimp only; omega) hl.1 rfl (Nat.le_of_ble_eq_true rfl) (by unfold rmD; dsimp only; omega) dX5_readEither_34 (fun r_64817 L_64815 f_64816 H locs hr_64817 Y => ?_)
          obtain ⟨er_64817, I⟩ := hr_64817
          refine lv_if_ne (tgt := 42) hx hb dX5_readEither_37 (by decide) (fun c_64818 => ?_) (fun c_64818 => ?_)
          · have B_64819 : bn 1 1 r_64817 := bn_w (bn_nel c_64818 er_64817 (show bn 0 0 (0 : Int32) from bn_k (by decide))) (by decide)
            refine lv_aload_n hx hb dX5_readEither_42 rfl (lv_at hl 0 rfl) ?_
            obtain ⟨v_64821, v_64823, v_64825, v_64827, v_64829, v_64831, v_64833, v_64835, v_64837, p_ad_2_0, b_64822, b_64824, b_64826, b_64828, b_64830, b_64832, b_64834, b_64836, b_64838⟩ := opnC_2r (j := 0) I (by decide)
            have p_ad_2_0 : pt L_64815 f_64816 (ad 2 0) (.inr (5, [.ref (ad 50 0), .ref (ad 51 0), .ref (ad 52 0), .ref (ad 53 0), .int v_64821, .int v_64823, .int v_64825, .int v_64827, .int v_64829, .int v_64831, .int v_64833, .ref (ad 30 t), .int v_64835, .int v_64837])) := p_ad_2_0
            refine pg_get S Y ok_X5 11 (by decide) kf5_34 (v := .ref (ad 30 t)) p_ad_2_0 rfl dX5_readEither_43 ?_
            refine lv_bipush (v := 19) hx hb dX5_readEither_46 (by decide) ?_
            refine lv_iconst (v := 0) hx hb dX5_readEither_48 (by decide) ?_
            refine cVi (As := [.int 19, .int 0]) (rest := []) S Y (x_X7_add (l := l) (j := t) I hW hT hQ (show t < 8 from by omega)) cw_X7_add km5_169 (I.opo (k := 30) (j := t) (show t < 8 from by omega) rfl).choose_spec.1 ok_X7.1 rfl rfl (by unfold rmD; dsimp only; omega) hl.1 rfl (Nat.le_of_ble_eq_true rfl) (by unfold rmD; dsimp only; omega) dX5_readEither_49 (fun r_64841 L_64839 f_64840 H locs I Y => ?_)
            refine lv_pop hx hb dX5_readEither_52 rfl ?_
            obtain ⟨x_64842, ex_64842⟩ : ∃ z : Int32, z = y12_2 + 1 := ⟨_, rfl⟩
            refine lv_iinc (v := x_64842) (lv' := [(2, .int x_64842), (0, .ref (ad 2 0)), (1, .int i1)]) hx hb dX5_readEither_53 hl (k := 2) rfl (by rw [ex_64842]; rfl) (by decide) rfl (fun ls hl => ?_)
            refine lv_goto (tgt := 12) hx hb dX5_readEither_56 (by decide) ?_
            exact ih12 _ (by rw [← hm12]; exact ms_up (m := 1) ex_64842 (show bn 1 1 (1 : Int32) from bn_k (by decide)) B_64792 (bn_w (bn_eq ex_64842 (bn_add B_64792 (show bn 1 1 (1 : Int32) from bn_k (by decide)) (by decide))) (by decide) : bn 0 300 x_64842) (by decide)) x_64842 _ _  _ _ _ I (bn_w (bn_eq ex_64842 (bn_add B_64792 (show bn 1 1 (1 : Int32) from bn_k (by decide)) (by decide))) (by decide)) rfl Y (lv_sub hl [1, 2, 0] rfl)
          · have B_64820 : bn 0 0 r_64817 := bn_w (bn_eq c_64818 (show bn 0 0 (0 : Int32) from bn_k (by decide))) (by decide)
            refine lv_iconst (v := 0) hx hb dX5_readEither_40 (by decide) ?_
            exact prI (post := fun r L1 f1 => bn 0 1 r ∧ SH (spC (RF 30 t) fc tc w q) nnC G ad L1 f1) S Y rfl (by decide) (by decide) hA1 ⟨bn_w (show bn 0 0 (0 : Int32) from bn_k (by decide)) (by decide), I⟩ dX5_readEither_41
  refine lv_aload_n hx hb dX5_readEither_0 rfl (lv_at hl 0 rfl) ?_
  refine lv_iload_n hx hb dX5_readEither_1 rfl (lv_at hl 1 rfl) ?_
  refine cVi (As := [.int i1]) (rest := []) S Y (x_X5_readBoth_s (l := l) (t := t) I hW hT hQ ht (bn_w b_i1 (by decide)) hm ihS ihC ihO ihJ ihA) cw_X5_readBoth km5_190 (I.opo (k := 2) (j := 0) (by decide) rfl).choose_spec.1 ok_X5.1 rfl rfl (by unfold rmD; dsimp only; omega) hl.1 rfl (Nat.le_of_ble_eq_true rfl) (by unfold rmD; dsimp only; omega) dX5_readEither_2 (fun r_64845 L_64843 f_64844 H locs hr_64845 Y => ?_)
  obtain ⟨er_64845, I⟩ := hr_64845
  refine lv_if_ne (tgt := 10) hx hb dX5_readEither_5 (by decide) (fun c_64846 => ?_) (fun c_64846 => ?_)
  · have B_64847 : bn 1 1 r_64845 := bn_w (bn_nel c_64846 er_64845 (show bn 0 0 (0 : Int32) from bn_k (by decide))) (by decide)
    refine lv_iconst (v := 0) hx hb dX5_readEither_10 (by decide) ?_
    refine lv_istore_n (lv' := [(2, .int 0), (0, .ref (ad 2 0)), (1, .int i1)]) hx hb dX5_readEither_11 rfl hl (by decide) rfl (fun ls hl => ?_)
    exact J_12 _ 0 _ _  _ _ _ I (bn_w (show bn 0 0 (0 : Int32) from bn_k (by decide)) (by decide)) rfl Y (lv_sub hl [1, 2, 0] rfl)
  · have B_64848 : bn 0 0 r_64845 := bn_w (bn_eq c_64846 (show bn 0 0 (0 : Int32) from bn_k (by decide))) (by decide)
    refine lv_iconst (v := 0) hx hb dX5_readEither_8 (by decide) ?_
    exact prI (post := fun r L1 f1 => bn 0 1 r ∧ SH (spC (RF 30 t) fc tc w q) nnC G ad L1 f1) S Y rfl (by decide) (by decide) hA1 ⟨bn_w (show bn 0 0 (0 : Int32) from bn_k (by decide)) (by decide), I⟩ dX5_readEither_9
set_option maxHeartbeats 4000000 in
set_option maxRecDepth 100000 in
theorem x_X5_readJust_s {l : Launch} {G : GG}  {L : List Nat} {f : HF} {ad : Nat → Nat → Nat} {fc : Int × Int} {tc w : Nat → Int × Int} {q : Nat → (Nat → Int32) → Prop} {t : Nat} {i1 : Int32} {n : Nat} (I : SH (spC (RF 30 t) fc tc w q) nnC G ad L f) (hW : WBp w 8) (hT : WBp tc 4) (hQ : QIp q) (ht : t < 4) (b_i1 : bn 0 8 i1) (hm : (8 - i1.toInt).toNat ≤ n + 1) (ihS : ∀ {L : List Nat} {f : HF} {t : Nat} {i1 : Int32}, (SH (spC (RF 30 t) fc tc w q) nnC G ad L f) → (WBp w 8) → (WBp tc 4) → (QIp q) → (t < 4) → (bn 0 8 i1) → ((8 - i1.toInt).toNat ≤ n) → PMi l yX5_readSum cX5_readSum 4 .boolean (16 * n + 10) 0 0 G [.ref (ad 2 0), .int i1] L f (fun r L1 f1 => bn 0 1 r ∧ SH (spC (RF 30 t) fc tc w q) nnC G ad L1 f1)) (ihC : ∀ {L : List Nat} {f : HF} {t : Nat} {i1 : Int32}, (SH (spC (RF 30 t) fc tc w q) nnC G ad L f) → (WBp w 8) → (WBp tc 4) → (QIp q) → (t < 4) → (bn 0 8 i1) → ((8 - i1.toInt).toNat ≤ n) → PMi l yX5_readChoice cX5_readChoice 4 .boolean (16 * n + 15) 0 0 G [.ref (ad 2 0), .int i1] L f (fun r L1 f1 => bn 0 1 r ∧ SH (spC (RF 30 t) fc tc w q) nnC G ad L1 f1)) (ihO : ∀ {L : List Nat} {f : HF} {t : Nat} {i1 : Int32}, (SH (spC (RF 30 t) fc tc w q) nnC G ad L f) → (WBp w 8) → (WBp tc 4) → (QIp q) → (t < 4) → (bn 0 8 i1) → ((8 - i1.toInt).toNat ≤ n) → PMi l yX5_readOne cX5_readOne 3 .boolean (16 * n + 8) 0 0 G [.ref (ad 2 0), .int i1] L f (fun r L1 f1 => bn 0 1 r ∧ SH (spC (RF 30 t) fc tc w q) nnC G ad L1 f1)) (ihJ : ∀ {L : List Nat} {f : HF} {t : Nat} {i1 : Int32}, (SH (spC (RF 30 t) fc tc w q) nnC G ad L f) → (WBp w 8) → (WBp tc 4) → (QIp q) → (t < 4) → (bn 0 8 i1) → ((8 - i1.toInt).toNat ≤ n) → PMi l yX5_readJust cX5_readJust 3 .boolean (16 * n + 15) 0 0 G [.ref (ad 2 0), .int i1] L f (fun r L1 f1 => bn 0 1 r ∧ SH (spC (RF 30 t) fc tc w q) nnC G ad L1 f1)) (ihA : ∀ {L : List Nat} {f : HF} {t : Nat} {i1 : Int32}, (SH (spC (RF 30 t) fc tc w q) nnC G ad L f) → (WBp w 8) → (WBp tc 4) → (QIp q) → (t < 4) → (bn 0 8 i1) → ((8 - i1.toInt).toNat ≤ n) → PMi l yX5_readAsk cX5_readAsk 3 .boolean (16 * n + 12) 0 0 G [.ref (ad 2 0), .int i1] L f (fun r L1 f1 => bn 0 1 r ∧ SH (spC (RF 30 t) fc tc w q) nnC G ad L1 f1)) : PMi l yX5_readJust cX5_readJust 3 .boolean (16 * (n + 1) + 15) 0 0 G [.ref (ad 2 0), .int i1] L f (fun r L1 f1 => bn 0 1 r ∧ SH (spC (RF 30 t) fc tc w q) nnC G ad L1 f1) := by
  refine PMi.of (post := fun r L1 f1 => bn 0 1 r ∧ SH (spC (RF 30 t) fc tc w q) nnC G ad L1 f1) (own := RX5) (by decide) rfl (Nat.le_of_ble_eq_true rfl) (fun sz p e s m args below meth c A ls hA1 hname S Y hl => ?_)
  have hx := S.hx
  have hb := S.hb
  have hl : lv_has ls 3 [(0, .ref (ad 2 0)), (1, .int i1)] := hl
  have J_21 : ∀ (n21 : Nat) (y21_2 : Int32) (L_21 : List Nat) (f_21 : HF) (H : Heap) (locs : List Loc) (ls : Array Slot), (SH (spC (RF 30 t) fc tc w q) nnC G ad L_21 f_21) → (bn 1 6 y21_2) → (((6 : Int) - y21_2.toInt).toNat = n21) → (DY G A s [] L_21 f_21 H locs) → (lv_has ls 3 [(0, .ref (ad 2 0)), (1, .int i1), (2, .int y21_2)]) → W p l e (rmD (16 * (n + 1) + 15) 0 0) s m args below meth c H locs (0) (0) (MQ below (va_Qi (fun r (u : List Nat × HF) => (fun r L1 f1 => bn 0 1 r ∧ SH (spC (RF 30 t) fc tc w q) nnC G ad L1 f1) r u.1 u.2) (fun u t => pOut G (va_A (va_pl L f) sz) u.1 u.2 t) (va_A (va_pl L f) sz)) args s 0 0 A) (F0 m 21 ls []) := by
    intro n21
    induction n21 using Nat.strongRecOn with
    | _ n21 ih21 =>
      intro y21_2 L_21 f_21 H locs ls I b_y21_2 hm21 Y hl
      refine lv_iload_n hx hb dX5_readJust_21 rfl (lv_at hl 2 rfl) ?_
      refine lv_bipush (v := 6) hx hb dX5_readJust_22 (by decide) ?_
      refine lv_icmp_ge (tgt := 56) hx hb dX5_readJust_24 (by decide) (fun c_65182 => ?_) (fun c_65182 => ?_)
      · have B_65183 : bn 6 6 y21_2 := bn_w (bn_ler c_65182 (show bn 6 6 (6 : Int32) from bn_k (by decide)) b_y21_2) (by decide)
        refine lv_aload_n hx hb dX5_readJust_56 rfl (lv_at hl 0 rfl) ?_
        obtain ⟨v_65185, v_65187, v_65189, v_65191, v_65193, v_65195, v_65197, v_65199, v_65201, p_ad_2_0, b_65186, b_65188, b_65190, b_65192, b_65194, b_65196, b_65198, b_65200, b_65202⟩ := opnC_2r (j := 0) I (by decide)
        have p_ad_2_0 : pt L_21 f_21 (ad 2 0) (.inr (5, [.ref (ad 50 0), .ref (ad 51 0), .ref (ad 52 0), .ref (ad 53 0), .int v_65185, .int v_65187, .int v_65189, .int v_65191, .int v_65193, .int v_65195, .int v_65197, .ref (ad 30 t), .int v_65199, .int v_65201])) := p_ad_2_0
        refine pg_get S Y ok_X5 7 (by decide) kf5_52 (v := .int v_65191) p_ad_2_0 rfl dX5_readJust_57 ?_
        refine lv_bipush (v := 44) hx hb dX5_readJust_60 (by decide) ?_
        refine lv_icmp_ne (tgt := 72) hx hb dX5_readJust_62 (by decide) (fun c_65203 => ?_) (fun c_65203 => ?_)
        · refine lv_aload_n hx hb dX5_readJust_72 rfl (lv_at hl 0 rfl) ?_
          refine pg_get S Y ok_X5 11 (by decide) kf5_34 (v := .ref (ad 30 t)) p_ad_2_0 rfl dX5_readJust_73 ?_
          refine lv_bipush (v := 7) hx hb dX5_readJust_76 (by decide) ?_
          refine lv_iload_n hx hb dX5_readJust_78 rfl (lv_at hl 2 rfl) ?_
          refine cVi (As := [.int 7, .int y21_2]) (rest := []) S Y (x_X7_add (l := l) (j := t) I hW hT hQ (show t < 8 from by omega)) cw_X7_add km5_169 (I.opo (k := 30) (j := t) (show t < 8 from by omega) rfl).choose_spec.1 ok_X7.1 rfl rfl (by unfold rmD; dsimp only; omega) hl.1 rfl (Nat.le_of_ble_eq_true rfl) (by unfold rmD; dsimp only; omega) dX5_readJust_79 (fun r_65207 L_65205 f_65206 H locs I Y => ?_)
          refine lv_pop hx hb dX5_readJust_82 rfl ?_
          refine lv_aload_n hx hb dX5_readJust_83 rfl (lv_at hl 0 rfl) ?_
          refine lv_bipush (v := 41) hx hb dX5_readJust_84 (by decide) ?_
          refine cVi (As := [.int 41]) (rest := []) S Y (x_X5_expect (l := l) I hW hT hQ) cw_X5_expect km5_140 (I.opo (k := 2) (j := 0) (by decide) rfl).choose_spec.1 ok_X5.1 rfl rfl (by unfold rmD; dsimp only; omega) hl.1 rfl (Nat.le_of_ble_eq_true rfl) (by unfold rmD; dsimp only; omega) dX5_readJust_86 (fun r_65210 L_65208 f_65209 H locs hr_65210 Y => ?_)
          obtain ⟨er_65210, I⟩ := hr_65210
          exact prI (post := fun r L1 f1 => bn 0 1 r ∧ SH (spC (RF 30 t) fc tc w q) nnC G ad L1 f1) S Y (nw_b (bn_w er_65210 (by decide))) (by decide) (by decide) hA1 ⟨bn_w er_65210 (by decide), I⟩ dX5_readJust_89
        · have B_65204 : bn 44 44 v_65191 := bn_w (bn_eq c_65203 (show bn 44 44 (44 : Int32) from bn_k (by decide))) (by decide)
          refine lv_aload_n hx hb dX5_readJust_65 rfl (lv_at hl 0 rfl) ?_
          refine lv_bipush (v := 7) hx hb dX5_readJust_66 (by decide) ?_
          refine cVi (As := [.int 7]) (rest := []) S Y (x_X5_fail (l := l) I hW hT hQ) cw_X5_fail km5_121 p_ad_2_0 ok_X5.1 rfl rfl (by unfold rmD; dsimp only; omega) hl.1 rfl (Nat.le_of_ble_eq_true rfl) (by unfold rmD; dsimp only; omega) dX5_readJust_68 (fun r_65213 L_65211 f_65212 H locs hr_65213 Y => ?_)
          obtain ⟨er_65213, I⟩ := hr_65213
          exact prI (post := fun r L1 f1 => bn 0 1 r ∧ SH (spC (RF 30 t) fc tc w q) nnC G ad L1 f1) S Y (nw_b (bn_w er_65213 (by decide))) (by decide) (by decide) hA1 ⟨bn_w er_65213 (by decide), I⟩ dX5_readJust_71
      · have B_65184 : bn 1 5 y21_2 := bn_w (bn_gtr c_65182 (show bn 6 6 (6 : Int32) from bn_k (by decide)) b_y21_2) (by decide)
        refine lv_aload_n hx hb dX5_readJust_27 rfl (lv_at hl 0 rfl) ?_
        obtain ⟨v_65214, v_65216, v_65218, v_65220, v_65222, v_65224, v_65226, v_65228, v_65230, p_ad_2_0, b_65215, b_65217, b_65219, b_65221, b_65223, b_65225, b_65227, b_65229, b_65231⟩ := opnC_2r (j := 0) I (by decide)
        have p_ad_2_0 : pt L_21 f_21 (ad 2 0) (.inr (5, [.ref (ad 50 0), .ref (ad 51 0), .ref (ad 52 0), .ref (ad 53 0), .int v_65214, .int v_65216, .int v_65218, .int v_65220, .int v_65222, .int v_65224, .int v_65226, .ref (ad 30 t), .int v_65228, .int v_65230])) := p_ad_2_0
        refine pg_get S Y ok_X5 7 (by decide) kf5_52 (v := .int v_65220) p_ad_2_0 rfl dX5_readJust_28 ?_
        refine lv_bipush (v := 44) hx hb dX5_readJust_31 (by decide) ?_
        refine lv_icmp_ne (tgt := 56) hx hb dX5_readJust_33 (by decide) (fun c_65232 => ?_) (fun c_65232 => ?_)
        · refine lv_aload_n hx hb dX5_readJust_56 rfl (lv_at hl 0 rfl) ?_
          refine pg_get S Y ok_X5 7 (by decide) kf5_52 (v := .int v_65220) p_ad_2_0 rfl dX5_readJust_57 ?_
          refine lv_bipush (v := 44) hx hb dX5_readJust_60 (by decide) ?_
          refine lv_icmp_ne (tgt := 72) hx hb dX5_readJust_62 (by decide) (fun _ => ?_) (fun h => absurd h c_65232)
          refine lv_aload_n hx hb dX5_readJust_72 rfl (lv_at hl 0 rfl) ?_
          refine pg_get S Y ok_X5 11 (by decide) kf5_34 (v := .ref (ad 30 t)) p_ad_2_0 rfl dX5_readJust_73 ?_
          refine lv_bipush (v := 7) hx hb dX5_readJust_76 (by decide) ?_
          refine lv_iload_n hx hb dX5_readJust_78 rfl (lv_at hl 2 rfl) ?_
          refine cVi (As := [.int 7, .int y21_2]) (rest := []) S Y (x_X7_add (l := l) (j := t) I hW hT hQ (show t < 8 from by omega)) cw_X7_add km5_169 (I.opo (k := 30) (j := t) (show t < 8 from by omega) rfl).choose_spec.1 ok_X7.1 rfl rfl (by unfold rmD; dsimp only; omega) hl.1 rfl (Nat.le_of_ble_eq_true rfl) (by unfold rmD; dsimp only; omega) dX5_readJust_79 (fun r_65236 L_65234 f_65235 H locs I Y => ?_)
          refine lv_pop hx hb dX5_readJust_82 rfl ?_
          refine lv_aload_n hx hb dX5_readJust_83 rfl (lv_at hl 0 rfl) ?_
          refine lv_bipush (v := 41) hx hb dX5_readJust_84 (by decide) ?_
          refine cVi (As := [.int 41]) (rest := []) S Y (x_X5_expect (l := l) I hW hT hQ) cw_X5_expect km5_140 (I.opo (k := 2) (j := 0) (by decide) rfl).choose_spec.1 ok_X5.1 rfl rfl (by unfold rmD; dsimp only; omega) hl.1 rfl (Nat.le_of_ble_eq_true rfl) (by unfold rmD; dsimp only; omega) dX5_readJust_86 (fun r_65239 L_65237 f_65238 H locs hr_65239 Y => ?_)
          obtain ⟨er_65239, I⟩ := hr_65239
          exact prI (post := fun r L1 f1 => bn 0 1 r ∧ SH (spC (RF 30 t) fc tc w q) nnC G ad L1 f1) S Y (nw_b (bn_w er_65239 (by decide))) (by decide) (by decide) hA1 ⟨bn_w er_65239 (by decide), I⟩ dX5_readJust_89
        · have B_65233 : bn 44 44 v_65220 := bn_w (bn_eq c_65232 (show bn 44 44 (44 : Int32) from bn_k (by decide))) (by decide)
          refine lv_aload_n hx hb dX5_readJust_36 rfl (lv_at hl 0 rfl) ?_
          refine cVv (As := []) (rest := []) S Y (x_X5_step (l := l) I hW hT hQ) cw_X5_step km5_49 p_ad_2_0 ok_X5.1 rfl rfl (by unfold rmD; dsimp only; omega) hl.1 rfl (Nat.le_of_ble_eq_true rfl) (by unfold rmD; dsimp only; omega) dX5_readJust_37 (fun L_65240 f_65241 H locs I Y => ?_)
          refine lv_aload_n hx hb dX5_readJust_40 rfl (lv_at hl 0 rfl) ?_
          refine lv_iload_n hx hb dX5_readJust_41 rfl (lv_at hl 1 rfl) ?_
          refine cVi (As := [.int i1]) (rest := []) S Y (x_X5_readEither_s (l := l) (t := t) I hW hT hQ ht (bn_w b_i1 (by decide)) hm ihS ihC ihO ihJ ihA) cw_X5_readEither km5_184 (I.opo (k := 2) (j := 0) (by decide) rfl).choose_spec.1 ok_X5.1 rfl rfl (by unfold rmD; dsimp only; omega) hl.1 rfl (Nat.le_of_ble_eq_true rfl) (by unfold rmD; dsimp only; omega) dX5_readJust_42 (fun r_65244 L_65242 f_65243 H locs hr_65244 Y => ?_)
          obtain ⟨er_65244, I⟩ := hr_65244
          refine lv_if_ne (tgt := 50) hx hb dX5_readJust_45 (by decide) (fun c_65245 => ?_) (fun c_65245 => ?_)
          · have B_65246 : bn 1 1 r_65244 := bn_w (bn_nel c_65245 er_65244 (show bn 0 0 (0 : Int32) from bn_k (by decide))) (by decide)
            obtain ⟨x_65248, ex_65248⟩ : ∃ z : Int32, z = y21_2 + 1 := ⟨_, rfl⟩
            refine lv_iinc (v := x_65248) (lv' := [(2, .int x_65248), (0, .ref (ad 2 0)), (1, .int i1)]) hx hb dX5_readJust_50 hl (k := 2) rfl (by rw [ex_65248]; rfl) (by decide) rfl (fun ls hl => ?_)
            refine lv_goto (tgt := 21) hx hb dX5_readJust_53 (by decide) ?_
            exact ih21 _ (by rw [← hm21]; exact ms_up (m := 1) ex_65248 (show bn 1 1 (1 : Int32) from bn_k (by decide)) B_65184 (bn_w (bn_eq ex_65248 (bn_add B_65184 (show bn 1 1 (1 : Int32) from bn_k (by decide)) (by decide))) (by decide) : bn 1 6 x_65248) (by decide)) x_65248 _ _  _ _ _ I (bn_w (bn_eq ex_65248 (bn_add B_65184 (show bn 1 1 (1 : Int32) from bn_k (by decide)) (by decide))) (by decide)) rfl Y (lv_sub hl [1, 2, 0] rfl)
          · have B_65247 : bn 0 0 r_65244 := bn_w (bn_eq c_65245 (show bn 0 0 (0 : Int32) from bn_k (by decide))) (by decide)
            refine lv_iconst (v := 0) hx hb dX5_readJust_48 (by decide) ?_
            exact prI (post := fun r L1 f1 => bn 0 1 r ∧ SH (spC (RF 30 t) fc tc w q) nnC G ad L1 f1) S Y rfl (by decide) (by decide) hA1 ⟨bn_w (show bn 0 0 (0 : Int32) from bn_k (by decide)) (by decide), I⟩ dX5_readJust_49
  refine lv_aload_n hx hb dX5_readJust_0 rfl (lv_at hl 0 rfl) ?_
  refine lv_bipush (v := 40) hx hb dX5_readJust_1 (by decide) ?_
  refine cVi (As := [.int 40]) (rest := []) S Y (x_X5_expect (l := l) I hW hT hQ) cw_X5_expect km5_140 (I.opo (k := 2) (j := 0) (by decide) rfl).choose_spec.1 ok_X5.1 rfl rfl (by unfold rmD; dsimp only; omega) hl.1 rfl (Nat.le_of_ble_eq_true rfl) (by unfold rmD; dsimp only; omega) dX5_readJust_3 (fun r_65251 L_65249 f_65250 H locs hr_65251 Y => ?_)
  obtain ⟨er_65251, I⟩ := hr_65251
  refine lv_if_eq (tgt := 17) hx hb dX5_readJust_6 (by decide) (fun c_65252 => ?_) (fun c_65252 => ?_)
  · have B_65253 : bn 0 0 r_65251 := bn_w (bn_eq c_65252 (show bn 0 0 (0 : Int32) from bn_k (by decide))) (by decide)
    refine lv_iconst (v := 0) hx hb dX5_readJust_17 (by decide) ?_
    exact prI (post := fun r L1 f1 => bn 0 1 r ∧ SH (spC (RF 30 t) fc tc w q) nnC G ad L1 f1) S Y rfl (by decide) (by decide) hA1 ⟨bn_w (show bn 0 0 (0 : Int32) from bn_k (by decide)) (by decide), I⟩ dX5_readJust_18
  · have B_65254 : bn 1 1 r_65251 := bn_w (bn_nel c_65252 er_65251 (show bn 0 0 (0 : Int32) from bn_k (by decide))) (by decide)
    refine lv_aload_n hx hb dX5_readJust_9 rfl (lv_at hl 0 rfl) ?_
    refine lv_iload_n hx hb dX5_readJust_10 rfl (lv_at hl 1 rfl) ?_
    refine cVi (As := [.int i1]) (rest := []) S Y (x_X5_readEither_s (l := l) (t := t) I hW hT hQ ht (bn_w b_i1 (by decide)) hm ihS ihC ihO ihJ ihA) cw_X5_readEither km5_184 (I.opo (k := 2) (j := 0) (by decide) rfl).choose_spec.1 ok_X5.1 rfl rfl (by unfold rmD; dsimp only; omega) hl.1 rfl (Nat.le_of_ble_eq_true rfl) (by unfold rmD; dsimp only; omega) dX5_readJust_11 (fun r_65257 L_65255 f_65256 H locs hr_65257 Y => ?_)
    obtain ⟨er_65257, I⟩ := hr_65257
    refine lv_if_ne (tgt := 19) hx hb dX5_readJust_14 (by decide) (fun c_65258 => ?_) (fun c_65258 => ?_)
    · have B_65259 : bn 1 1 r_65257 := bn_w (bn_nel c_65258 er_65257 (show bn 0 0 (0 : Int32) from bn_k (by decide))) (by decide)
      refine lv_iconst (v := 1) hx hb dX5_readJust_19 (by decide) ?_
      refine lv_istore_n (lv' := [(2, .int 1), (0, .ref (ad 2 0)), (1, .int i1)]) hx hb dX5_readJust_20 rfl hl (by decide) rfl (fun ls hl => ?_)
      exact J_21 _ 1 _ _  _ _ _ I (bn_w (show bn 1 1 (1 : Int32) from bn_k (by decide)) (by decide)) rfl Y (lv_sub hl [1, 2, 0] rfl)
    · have B_65260 : bn 0 0 r_65257 := bn_w (bn_eq c_65258 (show bn 0 0 (0 : Int32) from bn_k (by decide))) (by decide)
      refine lv_iconst (v := 0) hx hb dX5_readJust_17 (by decide) ?_
      exact prI (post := fun r L1 f1 => bn 0 1 r ∧ SH (spC (RF 30 t) fc tc w q) nnC G ad L1 f1) S Y rfl (by decide) (by decide) hA1 ⟨bn_w (show bn 0 0 (0 : Int32) from bn_k (by decide)) (by decide), I⟩ dX5_readJust_18
set_option maxHeartbeats 4000000 in
set_option maxRecDepth 100000 in
theorem x_X5_readChoice_s {l : Launch} {G : GG}  {L : List Nat} {f : HF} {ad : Nat → Nat → Nat} {fc : Int × Int} {tc w : Nat → Int × Int} {q : Nat → (Nat → Int32) → Prop} {t : Nat} {i1 : Int32} {n : Nat} (I : SH (spC (RF 30 t) fc tc w q) nnC G ad L f) (hW : WBp w 8) (hT : WBp tc 4) (hQ : QIp q) (ht : t < 4) (b_i1 : bn 0 8 i1) (hm : (8 - i1.toInt).toNat ≤ n + 1) (ihS : ∀ {L : List Nat} {f : HF} {t : Nat} {i1 : Int32}, (SH (spC (RF 30 t) fc tc w q) nnC G ad L f) → (WBp w 8) → (WBp tc 4) → (QIp q) → (t < 4) → (bn 0 8 i1) → ((8 - i1.toInt).toNat ≤ n) → PMi l yX5_readSum cX5_readSum 4 .boolean (16 * n + 10) 0 0 G [.ref (ad 2 0), .int i1] L f (fun r L1 f1 => bn 0 1 r ∧ SH (spC (RF 30 t) fc tc w q) nnC G ad L1 f1)) (ihC : ∀ {L : List Nat} {f : HF} {t : Nat} {i1 : Int32}, (SH (spC (RF 30 t) fc tc w q) nnC G ad L f) → (WBp w 8) → (WBp tc 4) → (QIp q) → (t < 4) → (bn 0 8 i1) → ((8 - i1.toInt).toNat ≤ n) → PMi l yX5_readChoice cX5_readChoice 4 .boolean (16 * n + 15) 0 0 G [.ref (ad 2 0), .int i1] L f (fun r L1 f1 => bn 0 1 r ∧ SH (spC (RF 30 t) fc tc w q) nnC G ad L1 f1)) (ihO : ∀ {L : List Nat} {f : HF} {t : Nat} {i1 : Int32}, (SH (spC (RF 30 t) fc tc w q) nnC G ad L f) → (WBp w 8) → (WBp tc 4) → (QIp q) → (t < 4) → (bn 0 8 i1) → ((8 - i1.toInt).toNat ≤ n) → PMi l yX5_readOne cX5_readOne 3 .boolean (16 * n + 8) 0 0 G [.ref (ad 2 0), .int i1] L f (fun r L1 f1 => bn 0 1 r ∧ SH (spC (RF 30 t) fc tc w q) nnC G ad L1 f1)) (ihJ : ∀ {L : List Nat} {f : HF} {t : Nat} {i1 : Int32}, (SH (spC (RF 30 t) fc tc w q) nnC G ad L f) → (WBp w 8) → (WBp tc 4) → (QIp q) → (t < 4) → (bn 0 8 i1) → ((8 - i1.toInt).toNat ≤ n) → PMi l yX5_readJust cX5_readJust 3 .boolean (16 * n + 15) 0 0 G [.ref (ad 2 0), .int i1] L f (fun r L1 f1 => bn 0 1 r ∧ SH (spC (RF 30 t) fc tc w q) nnC G ad L1 f1)) (ihA : ∀ {L : List Nat} {f : HF} {t : Nat} {i1 : Int32}, (SH (spC (RF 30 t) fc tc w q) nnC G ad L f) → (WBp w 8) → (WBp tc 4) → (QIp q) → (t < 4) → (bn 0 8 i1) → ((8 - i1.toInt).toNat ≤ n) → PMi l yX5_readAsk cX5_readAsk 3 .boolean (16 * n + 12) 0 0 G [.ref (ad 2 0), .int i1] L f (fun r L1 f1 => bn 0 1 r ∧ SH (spC (RF 30 t) fc tc w q) nnC G ad L1 f1)) : PMi l yX5_readChoice cX5_readChoice 4 .boolean (16 * (n + 1) + 15) 0 0 G [.ref (ad 2 0), .int i1] L f (fun r L1 f1 => bn 0 1 r ∧ SH (spC (RF 30 t) fc tc w q) nnC G ad L1 f1) := by
  refine PMi.of (post := fun r L1 f1 => bn 0 1 r ∧ SH (spC (RF 30 t) fc tc w q) nnC G ad L1 f1) (own := RX5) (by decide) rfl (Nat.le_of_ble_eq_true rfl) (fun sz p e s m args below meth c A ls hA1 hname S Y hl => ?_)
  have hx := S.hx
  have hb := S.hb
  have hl : lv_has ls 4 [(0, .ref (ad 2 0)), (1, .int i1)] := hl
  refine lv_aload_n hx hb dX5_readChoice_0 rfl (lv_at hl 0 rfl) ?_
  refine lv_iload_n hx hb dX5_readChoice_1 rfl (lv_at hl 1 rfl) ?_
  refine cVi (As := [.int i1]) (rest := []) S Y (x_X5_readEither_s (l := l) (t := t) I hW hT hQ ht (bn_w b_i1 (by decide)) hm ihS ihC ihO ihJ ihA) cw_X5_readEither km5_184 (I.opo (k := 2) (j := 0) (by decide) rfl).choose_spec.1 ok_X5.1 rfl rfl (by unfold rmD; dsimp only; omega) hl.1 rfl (Nat.le_of_ble_eq_true rfl) (by unfold rmD; dsimp only; omega) dX5_readChoice_2 (fun r_65499 L_65497 f_65498 H locs hr_65499 Y => ?_)
  obtain ⟨er_65499, I⟩ := hr_65499
  refine lv_if_eq (tgt := 17) hx hb dX5_readChoice_5 (by decide) (fun c_65500 => ?_) (fun c_65500 => ?_)
  · have B_65501 : bn 0 0 r_65499 := bn_w (bn_eq c_65500 (show bn 0 0 (0 : Int32) from bn_k (by decide))) (by decide)
    refine lv_iconst (v := 0) hx hb dX5_readChoice_17 (by decide) ?_
    exact prI (post := fun r L1 f1 => bn 0 1 r ∧ SH (spC (RF 30 t) fc tc w q) nnC G ad L1 f1) S Y rfl (by decide) (by decide) hA1 ⟨bn_w (show bn 0 0 (0 : Int32) from bn_k (by decide)) (by decide), I⟩ dX5_readChoice_18
  · have B_65502 : bn 1 1 r_65499 := bn_w (bn_nel c_65500 er_65499 (show bn 0 0 (0 : Int32) from bn_k (by decide))) (by decide)
    refine lv_aload_n hx hb dX5_readChoice_8 rfl (lv_at hl 0 rfl) ?_
    refine lv_bipush (v := 24) hx hb dX5_readChoice_9 (by decide) ?_
    refine cVi (As := [.int 24]) (rest := []) S Y (x_X5_expect (l := l) I hW hT hQ) cw_X5_expect km5_140 (I.opo (k := 2) (j := 0) (by decide) rfl).choose_spec.1 ok_X5.1 rfl rfl (by unfold rmD; dsimp only; omega) hl.1 rfl (Nat.le_of_ble_eq_true rfl) (by unfold rmD; dsimp only; omega) dX5_readChoice_11 (fun r_65505 L_65503 f_65504 H locs hr_65505 Y => ?_)
    obtain ⟨er_65505, I⟩ := hr_65505
    refine lv_if_ne (tgt := 19) hx hb dX5_readChoice_14 (by decide) (fun c_65506 => ?_) (fun c_65506 => ?_)
    · have B_65507 : bn 1 1 r_65505 := bn_w (bn_nel c_65506 er_65505 (show bn 0 0 (0 : Int32) from bn_k (by decide))) (by decide)
      refine lv_aload_n hx hb dX5_readChoice_19 rfl (lv_at hl 0 rfl) ?_
      obtain ⟨v_65509, v_65511, v_65513, v_65515, v_65517, v_65519, v_65521, v_65523, v_65525, p_ad_2_0, b_65510, b_65512, b_65514, b_65516, b_65518, b_65520, b_65522, b_65524, b_65526⟩ := opnC_2r (j := 0) I (by decide)
      have p_ad_2_0 : pt L_65503 f_65504 (ad 2 0) (.inr (5, [.ref (ad 50 0), .ref (ad 51 0), .ref (ad 52 0), .ref (ad 53 0), .int v_65509, .int v_65511, .int v_65513, .int v_65515, .int v_65517, .int v_65519, .int v_65521, .ref (ad 30 t), .int v_65523, .int v_65525])) := p_ad_2_0
      refine pg_get S Y ok_X5 11 (by decide) kf5_34 (v := .ref (ad 30 t)) p_ad_2_0 rfl dX5_readChoice_20 ?_
      refine lv_iconst (v := 4) hx hb dX5_readChoice_23 (by decide) ?_
      refine lv_iconst (v := 0) hx hb dX5_readChoice_24 (by decide) ?_
      refine cVi (As := [.int 4, .int 0]) (rest := []) S Y (x_X7_add (l := l) (j := t) I hW hT hQ (show t < 8 from by omega)) cw_X7_add km5_169 (I.opo (k := 30) (j := t) (show t < 8 from by omega) rfl).choose_spec.1 ok_X7.1 rfl rfl (by unfold rmD; dsimp only; omega) hl.1 rfl (Nat.le_of_ble_eq_true rfl) (by unfold rmD; dsimp only; omega) dX5_readChoice_25 (fun r_65529 L_65527 f_65528 H locs I Y => ?_)
      refine lv_istore_n (lv' := [(2, .int r_65529), (0, .ref (ad 2 0)), (1, .int i1)]) hx hb dX5_readChoice_28 rfl hl (by decide) rfl (fun ls hl => ?_)
      refine lv_aload_n hx hb dX5_readChoice_29 rfl (lv_at hl 1 rfl) ?_
      refine lv_iload_n hx hb dX5_readChoice_30 rfl (lv_at hl 2 rfl) ?_
      refine cVi (As := [.int i1]) (rest := []) S Y (x_X5_readSum_s (l := l) (t := t) I hW hT hQ ht (bn_w b_i1 (by decide)) hm ihS ihC ihO ihJ ihA) cw_X5_readSum km5_147 (I.opo (k := 2) (j := 0) (by decide) rfl).choose_spec.1 ok_X5.1 rfl rfl (by unfold rmD; dsimp only; omega) hl.1 rfl (Nat.le_of_ble_eq_true rfl) (by unfold rmD; dsimp only; omega) dX5_readChoice_31 (fun r_65532 L_65530 f_65531 H locs hr_65532 Y => ?_)
      obtain ⟨er_65532, I⟩ := hr_65532
      refine lv_if_eq (tgt := 46) hx hb dX5_readChoice_34 (by decide) (fun c_65533 => ?_) (fun c_65533 => ?_)
      · have B_65534 : bn 0 0 r_65532 := bn_w (bn_eq c_65533 (show bn 0 0 (0 : Int32) from bn_k (by decide))) (by decide)
        refine lv_iconst (v := 0) hx hb dX5_readChoice_46 (by decide) ?_
        exact prI (post := fun r L1 f1 => bn 0 1 r ∧ SH (spC (RF 30 t) fc tc w q) nnC G ad L1 f1) S Y rfl (by decide) (by decide) hA1 ⟨bn_w (show bn 0 0 (0 : Int32) from bn_k (by decide)) (by decide), I⟩ dX5_readChoice_47
      · have B_65535 : bn 1 1 r_65532 := bn_w (bn_nel c_65533 er_65532 (show bn 0 0 (0 : Int32) from bn_k (by decide))) (by decide)
        refine lv_aload_n hx hb dX5_readChoice_37 rfl (lv_at hl 1 rfl) ?_
        refine lv_bipush (v := 25) hx hb dX5_readChoice_38 (by decide) ?_
        refine cVi (As := [.int 25]) (rest := []) S Y (x_X5_expect (l := l) I hW hT hQ) cw_X5_expect km5_140 (I.opo (k := 2) (j := 0) (by decide) rfl).choose_spec.1 ok_X5.1 rfl rfl (by unfold rmD; dsimp only; omega) hl.1 rfl (Nat.le_of_ble_eq_true rfl) (by unfold rmD; dsimp only; omega) dX5_readChoice_40 (fun r_65538 L_65536 f_65537 H locs hr_65538 Y => ?_)
        obtain ⟨er_65538, I⟩ := hr_65538
        refine lv_if_ne (tgt := 48) hx hb dX5_readChoice_43 (by decide) (fun c_65539 => ?_) (fun c_65539 => ?_)
        · have B_65540 : bn 1 1 r_65538 := bn_w (bn_nel c_65539 er_65538 (show bn 0 0 (0 : Int32) from bn_k (by decide))) (by decide)
          refine lv_aload_n hx hb dX5_readChoice_48 rfl (lv_at hl 1 rfl) ?_
          obtain ⟨v_65542, v_65544, v_65546, v_65548, v_65550, v_65552, v_65554, v_65556, v_65558, p_ad_2_0, b_65543, b_65545, b_65547, b_65549, b_65551, b_65553, b_65555, b_65557, b_65559⟩ := opnC_2r (j := 0) I (by decide)
          have p_ad_2_0 : pt L_65536 f_65537 (ad 2 0) (.inr (5, [.ref (ad 50 0), .ref (ad 51 0), .ref (ad 52 0), .ref (ad 53 0), .int v_65542, .int v_65544, .int v_65546, .int v_65548, .int v_65550, .int v_65552, .int v_65554, .ref (ad 30 t), .int v_65556, .int v_65558])) := p_ad_2_0
          refine pg_get S Y ok_X5 11 (by decide) kf5_34 (v := .ref (ad 30 t)) p_ad_2_0 rfl dX5_readChoice_49 ?_
          refine lv_iconst (v := 3) hx hb dX5_readChoice_52 (by decide) ?_
          refine lv_iconst (v := 0) hx hb dX5_readChoice_53 (by decide) ?_
          refine cVi (As := [.int 3, .int 0]) (rest := []) S Y (x_X7_add (l := l) (j := t) I hW hT hQ (show t < 8 from by omega)) cw_X7_add km5_169 (I.opo (k := 30) (j := t) (show t < 8 from by omega) rfl).choose_spec.1 ok_X7.1 rfl rfl (by unfold rmD; dsimp only; omega) hl.1 rfl (Nat.le_of_ble_eq_true rfl) (by unfold rmD; dsimp only; omega) dX5_readChoice_54 (fun r_65562 L_65560 f_65561 H locs I Y => ?_)
          refine lv_istore_n (lv' := [(3, .int r_65562), (2, .int r_65529), (0, .ref (ad 2 0)), (1, .int i1)]) hx hb dX5_readChoice_57 rfl hl (by decide) rfl (fun ls hl => ?_)
          refine lv_aload_n hx hb dX5_readChoice_58 rfl (lv_at hl 2 rfl) ?_
          obtain ⟨v_65563, v_65565, v_65567, v_65569, v_65571, v_65573, v_65575, v_65577, v_65579, p_ad_2_0, b_65564, b_65566, b_65568, b_65570, b_65572, b_65574, b_65576, b_65578, b_65580⟩ := opnC_2r (j := 0) I (by decide)
          have p_ad_2_0 : pt L_65560 f_65561 (ad 2 0) (.inr (5, [.ref (ad 50 0), .ref (ad 51 0), .ref (ad 52 0), .ref (ad 53 0), .int v_65563, .int v_65565, .int v_65567, .int v_65569, .int v_65571, .int v_65573, .int v_65575, .ref (ad 30 t), .int v_65577, .int v_65579])) := p_ad_2_0
          refine pg_get S Y ok_X5 11 (by decide) kf5_34 (v := .ref (ad 30 t)) p_ad_2_0 rfl dX5_readChoice_59 ?_
          refine lv_iload_n hx hb dX5_readChoice_62 rfl (lv_at hl 1 rfl) ?_
          refine cVv (As := [.int r_65529]) (rest := []) S Y (x_X7_leadHere (l := l) (j := t) I hW hT hQ (show t < 8 from by omega)) cw_X7_leadHere km5_187 (I.opo (k := 30) (j := t) (show t < 8 from by omega) rfl).choose_spec.1 ok_X7.1 rfl rfl (by unfold rmD; dsimp only; omega) hl.1 rfl (Nat.le_of_ble_eq_true rfl) (by unfold rmD; dsimp only; omega) dX5_readChoice_63 (fun L_65581 f_65582 H locs I Y => ?_)
          refine lv_aload_n hx hb dX5_readChoice_66 rfl (lv_at hl 2 rfl) ?_
          refine lv_iload_n hx hb dX5_readChoice_67 rfl (lv_at hl 3 rfl) ?_
          refine cVi (As := [.int i1]) (rest := []) S Y (x_X5_readSum_s (l := l) (t := t) I hW hT hQ ht (bn_w b_i1 (by decide)) hm ihS ihC ihO ihJ ihA) cw_X5_readSum km5_147 (I.opo (k := 2) (j := 0) (by decide) rfl).choose_spec.1 ok_X5.1 rfl rfl (by unfold rmD; dsimp only; omega) hl.1 rfl (Nat.le_of_ble_eq_true rfl) (by unfold rmD; dsimp only; omega) dX5_readChoice_68 (fun r_65585 L_65583 f_65584 H locs hr_65585 Y => ?_)
          obtain ⟨er_65585, I⟩ := hr_65585
          refine lv_if_eq (tgt := 83) hx hb dX5_readChoice_71 (by decide) (fun c_65586 => ?_) (fun c_65586 => ?_)
          · have B_65587 : bn 0 0 r_65585 := bn_w (bn_eq c_65586 (show bn 0 0 (0 : Int32) from bn_k (by decide))) (by decide)
            refine lv_iconst (v := 0) hx hb dX5_readChoice_83 (by decide) ?_
            exact prI (post := fun r L1 f1 => bn 0 1 r ∧ SH (spC (RF 30 t) fc tc w q) nnC G ad L1 f1) S Y rfl (by decide) (by decide) hA1 ⟨bn_w (show bn 0 0 (0 : Int32) from bn_k (by decide)) (by decide), I⟩ dX5_readChoice_84
          · have B_65588 : bn 1 1 r_65585 := bn_w (bn_nel c_65586 er_65585 (show bn 0 0 (0 : Int32) from bn_k (by decide))) (by decide)
            refine lv_aload_n hx hb dX5_readChoice_74 rfl (lv_at hl 2 rfl) ?_
            refine lv_bipush (v := 26) hx hb dX5_readChoice_75 (by decide) ?_
            refine cVi (As := [.int 26]) (rest := []) S Y (x_X5_expect (l := l) I hW hT hQ) cw_X5_expect km5_140 (I.opo (k := 2) (j := 0) (by decide) rfl).choose_spec.1 ok_X5.1 rfl rfl (by unfold rmD; dsimp only; omega) hl.1 rfl (Nat.le_of_ble_eq_true rfl) (by unfold rmD; dsimp only; omega) dX5_readChoice_77 (fun r_65591 L_65589 f_65590 H locs hr_65591 Y => ?_)
            obtain ⟨er_65591, I⟩ := hr_65591
            refine lv_if_ne (tgt := 85) hx hb dX5_readChoice_80 (by decide) (fun c_65592 => ?_) (fun c_65592 => ?_)
            · have B_65593 : bn 1 1 r_65591 := bn_w (bn_nel c_65592 er_65591 (show bn 0 0 (0 : Int32) from bn_k (by decide))) (by decide)
              refine lv_aload_n hx hb dX5_readChoice_85 rfl (lv_at hl 2 rfl) ?_
              obtain ⟨v_65595, v_65597, v_65599, v_65601, v_65603, v_65605, v_65607, v_65609, v_65611, p_ad_2_0, b_65596, b_65598, b_65600, b_65602, b_65604, b_65606, b_65608, b_65610, b_65612⟩ := opnC_2r (j := 0) I (by decide)
              have p_ad_2_0 : pt L_65589 f_65590 (ad 2 0) (.inr (5, [.ref (ad 50 0), .ref (ad 51 0), .ref (ad 52 0), .ref (ad 53 0), .int v_65595, .int v_65597, .int v_65599, .int v_65601, .int v_65603, .int v_65605, .int v_65607, .ref (ad 30 t), .int v_65609, .int v_65611])) := p_ad_2_0
              refine pg_get S Y ok_X5 11 (by decide) kf5_34 (v := .ref (ad 30 t)) p_ad_2_0 rfl dX5_readChoice_86 ?_
              refine lv_iload_n hx hb dX5_readChoice_89 rfl (lv_at hl 0 rfl) ?_
              refine cVv (As := [.int r_65562]) (rest := []) S Y (x_X7_leadHere (l := l) (j := t) I hW hT hQ (show t < 8 from by omega)) cw_X7_leadHere km5_187 (I.opo (k := 30) (j := t) (show t < 8 from by omega) rfl).choose_spec.1 ok_X7.1 rfl rfl (by unfold rmD; dsimp only; omega) hl.1 rfl (Nat.le_of_ble_eq_true rfl) (by unfold rmD; dsimp only; omega) dX5_readChoice_90 (fun L_65613 f_65614 H locs I Y => ?_)
              refine lv_iconst (v := 1) hx hb dX5_readChoice_93 (by decide) ?_
              exact prI (post := fun r L1 f1 => bn 0 1 r ∧ SH (spC (RF 30 t) fc tc w q) nnC G ad L1 f1) S Y rfl (by decide) (by decide) hA1 ⟨bn_w (show bn 1 1 (1 : Int32) from bn_k (by decide)) (by decide), I⟩ dX5_readChoice_94
            · have B_65594 : bn 0 0 r_65591 := bn_w (bn_eq c_65592 (show bn 0 0 (0 : Int32) from bn_k (by decide))) (by decide)
              refine lv_iconst (v := 0) hx hb dX5_readChoice_83 (by decide) ?_
              exact prI (post := fun r L1 f1 => bn 0 1 r ∧ SH (spC (RF 30 t) fc tc w q) nnC G ad L1 f1) S Y rfl (by decide) (by decide) hA1 ⟨bn_w (show bn 0 0 (0 : Int32) from bn_k (by decide)) (by decide), I⟩ dX5_readChoice_84
        · have B_65541 : bn 0 0 r_65538 := bn_w (bn_eq c_65539 (show bn 0 0 (0 : Int32) from bn_k (by decide))) (by decide)
          refine lv_iconst (v := 0) hx hb dX5_readChoice_46 (by decide) ?_
          exact prI (post := fun r L1 f1 => bn 0 1 r ∧ SH (spC (RF 30 t) fc tc w q) nnC G ad L1 f1) S Y rfl (by decide) (by decide) hA1 ⟨bn_w (show bn 0 0 (0 : Int32) from bn_k (by decide)) (by decide), I⟩ dX5_readChoice_47
    · have B_65508 : bn 0 0 r_65505 := bn_w (bn_eq c_65506 (show bn 0 0 (0 : Int32) from bn_k (by decide))) (by decide)
      refine lv_iconst (v := 0) hx hb dX5_readChoice_17 (by decide) ?_
      exact prI (post := fun r L1 f1 => bn 0 1 r ∧ SH (spC (RF 30 t) fc tc w q) nnC G ad L1 f1) S Y rfl (by decide) (by decide) hA1 ⟨bn_w (show bn 0 0 (0 : Int32) from bn_k (by decide)) (by decide), I⟩ dX5_readChoice_18
