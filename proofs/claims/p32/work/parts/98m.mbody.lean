theorem dX12_figure_0 : decode cX12_figure 0 = .ok (.aload_n 0, 1) := by decide +kernel
theorem dX12_figure_1 : decode cX12_figure 1 = .ok (.getfield 98, 3) := by decide +kernel
theorem dX12_figure_4 : decode cX12_figure 4 = .ok (.iconst 1, 1) := by decide +kernel
theorem dX12_figure_5 : decode cX12_figure 5 = .ok (.if_icmp .eq 5, 3) := by decide +kernel
theorem dX12_figure_10 : decode cX12_figure 10 = .ok (.aload_n 0, 1) := by decide +kernel
theorem dX12_figure_11 : decode cX12_figure 11 = .ok (.getfield 104, 3) := by decide +kernel
theorem dX12_figure_14 : decode cX12_figure 14 = .ok (.iload_n 2, 1) := by decide +kernel
theorem dX12_figure_15 : decode cX12_figure 15 = .ok (.iload_n 3, 1) := by decide +kernel
theorem dX12_figure_16 : decode cX12_figure 16 = .ok (.invokestatic 69, 3) := by decide +kernel
theorem dX12_figure_19 : decode cX12_figure 19 = .ok (.ifCond .ne 5, 3) := by decide +kernel
theorem dX12_figure_24 : decode cX12_figure 24 = .ok (.aload_n 0, 1) := by decide +kernel
theorem dX12_figure_25 : decode cX12_figure 25 = .ok (.getfield 16, 3) := by decide +kernel
theorem dX12_figure_28 : decode cX12_figure 28 = .ok (.iload_n 1, 1) := by decide +kernel
theorem dX12_figure_29 : decode cX12_figure 29 = .ok (.aload_n 0, 1) := by decide +kernel
theorem dX12_figure_30 : decode cX12_figure 30 = .ok (.getfield 104, 3) := by decide +kernel
theorem dX12_figure_33 : decode cX12_figure 33 = .ok (.iastore, 1) := by decide +kernel
theorem dX12_figure_34 : decode cX12_figure 34 = .ok (.aload_n 0, 1) := by decide +kernel
theorem dX12_figure_35 : decode cX12_figure 35 = .ok (.invokevirtual 166, 3) := by decide +kernel
theorem dX12_figure_38 : decode cX12_figure 38 = .ok (.iconst 0, 1) := by decide +kernel
theorem dX12_figure_39 : decode cX12_figure 39 = .ok (.ireturn, 1) := by decide +kernel
theorem dX12_figure_22 : decode cX12_figure 22 = .ok (.iconst 2, 1) := by decide +kernel
theorem dX12_figure_23 : decode cX12_figure 23 = .ok (.ireturn, 1) := by decide +kernel
theorem dX12_figure_8 : decode cX12_figure 8 = .ok (.iconst 1, 1) := by decide +kernel
theorem dX12_figure_9 : decode cX12_figure 9 = .ok (.ireturn, 1) := by decide +kernel
theorem dX12_worded_0 : decode cX12_worded 0 = .ok (.aload_n 0, 1) := by decide +kernel
theorem dX12_worded_1 : decode cX12_worded 1 = .ok (.lload_n 1, 1) := by decide +kernel
theorem dX12_worded_2 : decode cX12_worded 2 = .ok (.invokevirtual 187, 3) := by decide +kernel
theorem dX12_worded_5 : decode cX12_worded 5 = .ok (.ifCond .ne 5, 3) := by decide +kernel
theorem dX12_worded_10 : decode cX12_worded 10 = .ok (.aload_n 0, 1) := by decide +kernel
theorem dX12_worded_11 : decode cX12_worded 11 = .ok (.invokevirtual 166, 3) := by decide +kernel
theorem dX12_worded_14 : decode cX12_worded 14 = .ok (.aload_n 0, 1) := by decide +kernel
theorem dX12_worded_15 : decode cX12_worded 15 = .ok (.iload_n 3, 1) := by decide +kernel
theorem dX12_worded_16 : decode cX12_worded 16 = .ok (.iconst 0, 1) := by decide +kernel
theorem dX12_worded_17 : decode cX12_worded 17 = .ok (.iload 4, 2) := by decide +kernel
theorem dX12_worded_19 : decode cX12_worded 19 = .ok (.invokevirtual 215, 3) := by decide +kernel
theorem cw_X12_figure : CWv yX12_figure cX12_figure 4 (some .int) 3 := ⟨⟨⟨List.mem_of_getElem? (i := 137) (by decide +kernel), by decide +kernel⟩, ⟨List.mem_of_getElem? (i := 1685) (by decide +kernel), by decide +kernel⟩, by decide +kernel⟩, ⟨List.mem_of_getElem? (i := 1684) (by decide +kernel), by decide +kernel⟩, ⟨List.mem_of_getElem? (i := 58) (by decide +kernel), by decide +kernel⟩⟩
theorem km12_215 : inW (Cond.methodLink RX12 215 yX12_figure) := ⟨List.mem_of_getElem? (i := 1682) (by decide +kernel), by decide +kernel⟩
theorem dX12_worded_22 : decode cX12_worded 22 = .ok (.ireturn, 1) := by decide +kernel
theorem dX12_worded_8 : decode cX12_worded 8 = .ok (.iconst 1, 1) := by decide +kernel
theorem dX12_worded_9 : decode cX12_worded 9 = .ok (.ireturn, 1) := by decide +kernel
theorem dX12_oneClause_0 : decode cX12_oneClause 0 = .ok (.aload_n 0, 1) := by decide +kernel
theorem dX12_oneClause_1 : decode cX12_oneClause 1 = .ok (.iload_n 1, 1) := by decide +kernel
theorem dX12_oneClause_2 : decode cX12_oneClause 2 = .ok (.iconst 1, 1) := by decide +kernel
theorem dX12_oneClause_3 : decode cX12_oneClause 3 = .ok (.iadd, 1) := by decide +kernel
theorem dX12_oneClause_4 : decode cX12_oneClause 4 = .ok (.iconst 0, 1) := by decide +kernel
theorem dX12_oneClause_5 : decode cX12_oneClause 5 = .ok (.bipush 9, 2) := by decide +kernel
theorem dX12_oneClause_7 : decode cX12_oneClause 7 = .ok (.invokevirtual 215, 3) := by decide +kernel
theorem dX12_oneClause_10 : decode cX12_oneClause 10 = .ok (.istore_n 2, 1) := by decide +kernel
theorem dX12_oneClause_11 : decode cX12_oneClause 11 = .ok (.iload_n 2, 1) := by decide +kernel
theorem dX12_oneClause_12 : decode cX12_oneClause 12 = .ok (.ifCond .eq 7, 3) := by decide +kernel
theorem dX12_oneClause_19 : decode cX12_oneClause 19 = .ok (.aload_n 0, 1) := by decide +kernel
theorem dX12_oneClause_20 : decode cX12_oneClause 20 = .ok (.bipush 97, 2) := by decide +kernel
theorem dX12_oneClause_22 : decode cX12_oneClause 22 = .ok (.bipush 103, 2) := by decide +kernel
theorem dX12_oneClause_24 : decode cX12_oneClause 24 = .ok (.bipush 101, 2) := by decide +kernel
theorem dX12_oneClause_26 : decode cX12_oneClause 26 = .ok (.invokestatic 124, 3) := by decide +kernel
theorem dX12_oneClause_29 : decode cX12_oneClause 29 = .ok (.iload_n 1, 1) := by decide +kernel
theorem dX12_oneClause_30 : decode cX12_oneClause 30 = .ok (.iconst 2, 1) := by decide +kernel
theorem dX12_oneClause_31 : decode cX12_oneClause 31 = .ok (.iadd, 1) := by decide +kernel
theorem dX12_oneClause_32 : decode cX12_oneClause 32 = .ok (.bipush 99, 2) := by decide +kernel
theorem dX12_oneClause_34 : decode cX12_oneClause 34 = .ok (.invokevirtual 222, 3) := by decide +kernel
theorem cw_X12_worded : CWv yX12_worded cX12_worded 5 (some .int) 3 := ⟨⟨⟨List.mem_of_getElem? (i := 137) (by decide +kernel), by decide +kernel⟩, ⟨List.mem_of_getElem? (i := 1689) (by decide +kernel), by decide +kernel⟩, by decide +kernel⟩, ⟨List.mem_of_getElem? (i := 1688) (by decide +kernel), by decide +kernel⟩, ⟨List.mem_of_getElem? (i := 59) (by decide +kernel), by decide +kernel⟩⟩
theorem km12_222 : inW (Cond.methodLink RX12 222 yX12_worded) := ⟨List.mem_of_getElem? (i := 1686) (by decide +kernel), by decide +kernel⟩
theorem dX12_oneClause_37 : decode cX12_oneClause 37 = .ok (.ireturn, 1) := by decide +kernel
theorem dX12_oneClause_15 : decode cX12_oneClause 15 = .ok (.iload_n 2, 1) := by decide +kernel
theorem dX12_oneClause_16 : decode cX12_oneClause 16 = .ok (.goto 21, 3) := by decide +kernel
theorem dX12_swearClause_0 : decode cX12_swearClause 0 = .ok (.aload_n 0, 1) := by decide +kernel
theorem dX12_swearClause_1 : decode cX12_swearClause 1 = .ok (.iload_n 1, 1) := by decide +kernel
theorem dX12_swearClause_2 : decode cX12_swearClause 2 = .ok (.iconst 1, 1) := by decide +kernel
theorem dX12_swearClause_3 : decode cX12_swearClause 3 = .ok (.iadd, 1) := by decide +kernel
theorem dX12_swearClause_4 : decode cX12_swearClause 4 = .ok (.iconst 0, 1) := by decide +kernel
theorem dX12_swearClause_5 : decode cX12_swearClause 5 = .ok (.iconst 5, 1) := by decide +kernel
theorem dX12_swearClause_6 : decode cX12_swearClause 6 = .ok (.invokevirtual 215, 3) := by decide +kernel
theorem dX12_swearClause_9 : decode cX12_swearClause 9 = .ok (.istore_n 2, 1) := by decide +kernel
theorem dX12_swearClause_10 : decode cX12_swearClause 10 = .ok (.iload_n 2, 1) := by decide +kernel
theorem dX12_swearClause_11 : decode cX12_swearClause 11 = .ok (.ifCond .ne 19, 3) := by decide +kernel
theorem dX12_swearClause_30 : decode cX12_swearClause 30 = .ok (.iload_n 2, 1) := by decide +kernel
theorem dX12_swearClause_31 : decode cX12_swearClause 31 = .ok (.ifCond .eq 5, 3) := by decide +kernel
theorem dX12_swearClause_34 : decode cX12_swearClause 34 = .ok (.iload_n 2, 1) := by decide +kernel
theorem dX12_swearClause_35 : decode cX12_swearClause 35 = .ok (.ireturn, 1) := by decide +kernel
theorem dX12_swearClause_14 : decode cX12_swearClause 14 = .ok (.aload_n 0, 1) := by decide +kernel
theorem dX12_swearClause_15 : decode cX12_swearClause 15 = .ok (.bipush 116, 2) := by decide +kernel
theorem dX12_swearClause_17 : decode cX12_swearClause 17 = .ok (.bipush 111, 2) := by decide +kernel
theorem dX12_swearClause_19 : decode cX12_swearClause 19 = .ok (.invokestatic 120, 3) := by decide +kernel
theorem dX12_swearClause_22 : decode cX12_swearClause 22 = .ok (.iload_n 1, 1) := by decide +kernel
theorem dX12_swearClause_23 : decode cX12_swearClause 23 = .ok (.iconst 2, 1) := by decide +kernel
theorem dX12_swearClause_24 : decode cX12_swearClause 24 = .ok (.iadd, 1) := by decide +kernel
theorem dX12_swearClause_25 : decode cX12_swearClause 25 = .ok (.iconst 5, 1) := by decide +kernel
theorem dX12_swearClause_26 : decode cX12_swearClause 26 = .ok (.invokevirtual 222, 3) := by decide +kernel
theorem dX12_swearClause_29 : decode cX12_swearClause 29 = .ok (.istore_n 2, 1) := by decide +kernel
theorem dX12_swearClause_36 : decode cX12_swearClause 36 = .ok (.aload_n 0, 1) := by decide +kernel
theorem dX12_swearClause_37 : decode cX12_swearClause 37 = .ok (.bipush 108, 2) := by decide +kernel
theorem dX12_swearClause_39 : decode cX12_swearClause 39 = .ok (.bipush 101, 2) := by decide +kernel
theorem dX12_swearClause_41 : decode cX12_swearClause 41 = .ok (.bipush 102, 2) := by decide +kernel
theorem dX12_swearClause_43 : decode cX12_swearClause 43 = .ok (.bipush 116, 2) := by decide +kernel
theorem dX12_swearClause_45 : decode cX12_swearClause 45 = .ok (.invokestatic 128, 3) := by decide +kernel
theorem dX12_swearClause_48 : decode cX12_swearClause 48 = .ok (.invokevirtual 187, 3) := by decide +kernel
theorem dX12_swearClause_51 : decode cX12_swearClause 51 = .ok (.istore_n 3, 1) := by decide +kernel
theorem dX12_swearClause_52 : decode cX12_swearClause 52 = .ok (.iload_n 3, 1) := by decide +kernel
theorem dX12_swearClause_53 : decode cX12_swearClause 53 = .ok (.ifCond .ne 25, 3) := by decide +kernel
theorem dX12_swearClause_78 : decode cX12_swearClause 78 = .ok (.aload_n 0, 1) := by decide +kernel
theorem dX12_swearClause_79 : decode cX12_swearClause 79 = .ok (.getfield 16, 3) := by decide +kernel
theorem dX12_swearClause_82 : decode cX12_swearClause 82 = .ok (.iload_n 1, 1) := by decide +kernel
theorem dX12_swearClause_83 : decode cX12_swearClause 83 = .ok (.iload_n 3, 1) := by decide +kernel
theorem dX12_swearClause_84 : decode cX12_swearClause 84 = .ok (.ifCond .eq 7, 3) := by decide +kernel
theorem dX12_swearClause_87 : decode cX12_swearClause 87 = .ok (.iconst 4, 1) := by decide +kernel
theorem dX12_swearClause_88 : decode cX12_swearClause 88 = .ok (.goto 4, 3) := by decide +kernel
theorem dX12_swearClause_92 : decode cX12_swearClause 92 = .ok (.iastore, 1) := by decide +kernel
theorem dX12_swearClause_93 : decode cX12_swearClause 93 = .ok (.aload_n 0, 1) := by decide +kernel
theorem dX12_swearClause_94 : decode cX12_swearClause 94 = .ok (.invokevirtual 166, 3) := by decide +kernel
theorem dX12_swearClause_97 : decode cX12_swearClause 97 = .ok (.aload_n 0, 1) := by decide +kernel
theorem dX12_swearClause_98 : decode cX12_swearClause 98 = .ok (.iload_n 1, 1) := by decide +kernel
theorem dX12_swearClause_99 : decode cX12_swearClause 99 = .ok (.iconst 3, 1) := by decide +kernel
theorem dX12_swearClause_100 : decode cX12_swearClause 100 = .ok (.iadd, 1) := by decide +kernel
theorem dX12_swearClause_101 : decode cX12_swearClause 101 = .ok (.iconst 1, 1) := by decide +kernel
theorem dX12_swearClause_102 : decode cX12_swearClause 102 = .ok (.bipush 9, 2) := by decide +kernel
theorem dX12_swearClause_104 : decode cX12_swearClause 104 = .ok (.invokevirtual 215, 3) := by decide +kernel
theorem dX12_swearClause_107 : decode cX12_swearClause 107 = .ok (.ireturn, 1) := by decide +kernel
theorem dX12_swearClause_56 : decode cX12_swearClause 56 = .ok (.aload_n 0, 1) := by decide +kernel
theorem dX12_swearClause_57 : decode cX12_swearClause 57 = .ok (.bipush 114, 2) := by decide +kernel
theorem dX12_swearClause_59 : decode cX12_swearClause 59 = .ok (.bipush 105, 2) := by decide +kernel
theorem dX12_swearClause_61 : decode cX12_swearClause 61 = .ok (.bipush 103, 2) := by decide +kernel
theorem dX12_swearClause_63 : decode cX12_swearClause 63 = .ok (.bipush 104, 2) := by decide +kernel
theorem dX12_swearClause_65 : decode cX12_swearClause 65 = .ok (.bipush 116, 2) := by decide +kernel
theorem dX12_swearClause_67 : decode cX12_swearClause 67 = .ok (.invokestatic 132, 3) := by decide +kernel
theorem dX12_swearClause_70 : decode cX12_swearClause 70 = .ok (.invokevirtual 187, 3) := by decide +kernel
theorem dX12_swearClause_73 : decode cX12_swearClause 73 = .ok (.ifCond .ne 5, 3) := by decide +kernel
theorem dX12_swearClause_91 : decode cX12_swearClause 91 = .ok (.iconst 5, 1) := by decide +kernel
theorem dX12_swearClause_76 : decode cX12_swearClause 76 = .ok (.iconst 1, 1) := by decide +kernel
theorem dX12_swearClause_77 : decode cX12_swearClause 77 = .ok (.ireturn, 1) := by decide +kernel
theorem dX12_lawClause_0 : decode cX12_lawClause 0 = .ok (.aload_n 0, 1) := by decide +kernel
theorem dX12_lawClause_1 : decode cX12_lawClause 1 = .ok (.getfield 16, 3) := by decide +kernel
theorem dX12_lawClause_4 : decode cX12_lawClause 4 = .ok (.iload_n 1, 1) := by decide +kernel
theorem dX12_lawClause_5 : decode cX12_lawClause 5 = .ok (.iconst 1, 1) := by decide +kernel
theorem dX12_lawClause_6 : decode cX12_lawClause 6 = .ok (.iadd, 1) := by decide +kernel
theorem dX12_lawClause_7 : decode cX12_lawClause 7 = .ok (.aload_n 0, 1) := by decide +kernel
theorem dX12_lawClause_8 : decode cX12_lawClause 8 = .ok (.getfield 139, 3) := by decide +kernel
theorem dX12_lawClause_11 : decode cX12_lawClause 11 = .ok (.iastore, 1) := by decide +kernel
theorem dX12_lawClause_12 : decode cX12_lawClause 12 = .ok (.aload_n 0, 1) := by decide +kernel
theorem dX12_lawClause_13 : decode cX12_lawClause 13 = .ok (.invokevirtual 219, 3) := by decide +kernel
theorem cw_X12_summed : CWv yX12_summed cX12_summed 2 (some .int) 0 := ⟨⟨⟨List.mem_of_getElem? (i := 137) (by decide +kernel), by decide +kernel⟩, ⟨List.mem_of_getElem? (i := 1701) (by decide +kernel), by decide +kernel⟩, by decide +kernel⟩, ⟨List.mem_of_getElem? (i := 1700) (by decide +kernel), by decide +kernel⟩, ⟨List.mem_of_getElem? (i := 62) (by decide +kernel), by decide +kernel⟩⟩
theorem km12_219 : inW (Cond.methodLink RX12 219 yX12_summed) := ⟨List.mem_of_getElem? (i := 1698) (by decide +kernel), by decide +kernel⟩
theorem dX12_lawClause_16 : decode cX12_lawClause 16 = .ok (.istore_n 2, 1) := by decide +kernel
theorem dX12_lawClause_17 : decode cX12_lawClause 17 = .ok (.aload_n 0, 1) := by decide +kernel
theorem dX12_lawClause_18 : decode cX12_lawClause 18 = .ok (.getfield 16, 3) := by decide +kernel
theorem dX12_lawClause_21 : decode cX12_lawClause 21 = .ok (.iload_n 1, 1) := by decide +kernel
theorem dX12_lawClause_22 : decode cX12_lawClause 22 = .ok (.iconst 2, 1) := by decide +kernel
theorem dX12_lawClause_23 : decode cX12_lawClause 23 = .ok (.iadd, 1) := by decide +kernel
theorem dX12_lawClause_24 : decode cX12_lawClause 24 = .ok (.aload_n 0, 1) := by decide +kernel
theorem dX12_lawClause_25 : decode cX12_lawClause 25 = .ok (.getfield 139, 3) := by decide +kernel
theorem dX12_lawClause_28 : decode cX12_lawClause 28 = .ok (.iastore, 1) := by decide +kernel
theorem dX12_lawClause_29 : decode cX12_lawClause 29 = .ok (.iload_n 2, 1) := by decide +kernel
theorem dX12_lawClause_30 : decode cX12_lawClause 30 = .ok (.ireturn, 1) := by decide +kernel
theorem dX12_body_0 : decode cX12_body 0 = .ok (.iload_n 1, 1) := by decide +kernel
theorem dX12_body_1 : decode cX12_body 1 = .ok (.tableswitch 112 3 10 #[47, 53, 112, 59, 70, 81, 91, 101], 47) := by decide +kernel
theorem dX12_body_48 : decode cX12_body 48 = .ok (.aload_n 0, 1) := by decide +kernel
theorem dX12_body_49 : decode cX12_body 49 = .ok (.iload_n 2, 1) := by decide +kernel
theorem dX12_body_50 : decode cX12_body 50 = .ok (.invokevirtual 226, 3) := by decide +kernel
theorem cw_X12_oneClause : CWv yX12_oneClause cX12_oneClause 3 (some .int) 1 := ⟨⟨⟨List.mem_of_getElem? (i := 137) (by decide +kernel), by decide +kernel⟩, ⟨List.mem_of_getElem? (i := 1681) (by decide +kernel), by decide +kernel⟩, by decide +kernel⟩, ⟨List.mem_of_getElem? (i := 1680) (by decide +kernel), by decide +kernel⟩, ⟨List.mem_of_getElem? (i := 57) (by decide +kernel), by decide +kernel⟩⟩
theorem km12_226 : inW (Cond.methodLink RX12 226 yX12_oneClause) := ⟨List.mem_of_getElem? (i := 1678) (by decide +kernel), by decide +kernel⟩
theorem dX12_body_53 : decode cX12_body 53 = .ok (.ireturn, 1) := by decide +kernel
theorem dX12_body_54 : decode cX12_body 54 = .ok (.aload_n 0, 1) := by decide +kernel
theorem dX12_body_55 : decode cX12_body 55 = .ok (.iload_n 2, 1) := by decide +kernel
theorem dX12_body_56 : decode cX12_body 56 = .ok (.invokevirtual 229, 3) := by decide +kernel
theorem cw_X12_swearClause : CWv yX12_swearClause cX12_swearClause 4 (some .int) 1 := ⟨⟨⟨List.mem_of_getElem? (i := 137) (by decide +kernel), by decide +kernel⟩, ⟨List.mem_of_getElem? (i := 1693) (by decide +kernel), by decide +kernel⟩, by decide +kernel⟩, ⟨List.mem_of_getElem? (i := 1692) (by decide +kernel), by decide +kernel⟩, ⟨List.mem_of_getElem? (i := 60) (by decide +kernel), by decide +kernel⟩⟩
theorem km12_229 : inW (Cond.methodLink RX12 229 yX12_swearClause) := ⟨List.mem_of_getElem? (i := 1690) (by decide +kernel), by decide +kernel⟩
theorem dX12_body_59 : decode cX12_body 59 = .ok (.ireturn, 1) := by decide +kernel
theorem dX12_body_113 : decode cX12_body 113 = .ok (.aload_n 0, 1) := by decide +kernel
theorem dX12_body_114 : decode cX12_body 114 = .ok (.iload_n 2, 1) := by decide +kernel
theorem dX12_body_115 : decode cX12_body 115 = .ok (.invokevirtual 232, 3) := by decide +kernel
theorem cw_X12_lawClause : CWv yX12_lawClause cX12_lawClause 3 (some .int) 1 := ⟨⟨⟨List.mem_of_getElem? (i := 137) (by decide +kernel), by decide +kernel⟩, ⟨List.mem_of_getElem? (i := 1697) (by decide +kernel), by decide +kernel⟩, by decide +kernel⟩, ⟨List.mem_of_getElem? (i := 1696) (by decide +kernel), by decide +kernel⟩, ⟨List.mem_of_getElem? (i := 61) (by decide +kernel), by decide +kernel⟩⟩
theorem km12_232 : inW (Cond.methodLink RX12 232 yX12_lawClause) := ⟨List.mem_of_getElem? (i := 1694) (by decide +kernel), by decide +kernel⟩
theorem dX12_body_118 : decode cX12_body 118 = .ok (.ireturn, 1) := by decide +kernel
theorem dX12_body_60 : decode cX12_body 60 = .ok (.aload_n 0, 1) := by decide +kernel
theorem dX12_body_61 : decode cX12_body 61 = .ok (.iload_n 2, 1) := by decide +kernel
theorem dX12_body_62 : decode cX12_body 62 = .ok (.iconst 1, 1) := by decide +kernel
theorem dX12_body_63 : decode cX12_body 63 = .ok (.iadd, 1) := by decide +kernel
theorem dX12_body_64 : decode cX12_body 64 = .ok (.iconst 0, 1) := by decide +kernel
theorem dX12_body_65 : decode cX12_body 65 = .ok (.bipush 13, 2) := by decide +kernel
theorem dX12_body_67 : decode cX12_body 67 = .ok (.invokevirtual 215, 3) := by decide +kernel
theorem dX12_body_70 : decode cX12_body 70 = .ok (.ireturn, 1) := by decide +kernel
theorem dX12_body_71 : decode cX12_body 71 = .ok (.aload_n 0, 1) := by decide +kernel
theorem dX12_body_72 : decode cX12_body 72 = .ok (.iload_n 2, 1) := by decide +kernel
theorem dX12_body_73 : decode cX12_body 73 = .ok (.iconst 1, 1) := by decide +kernel
theorem dX12_body_74 : decode cX12_body 74 = .ok (.iadd, 1) := by decide +kernel
theorem dX12_body_75 : decode cX12_body 75 = .ok (.iconst 0, 1) := by decide +kernel
theorem dX12_body_76 : decode cX12_body 76 = .ok (.bipush 13, 2) := by decide +kernel
theorem dX12_body_78 : decode cX12_body 78 = .ok (.invokevirtual 215, 3) := by decide +kernel
theorem dX12_body_81 : decode cX12_body 81 = .ok (.ireturn, 1) := by decide +kernel
theorem dX12_body_82 : decode cX12_body 82 = .ok (.aload_n 0, 1) := by decide +kernel
theorem dX12_body_83 : decode cX12_body 83 = .ok (.iload_n 2, 1) := by decide +kernel
theorem dX12_body_84 : decode cX12_body 84 = .ok (.iconst 1, 1) := by decide +kernel
theorem dX12_body_85 : decode cX12_body 85 = .ok (.iadd, 1) := by decide +kernel
theorem dX12_body_86 : decode cX12_body 86 = .ok (.iconst 0, 1) := by decide +kernel
theorem dX12_body_87 : decode cX12_body 87 = .ok (.iconst 5, 1) := by decide +kernel
theorem dX12_body_88 : decode cX12_body 88 = .ok (.invokevirtual 215, 3) := by decide +kernel
theorem dX12_body_91 : decode cX12_body 91 = .ok (.ireturn, 1) := by decide +kernel
theorem dX12_body_92 : decode cX12_body 92 = .ok (.aload_n 0, 1) := by decide +kernel
theorem dX12_body_93 : decode cX12_body 93 = .ok (.iload_n 2, 1) := by decide +kernel
theorem dX12_body_94 : decode cX12_body 94 = .ok (.iconst 1, 1) := by decide +kernel
theorem dX12_body_95 : decode cX12_body 95 = .ok (.iadd, 1) := by decide +kernel
theorem dX12_body_96 : decode cX12_body 96 = .ok (.iconst 0, 1) := by decide +kernel
theorem dX12_body_97 : decode cX12_body 97 = .ok (.iconst 5, 1) := by decide +kernel
theorem dX12_body_98 : decode cX12_body 98 = .ok (.invokevirtual 215, 3) := by decide +kernel
theorem dX12_body_101 : decode cX12_body 101 = .ok (.ireturn, 1) := by decide +kernel
theorem dX12_body_102 : decode cX12_body 102 = .ok (.aload_n 0, 1) := by decide +kernel
theorem dX12_body_103 : decode cX12_body 103 = .ok (.iload_n 2, 1) := by decide +kernel
theorem dX12_body_104 : decode cX12_body 104 = .ok (.iconst 1, 1) := by decide +kernel
theorem dX12_body_105 : decode cX12_body 105 = .ok (.iadd, 1) := by decide +kernel
theorem dX12_body_106 : decode cX12_body 106 = .ok (.iconst 1, 1) := by decide +kernel
theorem dX12_body_107 : decode cX12_body 107 = .ok (.bipush 60, 2) := by decide +kernel
theorem dX12_body_109 : decode cX12_body 109 = .ok (.invokevirtual 215, 3) := by decide +kernel
theorem dX12_body_112 : decode cX12_body 112 = .ok (.ireturn, 1) := by decide +kernel
section RNR
variable {gB g0 g1 g3 z : Nat → Int32} {x0 n : Nat} {t0 wr wr2 r v x s : Int32}
def RN (gB : Nat → Int32) (x0 : Nat) (z : Nat → Int32) : Prop := (∀ k, k < x0 ∨ x0 + 5 ≤ k → z k = gB k) ∧ 3 ≤ (z x0).toInt
theorem RN_up (h : RN gB x0 z) (hx : x0 < n ∧ n < x0 + 5) : RN gB x0 (upd z n v) := ⟨fun k hk => by rw [pk_un (by omega)]; exact h.1 k hk, by rw [pk_un (by omega)]; exact h.2⟩
theorem RN_u0 (h : RN gB x0 z) (hx : n = x0) (hv : 3 ≤ v.toInt) : RN gB x0 (upd z n v) := ⟨fun k hk => by rw [pk_un (by omega)]; exact h.1 k hk, by rw [hx, pk_us]; exact hv⟩
theorem WFc_ext {b : Nat} (h : WFc z b v wr) (e : ∀ k, b ≤ k → g3 k = z k) : WFc g3 b v wr := by
  obtain ⟨h1, h2, h3, h4⟩ := h
  refine ⟨h1, h2, h3, fun m hm => ?_⟩
  obtain ⟨q, hq⟩ := h4 m hm
  exact ⟨q, by rw [hts_ext m (fun k _ => ⟨e _ (by omega), e _ (by omega)⟩)]; exact hq⟩
def LC (r : Int32) (g0 : Nat → Int32) (x0 : Nat) (t0 wr wr2 : Int32) (z : Nat → Int32) : Prop := (∀ k, k < x0 ∨ x0 + 5 ≤ k → k < t0.toInt.toNat + 121 + 2 * wr.toInt.toNat ∨ t0.toInt.toNat + 729 ≤ k → z k = g0 k) ∧ (r = 0 → WFc z (t0.toInt.toNat + 121) (z (x0 + 1)) (z (x0 + 2)) ∧ (z (x0 + 2)).toInt ≤ wr2.toInt ∧ wr.toInt ≤ wr2.toInt)
def BD (r : Int32) (g0 : Nat → Int32) (x0 : Nat) (t0 wr wr2 : Int32) (z : Nat → Int32) : Prop := (∀ k, k < x0 ∨ x0 + 5 ≤ k → k < t0.toInt.toNat + 121 + 2 * wr.toInt.toNat ∨ t0.toInt.toNat + 729 ≤ k → z k = g0 k) ∧ (r = 0 → (bn 0 2 (z x0) → WFc z (t0.toInt.toNat + 121) (z (x0 + 1)) (z (x0 + 2)) ∧ (z (x0 + 2)).toInt ≤ wr2.toInt) ∧ wr.toInt ≤ wr2.toInt)
theorem LC_mk {i1 i2 : Nat} (h : XE r g1 wr t0 wr2 z) (e1 : g1 = upd g0 i1 wr) (e3 : g3 = upd z i2 wr2) (q1 : i1 = x0 + 1) (q2 : i2 = x0 + 2) (hx : x0 + 5 ≤ t0.toInt.toNat + 121) : LC r g0 x0 t0 wr wr2 g3 := by
  subst q1
  subst q2
  obtain ⟨hB, hW⟩ := h
  refine ⟨fun k hk hk2 => ?_, fun hr => ?_⟩
  · rw [e3, pk_un (by omega), hB k hk2, e1, pk_un (by omega)]
  · obtain ⟨w1, w2⟩ := hW hr
    have a1 : g3 (x0 + 1) = wr := by rw [e3, pk_un (by omega), hB (x0 + 1) (Or.inl (by omega)), e1, pk_us]
    have a2 : g3 (x0 + 2) = wr2 := by rw [e3, pk_us]
    rw [a1, a2]
    exact ⟨WFc_ext w1 (fun k hk => by rw [e3, pk_un (by omega)]), Int.le_refl _, w2⟩
theorem BD_lc (h : LC r g0 x0 t0 wr wr2 z) : BD r g0 x0 t0 wr wr2 z := ⟨h.1, fun hr => ⟨fun _ => ⟨(h.2 hr).1, (h.2 hr).2.1⟩, (h.2 hr).2.2⟩⟩
theorem BD_rn (h : RN g0 x0 z) : BD r g0 x0 t0 wr wr z := ⟨fun k hk _ => h.1 k hk, fun _ => ⟨fun hb => by have h1 := hb.2; have h2 := h.2; omega, Int.le_refl _⟩⟩
theorem RN_eq (e : z = g0) (hs : g0 x0 = s) (h3 : 3 ≤ s.toInt) : RN g0 x0 z := by
  subst e
  exact ⟨fun _ _ => rfl, by rw [hs]; exact h3⟩
end RNR
set_option maxHeartbeats 4000000 in
set_option maxRecDepth 100000 in
theorem x_X12_figure {l : Launch} {G : GG}  {L : List Nat} {f : HF} {ad : Nat → Nat → Nat} {pa : (Nat → Int32) → Prop} {PA : (Nat → Int32) → Prop} {PI : (Nat → Int32) → Prop} {i1 i2 i3 : Int32} {td fa fp at9 ps9 tk nu t0 wr so pd op9 cg iw on9 is9 se : Int32} {wd : Int64} {gB : Nat → Int32} {x0 : Nat} (I : SH (spM PA PI (RN gB x0) pa) nnM G ad L f) (p_ad_0_0 : pt L f (ad 0 0) (.inr (12, [.ref (ad 1 0), .ref (ad 2 0), .ref (ad 3 0), .ref (ad 4 0), .int td, .int fa, .int fp, .int at9, .int ps9, .int tk, .int nu, .long wd, .int t0, .int wr, .int so, .ref (ad 5 0), .ref (ad 6 0), .int pd, .int op9, .int cg, .int iw, .int on9, .ref (ad 7 0), .ref (ad 8 0), .ref (ad 9 0), .int is9, .ref (ad 10 0), .ref (ad 11 0), .ref (ad 12 0), .ref (ad 13 0), .int se, .ref (ad 14 0)]))) (b_i1 : bn 0 2404 i1) (hxr : x0 < i1.toInt.toNat ∧ i1.toInt.toNat < x0 + 5) (hT : TK at9 ps9 tk) : PMi l yX12_figure cX12_figure 4 .int 2 0 0 G [.ref (ad 0 0), .int i1, .int i2, .int i3] L f (fun r L1 f1 => ∃ at92 : Int32, ∃ ps92 : Int32, ∃ tk2 : Int32, ∃ nu2 : Int32, ∃ wd2 : Int64, bn 0 2 r ∧ SH (spM PA PI (RN gB x0) pa) nnM G ad L1 f1 ∧ pt L1 f1 (ad 0 0) (.inr (12, [.ref (ad 1 0), .ref (ad 2 0), .ref (ad 3 0), .ref (ad 4 0), .int td, .int fa, .int fp, .int at92, .int ps92, .int tk2, .int nu2, .long wd2, .int t0, .int wr, .int so, .ref (ad 5 0), .ref (ad 6 0), .int pd, .int op9, .int cg, .int iw, .int on9, .ref (ad 7 0), .ref (ad 8 0), .ref (ad 9 0), .int is9, .ref (ad 10 0), .ref (ad 11 0), .ref (ad 12 0), .ref (ad 13 0), .int se, .ref (ad 14 0)])) ∧ TK at92 ps92 tk2 ∧ ps9.toInt ≤ ps92.toInt) := by
  refine PMi.of (post := fun r L1 f1 => ∃ at92 : Int32, ∃ ps92 : Int32, ∃ tk2 : Int32, ∃ nu2 : Int32, ∃ wd2 : Int64, bn 0 2 r ∧ SH (spM PA PI (RN gB x0) pa) nnM G ad L1 f1 ∧ pt L1 f1 (ad 0 0) (.inr (12, [.ref (ad 1 0), .ref (ad 2 0), .ref (ad 3 0), .ref (ad 4 0), .int td, .int fa, .int fp, .int at92, .int ps92, .int tk2, .int nu2, .long wd2, .int t0, .int wr, .int so, .ref (ad 5 0), .ref (ad 6 0), .int pd, .int op9, .int cg, .int iw, .int on9, .ref (ad 7 0), .ref (ad 8 0), .ref (ad 9 0), .int is9, .ref (ad 10 0), .ref (ad 11 0), .ref (ad 12 0), .ref (ad 13 0), .int se, .ref (ad 14 0)])) ∧ TK at92 ps92 tk2 ∧ ps9.toInt ≤ ps92.toInt) (own := RX12) (by decide) rfl (Nat.le_of_ble_eq_true rfl) (fun sz p e s m args below meth c A ls hA1 hname S Y hl => ?_)
  have hx := S.hx
  have hb := S.hb
  have hl : lv_has ls 4 [(0, .ref (ad 0 0)), (1, .int i1), (2, .int i2), (3, .int i3)] := hl
  obtain ⟨bfe_4, bfe_7, bfe_8, bfe_12, bfe_13, bfe_17, bfe_18, bfe_19, bfe_20, bfe_25⟩ := obM I p_ad_0_0
  refine lv_aload_n hx hb dX12_figure_0 rfl (lv_at hl 0 rfl) ?_
  refine pg_get S Y ok_X12 9 (by decide) kf12_98 (v := .int tk) p_ad_0_0 rfl dX12_figure_1 ?_
  refine lv_iconst (v := 1) hx hb dX12_figure_4 (by decide) ?_
  refine lv_icmp_eq (tgt := 10) hx hb dX12_figure_5 (by decide) (fun c_88257 => ?_) (fun c_88257 => ?_)
  · have B_88258 : bn 1 1 tk := bn_w (bn_eq c_88257 (show bn 1 1 (1 : Int32) from bn_k (by decide))) (by decide)
    refine lv_aload_n hx hb dX12_figure_10 rfl (lv_at hl 0 rfl) ?_
    refine pg_get S Y ok_X12 10 (by decide) kf12_104 (v := .int nu) p_ad_0_0 rfl dX12_figure_11 ?_
    refine lv_iload_n hx hb dX12_figure_14 rfl (lv_at hl 2 rfl) ?_
    refine lv_iload_n hx hb dX12_figure_15 rfl (lv_at hl 3 rfl) ?_
    refine cSp (As := [.int nu, .int i2, .int i3]) (rest := []) S Y (x_X12_isIn (l := l) ) cw_X12_isIn km12_69 rfl ⟨Nat.le_of_ble_eq_true rfl, Nat.le_of_ble_eq_true rfl⟩ hl.1 rfl (Nat.le_of_ble_eq_true rfl) ⟨Nat.le_of_ble_eq_true rfl, Nat.le_of_ble_eq_true rfl⟩ dX12_figure_16 (fun r_88259 H locs er_88259 Y => ?_)
    refine lv_if_ne (tgt := 24) hx hb dX12_figure_19 (by decide) (fun c_88260 => ?_) (fun c_88260 => ?_)
    · have B_88261 : bn (-2147483648) 2147483647 nu := bn_w (bn_i (bn_any nu) (bn_btw (er_88259.2 c_88260).1 (er_88259.2 c_88260).2 (bn_any i2) (bn_any i3))) (by decide)
      have B_88262 : bn 1 1 r_88259 := bn_w (bn_nel c_88260 er_88259.1 (show bn 0 0 (0 : Int32) from bn_k (by decide))) (by decide)
      refine lv_aload_n hx hb dX12_figure_24 rfl (lv_at hl 0 rfl) ?_
      refine pg_get S Y ok_X12 2 (by decide) kf12_16 (v := .ref (ad 3 0)) p_ad_0_0 rfl dX12_figure_25 ?_
      refine lv_iload_n hx hb dX12_figure_28 rfl (lv_at hl 1 rfl) ?_
      refine lv_aload_n hx hb dX12_figure_29 rfl (lv_at hl 0 rfl) ?_
      refine pg_get S Y ok_X12 10 (by decide) kf12_104 (v := .int nu) p_ad_0_0 rfl dX12_figure_30 ?_
      obtain ⟨g_88264, p_ad_3_0, o_88265⟩ := I.opi (k := 3) (j := 0) (by decide) rfl
      have p_ad_3_0 : pt L f (ad 3 0) (.inl (G.2 0, 2916, .inl g_88264)) := p_ad_3_0
      refine pg_iast S Y p_ad_3_0 (vp_bn b_i1 (by decide)) dX12_figure_33 (fun f_88267 H locs ef_88267 Y => ?_)
      obtain ⟨g_88266, eg_88266⟩ : ∃ z, z = upd (g_88264) (i1 : Int32).toNatClampNeg nu := ⟨_, rfl⟩
      rw [← eg_88266] at ef_88267
      have p_ad_0_0 := p_ad_0_0.up ef_88267 (I.ne (k := 0) (j := 0) (k' := 3) (j' := 0) (by decide) (by decide) (Or.inl (by decide)))
      have p_ad_3_0 := p_ad_3_0.me ef_88267
      have o_88268 : (RN gB x0) g_88266 := (by rw [eg_88266]; exact RN_up o_88265 (by rw [tnc]; exact hxr))
      have I := I.upS (sp' := spM PA PI (RN gB x0) pa) (k := 3) (j := 0) (by decide) ef_88267 (okE_a (g := g_88266) o_88268) pXC
      refine lv_aload_n hx hb dX12_figure_34 rfl (lv_at hl 0 rfl) ?_
      obtain ⟨g_88269, p_ad_4_0, o_88270⟩ := I.opi (k := 4) (j := 0) (by decide) rfl
      have p_ad_4_0 : pt L f_88267 (ad 4 0) (.inl (G.2 0, 300, .inl g_88269)) := p_ad_4_0
      obtain ⟨g_88271, p_ad_5_0, o_88272⟩ := I.opi (k := 5) (j := 0) (by decide) rfl
      have p_ad_5_0 : pt L f_88267 (ad 5 0) (.inl (G.2 0, 160, .inl g_88271)) := p_ad_5_0
      obtain ⟨g_88273, p_ad_6_0, o_88274⟩ := I.opi (k := 6) (j := 0) (by decide) rfl
      have p_ad_6_0 : pt L f_88267 (ad 6 0) (.inl (G.2 0, 9, .inl g_88273)) := p_ad_6_0
      refine cVv (As := []) (rest := []) S Y (x_X12_nextToken (l := l) I p_ad_0_0 p_ad_4_0 p_ad_5_0 p_ad_6_0) cw_X12_nextToken km12_166 p_ad_0_0 ok_X12.1 rfl rfl ⟨Nat.le_of_ble_eq_true rfl, Nat.le_of_ble_eq_true rfl⟩ hl.1 rfl (Nat.le_of_ble_eq_true rfl) ⟨Nat.le_of_ble_eq_true rfl, Nat.le_of_ble_eq_true rfl⟩ dX12_figure_35 (fun L_88275 f_88276 H locs hr_88277 Y => ?_)
      obtain ⟨v_88278, v_88279, v_88280, v_88281, v_88282, I, p_ad_0_0, p_ad_4_0, p_ad_5_0, p_ad_6_0, eT_88283, eP_88284⟩ := hr_88277
      obtain ⟨bfc88284_4, bfc88284_7, bfc88284_8, bfc88284_12, bfc88284_13, bfc88284_17, bfc88284_18, bfc88284_19, bfc88284_20, bfc88284_25⟩ := obM I p_ad_0_0
      refine lv_iconst (v := 0) hx hb dX12_figure_38 (by decide) ?_
      exact prI (post := fun r L1 f1 => ∃ at92 : Int32, ∃ ps92 : Int32, ∃ tk2 : Int32, ∃ nu2 : Int32, ∃ wd2 : Int64, bn 0 2 r ∧ SH (spM PA PI (RN gB x0) pa) nnM G ad L1 f1 ∧ pt L1 f1 (ad 0 0) (.inr (12, [.ref (ad 1 0), .ref (ad 2 0), .ref (ad 3 0), .ref (ad 4 0), .int td, .int fa, .int fp, .int at92, .int ps92, .int tk2, .int nu2, .long wd2, .int t0, .int wr, .int so, .ref (ad 5 0), .ref (ad 6 0), .int pd, .int op9, .int cg, .int iw, .int on9, .ref (ad 7 0), .ref (ad 8 0), .ref (ad 9 0), .int is9, .ref (ad 10 0), .ref (ad 11 0), .ref (ad 12 0), .ref (ad 13 0), .int se, .ref (ad 14 0)])) ∧ TK at92 ps92 tk2 ∧ ps9.toInt ≤ ps92.toInt) S Y rfl (by decide) (by decide) hA1 ⟨v_88278, v_88279, v_88280, v_88281, v_88282, bn_w (show bn 0 0 (0 : Int32) from bn_k (by decide)) (by decide), I, p_ad_0_0, eT_88283, (by have c0 := hT.1; have c1 := eT_88283.1; have c2 := eP_88284; omega)⟩ dX12_figure_39
    · have B_88263 : bn 0 0 r_88259 := bn_w (bn_eq c_88260 (show bn 0 0 (0 : Int32) from bn_k (by decide))) (by decide)
      refine lv_iconst (v := 2) hx hb dX12_figure_22 (by decide) ?_
      exact prI (post := fun r L1 f1 => ∃ at92 : Int32, ∃ ps92 : Int32, ∃ tk2 : Int32, ∃ nu2 : Int32, ∃ wd2 : Int64, bn 0 2 r ∧ SH (spM PA PI (RN gB x0) pa) nnM G ad L1 f1 ∧ pt L1 f1 (ad 0 0) (.inr (12, [.ref (ad 1 0), .ref (ad 2 0), .ref (ad 3 0), .ref (ad 4 0), .int td, .int fa, .int fp, .int at92, .int ps92, .int tk2, .int nu2, .long wd2, .int t0, .int wr, .int so, .ref (ad 5 0), .ref (ad 6 0), .int pd, .int op9, .int cg, .int iw, .int on9, .ref (ad 7 0), .ref (ad 8 0), .ref (ad 9 0), .int is9, .ref (ad 10 0), .ref (ad 11 0), .ref (ad 12 0), .ref (ad 13 0), .int se, .ref (ad 14 0)])) ∧ TK at92 ps92 tk2 ∧ ps9.toInt ≤ ps92.toInt) S Y rfl (by decide) (by decide) hA1 ⟨at9, ps9, tk, nu, wd, bn_w (show bn 2 2 (2 : Int32) from bn_k (by decide)) (by decide), I, p_ad_0_0, hT, (Int.le_refl _)⟩ dX12_figure_23
  · refine lv_iconst (v := 1) hx hb dX12_figure_8 (by decide) ?_
    exact prI (post := fun r L1 f1 => ∃ at92 : Int32, ∃ ps92 : Int32, ∃ tk2 : Int32, ∃ nu2 : Int32, ∃ wd2 : Int64, bn 0 2 r ∧ SH (spM PA PI (RN gB x0) pa) nnM G ad L1 f1 ∧ pt L1 f1 (ad 0 0) (.inr (12, [.ref (ad 1 0), .ref (ad 2 0), .ref (ad 3 0), .ref (ad 4 0), .int td, .int fa, .int fp, .int at92, .int ps92, .int tk2, .int nu2, .long wd2, .int t0, .int wr, .int so, .ref (ad 5 0), .ref (ad 6 0), .int pd, .int op9, .int cg, .int iw, .int on9, .ref (ad 7 0), .ref (ad 8 0), .ref (ad 9 0), .int is9, .ref (ad 10 0), .ref (ad 11 0), .ref (ad 12 0), .ref (ad 13 0), .int se, .ref (ad 14 0)])) ∧ TK at92 ps92 tk2 ∧ ps9.toInt ≤ ps92.toInt) S Y rfl (by decide) (by decide) hA1 ⟨at9, ps9, tk, nu, wd, bn_w (show bn 1 1 (1 : Int32) from bn_k (by decide)) (by decide), I, p_ad_0_0, hT, (Int.le_refl _)⟩ dX12_figure_9
set_option maxHeartbeats 4000000 in
set_option maxRecDepth 100000 in
theorem x_X12_worded {l : Launch} {G : GG}  {L : List Nat} {f : HF} {ad : Nat → Nat → Nat} {pa : (Nat → Int32) → Prop} {PA : (Nat → Int32) → Prop} {PI : (Nat → Int32) → Prop} {i2 i3 : Int32} {v1 : Int64} {td fa fp at9 ps9 tk nu t0 wr so pd op9 cg iw on9 is9 se : Int32} {wd : Int64} {gB : Nat → Int32} {x0 : Nat} (I : SH (spM PA PI (RN gB x0) pa) nnM G ad L f) (p_ad_0_0 : pt L f (ad 0 0) (.inr (12, [.ref (ad 1 0), .ref (ad 2 0), .ref (ad 3 0), .ref (ad 4 0), .int td, .int fa, .int fp, .int at9, .int ps9, .int tk, .int nu, .long wd, .int t0, .int wr, .int so, .ref (ad 5 0), .ref (ad 6 0), .int pd, .int op9, .int cg, .int iw, .int on9, .ref (ad 7 0), .ref (ad 8 0), .ref (ad 9 0), .int is9, .ref (ad 10 0), .ref (ad 11 0), .ref (ad 12 0), .ref (ad 13 0), .int se, .ref (ad 14 0)]))) (b_i2 : bn 0 2404 i2) (hxr : x0 < i2.toInt.toNat ∧ i2.toInt.toNat < x0 + 5) (hT : TK at9 ps9 tk) : PMi l yX12_worded cX12_worded 5 .int 3 0 0 G [.ref (ad 0 0), .long v1, .int i2, .int i3] L f (fun r L1 f1 => ∃ at92 : Int32, ∃ ps92 : Int32, ∃ tk2 : Int32, ∃ nu2 : Int32, ∃ wd2 : Int64, bn 0 2 r ∧ SH (spM PA PI (RN gB x0) pa) nnM G ad L1 f1 ∧ pt L1 f1 (ad 0 0) (.inr (12, [.ref (ad 1 0), .ref (ad 2 0), .ref (ad 3 0), .ref (ad 4 0), .int td, .int fa, .int fp, .int at92, .int ps92, .int tk2, .int nu2, .long wd2, .int t0, .int wr, .int so, .ref (ad 5 0), .ref (ad 6 0), .int pd, .int op9, .int cg, .int iw, .int on9, .ref (ad 7 0), .ref (ad 8 0), .ref (ad 9 0), .int is9, .ref (ad 10 0), .ref (ad 11 0), .ref (ad 12 0), .ref (ad 13 0), .int se, .ref (ad 14 0)])) ∧ TK at92 ps92 tk2 ∧ ps9.toInt ≤ ps92.toInt) := by
  refine PMi.of (post := fun r L1 f1 => ∃ at92 : Int32, ∃ ps92 : Int32, ∃ tk2 : Int32, ∃ nu2 : Int32, ∃ wd2 : Int64, bn 0 2 r ∧ SH (spM PA PI (RN gB x0) pa) nnM G ad L1 f1 ∧ pt L1 f1 (ad 0 0) (.inr (12, [.ref (ad 1 0), .ref (ad 2 0), .ref (ad 3 0), .ref (ad 4 0), .int td, .int fa, .int fp, .int at92, .int ps92, .int tk2, .int nu2, .long wd2, .int t0, .int wr, .int so, .ref (ad 5 0), .ref (ad 6 0), .int pd, .int op9, .int cg, .int iw, .int on9, .ref (ad 7 0), .ref (ad 8 0), .ref (ad 9 0), .int is9, .ref (ad 10 0), .ref (ad 11 0), .ref (ad 12 0), .ref (ad 13 0), .int se, .ref (ad 14 0)])) ∧ TK at92 ps92 tk2 ∧ ps9.toInt ≤ ps92.toInt) (own := RX12) (by decide) rfl (Nat.le_of_ble_eq_true rfl) (fun sz p e s m args below meth c A ls hA1 hname S Y hl => ?_)
  have hx := S.hx
  have hb := S.hb
  have hl : lv_has ls 5 [(0, .ref (ad 0 0)), (1, .long v1), (3, .int i2), (4, .int i3)] := hl
  obtain ⟨bfe_4, bfe_7, bfe_8, bfe_12, bfe_13, bfe_17, bfe_18, bfe_19, bfe_20, bfe_25⟩ := obM I p_ad_0_0
  refine lv_aload_n hx hb dX12_worded_0 rfl (lv_at hl 0 rfl) ?_
  refine lv_lload_n hx hb dX12_worded_1 rfl (lv_at hl 1 rfl) ?_
  refine cVp (As := [.long v1]) (rest := []) S Y (x_X12_isWord (l := l) I p_ad_0_0) cw_X12_isWord km12_187 p_ad_0_0 ok_X12.1 rfl rfl ⟨Nat.le_of_ble_eq_true rfl, Nat.le_of_ble_eq_true rfl⟩ hl.1 rfl (Nat.le_of_ble_eq_true rfl) ⟨Nat.le_of_ble_eq_true rfl, Nat.le_of_ble_eq_true rfl⟩ dX12_worded_2 (fun r_88350 H locs er_88350 Y => ?_)
  refine lv_if_ne (tgt := 10) hx hb dX12_worded_5 (by decide) (fun c_88351 => ?_) (fun c_88351 => ?_)
  · have B_88352 : bn 1 1 r_88350 := bn_w (bn_nel c_88351 er_88350.1 (show bn 0 0 (0 : Int32) from bn_k (by decide))) (by decide)
    refine lv_aload_n hx hb dX12_worded_10 rfl (lv_at hl 0 rfl) ?_
    obtain ⟨g_88354, p_ad_4_0, o_88355⟩ := I.opi (k := 4) (j := 0) (by decide) rfl
    have p_ad_4_0 : pt L f (ad 4 0) (.inl (G.2 0, 300, .inl g_88354)) := p_ad_4_0
    obtain ⟨g_88356, p_ad_5_0, o_88357⟩ := I.opi (k := 5) (j := 0) (by decide) rfl
    have p_ad_5_0 : pt L f (ad 5 0) (.inl (G.2 0, 160, .inl g_88356)) := p_ad_5_0
    obtain ⟨g_88358, p_ad_6_0, o_88359⟩ := I.opi (k := 6) (j := 0) (by decide) rfl
    have p_ad_6_0 : pt L f (ad 6 0) (.inl (G.2 0, 9, .inl g_88358)) := p_ad_6_0
    refine cVv (As := []) (rest := []) S Y (x_X12_nextToken (l := l) I p_ad_0_0 p_ad_4_0 p_ad_5_0 p_ad_6_0) cw_X12_nextToken km12_166 p_ad_0_0 ok_X12.1 rfl rfl ⟨Nat.le_of_ble_eq_true rfl, Nat.le_of_ble_eq_true rfl⟩ hl.1 rfl (Nat.le_of_ble_eq_true rfl) ⟨Nat.le_of_ble_eq_true rfl, Nat.le_of_ble_eq_true rfl⟩ dX12_worded_11 (fun L_88360 f_88361 H locs hr_88362 Y => ?_)
    obtain ⟨v_88363, v_88364, v_88365, v_88366, v_88367, I, p_ad_0_0, p_ad_4_0, p_ad_5_0, p_ad_6_0, eT_88368, eP_88369⟩ := hr_88362
    obtain ⟨bfc88369_4, bfc88369_7, bfc88369_8, bfc88369_12, bfc88369_13, bfc88369_17, bfc88369_18, bfc88369_19, bfc88369_20, bfc88369_25⟩ := obM I p_ad_0_0
    refine lv_aload_n hx hb dX12_worded_14 rfl (lv_at hl 0 rfl) ?_
    refine lv_iload_n hx hb dX12_worded_15 rfl (lv_at hl 2 rfl) ?_
    refine lv_iconst (v := 0) hx hb dX12_worded_16 (by decide) ?_
    refine lv_iload hx hb dX12_worded_17 (lv_at hl 3 rfl) ?_
    refine cVi (As := [.int i2, .int 0, .int i3]) (rest := []) S Y (x_X12_figure (l := l) I p_ad_0_0 (bn_w b_i2 (by decide)) hxr eT_88368) cw_X12_figure km12_215 p_ad_0_0 ok_X12.1 rfl rfl ⟨Nat.le_of_ble_eq_true rfl, Nat.le_of_ble_eq_true rfl⟩ hl.1 rfl (Nat.le_of_ble_eq_true rfl) ⟨Nat.le_of_ble_eq_true rfl, Nat.le_of_ble_eq_true rfl⟩ dX12_worded_19 (fun r_88373 L_88371 f_88372 H locs hr_88373 Y => ?_)
    obtain ⟨v_88374, v_88375, v_88376, v_88377, v_88378, er_88373, I, p_ad_0_0, eT_88379, eP_88380⟩ := hr_88373
    obtain ⟨bfc88380_4, bfc88380_7, bfc88380_8, bfc88380_12, bfc88380_13, bfc88380_17, bfc88380_18, bfc88380_19, bfc88380_20, bfc88380_25⟩ := obM I p_ad_0_0
    exact prI (post := fun r L1 f1 => ∃ at92 : Int32, ∃ ps92 : Int32, ∃ tk2 : Int32, ∃ nu2 : Int32, ∃ wd2 : Int64, bn 0 2 r ∧ SH (spM PA PI (RN gB x0) pa) nnM G ad L1 f1 ∧ pt L1 f1 (ad 0 0) (.inr (12, [.ref (ad 1 0), .ref (ad 2 0), .ref (ad 3 0), .ref (ad 4 0), .int td, .int fa, .int fp, .int at92, .int ps92, .int tk2, .int nu2, .long wd2, .int t0, .int wr, .int so, .ref (ad 5 0), .ref (ad 6 0), .int pd, .int op9, .int cg, .int iw, .int on9, .ref (ad 7 0), .ref (ad 8 0), .ref (ad 9 0), .int is9, .ref (ad 10 0), .ref (ad 11 0), .ref (ad 12 0), .ref (ad 13 0), .int se, .ref (ad 14 0)])) ∧ TK at92 ps92 tk2 ∧ ps9.toInt ≤ ps92.toInt) S Y rfl (by decide) (by decide) hA1 ⟨v_88374, v_88375, v_88376, v_88377, v_88378, bn_w er_88373 (by decide), I, p_ad_0_0, eT_88379, (by have c0 := hT.1; have c1 := eT_88368.1; have c2 := eP_88369; have c3 := eT_88379.1; have c4 := eP_88380; omega)⟩ dX12_worded_22
  · have B_88353 : bn 0 0 r_88350 := bn_w (bn_eq c_88351 (show bn 0 0 (0 : Int32) from bn_k (by decide))) (by decide)
    refine lv_iconst (v := 1) hx hb dX12_worded_8 (by decide) ?_
    exact prI (post := fun r L1 f1 => ∃ at92 : Int32, ∃ ps92 : Int32, ∃ tk2 : Int32, ∃ nu2 : Int32, ∃ wd2 : Int64, bn 0 2 r ∧ SH (spM PA PI (RN gB x0) pa) nnM G ad L1 f1 ∧ pt L1 f1 (ad 0 0) (.inr (12, [.ref (ad 1 0), .ref (ad 2 0), .ref (ad 3 0), .ref (ad 4 0), .int td, .int fa, .int fp, .int at92, .int ps92, .int tk2, .int nu2, .long wd2, .int t0, .int wr, .int so, .ref (ad 5 0), .ref (ad 6 0), .int pd, .int op9, .int cg, .int iw, .int on9, .ref (ad 7 0), .ref (ad 8 0), .ref (ad 9 0), .int is9, .ref (ad 10 0), .ref (ad 11 0), .ref (ad 12 0), .ref (ad 13 0), .int se, .ref (ad 14 0)])) ∧ TK at92 ps92 tk2 ∧ ps9.toInt ≤ ps92.toInt) S Y rfl (by decide) (by decide) hA1 ⟨at9, ps9, tk, nu, wd, bn_w (show bn 1 1 (1 : Int32) from bn_k (by decide)) (by decide), I, p_ad_0_0, hT, (Int.le_refl _)⟩ dX12_worded_9
set_option maxHeartbeats 4000000 in
set_option maxRecDepth 100000 in
theorem x_X12_oneClause {l : Launch} {G : GG}  {L : List Nat} {f : HF} {ad : Nat → Nat → Nat} {pa : (Nat → Int32) → Prop} {PA : (Nat → Int32) → Prop} {PI : (Nat → Int32) → Prop} {i1 : Int32} {td fa fp at9 ps9 tk nu t0 wr so pd op9 cg iw on9 is9 se : Int32} {wd : Int64} {gB : Nat → Int32} {x0 : Nat} (I : SH (spM PA PI (RN gB x0) pa) nnM G ad L f) (p_ad_0_0 : pt L f (ad 0 0) (.inr (12, [.ref (ad 1 0), .ref (ad 2 0), .ref (ad 3 0), .ref (ad 4 0), .int td, .int fa, .int fp, .int at9, .int ps9, .int tk, .int nu, .long wd, .int t0, .int wr, .int so, .ref (ad 5 0), .ref (ad 6 0), .int pd, .int op9, .int cg, .int iw, .int on9, .ref (ad 7 0), .ref (ad 8 0), .ref (ad 9 0), .int is9, .ref (ad 10 0), .ref (ad 11 0), .ref (ad 12 0), .ref (ad 13 0), .int se, .ref (ad 14 0)]))) (b_i1 : bn 0 2400 i1) (hx0 : i1.toInt.toNat = x0) (hT : TK at9 ps9 tk) : PMi l yX12_oneClause cX12_oneClause 3 .int 4 0 0 G [.ref (ad 0 0), .int i1] L f (fun r L1 f1 => ∃ at92 : Int32, ∃ ps92 : Int32, ∃ tk2 : Int32, ∃ nu2 : Int32, ∃ wd2 : Int64, bn 0 2 r ∧ SH (spM PA PI (RN gB x0) pa) nnM G ad L1 f1 ∧ pt L1 f1 (ad 0 0) (.inr (12, [.ref (ad 1 0), .ref (ad 2 0), .ref (ad 3 0), .ref (ad 4 0), .int td, .int fa, .int fp, .int at92, .int ps92, .int tk2, .int nu2, .long wd2, .int t0, .int wr, .int so, .ref (ad 5 0), .ref (ad 6 0), .int pd, .int op9, .int cg, .int iw, .int on9, .ref (ad 7 0), .ref (ad 8 0), .ref (ad 9 0), .int is9, .ref (ad 10 0), .ref (ad 11 0), .ref (ad 12 0), .ref (ad 13 0), .int se, .ref (ad 14 0)])) ∧ TK at92 ps92 tk2 ∧ ps9.toInt ≤ ps92.toInt) := by
  refine PMi.of (post := fun r L1 f1 => ∃ at92 : Int32, ∃ ps92 : Int32, ∃ tk2 : Int32, ∃ nu2 : Int32, ∃ wd2 : Int64, bn 0 2 r ∧ SH (spM PA PI (RN gB x0) pa) nnM G ad L1 f1 ∧ pt L1 f1 (ad 0 0) (.inr (12, [.ref (ad 1 0), .ref (ad 2 0), .ref (ad 3 0), .ref (ad 4 0), .int td, .int fa, .int fp, .int at92, .int ps92, .int tk2, .int nu2, .long wd2, .int t0, .int wr, .int so, .ref (ad 5 0), .ref (ad 6 0), .int pd, .int op9, .int cg, .int iw, .int on9, .ref (ad 7 0), .ref (ad 8 0), .ref (ad 9 0), .int is9, .ref (ad 10 0), .ref (ad 11 0), .ref (ad 12 0), .ref (ad 13 0), .int se, .ref (ad 14 0)])) ∧ TK at92 ps92 tk2 ∧ ps9.toInt ≤ ps92.toInt) (own := RX12) (by decide) rfl (Nat.le_of_ble_eq_true rfl) (fun sz p e s m args below meth c A ls hA1 hname S Y hl => ?_)
  have hx := S.hx
  have hb := S.hb
  have hl : lv_has ls 3 [(0, .ref (ad 0 0)), (1, .int i1)] := hl
  obtain ⟨bfe_4, bfe_7, bfe_8, bfe_12, bfe_13, bfe_17, bfe_18, bfe_19, bfe_20, bfe_25⟩ := obM I p_ad_0_0
  refine lv_aload_n hx hb dX12_oneClause_0 rfl (lv_at hl 0 rfl) ?_
  refine lv_iload_n hx hb dX12_oneClause_1 rfl (lv_at hl 1 rfl) ?_
  refine lv_iconst (v := 1) hx hb dX12_oneClause_2 (by decide) ?_
  refine lv_iadd hx hb dX12_oneClause_3 ?_
  refine lv_topi (fun x_88438 ex_88438 => ?_)
  refine lv_iconst (v := 0) hx hb dX12_oneClause_4 (by decide) ?_
  refine lv_bipush (v := 9) hx hb dX12_oneClause_5 (by decide) ?_
  refine cVi (As := [.int x_88438, .int 0, .int 9]) (rest := []) S Y (x_X12_figure (l := l) I p_ad_0_0 (bn_w (bn_eq ex_88438 (bn_add b_i1 (show bn 1 1 (1 : Int32) from bn_k (by decide)) (by decide))) (by decide)) (by have z9 := (la_add ex_88438 (rfl : i1.toInt = i1.toInt) (show (1 : Int32).toInt = 1 from rfl) b_i1 (show bn 1 1 (1 : Int32) from bn_k (by decide)) (by decide)); have z8 := b_i1.1; omega) hT) cw_X12_figure km12_215 p_ad_0_0 ok_X12.1 rfl rfl ⟨Nat.le_of_ble_eq_true rfl, Nat.le_of_ble_eq_true rfl⟩ hl.1 rfl (Nat.le_of_ble_eq_true rfl) ⟨Nat.le_of_ble_eq_true rfl, Nat.le_of_ble_eq_true rfl⟩ dX12_oneClause_7 (fun r_88441 L_88439 f_88440 H locs hr_88441 Y => ?_)
  obtain ⟨v_88442, v_88443, v_88444, v_88445, v_88446, er_88441, I, p_ad_0_0, eT_88447, eP_88448⟩ := hr_88441
  obtain ⟨bfc88448_4, bfc88448_7, bfc88448_8, bfc88448_12, bfc88448_13, bfc88448_17, bfc88448_18, bfc88448_19, bfc88448_20, bfc88448_25⟩ := obM I p_ad_0_0
  refine lv_istore_n (lv' := [(2, .int r_88441), (0, .ref (ad 0 0)), (1, .int i1)]) hx hb dX12_oneClause_10 rfl hl (by decide) rfl (fun ls hl => ?_)
  refine lv_iload_n hx hb dX12_oneClause_11 rfl (lv_at hl 0 rfl) ?_
  refine lv_if_eq (tgt := 19) hx hb dX12_oneClause_12 (by decide) (fun c_88450 => ?_) (fun c_88450 => ?_)
  · have B_88451 : bn 0 0 r_88441 := bn_w (bn_eq c_88450 (show bn 0 0 (0 : Int32) from bn_k (by decide))) (by decide)
    refine lv_aload_n hx hb dX12_oneClause_19 rfl (lv_at hl 1 rfl) ?_
    refine lv_bipush (v := 97) hx hb dX12_oneClause_20 (by decide) ?_
    refine lv_bipush (v := 103) hx hb dX12_oneClause_22 (by decide) ?_
    refine lv_bipush (v := 101) hx hb dX12_oneClause_24 (by decide) ?_
    refine cSlp (As := [.int 97, .int 103, .int 101]) (rest := [.ref (ad 0 0)]) S Y (x_X12_w3 (l := l) ) cw_X12_w3 km12_124 rfl ⟨Nat.le_of_ble_eq_true rfl, Nat.le_of_ble_eq_true rfl⟩ hl.1 rfl (Nat.le_of_ble_eq_true rfl) ⟨Nat.le_of_ble_eq_true rfl, Nat.le_of_ble_eq_true rfl⟩ dX12_oneClause_26 (fun r_88453 H locs er_88453 Y => ?_)
    refine lv_iload_n hx hb dX12_oneClause_29 rfl (lv_at hl 2 rfl) ?_
    refine lv_iconst (v := 2) hx hb dX12_oneClause_30 (by decide) ?_
    refine lv_iadd hx hb dX12_oneClause_31 ?_
    refine lv_topi (fun x_88454 ex_88454 => ?_)
    refine lv_bipush (v := 99) hx hb dX12_oneClause_32 (by decide) ?_
    refine cVi (As := [.long r_88453, .int x_88454, .int 99]) (rest := []) S Y (x_X12_worded (l := l) I p_ad_0_0 (bn_w (bn_eq ex_88454 (bn_add b_i1 (show bn 2 2 (2 : Int32) from bn_k (by decide)) (by decide))) (by decide)) (by have z9 := (la_add ex_88454 (rfl : i1.toInt = i1.toInt) (show (2 : Int32).toInt = 2 from rfl) b_i1 (show bn 2 2 (2 : Int32) from bn_k (by decide)) (by decide)); have z8 := b_i1.1; omega) eT_88447) cw_X12_worded km12_222 p_ad_0_0 ok_X12.1 rfl rfl ⟨Nat.le_of_ble_eq_true rfl, Nat.le_of_ble_eq_true rfl⟩ hl.1 rfl (Nat.le_of_ble_eq_true rfl) ⟨Nat.le_of_ble_eq_true rfl, Nat.le_of_ble_eq_true rfl⟩ dX12_oneClause_34 (fun r_88457 L_88455 f_88456 H locs hr_88457 Y => ?_)
    obtain ⟨v_88458, v_88459, v_88460, v_88461, v_88462, er_88457, I, p_ad_0_0, eT_88463, eP_88464⟩ := hr_88457
    obtain ⟨bfc88464_4, bfc88464_7, bfc88464_8, bfc88464_12, bfc88464_13, bfc88464_17, bfc88464_18, bfc88464_19, bfc88464_20, bfc88464_25⟩ := obM I p_ad_0_0
    exact prI (post := fun r L1 f1 => ∃ at92 : Int32, ∃ ps92 : Int32, ∃ tk2 : Int32, ∃ nu2 : Int32, ∃ wd2 : Int64, bn 0 2 r ∧ SH (spM PA PI (RN gB x0) pa) nnM G ad L1 f1 ∧ pt L1 f1 (ad 0 0) (.inr (12, [.ref (ad 1 0), .ref (ad 2 0), .ref (ad 3 0), .ref (ad 4 0), .int td, .int fa, .int fp, .int at92, .int ps92, .int tk2, .int nu2, .long wd2, .int t0, .int wr, .int so, .ref (ad 5 0), .ref (ad 6 0), .int pd, .int op9, .int cg, .int iw, .int on9, .ref (ad 7 0), .ref (ad 8 0), .ref (ad 9 0), .int is9, .ref (ad 10 0), .ref (ad 11 0), .ref (ad 12 0), .ref (ad 13 0), .int se, .ref (ad 14 0)])) ∧ TK at92 ps92 tk2 ∧ ps9.toInt ≤ ps92.toInt) S Y rfl (by decide) (by decide) hA1 ⟨v_88458, v_88459, v_88460, v_88461, v_88462, bn_w er_88457 (by decide), I, p_ad_0_0, eT_88463, (by have c0 := hT.1; have c1 := eT_88447.1; have c2 := eP_88448; have c3 := eT_88463.1; have c4 := eP_88464; omega)⟩ dX12_oneClause_37
  · have B_88452 : bn 1 2 r_88441 := bn_w (bn_nel c_88450 er_88441 (show bn 0 0 (0 : Int32) from bn_k (by decide))) (by decide)
    refine lv_iload_n hx hb dX12_oneClause_15 rfl (lv_at hl 0 rfl) ?_
    refine lv_goto (tgt := 37) hx hb dX12_oneClause_16 (by decide) ?_
    exact prI (post := fun r L1 f1 => ∃ at92 : Int32, ∃ ps92 : Int32, ∃ tk2 : Int32, ∃ nu2 : Int32, ∃ wd2 : Int64, bn 0 2 r ∧ SH (spM PA PI (RN gB x0) pa) nnM G ad L1 f1 ∧ pt L1 f1 (ad 0 0) (.inr (12, [.ref (ad 1 0), .ref (ad 2 0), .ref (ad 3 0), .ref (ad 4 0), .int td, .int fa, .int fp, .int at92, .int ps92, .int tk2, .int nu2, .long wd2, .int t0, .int wr, .int so, .ref (ad 5 0), .ref (ad 6 0), .int pd, .int op9, .int cg, .int iw, .int on9, .ref (ad 7 0), .ref (ad 8 0), .ref (ad 9 0), .int is9, .ref (ad 10 0), .ref (ad 11 0), .ref (ad 12 0), .ref (ad 13 0), .int se, .ref (ad 14 0)])) ∧ TK at92 ps92 tk2 ∧ ps9.toInt ≤ ps92.toInt) S Y rfl (by decide) (by decide) hA1 ⟨v_88442, v_88443, v_88444, v_88445, v_88446, bn_w B_88452 (by decide), I, p_ad_0_0, eT_88447, (by have c0 := hT.1; have c1 := eT_88447.1; have c2 := eP_88448; omega)⟩ dX12_oneClause_37
set_option maxHeartbeats 4000000 in
set_option maxRecDepth 100000 in
theorem x_X12_swearClause {l : Launch} {G : GG}  {L : List Nat} {f : HF} {ad : Nat → Nat → Nat} {pa : (Nat → Int32) → Prop} {PA : (Nat → Int32) → Prop} {PI : (Nat → Int32) → Prop} {i1 : Int32} {td fa fp at9 ps9 tk nu t0 wr so pd op9 cg iw on9 is9 se : Int32} {wd : Int64} {gB : Nat → Int32} {x0 : Nat} (I : SH (spM PA PI (RN gB x0) pa) nnM G ad L f) (p_ad_0_0 : pt L f (ad 0 0) (.inr (12, [.ref (ad 1 0), .ref (ad 2 0), .ref (ad 3 0), .ref (ad 4 0), .int td, .int fa, .int fp, .int at9, .int ps9, .int tk, .int nu, .long wd, .int t0, .int wr, .int so, .ref (ad 5 0), .ref (ad 6 0), .int pd, .int op9, .int cg, .int iw, .int on9, .ref (ad 7 0), .ref (ad 8 0), .ref (ad 9 0), .int is9, .ref (ad 10 0), .ref (ad 11 0), .ref (ad 12 0), .ref (ad 13 0), .int se, .ref (ad 14 0)]))) (b_i1 : bn 0 2400 i1) (hx0 : i1.toInt.toNat = x0) (hT : TK at9 ps9 tk) : PMi l yX12_swearClause cX12_swearClause 4 .int 4 0 0 G [.ref (ad 0 0), .int i1] L f (fun r L1 f1 => ∃ at92 : Int32, ∃ ps92 : Int32, ∃ tk2 : Int32, ∃ nu2 : Int32, ∃ wd2 : Int64, bn 0 2 r ∧ SH (spM PA PI (RN gB x0) pa) nnM G ad L1 f1 ∧ pt L1 f1 (ad 0 0) (.inr (12, [.ref (ad 1 0), .ref (ad 2 0), .ref (ad 3 0), .ref (ad 4 0), .int td, .int fa, .int fp, .int at92, .int ps92, .int tk2, .int nu2, .long wd2, .int t0, .int wr, .int so, .ref (ad 5 0), .ref (ad 6 0), .int pd, .int op9, .int cg, .int iw, .int on9, .ref (ad 7 0), .ref (ad 8 0), .ref (ad 9 0), .int is9, .ref (ad 10 0), .ref (ad 11 0), .ref (ad 12 0), .ref (ad 13 0), .int se, .ref (ad 14 0)])) ∧ TK at92 ps92 tk2 ∧ ps9.toInt ≤ ps92.toInt) := by
  refine PMi.of (post := fun r L1 f1 => ∃ at92 : Int32, ∃ ps92 : Int32, ∃ tk2 : Int32, ∃ nu2 : Int32, ∃ wd2 : Int64, bn 0 2 r ∧ SH (spM PA PI (RN gB x0) pa) nnM G ad L1 f1 ∧ pt L1 f1 (ad 0 0) (.inr (12, [.ref (ad 1 0), .ref (ad 2 0), .ref (ad 3 0), .ref (ad 4 0), .int td, .int fa, .int fp, .int at92, .int ps92, .int tk2, .int nu2, .long wd2, .int t0, .int wr, .int so, .ref (ad 5 0), .ref (ad 6 0), .int pd, .int op9, .int cg, .int iw, .int on9, .ref (ad 7 0), .ref (ad 8 0), .ref (ad 9 0), .int is9, .ref (ad 10 0), .ref (ad 11 0), .ref (ad 12 0), .ref (ad 13 0), .int se, .ref (ad 14 0)])) ∧ TK at92 ps92 tk2 ∧ ps9.toInt ≤ ps92.toInt) (own := RX12) (by decide) rfl (Nat.le_of_ble_eq_true rfl) (fun sz p e s m args below meth c A ls hA1 hname S Y hl => ?_)
  have hx := S.hx
  have hb := S.hb
  have hl : lv_has ls 4 [(0, .ref (ad 0 0)), (1, .int i1)] := hl
  obtain ⟨bfe_4, bfe_7, bfe_8, bfe_12, bfe_13, bfe_17, bfe_18, bfe_19, bfe_20, bfe_25⟩ := obM I p_ad_0_0
  refine lv_aload_n hx hb dX12_swearClause_0 rfl (lv_at hl 0 rfl) ?_
  refine lv_iload_n hx hb dX12_swearClause_1 rfl (lv_at hl 1 rfl) ?_
  refine lv_iconst (v := 1) hx hb dX12_swearClause_2 (by decide) ?_
  refine lv_iadd hx hb dX12_swearClause_3 ?_
  refine lv_topi (fun x_88684 ex_88684 => ?_)
  refine lv_iconst (v := 0) hx hb dX12_swearClause_4 (by decide) ?_
  refine lv_iconst (v := 5) hx hb dX12_swearClause_5 (by decide) ?_
  refine cVi (As := [.int x_88684, .int 0, .int 5]) (rest := []) S Y (x_X12_figure (l := l) I p_ad_0_0 (bn_w (bn_eq ex_88684 (bn_add b_i1 (show bn 1 1 (1 : Int32) from bn_k (by decide)) (by decide))) (by decide)) (by have z9 := (la_add ex_88684 (rfl : i1.toInt = i1.toInt) (show (1 : Int32).toInt = 1 from rfl) b_i1 (show bn 1 1 (1 : Int32) from bn_k (by decide)) (by decide)); have z8 := b_i1.1; omega) hT) cw_X12_figure km12_215 p_ad_0_0 ok_X12.1 rfl rfl ⟨Nat.le_of_ble_eq_true rfl, Nat.le_of_ble_eq_true rfl⟩ hl.1 rfl (Nat.le_of_ble_eq_true rfl) ⟨Nat.le_of_ble_eq_true rfl, Nat.le_of_ble_eq_true rfl⟩ dX12_swearClause_6 (fun r_88687 L_88685 f_88686 H locs hr_88687 Y => ?_)
  obtain ⟨v_88688, v_88689, v_88690, v_88691, v_88692, er_88687, I, p_ad_0_0, eT_88693, eP_88694⟩ := hr_88687
  obtain ⟨bfc88694_4, bfc88694_7, bfc88694_8, bfc88694_12, bfc88694_13, bfc88694_17, bfc88694_18, bfc88694_19, bfc88694_20, bfc88694_25⟩ := obM I p_ad_0_0
  refine lv_istore_n (lv' := [(2, .int r_88687), (0, .ref (ad 0 0)), (1, .int i1)]) hx hb dX12_swearClause_9 rfl hl (by decide) rfl (fun ls hl => ?_)
  refine lv_iload_n hx hb dX12_swearClause_10 rfl (lv_at hl 0 rfl) ?_
  refine lv_if_ne (tgt := 30) hx hb dX12_swearClause_11 (by decide) (fun c_88696 => ?_) (fun c_88696 => ?_)
  · have B_88697 : bn 1 2 r_88687 := bn_w (bn_nel c_88696 er_88687 (show bn 0 0 (0 : Int32) from bn_k (by decide))) (by decide)
    refine lv_iload_n hx hb dX12_swearClause_30 rfl (lv_at hl 0 rfl) ?_
    refine lv_if_eq (tgt := 36) hx hb dX12_swearClause_31 (by decide) (fun h => absurd h c_88696) (fun _ => ?_)
    refine lv_iload_n hx hb dX12_swearClause_34 rfl (lv_at hl 0 rfl) ?_
    exact prI (post := fun r L1 f1 => ∃ at92 : Int32, ∃ ps92 : Int32, ∃ tk2 : Int32, ∃ nu2 : Int32, ∃ wd2 : Int64, bn 0 2 r ∧ SH (spM PA PI (RN gB x0) pa) nnM G ad L1 f1 ∧ pt L1 f1 (ad 0 0) (.inr (12, [.ref (ad 1 0), .ref (ad 2 0), .ref (ad 3 0), .ref (ad 4 0), .int td, .int fa, .int fp, .int at92, .int ps92, .int tk2, .int nu2, .long wd2, .int t0, .int wr, .int so, .ref (ad 5 0), .ref (ad 6 0), .int pd, .int op9, .int cg, .int iw, .int on9, .ref (ad 7 0), .ref (ad 8 0), .ref (ad 9 0), .int is9, .ref (ad 10 0), .ref (ad 11 0), .ref (ad 12 0), .ref (ad 13 0), .int se, .ref (ad 14 0)])) ∧ TK at92 ps92 tk2 ∧ ps9.toInt ≤ ps92.toInt) S Y rfl (by decide) (by decide) hA1 ⟨v_88688, v_88689, v_88690, v_88691, v_88692, bn_w B_88697 (by decide), I, p_ad_0_0, eT_88693, (by have c0 := hT.1; have c1 := eT_88693.1; have c2 := eP_88694; omega)⟩ dX12_swearClause_35
  · have B_88698 : bn 0 0 r_88687 := bn_w (bn_eq c_88696 (show bn 0 0 (0 : Int32) from bn_k (by decide))) (by decide)
    refine lv_aload_n hx hb dX12_swearClause_14 rfl (lv_at hl 1 rfl) ?_
    refine lv_bipush (v := 116) hx hb dX12_swearClause_15 (by decide) ?_
    refine lv_bipush (v := 111) hx hb dX12_swearClause_17 (by decide) ?_
    refine cSlp (As := [.int 116, .int 111]) (rest := [.ref (ad 0 0)]) S Y (x_X12_w2 (l := l) ) cw_X12_w2 km12_120 rfl ⟨Nat.le_of_ble_eq_true rfl, Nat.le_of_ble_eq_true rfl⟩ hl.1 rfl (Nat.le_of_ble_eq_true rfl) ⟨Nat.le_of_ble_eq_true rfl, Nat.le_of_ble_eq_true rfl⟩ dX12_swearClause_19 (fun r_88699 H locs er_88699 Y => ?_)
    refine lv_iload_n hx hb dX12_swearClause_22 rfl (lv_at hl 2 rfl) ?_
    refine lv_iconst (v := 2) hx hb dX12_swearClause_23 (by decide) ?_
    refine lv_iadd hx hb dX12_swearClause_24 ?_
    refine lv_topi (fun x_88700 ex_88700 => ?_)
    refine lv_iconst (v := 5) hx hb dX12_swearClause_25 (by decide) ?_
    refine cVi (As := [.long r_88699, .int x_88700, .int 5]) (rest := []) S Y (x_X12_worded (l := l) I p_ad_0_0 (bn_w (bn_eq ex_88700 (bn_add b_i1 (show bn 2 2 (2 : Int32) from bn_k (by decide)) (by decide))) (by decide)) (by have z9 := (la_add ex_88700 (rfl : i1.toInt = i1.toInt) (show (2 : Int32).toInt = 2 from rfl) b_i1 (show bn 2 2 (2 : Int32) from bn_k (by decide)) (by decide)); have z8 := b_i1.1; omega) eT_88693) cw_X12_worded km12_222 p_ad_0_0 ok_X12.1 rfl rfl ⟨Nat.le_of_ble_eq_true rfl, Nat.le_of_ble_eq_true rfl⟩ hl.1 rfl (Nat.le_of_ble_eq_true rfl) ⟨Nat.le_of_ble_eq_true rfl, Nat.le_of_ble_eq_true rfl⟩ dX12_swearClause_26 (fun r_88703 L_88701 f_88702 H locs hr_88703 Y => ?_)
    obtain ⟨v_88704, v_88705, v_88706, v_88707, v_88708, er_88703, I, p_ad_0_0, eT_88709, eP_88710⟩ := hr_88703
    obtain ⟨bfc88710_4, bfc88710_7, bfc88710_8, bfc88710_12, bfc88710_13, bfc88710_17, bfc88710_18, bfc88710_19, bfc88710_20, bfc88710_25⟩ := obM I p_ad_0_0
    refine lv_istore_n (lv' := [(2, .int r_88703), (0, .ref (ad 0 0)), (1, .int i1)]) hx hb dX12_swearClause_29 rfl hl (by decide) rfl (fun ls hl => ?_)
    refine lv_iload_n hx hb dX12_swearClause_30 rfl (lv_at hl 0 rfl) ?_
    refine lv_if_eq (tgt := 36) hx hb dX12_swearClause_31 (by decide) (fun c_88712 => ?_) (fun c_88712 => ?_)
    · have B_88713 : bn 0 0 r_88703 := bn_w (bn_eq c_88712 (show bn 0 0 (0 : Int32) from bn_k (by decide))) (by decide)
      refine lv_aload_n hx hb dX12_swearClause_36 rfl (lv_at hl 1 rfl) ?_
      refine lv_bipush (v := 108) hx hb dX12_swearClause_37 (by decide) ?_
      refine lv_bipush (v := 101) hx hb dX12_swearClause_39 (by decide) ?_
      refine lv_bipush (v := 102) hx hb dX12_swearClause_41 (by decide) ?_
      refine lv_bipush (v := 116) hx hb dX12_swearClause_43 (by decide) ?_
      refine cSlp (As := [.int 108, .int 101, .int 102, .int 116]) (rest := [.ref (ad 0 0)]) S Y (x_X12_w4 (l := l) ) cw_X12_w4 km12_128 rfl ⟨Nat.le_of_ble_eq_true rfl, Nat.le_of_ble_eq_true rfl⟩ hl.1 rfl (Nat.le_of_ble_eq_true rfl) ⟨Nat.le_of_ble_eq_true rfl, Nat.le_of_ble_eq_true rfl⟩ dX12_swearClause_45 (fun r_88715 H locs er_88715 Y => ?_)
      refine cVp (As := [.long r_88715]) (rest := []) S Y (x_X12_isWord (l := l) I p_ad_0_0) cw_X12_isWord km12_187 p_ad_0_0 ok_X12.1 rfl rfl ⟨Nat.le_of_ble_eq_true rfl, Nat.le_of_ble_eq_true rfl⟩ hl.1 rfl (Nat.le_of_ble_eq_true rfl) ⟨Nat.le_of_ble_eq_true rfl, Nat.le_of_ble_eq_true rfl⟩ dX12_swearClause_48 (fun r_88716 H locs er_88716 Y => ?_)
      refine lv_istore_n (lv' := [(3, .int r_88716), (2, .int r_88703), (0, .ref (ad 0 0)), (1, .int i1)]) hx hb dX12_swearClause_51 rfl hl (by decide) rfl (fun ls hl => ?_)
      refine lv_iload_n hx hb dX12_swearClause_52 rfl (lv_at hl 0 rfl) ?_
      refine lv_if_ne (tgt := 78) hx hb dX12_swearClause_53 (by decide) (fun c_88717 => ?_) (fun c_88717 => ?_)
      · have B_88718 : bn 1 1 r_88716 := bn_w (bn_nel c_88717 er_88716.1 (show bn 0 0 (0 : Int32) from bn_k (by decide))) (by decide)
        refine lv_aload_n hx hb dX12_swearClause_78 rfl (lv_at hl 2 rfl) ?_
        refine pg_get S Y ok_X12 2 (by decide) kf12_16 (v := .ref (ad 3 0)) p_ad_0_0 rfl dX12_swearClause_79 ?_
        refine lv_iload_n hx hb dX12_swearClause_82 rfl (lv_at hl 3 rfl) ?_
        refine lv_iload_n hx hb dX12_swearClause_83 rfl (lv_at hl 0 rfl) ?_
        refine lv_if_eq (tgt := 91) hx hb dX12_swearClause_84 (by decide) (fun h => absurd h c_88717) (fun _ => ?_)
        refine lv_iconst (v := 4) hx hb dX12_swearClause_87 (by decide) ?_
        refine lv_goto (tgt := 92) hx hb dX12_swearClause_88 (by decide) ?_
        obtain ⟨g_88720, p_ad_3_0, o_88721⟩ := I.opi (k := 3) (j := 0) (by decide) rfl
        have p_ad_3_0 : pt L_88701 f_88702 (ad 3 0) (.inl (G.2 0, 2916, .inl g_88720)) := p_ad_3_0
        refine pg_iast S Y p_ad_3_0 (vp_bn b_i1 (by decide)) dX12_swearClause_92 (fun f_88723 H locs ef_88723 Y => ?_)
        obtain ⟨g_88722, eg_88722⟩ : ∃ z, z = upd (g_88720) (i1 : Int32).toNatClampNeg 4 := ⟨_, rfl⟩
        rw [← eg_88722] at ef_88723
        have p_ad_0_0 := p_ad_0_0.up ef_88723 (I.ne (k := 0) (j := 0) (k' := 3) (j' := 0) (by decide) (by decide) (Or.inl (by decide)))
        have p_ad_3_0 := p_ad_3_0.me ef_88723
        have o_88724 : (RN gB x0) g_88722 := (by rw [eg_88722]; exact RN_u0 o_88721 (by rw [tnc]; exact hx0) (by decide))
        have I := I.upS (sp' := spM PA PI (RN gB x0) pa) (k := 3) (j := 0) (by decide) ef_88723 (okE_a (g := g_88722) o_88724) pXC
        refine lv_aload_n hx hb dX12_swearClause_93 rfl (lv_at hl 2 rfl) ?_
        obtain ⟨g_88725, p_ad_4_0, o_88726⟩ := I.opi (k := 4) (j := 0) (by decide) rfl
        have p_ad_4_0 : pt L_88701 f_88723 (ad 4 0) (.inl (G.2 0, 300, .inl g_88725)) := p_ad_4_0
        obtain ⟨g_88727, p_ad_5_0, o_88728⟩ := I.opi (k := 5) (j := 0) (by decide) rfl
        have p_ad_5_0 : pt L_88701 f_88723 (ad 5 0) (.inl (G.2 0, 160, .inl g_88727)) := p_ad_5_0
        obtain ⟨g_88729, p_ad_6_0, o_88730⟩ := I.opi (k := 6) (j := 0) (by decide) rfl
        have p_ad_6_0 : pt L_88701 f_88723 (ad 6 0) (.inl (G.2 0, 9, .inl g_88729)) := p_ad_6_0
        refine cVv (As := []) (rest := []) S Y (x_X12_nextToken (l := l) I p_ad_0_0 p_ad_4_0 p_ad_5_0 p_ad_6_0) cw_X12_nextToken km12_166 p_ad_0_0 ok_X12.1 rfl rfl ⟨Nat.le_of_ble_eq_true rfl, Nat.le_of_ble_eq_true rfl⟩ hl.1 rfl (Nat.le_of_ble_eq_true rfl) ⟨Nat.le_of_ble_eq_true rfl, Nat.le_of_ble_eq_true rfl⟩ dX12_swearClause_94 (fun L_88731 f_88732 H locs hr_88733 Y => ?_)
        obtain ⟨v_88734, v_88735, v_88736, v_88737, v_88738, I, p_ad_0_0, p_ad_4_0, p_ad_5_0, p_ad_6_0, eT_88739, eP_88740⟩ := hr_88733
        obtain ⟨bfc88740_4, bfc88740_7, bfc88740_8, bfc88740_12, bfc88740_13, bfc88740_17, bfc88740_18, bfc88740_19, bfc88740_20, bfc88740_25⟩ := obM I p_ad_0_0
        refine lv_aload_n hx hb dX12_swearClause_97 rfl (lv_at hl 2 rfl) ?_
        refine lv_iload_n hx hb dX12_swearClause_98 rfl (lv_at hl 3 rfl) ?_
        refine lv_iconst (v := 3) hx hb dX12_swearClause_99 (by decide) ?_
        refine lv_iadd hx hb dX12_swearClause_100 ?_
        refine lv_topi (fun x_88742 ex_88742 => ?_)
        refine lv_iconst (v := 1) hx hb dX12_swearClause_101 (by decide) ?_
        refine lv_bipush (v := 9) hx hb dX12_swearClause_102 (by decide) ?_
        refine cVi (As := [.int x_88742, .int 1, .int 9]) (rest := []) S Y (x_X12_figure (l := l) I p_ad_0_0 (bn_w (bn_eq ex_88742 (bn_add b_i1 (show bn 3 3 (3 : Int32) from bn_k (by decide)) (by decide))) (by decide)) (by have z9 := (la_add ex_88742 (rfl : i1.toInt = i1.toInt) (show (3 : Int32).toInt = 3 from rfl) b_i1 (show bn 3 3 (3 : Int32) from bn_k (by decide)) (by decide)); have z8 := b_i1.1; omega) eT_88739) cw_X12_figure km12_215 p_ad_0_0 ok_X12.1 rfl rfl ⟨Nat.le_of_ble_eq_true rfl, Nat.le_of_ble_eq_true rfl⟩ hl.1 rfl (Nat.le_of_ble_eq_true rfl) ⟨Nat.le_of_ble_eq_true rfl, Nat.le_of_ble_eq_true rfl⟩ dX12_swearClause_104 (fun r_88745 L_88743 f_88744 H locs hr_88745 Y => ?_)
        obtain ⟨v_88746, v_88747, v_88748, v_88749, v_88750, er_88745, I, p_ad_0_0, eT_88751, eP_88752⟩ := hr_88745
        obtain ⟨bfc88752_4, bfc88752_7, bfc88752_8, bfc88752_12, bfc88752_13, bfc88752_17, bfc88752_18, bfc88752_19, bfc88752_20, bfc88752_25⟩ := obM I p_ad_0_0
        exact prI (post := fun r L1 f1 => ∃ at92 : Int32, ∃ ps92 : Int32, ∃ tk2 : Int32, ∃ nu2 : Int32, ∃ wd2 : Int64, bn 0 2 r ∧ SH (spM PA PI (RN gB x0) pa) nnM G ad L1 f1 ∧ pt L1 f1 (ad 0 0) (.inr (12, [.ref (ad 1 0), .ref (ad 2 0), .ref (ad 3 0), .ref (ad 4 0), .int td, .int fa, .int fp, .int at92, .int ps92, .int tk2, .int nu2, .long wd2, .int t0, .int wr, .int so, .ref (ad 5 0), .ref (ad 6 0), .int pd, .int op9, .int cg, .int iw, .int on9, .ref (ad 7 0), .ref (ad 8 0), .ref (ad 9 0), .int is9, .ref (ad 10 0), .ref (ad 11 0), .ref (ad 12 0), .ref (ad 13 0), .int se, .ref (ad 14 0)])) ∧ TK at92 ps92 tk2 ∧ ps9.toInt ≤ ps92.toInt) S Y rfl (by decide) (by decide) hA1 ⟨v_88746, v_88747, v_88748, v_88749, v_88750, bn_w er_88745 (by decide), I, p_ad_0_0, eT_88751, (by have c0 := hT.1; have c1 := eT_88693.1; have c2 := eP_88694; have c3 := eT_88709.1; have c4 := eP_88710; have c5 := eT_88739.1; have c6 := eP_88740; have c7 := eT_88751.1; have c8 := eP_88752; omega)⟩ dX12_swearClause_107
      · have B_88719 : bn 0 0 r_88716 := bn_w (bn_eq c_88717 (show bn 0 0 (0 : Int32) from bn_k (by decide))) (by decide)
        refine lv_aload_n hx hb dX12_swearClause_56 rfl (lv_at hl 2 rfl) ?_
        refine lv_bipush (v := 114) hx hb dX12_swearClause_57 (by decide) ?_
        refine lv_bipush (v := 105) hx hb dX12_swearClause_59 (by decide) ?_
        refine lv_bipush (v := 103) hx hb dX12_swearClause_61 (by decide) ?_
        refine lv_bipush (v := 104) hx hb dX12_swearClause_63 (by decide) ?_
        refine lv_bipush (v := 116) hx hb dX12_swearClause_65 (by decide) ?_
        refine cSlp (As := [.int 114, .int 105, .int 103, .int 104, .int 116]) (rest := [.ref (ad 0 0)]) S Y (x_X12_w5 (l := l) ) cw_X12_w5 km12_132 rfl ⟨Nat.le_of_ble_eq_true rfl, Nat.le_of_ble_eq_true rfl⟩ hl.1 rfl (Nat.le_of_ble_eq_true rfl) ⟨Nat.le_of_ble_eq_true rfl, Nat.le_of_ble_eq_true rfl⟩ dX12_swearClause_67 (fun r_88754 H locs er_88754 Y => ?_)
        refine cVp (As := [.long r_88754]) (rest := []) S Y (x_X12_isWord (l := l) I p_ad_0_0) cw_X12_isWord km12_187 p_ad_0_0 ok_X12.1 rfl rfl ⟨Nat.le_of_ble_eq_true rfl, Nat.le_of_ble_eq_true rfl⟩ hl.1 rfl (Nat.le_of_ble_eq_true rfl) ⟨Nat.le_of_ble_eq_true rfl, Nat.le_of_ble_eq_true rfl⟩ dX12_swearClause_70 (fun r_88755 H locs er_88755 Y => ?_)
        refine lv_if_ne (tgt := 78) hx hb dX12_swearClause_73 (by decide) (fun c_88756 => ?_) (fun c_88756 => ?_)
        · have B_88757 : bn 1 1 r_88755 := bn_w (bn_nel c_88756 er_88755.1 (show bn 0 0 (0 : Int32) from bn_k (by decide))) (by decide)
          refine lv_aload_n hx hb dX12_swearClause_78 rfl (lv_at hl 2 rfl) ?_
          refine pg_get S Y ok_X12 2 (by decide) kf12_16 (v := .ref (ad 3 0)) p_ad_0_0 rfl dX12_swearClause_79 ?_
          refine lv_iload_n hx hb dX12_swearClause_82 rfl (lv_at hl 3 rfl) ?_
          refine lv_iload_n hx hb dX12_swearClause_83 rfl (lv_at hl 0 rfl) ?_
          refine lv_if_eq (tgt := 91) hx hb dX12_swearClause_84 (by decide) (fun _ => ?_) (fun h => absurd c_88717 h)
          refine lv_iconst (v := 5) hx hb dX12_swearClause_91 (by decide) ?_
          obtain ⟨g_88759, p_ad_3_0, o_88760⟩ := I.opi (k := 3) (j := 0) (by decide) rfl
          have p_ad_3_0 : pt L_88701 f_88702 (ad 3 0) (.inl (G.2 0, 2916, .inl g_88759)) := p_ad_3_0
          refine pg_iast S Y p_ad_3_0 (vp_bn b_i1 (by decide)) dX12_swearClause_92 (fun f_88762 H locs ef_88762 Y => ?_)
          obtain ⟨g_88761, eg_88761⟩ : ∃ z, z = upd (g_88759) (i1 : Int32).toNatClampNeg 5 := ⟨_, rfl⟩
          rw [← eg_88761] at ef_88762
          have p_ad_0_0 := p_ad_0_0.up ef_88762 (I.ne (k := 0) (j := 0) (k' := 3) (j' := 0) (by decide) (by decide) (Or.inl (by decide)))
          have p_ad_3_0 := p_ad_3_0.me ef_88762
          have o_88763 : (RN gB x0) g_88761 := (by rw [eg_88761]; exact RN_u0 o_88760 (by rw [tnc]; exact hx0) (by decide))
          have I := I.upS (sp' := spM PA PI (RN gB x0) pa) (k := 3) (j := 0) (by decide) ef_88762 (okE_a (g := g_88761) o_88763) pXC
          refine lv_aload_n hx hb dX12_swearClause_93 rfl (lv_at hl 2 rfl) ?_
          obtain ⟨g_88764, p_ad_4_0, o_88765⟩ := I.opi (k := 4) (j := 0) (by decide) rfl
          have p_ad_4_0 : pt L_88701 f_88762 (ad 4 0) (.inl (G.2 0, 300, .inl g_88764)) := p_ad_4_0
          obtain ⟨g_88766, p_ad_5_0, o_88767⟩ := I.opi (k := 5) (j := 0) (by decide) rfl
          have p_ad_5_0 : pt L_88701 f_88762 (ad 5 0) (.inl (G.2 0, 160, .inl g_88766)) := p_ad_5_0
          obtain ⟨g_88768, p_ad_6_0, o_88769⟩ := I.opi (k := 6) (j := 0) (by decide) rfl
          have p_ad_6_0 : pt L_88701 f_88762 (ad 6 0) (.inl (G.2 0, 9, .inl g_88768)) := p_ad_6_0
          refine cVv (As := []) (rest := []) S Y (x_X12_nextToken (l := l) I p_ad_0_0 p_ad_4_0 p_ad_5_0 p_ad_6_0) cw_X12_nextToken km12_166 p_ad_0_0 ok_X12.1 rfl rfl ⟨Nat.le_of_ble_eq_true rfl, Nat.le_of_ble_eq_true rfl⟩ hl.1 rfl (Nat.le_of_ble_eq_true rfl) ⟨Nat.le_of_ble_eq_true rfl, Nat.le_of_ble_eq_true rfl⟩ dX12_swearClause_94 (fun L_88770 f_88771 H locs hr_88772 Y => ?_)
          obtain ⟨v_88773, v_88774, v_88775, v_88776, v_88777, I, p_ad_0_0, p_ad_4_0, p_ad_5_0, p_ad_6_0, eT_88778, eP_88779⟩ := hr_88772
          obtain ⟨bfc88779_4, bfc88779_7, bfc88779_8, bfc88779_12, bfc88779_13, bfc88779_17, bfc88779_18, bfc88779_19, bfc88779_20, bfc88779_25⟩ := obM I p_ad_0_0
          refine lv_aload_n hx hb dX12_swearClause_97 rfl (lv_at hl 2 rfl) ?_
          refine lv_iload_n hx hb dX12_swearClause_98 rfl (lv_at hl 3 rfl) ?_
          refine lv_iconst (v := 3) hx hb dX12_swearClause_99 (by decide) ?_
          refine lv_iadd hx hb dX12_swearClause_100 ?_
          refine lv_topi (fun x_88781 ex_88781 => ?_)
          refine lv_iconst (v := 1) hx hb dX12_swearClause_101 (by decide) ?_
          refine lv_bipush (v := 9) hx hb dX12_swearClause_102 (by decide) ?_
          refine cVi (As := [.int x_88781, .int 1, .int 9]) (rest := []) S Y (x_X12_figure (l := l) I p_ad_0_0 (bn_w (bn_eq ex_88781 (bn_add b_i1 (show bn 3 3 (3 : Int32) from bn_k (by decide)) (by decide))) (by decide)) (by have z9 := (la_add ex_88781 (rfl : i1.toInt = i1.toInt) (show (3 : Int32).toInt = 3 from rfl) b_i1 (show bn 3 3 (3 : Int32) from bn_k (by decide)) (by decide)); have z8 := b_i1.1; omega) eT_88778) cw_X12_figure km12_215 p_ad_0_0 ok_X12.1 rfl rfl ⟨Nat.le_of_ble_eq_true rfl, Nat.le_of_ble_eq_true rfl⟩ hl.1 rfl (Nat.le_of_ble_eq_true rfl) ⟨Nat.le_of_ble_eq_true rfl, Nat.le_of_ble_eq_true rfl⟩ dX12_swearClause_104 (fun r_88784 L_88782 f_88783 H locs hr_88784 Y => ?_)
          obtain ⟨v_88785, v_88786, v_88787, v_88788, v_88789, er_88784, I, p_ad_0_0, eT_88790, eP_88791⟩ := hr_88784
          obtain ⟨bfc88791_4, bfc88791_7, bfc88791_8, bfc88791_12, bfc88791_13, bfc88791_17, bfc88791_18, bfc88791_19, bfc88791_20, bfc88791_25⟩ := obM I p_ad_0_0
          exact prI (post := fun r L1 f1 => ∃ at92 : Int32, ∃ ps92 : Int32, ∃ tk2 : Int32, ∃ nu2 : Int32, ∃ wd2 : Int64, bn 0 2 r ∧ SH (spM PA PI (RN gB x0) pa) nnM G ad L1 f1 ∧ pt L1 f1 (ad 0 0) (.inr (12, [.ref (ad 1 0), .ref (ad 2 0), .ref (ad 3 0), .ref (ad 4 0), .int td, .int fa, .int fp, .int at92, .int ps92, .int tk2, .int nu2, .long wd2, .int t0, .int wr, .int so, .ref (ad 5 0), .ref (ad 6 0), .int pd, .int op9, .int cg, .int iw, .int on9, .ref (ad 7 0), .ref (ad 8 0), .ref (ad 9 0), .int is9, .ref (ad 10 0), .ref (ad 11 0), .ref (ad 12 0), .ref (ad 13 0), .int se, .ref (ad 14 0)])) ∧ TK at92 ps92 tk2 ∧ ps9.toInt ≤ ps92.toInt) S Y rfl (by decide) (by decide) hA1 ⟨v_88785, v_88786, v_88787, v_88788, v_88789, bn_w er_88784 (by decide), I, p_ad_0_0, eT_88790, (by have c0 := hT.1; have c1 := eT_88693.1; have c2 := eP_88694; have c3 := eT_88709.1; have c4 := eP_88710; have c5 := eT_88778.1; have c6 := eP_88779; have c7 := eT_88790.1; have c8 := eP_88791; omega)⟩ dX12_swearClause_107
        · have B_88758 : bn 0 0 r_88755 := bn_w (bn_eq c_88756 (show bn 0 0 (0 : Int32) from bn_k (by decide))) (by decide)
          refine lv_iconst (v := 1) hx hb dX12_swearClause_76 (by decide) ?_
          exact prI (post := fun r L1 f1 => ∃ at92 : Int32, ∃ ps92 : Int32, ∃ tk2 : Int32, ∃ nu2 : Int32, ∃ wd2 : Int64, bn 0 2 r ∧ SH (spM PA PI (RN gB x0) pa) nnM G ad L1 f1 ∧ pt L1 f1 (ad 0 0) (.inr (12, [.ref (ad 1 0), .ref (ad 2 0), .ref (ad 3 0), .ref (ad 4 0), .int td, .int fa, .int fp, .int at92, .int ps92, .int tk2, .int nu2, .long wd2, .int t0, .int wr, .int so, .ref (ad 5 0), .ref (ad 6 0), .int pd, .int op9, .int cg, .int iw, .int on9, .ref (ad 7 0), .ref (ad 8 0), .ref (ad 9 0), .int is9, .ref (ad 10 0), .ref (ad 11 0), .ref (ad 12 0), .ref (ad 13 0), .int se, .ref (ad 14 0)])) ∧ TK at92 ps92 tk2 ∧ ps9.toInt ≤ ps92.toInt) S Y rfl (by decide) (by decide) hA1 ⟨v_88704, v_88705, v_88706, v_88707, v_88708, bn_w (show bn 1 1 (1 : Int32) from bn_k (by decide)) (by decide), I, p_ad_0_0, eT_88709, (by have c0 := hT.1; have c1 := eT_88693.1; have c2 := eP_88694; have c3 := eT_88709.1; have c4 := eP_88710; omega)⟩ dX12_swearClause_77
    · have B_88714 : bn 1 2 r_88703 := bn_w (bn_nel c_88712 er_88703 (show bn 0 0 (0 : Int32) from bn_k (by decide))) (by decide)
      refine lv_iload_n hx hb dX12_swearClause_34 rfl (lv_at hl 0 rfl) ?_
      exact prI (post := fun r L1 f1 => ∃ at92 : Int32, ∃ ps92 : Int32, ∃ tk2 : Int32, ∃ nu2 : Int32, ∃ wd2 : Int64, bn 0 2 r ∧ SH (spM PA PI (RN gB x0) pa) nnM G ad L1 f1 ∧ pt L1 f1 (ad 0 0) (.inr (12, [.ref (ad 1 0), .ref (ad 2 0), .ref (ad 3 0), .ref (ad 4 0), .int td, .int fa, .int fp, .int at92, .int ps92, .int tk2, .int nu2, .long wd2, .int t0, .int wr, .int so, .ref (ad 5 0), .ref (ad 6 0), .int pd, .int op9, .int cg, .int iw, .int on9, .ref (ad 7 0), .ref (ad 8 0), .ref (ad 9 0), .int is9, .ref (ad 10 0), .ref (ad 11 0), .ref (ad 12 0), .ref (ad 13 0), .int se, .ref (ad 14 0)])) ∧ TK at92 ps92 tk2 ∧ ps9.toInt ≤ ps92.toInt) S Y rfl (by decide) (by decide) hA1 ⟨v_88704, v_88705, v_88706, v_88707, v_88708, bn_w B_88714 (by decide), I, p_ad_0_0, eT_88709, (by have c0 := hT.1; have c1 := eT_88693.1; have c2 := eP_88694; have c3 := eT_88709.1; have c4 := eP_88710; omega)⟩ dX12_swearClause_35
set_option maxHeartbeats 4000000 in
set_option maxRecDepth 100000 in
theorem x_X12_lawClause {l : Launch} {G : GG}  {L : List Nat} {f : HF} {ad : Nat → Nat → Nat} {pa : (Nat → Int32) → Prop} {PA : (Nat → Int32) → Prop} {PI : (Nat → Int32) → Prop} {i1 : Int32} {td fa fp at9 ps9 tk nu t0 wr so pd op9 cg iw on9 is9 se : Int32} {wd : Int64} {gA : Nat → Int32} {x0 : Nat} (I : SH (spM PA PI (EQ gA) pa) nnM G ad L f) (p_ad_0_0 : pt L f (ad 0 0) (.inr (12, [.ref (ad 1 0), .ref (ad 2 0), .ref (ad 3 0), .ref (ad 4 0), .int td, .int fa, .int fp, .int at9, .int ps9, .int tk, .int nu, .long wd, .int t0, .int wr, .int so, .ref (ad 5 0), .ref (ad 6 0), .int pd, .int op9, .int cg, .int iw, .int on9, .ref (ad 7 0), .ref (ad 8 0), .ref (ad 9 0), .int is9, .ref (ad 10 0), .ref (ad 11 0), .ref (ad 12 0), .ref (ad 13 0), .int se, .ref (ad 14 0)]))) (b_i1 : bn 0 2400 i1) (hx0 : i1.toInt.toNat = x0) (hxt : i1.toInt + 5 ≤ t0.toInt + 121) (hroom : wr.toInt ≤ ps9.toInt) (hT : TK at9 ps9 tk) : PMi l yX12_lawClause cX12_lawClause 3 .int 7 0 0 G [.ref (ad 0 0), .int i1] L f (fun r L1 f1 => ∃ at92 : Int32, ∃ ps92 : Int32, ∃ tk2 : Int32, ∃ nu2 : Int32, ∃ wd2 : Int64, ∃ wr2 : Int32, ∃ pd2 : Int32, ∃ op92 : Int32, ∃ cg2 : Int32, ∃ iw2 : Int32, bn 0 7 r ∧ SH (spM PA PI (LC r gA x0 t0 wr wr2) pa) nnM G ad L1 f1 ∧ pt L1 f1 (ad 0 0) (.inr (12, [.ref (ad 1 0), .ref (ad 2 0), .ref (ad 3 0), .ref (ad 4 0), .int td, .int fa, .int fp, .int at92, .int ps92, .int tk2, .int nu2, .long wd2, .int t0, .int wr2, .int so, .ref (ad 5 0), .ref (ad 6 0), .int pd2, .int op92, .int cg2, .int iw2, .int on9, .ref (ad 7 0), .ref (ad 8 0), .ref (ad 9 0), .int is9, .ref (ad 10 0), .ref (ad 11 0), .ref (ad 12 0), .ref (ad 13 0), .int se, .ref (ad 14 0)])) ∧ TK at92 ps92 tk2 ∧ (r.toInt = 0 → ps9.toInt ≤ ps92.toInt) ∧ (r.toInt = 0 → wr2.toInt ≤ ps92.toInt)) := by
  refine PMi.of (post := fun r L1 f1 => ∃ at92 : Int32, ∃ ps92 : Int32, ∃ tk2 : Int32, ∃ nu2 : Int32, ∃ wd2 : Int64, ∃ wr2 : Int32, ∃ pd2 : Int32, ∃ op92 : Int32, ∃ cg2 : Int32, ∃ iw2 : Int32, bn 0 7 r ∧ SH (spM PA PI (LC r gA x0 t0 wr wr2) pa) nnM G ad L1 f1 ∧ pt L1 f1 (ad 0 0) (.inr (12, [.ref (ad 1 0), .ref (ad 2 0), .ref (ad 3 0), .ref (ad 4 0), .int td, .int fa, .int fp, .int at92, .int ps92, .int tk2, .int nu2, .long wd2, .int t0, .int wr2, .int so, .ref (ad 5 0), .ref (ad 6 0), .int pd2, .int op92, .int cg2, .int iw2, .int on9, .ref (ad 7 0), .ref (ad 8 0), .ref (ad 9 0), .int is9, .ref (ad 10 0), .ref (ad 11 0), .ref (ad 12 0), .ref (ad 13 0), .int se, .ref (ad 14 0)])) ∧ TK at92 ps92 tk2 ∧ (r.toInt = 0 → ps9.toInt ≤ ps92.toInt) ∧ (r.toInt = 0 → wr2.toInt ≤ ps92.toInt)) (own := RX12) (by decide) rfl (Nat.le_of_ble_eq_true rfl) (fun sz p e s m args below meth c A ls hA1 hname S Y hl => ?_)
  have hx := S.hx
  have hb := S.hb
  have hl : lv_has ls 3 [(0, .ref (ad 0 0)), (1, .int i1)] := hl
  obtain ⟨bfe_4, bfe_7, bfe_8, bfe_12, bfe_13, bfe_17, bfe_18, bfe_19, bfe_20, bfe_25⟩ := obM I p_ad_0_0
  refine lv_aload_n hx hb dX12_lawClause_0 rfl (lv_at hl 0 rfl) ?_
  refine pg_get S Y ok_X12 2 (by decide) kf12_16 (v := .ref (ad 3 0)) p_ad_0_0 rfl dX12_lawClause_1 ?_
  refine lv_iload_n hx hb dX12_lawClause_4 rfl (lv_at hl 1 rfl) ?_
  refine lv_iconst (v := 1) hx hb dX12_lawClause_5 (by decide) ?_
  refine lv_iadd hx hb dX12_lawClause_6 ?_
  refine lv_topi (fun x_88863 ex_88863 => ?_)
  refine lv_aload_n hx hb dX12_lawClause_7 rfl (lv_at hl 0 rfl) ?_
  refine pg_get S Y ok_X12 13 (by decide) kf12_139 (v := .int wr) p_ad_0_0 rfl dX12_lawClause_8 ?_
  obtain ⟨g_88864, p_ad_3_0, o_88865⟩ := I.opi (k := 3) (j := 0) (by decide) rfl
  have p_ad_3_0 : pt L f (ad 3 0) (.inl (G.2 0, 2916, .inl g_88864)) := p_ad_3_0
  refine pg_iast S Y p_ad_3_0 (vp_bn (bn_eq ex_88863 (bn_add b_i1 (show bn 1 1 (1 : Int32) from bn_k (by decide)) (by decide))) (by decide)) dX12_lawClause_11 (fun f_88867 H locs ef_88867 Y => ?_)
  obtain ⟨g_88866, eg_88866⟩ : ∃ z, z = upd (g_88864) (x_88863 : Int32).toNatClampNeg wr := ⟨_, rfl⟩
  rw [← eg_88866] at ef_88867
  have p_ad_0_0 := p_ad_0_0.up ef_88867 (I.ne (k := 0) (j := 0) (k' := 3) (j' := 0) (by decide) (by decide) (Or.inl (by decide)))
  have p_ad_3_0 := p_ad_3_0.me ef_88867
  have o_88868 : (EQ g_88866) g_88866 := rfl
  have I := I.upS (sp' := spM PA PI (EQ g_88866) pa) (k := 3) (j := 0) (by decide) ef_88867 (okE_a (g := g_88866) o_88868) pXC
  have hgB : g_88866 = upd gA (x_88863 : Int32).toNatClampNeg wr := by rw [eg_88866, show g_88864 = gA from o_88865]
  refine lv_aload_n hx hb dX12_lawClause_12 rfl (lv_at hl 0 rfl) ?_
  obtain ⟨g_88869, p_ad_5_0, o_88870⟩ := I.opi (k := 5) (j := 0) (by decide) rfl
  have p_ad_5_0 : pt L f_88867 (ad 5 0) (.inl (G.2 0, 160, .inl g_88869)) := p_ad_5_0
  obtain ⟨g_88871, p_ad_6_0, o_88872⟩ := I.opi (k := 6) (j := 0) (by decide) rfl
  have p_ad_6_0 : pt L f_88867 (ad 6 0) (.inl (G.2 0, 9, .inl g_88871)) := p_ad_6_0
  refine cVi (As := []) (rest := []) S Y (x_X12_summed (l := l) I p_ad_0_0 p_ad_5_0 p_ad_6_0 hroom hT) cw_X12_summed km12_219 p_ad_0_0 ok_X12.1 rfl rfl ⟨Nat.le_of_ble_eq_true rfl, Nat.le_of_ble_eq_true rfl⟩ hl.1 rfl (Nat.le_of_ble_eq_true rfl) ⟨Nat.le_of_ble_eq_true rfl, Nat.le_of_ble_eq_true rfl⟩ dX12_lawClause_13 (fun r_88875 L_88873 f_88874 H locs hr_88875 Y => ?_)
  obtain ⟨v_88876, v_88877, v_88878, v_88879, v_88880, v_88881, v_88882, v_88883, v_88884, v_88885, g_88886, g_88887, er_88875, I, p_ad_0_0, p_ad_5_0, p_ad_6_0, eT_88888, eQ_88889, eW_88890⟩ := hr_88875
  obtain ⟨bfc88890_4, bfc88890_7, bfc88890_8, bfc88890_12, bfc88890_13, bfc88890_17, bfc88890_18, bfc88890_19, bfc88890_20, bfc88890_25⟩ := obM I p_ad_0_0
  refine lv_istore_n (lv' := [(2, .int r_88875), (0, .ref (ad 0 0)), (1, .int i1)]) hx hb dX12_lawClause_16 rfl hl (by decide) rfl (fun ls hl => ?_)
  refine lv_aload_n hx hb dX12_lawClause_17 rfl (lv_at hl 1 rfl) ?_
  refine pg_get S Y ok_X12 2 (by decide) kf12_16 (v := .ref (ad 3 0)) p_ad_0_0 rfl dX12_lawClause_18 ?_
  refine lv_iload_n hx hb dX12_lawClause_21 rfl (lv_at hl 2 rfl) ?_
  refine lv_iconst (v := 2) hx hb dX12_lawClause_22 (by decide) ?_
  refine lv_iadd hx hb dX12_lawClause_23 ?_
  refine lv_topi (fun x_88892 ex_88892 => ?_)
  refine lv_aload_n hx hb dX12_lawClause_24 rfl (lv_at hl 1 rfl) ?_
  refine pg_get S Y ok_X12 13 (by decide) kf12_139 (v := .int v_88881) p_ad_0_0 rfl dX12_lawClause_25 ?_
  obtain ⟨g_88893, p_ad_3_0, o_88894⟩ := I.opi (k := 3) (j := 0) (by decide) rfl
  have p_ad_3_0 : pt L_88873 f_88874 (ad 3 0) (.inl (G.2 0, 2916, .inl g_88893)) := p_ad_3_0
  refine pg_iast S Y p_ad_3_0 (vp_bn (bn_eq ex_88892 (bn_add b_i1 (show bn 2 2 (2 : Int32) from bn_k (by decide)) (by decide))) (by decide)) dX12_lawClause_28 (fun f_88896 H locs ef_88896 Y => ?_)
  obtain ⟨g_88895, eg_88895⟩ : ∃ z, z = upd (g_88893) (x_88892 : Int32).toNatClampNeg v_88881 := ⟨_, rfl⟩
  rw [← eg_88895] at ef_88896
  have p_ad_0_0 := p_ad_0_0.up ef_88896 (I.ne (k := 0) (j := 0) (k' := 3) (j' := 0) (by decide) (by decide) (Or.inl (by decide)))
  have p_ad_5_0 := p_ad_5_0.up ef_88896 (I.ne (k := 5) (j := 0) (k' := 3) (j' := 0) (by decide) (by decide) (Or.inl (by decide)))
  have p_ad_6_0 := p_ad_6_0.up ef_88896 (I.ne (k := 6) (j := 0) (k' := 3) (j' := 0) (by decide) (by decide) (Or.inl (by decide)))
  have p_ad_3_0 := p_ad_3_0.me ef_88896
  have o_88897 : (LC r_88875 gA x0 t0 wr v_88881) g_88895 := (LC_mk o_88894 hgB eg_88895 (by have z9 := (la_add ex_88863 (rfl : i1.toInt = i1.toInt) (show (1 : Int32).toInt = 1 from rfl) b_i1 (show bn 1 1 (1 : Int32) from bn_k (by decide)) (by decide)); have z8 := b_i1.1; rw [tnc]; omega) (by have z9 := (la_add ex_88892 (rfl : i1.toInt = i1.toInt) (show (2 : Int32).toInt = 2 from rfl) b_i1 (show bn 2 2 (2 : Int32) from bn_k (by decide)) (by decide)); have z8 := b_i1.1; rw [tnc]; omega) (by have z8 := b_i1.1; omega))
  have I := I.upS (sp' := spM PA PI (LC r_88875 gA x0 t0 wr v_88881) pa) (k := 3) (j := 0) (by decide) ef_88896 (okE_a (g := g_88895) o_88897) pXC
  refine lv_iload_n hx hb dX12_lawClause_29 rfl (lv_at hl 0 rfl) ?_
  exact prI (post := fun r L1 f1 => ∃ at92 : Int32, ∃ ps92 : Int32, ∃ tk2 : Int32, ∃ nu2 : Int32, ∃ wd2 : Int64, ∃ wr2 : Int32, ∃ pd2 : Int32, ∃ op92 : Int32, ∃ cg2 : Int32, ∃ iw2 : Int32, bn 0 7 r ∧ SH (spM PA PI (LC r gA x0 t0 wr wr2) pa) nnM G ad L1 f1 ∧ pt L1 f1 (ad 0 0) (.inr (12, [.ref (ad 1 0), .ref (ad 2 0), .ref (ad 3 0), .ref (ad 4 0), .int td, .int fa, .int fp, .int at92, .int ps92, .int tk2, .int nu2, .long wd2, .int t0, .int wr2, .int so, .ref (ad 5 0), .ref (ad 6 0), .int pd2, .int op92, .int cg2, .int iw2, .int on9, .ref (ad 7 0), .ref (ad 8 0), .ref (ad 9 0), .int is9, .ref (ad 10 0), .ref (ad 11 0), .ref (ad 12 0), .ref (ad 13 0), .int se, .ref (ad 14 0)])) ∧ TK at92 ps92 tk2 ∧ (r.toInt = 0 → ps9.toInt ≤ ps92.toInt) ∧ (r.toInt = 0 → wr2.toInt ≤ ps92.toInt)) S Y rfl (by decide) (by decide) hA1 ⟨v_88876, v_88877, v_88878, v_88879, v_88880, v_88881, v_88882, v_88883, v_88884, v_88885, bn_w er_88875 (by decide), I, p_ad_0_0, eT_88888, eQ_88889, eW_88890⟩ dX12_lawClause_30
set_option maxHeartbeats 4000000 in
set_option maxRecDepth 100000 in
theorem x_X12_body {l : Launch} {G : GG}  {L : List Nat} {f : HF} {ad : Nat → Nat → Nat} {pa : (Nat → Int32) → Prop} {PA : (Nat → Int32) → Prop} {PI : (Nat → Int32) → Prop} {i1 i2 : Int32} {td fa fp at9 ps9 tk nu t0 wr so pd op9 cg iw on9 is9 se : Int32} {wd : Int64} {gA : Nat → Int32} {x0 : Nat} (I : SH (spM PA PI (EQ gA) pa) nnM G ad L f) (p_ad_0_0 : pt L f (ad 0 0) (.inr (12, [.ref (ad 1 0), .ref (ad 2 0), .ref (ad 3 0), .ref (ad 4 0), .int td, .int fa, .int fp, .int at9, .int ps9, .int tk, .int nu, .long wd, .int t0, .int wr, .int so, .ref (ad 5 0), .ref (ad 6 0), .int pd, .int op9, .int cg, .int iw, .int on9, .ref (ad 7 0), .ref (ad 8 0), .ref (ad 9 0), .int is9, .ref (ad 10 0), .ref (ad 11 0), .ref (ad 12 0), .ref (ad 13 0), .int se, .ref (ad 14 0)]))) (b_i1 : bn 0 10 i1) (b_i2 : bn 0 2400 i2) (hs : gA x0 = i1) (hx0 : i2.toInt.toNat = x0) (hxt : i2.toInt + 5 ≤ t0.toInt + 121) (hroom : wr.toInt ≤ ps9.toInt) (hT : TK at9 ps9 tk) : PMi l yX12_body cX12_body 3 .int 8 0 0 G [.ref (ad 0 0), .int i1, .int i2] L f (fun r L1 f1 => ∃ at92 : Int32, ∃ ps92 : Int32, ∃ tk2 : Int32, ∃ nu2 : Int32, ∃ wd2 : Int64, ∃ wr2 : Int32, ∃ pd2 : Int32, ∃ op92 : Int32, ∃ cg2 : Int32, ∃ iw2 : Int32, bn 0 7 r ∧ SH (spM PA PI (BD r gA x0 t0 wr wr2) pa) nnM G ad L1 f1 ∧ pt L1 f1 (ad 0 0) (.inr (12, [.ref (ad 1 0), .ref (ad 2 0), .ref (ad 3 0), .ref (ad 4 0), .int td, .int fa, .int fp, .int at92, .int ps92, .int tk2, .int nu2, .long wd2, .int t0, .int wr2, .int so, .ref (ad 5 0), .ref (ad 6 0), .int pd2, .int op92, .int cg2, .int iw2, .int on9, .ref (ad 7 0), .ref (ad 8 0), .ref (ad 9 0), .int is9, .ref (ad 10 0), .ref (ad 11 0), .ref (ad 12 0), .ref (ad 13 0), .int se, .ref (ad 14 0)])) ∧ TK at92 ps92 tk2 ∧ (r.toInt = 0 → ps9.toInt ≤ ps92.toInt) ∧ (r.toInt = 0 → wr2.toInt ≤ ps92.toInt)) := by
  refine PMi.of (post := fun r L1 f1 => ∃ at92 : Int32, ∃ ps92 : Int32, ∃ tk2 : Int32, ∃ nu2 : Int32, ∃ wd2 : Int64, ∃ wr2 : Int32, ∃ pd2 : Int32, ∃ op92 : Int32, ∃ cg2 : Int32, ∃ iw2 : Int32, bn 0 7 r ∧ SH (spM PA PI (BD r gA x0 t0 wr wr2) pa) nnM G ad L1 f1 ∧ pt L1 f1 (ad 0 0) (.inr (12, [.ref (ad 1 0), .ref (ad 2 0), .ref (ad 3 0), .ref (ad 4 0), .int td, .int fa, .int fp, .int at92, .int ps92, .int tk2, .int nu2, .long wd2, .int t0, .int wr2, .int so, .ref (ad 5 0), .ref (ad 6 0), .int pd2, .int op92, .int cg2, .int iw2, .int on9, .ref (ad 7 0), .ref (ad 8 0), .ref (ad 9 0), .int is9, .ref (ad 10 0), .ref (ad 11 0), .ref (ad 12 0), .ref (ad 13 0), .int se, .ref (ad 14 0)])) ∧ TK at92 ps92 tk2 ∧ (r.toInt = 0 → ps9.toInt ≤ ps92.toInt) ∧ (r.toInt = 0 → wr2.toInt ≤ ps92.toInt)) (own := RX12) (by decide) rfl (Nat.le_of_ble_eq_true rfl) (fun sz p e s m args below meth c A ls hA1 hname S Y hl => ?_)
  have hx := S.hx
  have hb := S.hb
  have hl : lv_has ls 3 [(0, .ref (ad 0 0)), (1, .int i1), (2, .int i2)] := hl
  obtain ⟨bfe_4, bfe_7, bfe_8, bfe_12, bfe_13, bfe_17, bfe_18, bfe_19, bfe_20, bfe_25⟩ := obM I p_ad_0_0
  refine lv_iload_n hx hb dX12_body_0 rfl (lv_at hl 1 rfl) ?_
  rcases swM_3_10 i1 with h_89236 | h_89236 | h_89236 | h_89236 | h_89236 | h_89236 | h_89236 | h_89236 | h_89236
  · refine lv_fold (z := 3) h_89236 ?_
    refine lv_tableIn (off := 47) (tgt := 48) hx hb dX12_body_1 (by decide) (by decide) (by decide) (by decide) ?_
    refine lv_aload_n hx hb dX12_body_48 rfl (lv_at hl 0 rfl) ?_
    refine lv_iload_n hx hb dX12_body_49 rfl (lv_at hl 2 rfl) ?_
    obtain ⟨g_89237, p_ad_3_0, o_89238⟩ := I.opi (k := 3) (j := 0) (by decide) rfl
    have p_ad_3_0 : pt L f (ad 3 0) (.inl (G.2 0, 2916, .inl g_89237)) := p_ad_3_0
    have o_89239 : (RN gA x0) g_89237 := (RN_eq o_89238 hs (by have z9 := ((bn_eq h_89236 (show bn 3 3 (3 : Int32) from bn_k (by decide)))).1; omega))
    have I := I.castS (sp' := spM PA PI (RN gA x0) pa) (k := 3) (j := 0) (by decide) p_ad_3_0 (okE_a (g := g_89237) o_89239) pXC
    refine cVi (As := [.int i2]) (rest := []) S Y (x_X12_oneClause (l := l) I p_ad_0_0 (bn_w b_i2 (by decide)) hx0 hT) cw_X12_oneClause km12_226 p_ad_0_0 ok_X12.1 rfl rfl ⟨Nat.le_of_ble_eq_true rfl, Nat.le_of_ble_eq_true rfl⟩ hl.1 rfl (Nat.le_of_ble_eq_true rfl) ⟨Nat.le_of_ble_eq_true rfl, Nat.le_of_ble_eq_true rfl⟩ dX12_body_50 (fun r_89242 L_89240 f_89241 H locs hr_89242 Y => ?_)
    obtain ⟨v_89243, v_89244, v_89245, v_89246, v_89247, er_89242, I, p_ad_0_0, eT_89248, eP_89249⟩ := hr_89242
    obtain ⟨bfc89249_4, bfc89249_7, bfc89249_8, bfc89249_12, bfc89249_13, bfc89249_17, bfc89249_18, bfc89249_19, bfc89249_20, bfc89249_25⟩ := obM I p_ad_0_0
    obtain ⟨g_89251, p_ad_3_0, o_89252⟩ := I.opi (k := 3) (j := 0) (by decide) rfl
    have p_ad_3_0 : pt L_89240 f_89241 (ad 3 0) (.inl (G.2 0, 2916, .inl g_89251)) := p_ad_3_0
    have o_89253 : (BD r_89242 gA x0 t0 wr wr) g_89251 := (BD_rn o_89252)
    have I := I.castS (sp' := spM PA PI (BD r_89242 gA x0 t0 wr wr) pa) (k := 3) (j := 0) (by decide) p_ad_3_0 (okE_a (g := g_89251) o_89253) pXC
    exact prI (post := fun r L1 f1 => ∃ at92 : Int32, ∃ ps92 : Int32, ∃ tk2 : Int32, ∃ nu2 : Int32, ∃ wd2 : Int64, ∃ wr2 : Int32, ∃ pd2 : Int32, ∃ op92 : Int32, ∃ cg2 : Int32, ∃ iw2 : Int32, bn 0 7 r ∧ SH (spM PA PI (BD r gA x0 t0 wr wr2) pa) nnM G ad L1 f1 ∧ pt L1 f1 (ad 0 0) (.inr (12, [.ref (ad 1 0), .ref (ad 2 0), .ref (ad 3 0), .ref (ad 4 0), .int td, .int fa, .int fp, .int at92, .int ps92, .int tk2, .int nu2, .long wd2, .int t0, .int wr2, .int so, .ref (ad 5 0), .ref (ad 6 0), .int pd2, .int op92, .int cg2, .int iw2, .int on9, .ref (ad 7 0), .ref (ad 8 0), .ref (ad 9 0), .int is9, .ref (ad 10 0), .ref (ad 11 0), .ref (ad 12 0), .ref (ad 13 0), .int se, .ref (ad 14 0)])) ∧ TK at92 ps92 tk2 ∧ (r.toInt = 0 → ps9.toInt ≤ ps92.toInt) ∧ (r.toInt = 0 → wr2.toInt ≤ ps92.toInt)) S Y rfl (by decide) (by decide) hA1 ⟨v_89243, v_89244, v_89245, v_89246, v_89247, wr, pd, op9, cg, iw, bn_w er_89242 (by decide), I, p_ad_0_0, eT_89248, (fun _ => (by have c0 := hT.1; have c1 := eT_89248.1; have c2 := eP_89249; omega)), (fun _ => by have z9 := (by have c0 := hT.1; have c1 := eT_89248.1; have c2 := eP_89249; omega); have z8 := hroom; omega)⟩ dX12_body_53
  · refine lv_fold (z := 4) h_89236 ?_
    refine lv_tableIn (off := 53) (tgt := 54) hx hb dX12_body_1 (by decide) (by decide) (by decide) (by decide) ?_
    refine lv_aload_n hx hb dX12_body_54 rfl (lv_at hl 0 rfl) ?_
    refine lv_iload_n hx hb dX12_body_55 rfl (lv_at hl 2 rfl) ?_
    obtain ⟨g_89254, p_ad_3_0, o_89255⟩ := I.opi (k := 3) (j := 0) (by decide) rfl
    have p_ad_3_0 : pt L f (ad 3 0) (.inl (G.2 0, 2916, .inl g_89254)) := p_ad_3_0
    have o_89256 : (RN gA x0) g_89254 := (RN_eq o_89255 hs (by have z9 := ((bn_eq h_89236 (show bn 4 4 (4 : Int32) from bn_k (by decide)))).1; omega))
    have I := I.castS (sp' := spM PA PI (RN gA x0) pa) (k := 3) (j := 0) (by decide) p_ad_3_0 (okE_a (g := g_89254) o_89256) pXC
    refine cVi (As := [.int i2]) (rest := []) S Y (x_X12_swearClause (l := l) I p_ad_0_0 (bn_w b_i2 (by decide)) hx0 hT) cw_X12_swearClause km12_229 p_ad_0_0 ok_X12.1 rfl rfl ⟨Nat.le_of_ble_eq_true rfl, Nat.le_of_ble_eq_true rfl⟩ hl.1 rfl (Nat.le_of_ble_eq_true rfl) ⟨Nat.le_of_ble_eq_true rfl, Nat.le_of_ble_eq_true rfl⟩ dX12_body_56 (fun r_89259 L_89257 f_89258 H locs hr_89259 Y => ?_)
    obtain ⟨v_89260, v_89261, v_89262, v_89263, v_89264, er_89259, I, p_ad_0_0, eT_89265, eP_89266⟩ := hr_89259
    obtain ⟨bfc89266_4, bfc89266_7, bfc89266_8, bfc89266_12, bfc89266_13, bfc89266_17, bfc89266_18, bfc89266_19, bfc89266_20, bfc89266_25⟩ := obM I p_ad_0_0
    obtain ⟨g_89268, p_ad_3_0, o_89269⟩ := I.opi (k := 3) (j := 0) (by decide) rfl
    have p_ad_3_0 : pt L_89257 f_89258 (ad 3 0) (.inl (G.2 0, 2916, .inl g_89268)) := p_ad_3_0
    have o_89270 : (BD r_89259 gA x0 t0 wr wr) g_89268 := (BD_rn o_89269)
    have I := I.castS (sp' := spM PA PI (BD r_89259 gA x0 t0 wr wr) pa) (k := 3) (j := 0) (by decide) p_ad_3_0 (okE_a (g := g_89268) o_89270) pXC
    exact prI (post := fun r L1 f1 => ∃ at92 : Int32, ∃ ps92 : Int32, ∃ tk2 : Int32, ∃ nu2 : Int32, ∃ wd2 : Int64, ∃ wr2 : Int32, ∃ pd2 : Int32, ∃ op92 : Int32, ∃ cg2 : Int32, ∃ iw2 : Int32, bn 0 7 r ∧ SH (spM PA PI (BD r gA x0 t0 wr wr2) pa) nnM G ad L1 f1 ∧ pt L1 f1 (ad 0 0) (.inr (12, [.ref (ad 1 0), .ref (ad 2 0), .ref (ad 3 0), .ref (ad 4 0), .int td, .int fa, .int fp, .int at92, .int ps92, .int tk2, .int nu2, .long wd2, .int t0, .int wr2, .int so, .ref (ad 5 0), .ref (ad 6 0), .int pd2, .int op92, .int cg2, .int iw2, .int on9, .ref (ad 7 0), .ref (ad 8 0), .ref (ad 9 0), .int is9, .ref (ad 10 0), .ref (ad 11 0), .ref (ad 12 0), .ref (ad 13 0), .int se, .ref (ad 14 0)])) ∧ TK at92 ps92 tk2 ∧ (r.toInt = 0 → ps9.toInt ≤ ps92.toInt) ∧ (r.toInt = 0 → wr2.toInt ≤ ps92.toInt)) S Y rfl (by decide) (by decide) hA1 ⟨v_89260, v_89261, v_89262, v_89263, v_89264, wr, pd, op9, cg, iw, bn_w er_89259 (by decide), I, p_ad_0_0, eT_89265, (fun _ => (by have c0 := hT.1; have c1 := eT_89265.1; have c2 := eP_89266; omega)), (fun _ => by have z9 := (by have c0 := hT.1; have c1 := eT_89265.1; have c2 := eP_89266; omega); have z8 := hroom; omega)⟩ dX12_body_59
  · refine lv_fold (z := 5) h_89236 ?_
    refine lv_tableIn (off := 112) (tgt := 113) hx hb dX12_body_1 (by decide) (by decide) (by decide) (by decide) ?_
    refine lv_aload_n hx hb dX12_body_113 rfl (lv_at hl 0 rfl) ?_
    refine lv_iload_n hx hb dX12_body_114 rfl (lv_at hl 2 rfl) ?_
    obtain ⟨g_89271, p_ad_3_0, o_89272⟩ := I.opi (k := 3) (j := 0) (by decide) rfl
    have p_ad_3_0 : pt L f (ad 3 0) (.inl (G.2 0, 2916, .inl g_89271)) := p_ad_3_0
    refine cVi (As := [.int i2]) (rest := []) S Y (x_X12_lawClause (l := l) I p_ad_0_0 (bn_w b_i2 (by decide)) hx0 hxt hroom hT) cw_X12_lawClause km12_232 p_ad_0_0 ok_X12.1 rfl rfl ⟨Nat.le_of_ble_eq_true rfl, Nat.le_of_ble_eq_true rfl⟩ hl.1 rfl (Nat.le_of_ble_eq_true rfl) ⟨Nat.le_of_ble_eq_true rfl, Nat.le_of_ble_eq_true rfl⟩ dX12_body_115 (fun r_89275 L_89273 f_89274 H locs hr_89275 Y => ?_)
    obtain ⟨v_89276, v_89277, v_89278, v_89279, v_89280, v_89281, v_89282, v_89283, v_89284, v_89285, er_89275, I, p_ad_0_0, eT_89286, eQ_89287, eW_89288⟩ := hr_89275
    obtain ⟨bfc89288_4, bfc89288_7, bfc89288_8, bfc89288_12, bfc89288_13, bfc89288_17, bfc89288_18, bfc89288_19, bfc89288_20, bfc89288_25⟩ := obM I p_ad_0_0
    obtain ⟨g_89290, p_ad_3_0, o_89291⟩ := I.opi (k := 3) (j := 0) (by decide) rfl
    have p_ad_3_0 : pt L_89273 f_89274 (ad 3 0) (.inl (G.2 0, 2916, .inl g_89290)) := p_ad_3_0
    have o_89292 : (BD r_89275 gA x0 t0 wr v_89281) g_89290 := (BD_lc o_89291)
    have I := I.castS (sp' := spM PA PI (BD r_89275 gA x0 t0 wr v_89281) pa) (k := 3) (j := 0) (by decide) p_ad_3_0 (okE_a (g := g_89290) o_89292) pXC
    exact prI (post := fun r L1 f1 => ∃ at92 : Int32, ∃ ps92 : Int32, ∃ tk2 : Int32, ∃ nu2 : Int32, ∃ wd2 : Int64, ∃ wr2 : Int32, ∃ pd2 : Int32, ∃ op92 : Int32, ∃ cg2 : Int32, ∃ iw2 : Int32, bn 0 7 r ∧ SH (spM PA PI (BD r gA x0 t0 wr wr2) pa) nnM G ad L1 f1 ∧ pt L1 f1 (ad 0 0) (.inr (12, [.ref (ad 1 0), .ref (ad 2 0), .ref (ad 3 0), .ref (ad 4 0), .int td, .int fa, .int fp, .int at92, .int ps92, .int tk2, .int nu2, .long wd2, .int t0, .int wr2, .int so, .ref (ad 5 0), .ref (ad 6 0), .int pd2, .int op92, .int cg2, .int iw2, .int on9, .ref (ad 7 0), .ref (ad 8 0), .ref (ad 9 0), .int is9, .ref (ad 10 0), .ref (ad 11 0), .ref (ad 12 0), .ref (ad 13 0), .int se, .ref (ad 14 0)])) ∧ TK at92 ps92 tk2 ∧ (r.toInt = 0 → ps9.toInt ≤ ps92.toInt) ∧ (r.toInt = 0 → wr2.toInt ≤ ps92.toInt)) S Y rfl (by decide) (by decide) hA1 ⟨v_89276, v_89277, v_89278, v_89279, v_89280, v_89281, v_89282, v_89283, v_89284, v_89285, bn_w er_89275 (by decide), I, p_ad_0_0, eT_89286, eQ_89287, eW_89288⟩ dX12_body_118
  · refine lv_fold (z := 6) h_89236 ?_
    refine lv_tableIn (off := 59) (tgt := 60) hx hb dX12_body_1 (by decide) (by decide) (by decide) (by decide) ?_
    refine lv_aload_n hx hb dX12_body_60 rfl (lv_at hl 0 rfl) ?_
    refine lv_iload_n hx hb dX12_body_61 rfl (lv_at hl 2 rfl) ?_
    refine lv_iconst (v := 1) hx hb dX12_body_62 (by decide) ?_
    refine lv_iadd hx hb dX12_body_63 ?_
    refine lv_topi (fun x_89293 ex_89293 => ?_)
    refine lv_iconst (v := 0) hx hb dX12_body_64 (by decide) ?_
    refine lv_bipush (v := 13) hx hb dX12_body_65 (by decide) ?_
    obtain ⟨g_89294, p_ad_3_0, o_89295⟩ := I.opi (k := 3) (j := 0) (by decide) rfl
    have p_ad_3_0 : pt L f (ad 3 0) (.inl (G.2 0, 2916, .inl g_89294)) := p_ad_3_0
    have o_89296 : (RN gA x0) g_89294 := (RN_eq o_89295 hs (by have z9 := ((bn_eq h_89236 (show bn 6 6 (6 : Int32) from bn_k (by decide)))).1; omega))
    have I := I.castS (sp' := spM PA PI (RN gA x0) pa) (k := 3) (j := 0) (by decide) p_ad_3_0 (okE_a (g := g_89294) o_89296) pXC
    refine cVi (As := [.int x_89293, .int 0, .int 13]) (rest := []) S Y (x_X12_figure (l := l) I p_ad_0_0 (bn_w (bn_eq ex_89293 (bn_add b_i2 (show bn 1 1 (1 : Int32) from bn_k (by decide)) (by decide))) (by decide)) (by have z9 := (la_add ex_89293 (rfl : i2.toInt = i2.toInt) (show (1 : Int32).toInt = 1 from rfl) b_i2 (show bn 1 1 (1 : Int32) from bn_k (by decide)) (by decide)); have z8 := b_i2.1; omega) hT) cw_X12_figure km12_215 p_ad_0_0 ok_X12.1 rfl rfl ⟨Nat.le_of_ble_eq_true rfl, Nat.le_of_ble_eq_true rfl⟩ hl.1 rfl (Nat.le_of_ble_eq_true rfl) ⟨Nat.le_of_ble_eq_true rfl, Nat.le_of_ble_eq_true rfl⟩ dX12_body_67 (fun r_89299 L_89297 f_89298 H locs hr_89299 Y => ?_)
    obtain ⟨v_89300, v_89301, v_89302, v_89303, v_89304, er_89299, I, p_ad_0_0, eT_89305, eP_89306⟩ := hr_89299
    obtain ⟨bfc89306_4, bfc89306_7, bfc89306_8, bfc89306_12, bfc89306_13, bfc89306_17, bfc89306_18, bfc89306_19, bfc89306_20, bfc89306_25⟩ := obM I p_ad_0_0
    obtain ⟨g_89308, p_ad_3_0, o_89309⟩ := I.opi (k := 3) (j := 0) (by decide) rfl
    have p_ad_3_0 : pt L_89297 f_89298 (ad 3 0) (.inl (G.2 0, 2916, .inl g_89308)) := p_ad_3_0
    have o_89310 : (BD r_89299 gA x0 t0 wr wr) g_89308 := (BD_rn o_89309)
    have I := I.castS (sp' := spM PA PI (BD r_89299 gA x0 t0 wr wr) pa) (k := 3) (j := 0) (by decide) p_ad_3_0 (okE_a (g := g_89308) o_89310) pXC
    exact prI (post := fun r L1 f1 => ∃ at92 : Int32, ∃ ps92 : Int32, ∃ tk2 : Int32, ∃ nu2 : Int32, ∃ wd2 : Int64, ∃ wr2 : Int32, ∃ pd2 : Int32, ∃ op92 : Int32, ∃ cg2 : Int32, ∃ iw2 : Int32, bn 0 7 r ∧ SH (spM PA PI (BD r gA x0 t0 wr wr2) pa) nnM G ad L1 f1 ∧ pt L1 f1 (ad 0 0) (.inr (12, [.ref (ad 1 0), .ref (ad 2 0), .ref (ad 3 0), .ref (ad 4 0), .int td, .int fa, .int fp, .int at92, .int ps92, .int tk2, .int nu2, .long wd2, .int t0, .int wr2, .int so, .ref (ad 5 0), .ref (ad 6 0), .int pd2, .int op92, .int cg2, .int iw2, .int on9, .ref (ad 7 0), .ref (ad 8 0), .ref (ad 9 0), .int is9, .ref (ad 10 0), .ref (ad 11 0), .ref (ad 12 0), .ref (ad 13 0), .int se, .ref (ad 14 0)])) ∧ TK at92 ps92 tk2 ∧ (r.toInt = 0 → ps9.toInt ≤ ps92.toInt) ∧ (r.toInt = 0 → wr2.toInt ≤ ps92.toInt)) S Y rfl (by decide) (by decide) hA1 ⟨v_89300, v_89301, v_89302, v_89303, v_89304, wr, pd, op9, cg, iw, bn_w er_89299 (by decide), I, p_ad_0_0, eT_89305, (fun _ => (by have c0 := hT.1; have c1 := eT_89305.1; have c2 := eP_89306; omega)), (fun _ => by have z9 := (by have c0 := hT.1; have c1 := eT_89305.1; have c2 := eP_89306; omega); have z8 := hroom; omega)⟩ dX12_body_70
  · refine lv_fold (z := 7) h_89236 ?_
    refine lv_tableIn (off := 70) (tgt := 71) hx hb dX12_body_1 (by decide) (by decide) (by decide) (by decide) ?_
    refine lv_aload_n hx hb dX12_body_71 rfl (lv_at hl 0 rfl) ?_
    refine lv_iload_n hx hb dX12_body_72 rfl (lv_at hl 2 rfl) ?_
    refine lv_iconst (v := 1) hx hb dX12_body_73 (by decide) ?_
    refine lv_iadd hx hb dX12_body_74 ?_
    refine lv_topi (fun x_89311 ex_89311 => ?_)
    refine lv_iconst (v := 0) hx hb dX12_body_75 (by decide) ?_
    refine lv_bipush (v := 13) hx hb dX12_body_76 (by decide) ?_
    obtain ⟨g_89312, p_ad_3_0, o_89313⟩ := I.opi (k := 3) (j := 0) (by decide) rfl
    have p_ad_3_0 : pt L f (ad 3 0) (.inl (G.2 0, 2916, .inl g_89312)) := p_ad_3_0
    have o_89314 : (RN gA x0) g_89312 := (RN_eq o_89313 hs (by have z9 := ((bn_eq h_89236 (show bn 7 7 (7 : Int32) from bn_k (by decide)))).1; omega))
    have I := I.castS (sp' := spM PA PI (RN gA x0) pa) (k := 3) (j := 0) (by decide) p_ad_3_0 (okE_a (g := g_89312) o_89314) pXC
    refine cVi (As := [.int x_89311, .int 0, .int 13]) (rest := []) S Y (x_X12_figure (l := l) I p_ad_0_0 (bn_w (bn_eq ex_89311 (bn_add b_i2 (show bn 1 1 (1 : Int32) from bn_k (by decide)) (by decide))) (by decide)) (by have z9 := (la_add ex_89311 (rfl : i2.toInt = i2.toInt) (show (1 : Int32).toInt = 1 from rfl) b_i2 (show bn 1 1 (1 : Int32) from bn_k (by decide)) (by decide)); have z8 := b_i2.1; omega) hT) cw_X12_figure km12_215 p_ad_0_0 ok_X12.1 rfl rfl ⟨Nat.le_of_ble_eq_true rfl, Nat.le_of_ble_eq_true rfl⟩ hl.1 rfl (Nat.le_of_ble_eq_true rfl) ⟨Nat.le_of_ble_eq_true rfl, Nat.le_of_ble_eq_true rfl⟩ dX12_body_78 (fun r_89317 L_89315 f_89316 H locs hr_89317 Y => ?_)
    obtain ⟨v_89318, v_89319, v_89320, v_89321, v_89322, er_89317, I, p_ad_0_0, eT_89323, eP_89324⟩ := hr_89317
    obtain ⟨bfc89324_4, bfc89324_7, bfc89324_8, bfc89324_12, bfc89324_13, bfc89324_17, bfc89324_18, bfc89324_19, bfc89324_20, bfc89324_25⟩ := obM I p_ad_0_0
    obtain ⟨g_89326, p_ad_3_0, o_89327⟩ := I.opi (k := 3) (j := 0) (by decide) rfl
    have p_ad_3_0 : pt L_89315 f_89316 (ad 3 0) (.inl (G.2 0, 2916, .inl g_89326)) := p_ad_3_0
    have o_89328 : (BD r_89317 gA x0 t0 wr wr) g_89326 := (BD_rn o_89327)
    have I := I.castS (sp' := spM PA PI (BD r_89317 gA x0 t0 wr wr) pa) (k := 3) (j := 0) (by decide) p_ad_3_0 (okE_a (g := g_89326) o_89328) pXC
    exact prI (post := fun r L1 f1 => ∃ at92 : Int32, ∃ ps92 : Int32, ∃ tk2 : Int32, ∃ nu2 : Int32, ∃ wd2 : Int64, ∃ wr2 : Int32, ∃ pd2 : Int32, ∃ op92 : Int32, ∃ cg2 : Int32, ∃ iw2 : Int32, bn 0 7 r ∧ SH (spM PA PI (BD r gA x0 t0 wr wr2) pa) nnM G ad L1 f1 ∧ pt L1 f1 (ad 0 0) (.inr (12, [.ref (ad 1 0), .ref (ad 2 0), .ref (ad 3 0), .ref (ad 4 0), .int td, .int fa, .int fp, .int at92, .int ps92, .int tk2, .int nu2, .long wd2, .int t0, .int wr2, .int so, .ref (ad 5 0), .ref (ad 6 0), .int pd2, .int op92, .int cg2, .int iw2, .int on9, .ref (ad 7 0), .ref (ad 8 0), .ref (ad 9 0), .int is9, .ref (ad 10 0), .ref (ad 11 0), .ref (ad 12 0), .ref (ad 13 0), .int se, .ref (ad 14 0)])) ∧ TK at92 ps92 tk2 ∧ (r.toInt = 0 → ps9.toInt ≤ ps92.toInt) ∧ (r.toInt = 0 → wr2.toInt ≤ ps92.toInt)) S Y rfl (by decide) (by decide) hA1 ⟨v_89318, v_89319, v_89320, v_89321, v_89322, wr, pd, op9, cg, iw, bn_w er_89317 (by decide), I, p_ad_0_0, eT_89323, (fun _ => (by have c0 := hT.1; have c1 := eT_89323.1; have c2 := eP_89324; omega)), (fun _ => by have z9 := (by have c0 := hT.1; have c1 := eT_89323.1; have c2 := eP_89324; omega); have z8 := hroom; omega)⟩ dX12_body_81
  · refine lv_fold (z := 8) h_89236 ?_
    refine lv_tableIn (off := 81) (tgt := 82) hx hb dX12_body_1 (by decide) (by decide) (by decide) (by decide) ?_
    refine lv_aload_n hx hb dX12_body_82 rfl (lv_at hl 0 rfl) ?_
    refine lv_iload_n hx hb dX12_body_83 rfl (lv_at hl 2 rfl) ?_
    refine lv_iconst (v := 1) hx hb dX12_body_84 (by decide) ?_
    refine lv_iadd hx hb dX12_body_85 ?_
    refine lv_topi (fun x_89329 ex_89329 => ?_)
    refine lv_iconst (v := 0) hx hb dX12_body_86 (by decide) ?_
    refine lv_iconst (v := 5) hx hb dX12_body_87 (by decide) ?_
    obtain ⟨g_89330, p_ad_3_0, o_89331⟩ := I.opi (k := 3) (j := 0) (by decide) rfl
    have p_ad_3_0 : pt L f (ad 3 0) (.inl (G.2 0, 2916, .inl g_89330)) := p_ad_3_0
    have o_89332 : (RN gA x0) g_89330 := (RN_eq o_89331 hs (by have z9 := ((bn_eq h_89236 (show bn 8 8 (8 : Int32) from bn_k (by decide)))).1; omega))
    have I := I.castS (sp' := spM PA PI (RN gA x0) pa) (k := 3) (j := 0) (by decide) p_ad_3_0 (okE_a (g := g_89330) o_89332) pXC
    refine cVi (As := [.int x_89329, .int 0, .int 5]) (rest := []) S Y (x_X12_figure (l := l) I p_ad_0_0 (bn_w (bn_eq ex_89329 (bn_add b_i2 (show bn 1 1 (1 : Int32) from bn_k (by decide)) (by decide))) (by decide)) (by have z9 := (la_add ex_89329 (rfl : i2.toInt = i2.toInt) (show (1 : Int32).toInt = 1 from rfl) b_i2 (show bn 1 1 (1 : Int32) from bn_k (by decide)) (by decide)); have z8 := b_i2.1; omega) hT) cw_X12_figure km12_215 p_ad_0_0 ok_X12.1 rfl rfl ⟨Nat.le_of_ble_eq_true rfl, Nat.le_of_ble_eq_true rfl⟩ hl.1 rfl (Nat.le_of_ble_eq_true rfl) ⟨Nat.le_of_ble_eq_true rfl, Nat.le_of_ble_eq_true rfl⟩ dX12_body_88 (fun r_89335 L_89333 f_89334 H locs hr_89335 Y => ?_)
    obtain ⟨v_89336, v_89337, v_89338, v_89339, v_89340, er_89335, I, p_ad_0_0, eT_89341, eP_89342⟩ := hr_89335
    obtain ⟨bfc89342_4, bfc89342_7, bfc89342_8, bfc89342_12, bfc89342_13, bfc89342_17, bfc89342_18, bfc89342_19, bfc89342_20, bfc89342_25⟩ := obM I p_ad_0_0
    obtain ⟨g_89344, p_ad_3_0, o_89345⟩ := I.opi (k := 3) (j := 0) (by decide) rfl
    have p_ad_3_0 : pt L_89333 f_89334 (ad 3 0) (.inl (G.2 0, 2916, .inl g_89344)) := p_ad_3_0
    have o_89346 : (BD r_89335 gA x0 t0 wr wr) g_89344 := (BD_rn o_89345)
    have I := I.castS (sp' := spM PA PI (BD r_89335 gA x0 t0 wr wr) pa) (k := 3) (j := 0) (by decide) p_ad_3_0 (okE_a (g := g_89344) o_89346) pXC
    exact prI (post := fun r L1 f1 => ∃ at92 : Int32, ∃ ps92 : Int32, ∃ tk2 : Int32, ∃ nu2 : Int32, ∃ wd2 : Int64, ∃ wr2 : Int32, ∃ pd2 : Int32, ∃ op92 : Int32, ∃ cg2 : Int32, ∃ iw2 : Int32, bn 0 7 r ∧ SH (spM PA PI (BD r gA x0 t0 wr wr2) pa) nnM G ad L1 f1 ∧ pt L1 f1 (ad 0 0) (.inr (12, [.ref (ad 1 0), .ref (ad 2 0), .ref (ad 3 0), .ref (ad 4 0), .int td, .int fa, .int fp, .int at92, .int ps92, .int tk2, .int nu2, .long wd2, .int t0, .int wr2, .int so, .ref (ad 5 0), .ref (ad 6 0), .int pd2, .int op92, .int cg2, .int iw2, .int on9, .ref (ad 7 0), .ref (ad 8 0), .ref (ad 9 0), .int is9, .ref (ad 10 0), .ref (ad 11 0), .ref (ad 12 0), .ref (ad 13 0), .int se, .ref (ad 14 0)])) ∧ TK at92 ps92 tk2 ∧ (r.toInt = 0 → ps9.toInt ≤ ps92.toInt) ∧ (r.toInt = 0 → wr2.toInt ≤ ps92.toInt)) S Y rfl (by decide) (by decide) hA1 ⟨v_89336, v_89337, v_89338, v_89339, v_89340, wr, pd, op9, cg, iw, bn_w er_89335 (by decide), I, p_ad_0_0, eT_89341, (fun _ => (by have c0 := hT.1; have c1 := eT_89341.1; have c2 := eP_89342; omega)), (fun _ => by have z9 := (by have c0 := hT.1; have c1 := eT_89341.1; have c2 := eP_89342; omega); have z8 := hroom; omega)⟩ dX12_body_91
  · refine lv_fold (z := 9) h_89236 ?_
    refine lv_tableIn (off := 91) (tgt := 92) hx hb dX12_body_1 (by decide) (by decide) (by decide) (by decide) ?_
    refine lv_aload_n hx hb dX12_body_92 rfl (lv_at hl 0 rfl) ?_
    refine lv_iload_n hx hb dX12_body_93 rfl (lv_at hl 2 rfl) ?_
    refine lv_iconst (v := 1) hx hb dX12_body_94 (by decide) ?_
    refine lv_iadd hx hb dX12_body_95 ?_
    refine lv_topi (fun x_89347 ex_89347 => ?_)
    refine lv_iconst (v := 0) hx hb dX12_body_96 (by decide) ?_
    refine lv_iconst (v := 5) hx hb dX12_body_97 (by decide) ?_
    obtain ⟨g_89348, p_ad_3_0, o_89349⟩ := I.opi (k := 3) (j := 0) (by decide) rfl
    have p_ad_3_0 : pt L f (ad 3 0) (.inl (G.2 0, 2916, .inl g_89348)) := p_ad_3_0
    have o_89350 : (RN gA x0) g_89348 := (RN_eq o_89349 hs (by have z9 := ((bn_eq h_89236 (show bn 9 9 (9 : Int32) from bn_k (by decide)))).1; omega))
    have I := I.castS (sp' := spM PA PI (RN gA x0) pa) (k := 3) (j := 0) (by decide) p_ad_3_0 (okE_a (g := g_89348) o_89350) pXC
    refine cVi (As := [.int x_89347, .int 0, .int 5]) (rest := []) S Y (x_X12_figure (l := l) I p_ad_0_0 (bn_w (bn_eq ex_89347 (bn_add b_i2 (show bn 1 1 (1 : Int32) from bn_k (by decide)) (by decide))) (by decide)) (by have z9 := (la_add ex_89347 (rfl : i2.toInt = i2.toInt) (show (1 : Int32).toInt = 1 from rfl) b_i2 (show bn 1 1 (1 : Int32) from bn_k (by decide)) (by decide)); have z8 := b_i2.1; omega) hT) cw_X12_figure km12_215 p_ad_0_0 ok_X12.1 rfl rfl ⟨Nat.le_of_ble_eq_true rfl, Nat.le_of_ble_eq_true rfl⟩ hl.1 rfl (Nat.le_of_ble_eq_true rfl) ⟨Nat.le_of_ble_eq_true rfl, Nat.le_of_ble_eq_true rfl⟩ dX12_body_98 (fun r_89353 L_89351 f_89352 H locs hr_89353 Y => ?_)
    obtain ⟨v_89354, v_89355, v_89356, v_89357, v_89358, er_89353, I, p_ad_0_0, eT_89359, eP_89360⟩ := hr_89353
    obtain ⟨bfc89360_4, bfc89360_7, bfc89360_8, bfc89360_12, bfc89360_13, bfc89360_17, bfc89360_18, bfc89360_19, bfc89360_20, bfc89360_25⟩ := obM I p_ad_0_0
    obtain ⟨g_89362, p_ad_3_0, o_89363⟩ := I.opi (k := 3) (j := 0) (by decide) rfl
    have p_ad_3_0 : pt L_89351 f_89352 (ad 3 0) (.inl (G.2 0, 2916, .inl g_89362)) := p_ad_3_0
    have o_89364 : (BD r_89353 gA x0 t0 wr wr) g_89362 := (BD_rn o_89363)
    have I := I.castS (sp' := spM PA PI (BD r_89353 gA x0 t0 wr wr) pa) (k := 3) (j := 0) (by decide) p_ad_3_0 (okE_a (g := g_89362) o_89364) pXC
    exact prI (post := fun r L1 f1 => ∃ at92 : Int32, ∃ ps92 : Int32, ∃ tk2 : Int32, ∃ nu2 : Int32, ∃ wd2 : Int64, ∃ wr2 : Int32, ∃ pd2 : Int32, ∃ op92 : Int32, ∃ cg2 : Int32, ∃ iw2 : Int32, bn 0 7 r ∧ SH (spM PA PI (BD r gA x0 t0 wr wr2) pa) nnM G ad L1 f1 ∧ pt L1 f1 (ad 0 0) (.inr (12, [.ref (ad 1 0), .ref (ad 2 0), .ref (ad 3 0), .ref (ad 4 0), .int td, .int fa, .int fp, .int at92, .int ps92, .int tk2, .int nu2, .long wd2, .int t0, .int wr2, .int so, .ref (ad 5 0), .ref (ad 6 0), .int pd2, .int op92, .int cg2, .int iw2, .int on9, .ref (ad 7 0), .ref (ad 8 0), .ref (ad 9 0), .int is9, .ref (ad 10 0), .ref (ad 11 0), .ref (ad 12 0), .ref (ad 13 0), .int se, .ref (ad 14 0)])) ∧ TK at92 ps92 tk2 ∧ (r.toInt = 0 → ps9.toInt ≤ ps92.toInt) ∧ (r.toInt = 0 → wr2.toInt ≤ ps92.toInt)) S Y rfl (by decide) (by decide) hA1 ⟨v_89354, v_89355, v_89356, v_89357, v_89358, wr, pd, op9, cg, iw, bn_w er_89353 (by decide), I, p_ad_0_0, eT_89359, (fun _ => (by have c0 := hT.1; have c1 := eT_89359.1; have c2 := eP_89360; omega)), (fun _ => by have z9 := (by have c0 := hT.1; have c1 := eT_89359.1; have c2 := eP_89360; omega); have z8 := hroom; omega)⟩ dX12_body_101
  · refine lv_fold (z := 10) h_89236 ?_
    refine lv_tableIn (off := 101) (tgt := 102) hx hb dX12_body_1 (by decide) (by decide) (by decide) (by decide) ?_
    refine lv_aload_n hx hb dX12_body_102 rfl (lv_at hl 0 rfl) ?_
    refine lv_iload_n hx hb dX12_body_103 rfl (lv_at hl 2 rfl) ?_
    refine lv_iconst (v := 1) hx hb dX12_body_104 (by decide) ?_
    refine lv_iadd hx hb dX12_body_105 ?_
    refine lv_topi (fun x_89365 ex_89365 => ?_)
    refine lv_iconst (v := 1) hx hb dX12_body_106 (by decide) ?_
    refine lv_bipush (v := 60) hx hb dX12_body_107 (by decide) ?_
    obtain ⟨g_89366, p_ad_3_0, o_89367⟩ := I.opi (k := 3) (j := 0) (by decide) rfl
    have p_ad_3_0 : pt L f (ad 3 0) (.inl (G.2 0, 2916, .inl g_89366)) := p_ad_3_0
    have o_89368 : (RN gA x0) g_89366 := (RN_eq o_89367 hs (by have z9 := ((bn_eq h_89236 (show bn 10 10 (10 : Int32) from bn_k (by decide)))).1; omega))
    have I := I.castS (sp' := spM PA PI (RN gA x0) pa) (k := 3) (j := 0) (by decide) p_ad_3_0 (okE_a (g := g_89366) o_89368) pXC
    refine cVi (As := [.int x_89365, .int 1, .int 60]) (rest := []) S Y (x_X12_figure (l := l) I p_ad_0_0 (bn_w (bn_eq ex_89365 (bn_add b_i2 (show bn 1 1 (1 : Int32) from bn_k (by decide)) (by decide))) (by decide)) (by have z9 := (la_add ex_89365 (rfl : i2.toInt = i2.toInt) (show (1 : Int32).toInt = 1 from rfl) b_i2 (show bn 1 1 (1 : Int32) from bn_k (by decide)) (by decide)); have z8 := b_i2.1; omega) hT) cw_X12_figure km12_215 p_ad_0_0 ok_X12.1 rfl rfl ⟨Nat.le_of_ble_eq_true rfl, Nat.le_of_ble_eq_true rfl⟩ hl.1 rfl (Nat.le_of_ble_eq_true rfl) ⟨Nat.le_of_ble_eq_true rfl, Nat.le_of_ble_eq_true rfl⟩ dX12_body_109 (fun r_89371 L_89369 f_89370 H locs hr_89371 Y => ?_)
    obtain ⟨v_89372, v_89373, v_89374, v_89375, v_89376, er_89371, I, p_ad_0_0, eT_89377, eP_89378⟩ := hr_89371
    obtain ⟨bfc89378_4, bfc89378_7, bfc89378_8, bfc89378_12, bfc89378_13, bfc89378_17, bfc89378_18, bfc89378_19, bfc89378_20, bfc89378_25⟩ := obM I p_ad_0_0
    obtain ⟨g_89380, p_ad_3_0, o_89381⟩ := I.opi (k := 3) (j := 0) (by decide) rfl
    have p_ad_3_0 : pt L_89369 f_89370 (ad 3 0) (.inl (G.2 0, 2916, .inl g_89380)) := p_ad_3_0
    have o_89382 : (BD r_89371 gA x0 t0 wr wr) g_89380 := (BD_rn o_89381)
    have I := I.castS (sp' := spM PA PI (BD r_89371 gA x0 t0 wr wr) pa) (k := 3) (j := 0) (by decide) p_ad_3_0 (okE_a (g := g_89380) o_89382) pXC
    exact prI (post := fun r L1 f1 => ∃ at92 : Int32, ∃ ps92 : Int32, ∃ tk2 : Int32, ∃ nu2 : Int32, ∃ wd2 : Int64, ∃ wr2 : Int32, ∃ pd2 : Int32, ∃ op92 : Int32, ∃ cg2 : Int32, ∃ iw2 : Int32, bn 0 7 r ∧ SH (spM PA PI (BD r gA x0 t0 wr wr2) pa) nnM G ad L1 f1 ∧ pt L1 f1 (ad 0 0) (.inr (12, [.ref (ad 1 0), .ref (ad 2 0), .ref (ad 3 0), .ref (ad 4 0), .int td, .int fa, .int fp, .int at92, .int ps92, .int tk2, .int nu2, .long wd2, .int t0, .int wr2, .int so, .ref (ad 5 0), .ref (ad 6 0), .int pd2, .int op92, .int cg2, .int iw2, .int on9, .ref (ad 7 0), .ref (ad 8 0), .ref (ad 9 0), .int is9, .ref (ad 10 0), .ref (ad 11 0), .ref (ad 12 0), .ref (ad 13 0), .int se, .ref (ad 14 0)])) ∧ TK at92 ps92 tk2 ∧ (r.toInt = 0 → ps9.toInt ≤ ps92.toInt) ∧ (r.toInt = 0 → wr2.toInt ≤ ps92.toInt)) S Y rfl (by decide) (by decide) hA1 ⟨v_89372, v_89373, v_89374, v_89375, v_89376, wr, pd, op9, cg, iw, bn_w er_89371 (by decide), I, p_ad_0_0, eT_89377, (fun _ => (by have c0 := hT.1; have c1 := eT_89377.1; have c2 := eP_89378; omega)), (fun _ => by have z9 := (by have c0 := hT.1; have c1 := eT_89377.1; have c2 := eP_89378; omega); have z8 := hroom; omega)⟩ dX12_body_112
  · refine lv_tableOut (tgt := 113) hx hb dX12_body_1 h_89236 (by decide) ?_
    refine lv_aload_n hx hb dX12_body_113 rfl (lv_at hl 0 rfl) ?_
    refine lv_iload_n hx hb dX12_body_114 rfl (lv_at hl 2 rfl) ?_
    obtain ⟨g_89383, p_ad_3_0, o_89384⟩ := I.opi (k := 3) (j := 0) (by decide) rfl
    have p_ad_3_0 : pt L f (ad 3 0) (.inl (G.2 0, 2916, .inl g_89383)) := p_ad_3_0
    refine cVi (As := [.int i2]) (rest := []) S Y (x_X12_lawClause (l := l) I p_ad_0_0 (bn_w b_i2 (by decide)) hx0 hxt hroom hT) cw_X12_lawClause km12_232 p_ad_0_0 ok_X12.1 rfl rfl ⟨Nat.le_of_ble_eq_true rfl, Nat.le_of_ble_eq_true rfl⟩ hl.1 rfl (Nat.le_of_ble_eq_true rfl) ⟨Nat.le_of_ble_eq_true rfl, Nat.le_of_ble_eq_true rfl⟩ dX12_body_115 (fun r_89387 L_89385 f_89386 H locs hr_89387 Y => ?_)
    obtain ⟨v_89388, v_89389, v_89390, v_89391, v_89392, v_89393, v_89394, v_89395, v_89396, v_89397, er_89387, I, p_ad_0_0, eT_89398, eQ_89399, eW_89400⟩ := hr_89387
    obtain ⟨bfc89400_4, bfc89400_7, bfc89400_8, bfc89400_12, bfc89400_13, bfc89400_17, bfc89400_18, bfc89400_19, bfc89400_20, bfc89400_25⟩ := obM I p_ad_0_0
    obtain ⟨g_89402, p_ad_3_0, o_89403⟩ := I.opi (k := 3) (j := 0) (by decide) rfl
    have p_ad_3_0 : pt L_89385 f_89386 (ad 3 0) (.inl (G.2 0, 2916, .inl g_89402)) := p_ad_3_0
    have o_89404 : (BD r_89387 gA x0 t0 wr v_89393) g_89402 := (BD_lc o_89403)
    have I := I.castS (sp' := spM PA PI (BD r_89387 gA x0 t0 wr v_89393) pa) (k := 3) (j := 0) (by decide) p_ad_3_0 (okE_a (g := g_89402) o_89404) pXC
    exact prI (post := fun r L1 f1 => ∃ at92 : Int32, ∃ ps92 : Int32, ∃ tk2 : Int32, ∃ nu2 : Int32, ∃ wd2 : Int64, ∃ wr2 : Int32, ∃ pd2 : Int32, ∃ op92 : Int32, ∃ cg2 : Int32, ∃ iw2 : Int32, bn 0 7 r ∧ SH (spM PA PI (BD r gA x0 t0 wr wr2) pa) nnM G ad L1 f1 ∧ pt L1 f1 (ad 0 0) (.inr (12, [.ref (ad 1 0), .ref (ad 2 0), .ref (ad 3 0), .ref (ad 4 0), .int td, .int fa, .int fp, .int at92, .int ps92, .int tk2, .int nu2, .long wd2, .int t0, .int wr2, .int so, .ref (ad 5 0), .ref (ad 6 0), .int pd2, .int op92, .int cg2, .int iw2, .int on9, .ref (ad 7 0), .ref (ad 8 0), .ref (ad 9 0), .int is9, .ref (ad 10 0), .ref (ad 11 0), .ref (ad 12 0), .ref (ad 13 0), .int se, .ref (ad 14 0)])) ∧ TK at92 ps92 tk2 ∧ (r.toInt = 0 → ps9.toInt ≤ ps92.toInt) ∧ (r.toInt = 0 → wr2.toInt ≤ ps92.toInt)) S Y rfl (by decide) (by decide) hA1 ⟨v_89388, v_89389, v_89390, v_89391, v_89392, v_89393, v_89394, v_89395, v_89396, v_89397, bn_w er_89387 (by decide), I, p_ad_0_0, eT_89398, eQ_89399, eW_89400⟩ dX12_body_118
