theorem dX12_figure_0 : decode cX12_figure 0 = .ok (.aload_n 0, 1) := by decide +kernel
theorem dX12_figure_1 : decode cX12_figure 1 = .ok (.getfield 98, 3) := by decide +kernel
theorem dX12_figure_4 : decode cX12_figure 4 = .ok (.iconst 1, 1) := by decide +kernel
theorem dX12_figure_5 : decode cX12_figure 5 = .ok (.if_icmp .eq 5, 3) := by decide +kernel
theorem dX12_figure_10 : decode cX12_figure 10 = .ok (.aload_n 0, 1) := by decide +kernel
theorem dX12_figure_11 : decode cX12_figure 11 = .ok (.getfield 104, 3) := by decide +kernel
theorem dX12_figure_14 : decode cX12_figure 14 = .ok (.iload_n 2, 1) := by decide +kernel
theorem dX12_figure_15 : decode cX12_figure 15 = .ok (.iload_n 3, 1) := by decide +kernel
theorem dX12_figure_16 : decode cX12_figure 16 = .ok (.invokestatic 69, 3) := by decide +kernel
theorem dX12_figure_19 : decode cX12_figure 19 = .ok (.ifCond .ne 5, 3) := by decide +kernel
theorem dX12_figure_24 : decode cX12_figure 24 = .ok (.aload_n 0, 1) := by decide +kernel
theorem dX12_figure_25 : decode cX12_figure 25 = .ok (.getfield 16, 3) := by decide +kernel
theorem dX12_figure_28 : decode cX12_figure 28 = .ok (.iload_n 1, 1) := by decide +kernel
theorem dX12_figure_29 : decode cX12_figure 29 = .ok (.aload_n 0, 1) := by decide +kernel
theorem dX12_figure_30 : decode cX12_figure 30 = .ok (.getfield 104, 3) := by decide +kernel
theorem dX12_figure_33 : decode cX12_figure 33 = .ok (.iastore, 1) := by decide +kernel
theorem dX12_figure_34 : decode cX12_figure 34 = .ok (.aload_n 0, 1) := by decide +kernel
theorem dX12_figure_35 : decode cX12_figure 35 = .ok (.invokevirtual 166, 3) := by decide +kernel
theorem dX12_figure_38 : decode cX12_figure 38 = .ok (.iconst 0, 1) := by decide +kernel
theorem dX12_figure_39 : decode cX12_figure 39 = .ok (.ireturn, 1) := by decide +kernel
theorem dX12_figure_22 : decode cX12_figure 22 = .ok (.iconst 2, 1) := by decide +kernel
theorem dX12_figure_23 : decode cX12_figure 23 = .ok (.ireturn, 1) := by decide +kernel
theorem dX12_figure_8 : decode cX12_figure 8 = .ok (.iconst 1, 1) := by decide +kernel
theorem dX12_figure_9 : decode cX12_figure 9 = .ok (.ireturn, 1) := by decide +kernel
theorem dX12_worded_0 : decode cX12_worded 0 = .ok (.aload_n 0, 1) := by decide +kernel
theorem dX12_worded_1 : decode cX12_worded 1 = .ok (.lload_n 1, 1) := by decide +kernel
theorem dX12_worded_2 : decode cX12_worded 2 = .ok (.invokevirtual 187, 3) := by decide +kernel
theorem dX12_worded_5 : decode cX12_worded 5 = .ok (.ifCond .ne 5, 3) := by decide +kernel
theorem dX12_worded_10 : decode cX12_worded 10 = .ok (.aload_n 0, 1) := by decide +kernel
theorem dX12_worded_11 : decode cX12_worded 11 = .ok (.invokevirtual 166, 3) := by decide +kernel
theorem dX12_worded_14 : decode cX12_worded 14 = .ok (.aload_n 0, 1) := by decide +kernel
theorem dX12_worded_15 : decode cX12_worded 15 = .ok (.iload_n 3, 1) := by decide +kernel
theorem dX12_worded_16 : decode cX12_worded 16 = .ok (.iconst 0, 1) := by decide +kernel
theorem dX12_worded_17 : decode cX12_worded 17 = .ok (.iload 4, 2) := by decide +kernel
theorem dX12_worded_19 : decode cX12_worded 19 = .ok (.invokevirtual 215, 3) := by decide +kernel
theorem cw_X12_figure : CWv yX12_figure cX12_figure 4 (some .int) 3 := ⟨⟨⟨List.mem_of_getElem? (i := 137) (by decide +kernel), by decide +kernel⟩, ⟨List.mem_of_getElem? (i := 1685) (by decide +kernel), by decide +kernel⟩, by decide +kernel⟩, ⟨List.mem_of_getElem? (i := 1684) (by decide +kernel), by decide +kernel⟩, ⟨List.mem_of_getElem? (i := 58) (by decide +kernel), by decide +kernel⟩⟩
theorem km12_215 : inW (Cond.methodLink RX12 215 yX12_figure) := ⟨List.mem_of_getElem? (i := 1682) (by decide +kernel), by decide +kernel⟩
theorem dX12_worded_22 : decode cX12_worded 22 = .ok (.ireturn, 1) := by decide +kernel
theorem dX12_worded_8 : decode cX12_worded 8 = .ok (.iconst 1, 1) := by decide +kernel
theorem dX12_worded_9 : decode cX12_worded 9 = .ok (.ireturn, 1) := by decide +kernel
theorem dX12_oneClause_0 : decode cX12_oneClause 0 = .ok (.aload_n 0, 1) := by decide +kernel
theorem dX12_oneClause_1 : decode cX12_oneClause 1 = .ok (.iload_n 1, 1) := by decide +kernel
theorem dX12_oneClause_2 : decode cX12_oneClause 2 = .ok (.iconst 1, 1) := by decide +kernel
theorem dX12_oneClause_3 : decode cX12_oneClause 3 = .ok (.iadd, 1) := by decide +kernel
theorem dX12_oneClause_4 : decode cX12_oneClause 4 = .ok (.iconst 0, 1) := by decide +kernel
theorem dX12_oneClause_5 : decode cX12_oneClause 5 = .ok (.bipush 9, 2) := by decide +kernel
theorem dX12_oneClause_7 : decode cX12_oneClause 7 = .ok (.invokevirtual 215, 3) := by decide +kernel
theorem dX12_oneClause_10 : decode cX12_oneClause 10 = .ok (.istore_n 2, 1) := by decide +kernel
theorem dX12_oneClause_11 : decode cX12_oneClause 11 = .ok (.iload_n 2, 1) := by decide +kernel
theorem dX12_oneClause_12 : decode cX12_oneClause 12 = .ok (.ifCond .eq 7, 3) := by decide +kernel
theorem dX12_oneClause_19 : decode cX12_oneClause 19 = .ok (.aload_n 0, 1) := by decide +kernel
theorem dX12_oneClause_20 : decode cX12_oneClause 20 = .ok (.bipush 97, 2) := by decide +kernel
theorem dX12_oneClause_22 : decode cX12_oneClause 22 = .ok (.bipush 103, 2) := by decide +kernel
theorem dX12_oneClause_24 : decode cX12_oneClause 24 = .ok (.bipush 101, 2) := by decide +kernel
theorem dX12_oneClause_26 : decode cX12_oneClause 26 = .ok (.invokestatic 124, 3) := by decide +kernel
theorem dX12_oneClause_29 : decode cX12_oneClause 29 = .ok (.iload_n 1, 1) := by decide +kernel
theorem dX12_oneClause_30 : decode cX12_oneClause 30 = .ok (.iconst 2, 1) := by decide +kernel
theorem dX12_oneClause_31 : decode cX12_oneClause 31 = .ok (.iadd, 1) := by decide +kernel
theorem dX12_oneClause_32 : decode cX12_oneClause 32 = .ok (.bipush 99, 2) := by decide +kernel
theorem dX12_oneClause_34 : decode cX12_oneClause 34 = .ok (.invokevirtual 222, 3) := by decide +kernel
theorem cw_X12_worded : CWv yX12_worded cX12_worded 5 (some .int) 3 := ⟨⟨⟨List.mem_of_getElem? (i := 137) (by decide +kernel), by decide +kernel⟩, ⟨List.mem_of_getElem? (i := 1689) (by decide +kernel), by decide +kernel⟩, by decide +kernel⟩, ⟨List.mem_of_getElem? (i := 1688) (by decide +kernel), by decide +kernel⟩, ⟨List.mem_of_getElem? (i := 59) (by decide +kernel), by decide +kernel⟩⟩
theorem km12_222 : inW (Cond.methodLink RX12 222 yX12_worded) := ⟨List.mem_of_getElem? (i := 1686) (by decide +kernel), by decide +kernel⟩
theorem dX12_oneClause_37 : decode cX12_oneClause 37 = .ok (.ireturn, 1) := by decide +kernel
theorem dX12_oneClause_15 : decode cX12_oneClause 15 = .ok (.iload_n 2, 1) := by decide +kernel
theorem dX12_oneClause_16 : decode cX12_oneClause 16 = .ok (.goto 21, 3) := by decide +kernel
theorem dX12_swearClause_0 : decode cX12_swearClause 0 = .ok (.aload_n 0, 1) := by decide +kernel
theorem dX12_swearClause_1 : decode cX12_swearClause 1 = .ok (.iload_n 1, 1) := by decide +kernel
theorem dX12_swearClause_2 : decode cX12_swearClause 2 = .ok (.iconst 1, 1) := by decide +kernel
theorem dX12_swearClause_3 : decode cX12_swearClause 3 = .ok (.iadd, 1) := by decide +kernel
theorem dX12_swearClause_4 : decode cX12_swearClause 4 = .ok (.iconst 0, 1) := by decide +kernel
theorem dX12_swearClause_5 : decode cX12_swearClause 5 = .ok (.iconst 5, 1) := by decide +kernel
theorem dX12_swearClause_6 : decode cX12_swearClause 6 = .ok (.invokevirtual 215, 3) := by decide +kernel
theorem dX12_swearClause_9 : decode cX12_swearClause 9 = .ok (.istore_n 2, 1) := by decide +kernel
theorem dX12_swearClause_10 : decode cX12_swearClause 10 = .ok (.iload_n 2, 1) := by decide +kernel
theorem dX12_swearClause_11 : decode cX12_swearClause 11 = .ok (.ifCond .ne 19, 3) := by decide +kernel
theorem dX12_swearClause_30 : decode cX12_swearClause 30 = .ok (.iload_n 2, 1) := by decide +kernel
theorem dX12_swearClause_31 : decode cX12_swearClause 31 = .ok (.ifCond .eq 5, 3) := by decide +kernel
theorem dX12_swearClause_34 : decode cX12_swearClause 34 = .ok (.iload_n 2, 1) := by decide +kernel
theorem dX12_swearClause_35 : decode cX12_swearClause 35 = .ok (.ireturn, 1) := by decide +kernel
theorem dX12_swearClause_14 : decode cX12_swearClause 14 = .ok (.aload_n 0, 1) := by decide +kernel
theorem dX12_swearClause_15 : decode cX12_swearClause 15 = .ok (.bipush 116, 2) := by decide +kernel
theorem dX12_swearClause_17 : decode cX12_swearClause 17 = .ok (.bipush 111, 2) := by decide +kernel
theorem dX12_swearClause_19 : decode cX12_swearClause 19 = .ok (.invokestatic 120, 3) := by decide +kernel
theorem dX12_swearClause_22 : decode cX12_swearClause 22 = .ok (.iload_n 1, 1) := by decide +kernel
theorem dX12_swearClause_23 : decode cX12_swearClause 23 = .ok (.iconst 2, 1) := by decide +kernel
theorem dX12_swearClause_24 : decode cX12_swearClause 24 = .ok (.iadd, 1) := by decide +kernel
theorem dX12_swearClause_25 : decode cX12_swearClause 25 = .ok (.iconst 5, 1) := by decide +kernel
theorem dX12_swearClause_26 : decode cX12_swearClause 26 = .ok (.invokevirtual 222, 3) := by decide +kernel
theorem dX12_swearClause_29 : decode cX12_swearClause 29 = .ok (.istore_n 2, 1) := by decide +kernel
theorem dX12_swearClause_36 : decode cX12_swearClause 36 = .ok (.aload_n 0, 1) := by decide +kernel
theorem dX12_swearClause_37 : decode cX12_swearClause 37 = .ok (.bipush 108, 2) := by decide +kernel
theorem dX12_swearClause_39 : decode cX12_swearClause 39 = .ok (.bipush 101, 2) := by decide +kernel
theorem dX12_swearClause_41 : decode cX12_swearClause 41 = .ok (.bipush 102, 2) := by decide +kernel
theorem dX12_swearClause_43 : decode cX12_swearClause 43 = .ok (.bipush 116, 2) := by decide +kernel
theorem dX12_swearClause_45 : decode cX12_swearClause 45 = .ok (.invokestatic 128, 3) := by decide +kernel
theorem dX12_swearClause_48 : decode cX12_swearClause 48 = .ok (.invokevirtual 187, 3) := by decide +kernel
theorem dX12_swearClause_51 : decode cX12_swearClause 51 = .ok (.istore_n 3, 1) := by decide +kernel
theorem dX12_swearClause_52 : decode cX12_swearClause 52 = .ok (.iload_n 3, 1) := by decide +kernel
theorem dX12_swearClause_53 : decode cX12_swearClause 53 = .ok (.ifCond .ne 25, 3) := by decide +kernel
theorem dX12_swearClause_78 : decode cX12_swearClause 78 = .ok (.aload_n 0, 1) := by decide +kernel
theorem dX12_swearClause_79 : decode cX12_swearClause 79 = .ok (.getfield 16, 3) := by decide +kernel
theorem dX12_swearClause_82 : decode cX12_swearClause 82 = .ok (.iload_n 1, 1) := by decide +kernel
theorem dX12_swearClause_83 : decode cX12_swearClause 83 = .ok (.iload_n 3, 1) := by decide +kernel
theorem dX12_swearClause_84 : decode cX12_swearClause 84 = .ok (.ifCond .eq 7, 3) := by decide +kernel
theorem dX12_swearClause_87 : decode cX12_swearClause 87 = .ok (.iconst 4, 1) := by decide +kernel
theorem dX12_swearClause_88 : decode cX12_swearClause 88 = .ok (.goto 4, 3) := by decide +kernel
theorem dX12_swearClause_92 : decode cX12_swearClause 92 = .ok (.iastore, 1) := by decide +kernel
theorem dX12_swearClause_93 : decode cX12_swearClause 93 = .ok (.aload_n 0, 1) := by decide +kernel
theorem dX12_swearClause_94 : decode cX12_swearClause 94 = .ok (.invokevirtual 166, 3) := by decide +kernel
theorem dX12_swearClause_97 : decode cX12_swearClause 97 = .ok (.aload_n 0, 1) := by decide +kernel
theorem dX12_swearClause_98 : decode cX12_swearClause 98 = .ok (.iload_n 1, 1) := by decide +kernel
theorem dX12_swearClause_99 : decode cX12_swearClause 99 = .ok (.iconst 3, 1) := by decide +kernel
theorem dX12_swearClause_100 : decode cX12_swearClause 100 = .ok (.iadd, 1) := by decide +kernel
theorem dX12_swearClause_101 : decode cX12_swearClause 101 = .ok (.iconst 1, 1) := by decide +kernel
theorem dX12_swearClause_102 : decode cX12_swearClause 102 = .ok (.bipush 9, 2) := by decide +kernel
theorem dX12_swearClause_104 : decode cX12_swearClause 104 = .ok (.invokevirtual 215, 3) := by decide +kernel
theorem dX12_swearClause_107 : decode cX12_swearClause 107 = .ok (.ireturn, 1) := by decide +kernel
theorem dX12_swearClause_56 : decode cX12_swearClause 56 = .ok (.aload_n 0, 1) := by decide +kernel
theorem dX12_swearClause_57 : decode cX12_swearClause 57 = .ok (.bipush 114, 2) := by decide +kernel
theorem dX12_swearClause_59 : decode cX12_swearClause 59 = .ok (.bipush 105, 2) := by decide +kernel
theorem dX12_swearClause_61 : decode cX12_swearClause 61 = .ok (.bipush 103, 2) := by decide +kernel
theorem dX12_swearClause_63 : decode cX12_swearClause 63 = .ok (.bipush 104, 2) := by decide +kernel
theorem dX12_swearClause_65 : decode cX12_swearClause 65 = .ok (.bipush 116, 2) := by decide +kernel
theorem dX12_swearClause_67 : decode cX12_swearClause 67 = .ok (.invokestatic 132, 3) := by decide +kernel
theorem dX12_swearClause_70 : decode cX12_swearClause 70 = .ok (.invokevirtual 187, 3) := by decide +kernel
theorem dX12_swearClause_73 : decode cX12_swearClause 73 = .ok (.ifCond .ne 5, 3) := by decide +kernel
theorem dX12_swearClause_91 : decode cX12_swearClause 91 = .ok (.iconst 5, 1) := by decide +kernel
theorem dX12_swearClause_76 : decode cX12_swearClause 76 = .ok (.iconst 1, 1) := by decide +kernel
theorem dX12_swearClause_77 : decode cX12_swearClause 77 = .ok (.ireturn, 1) := by decide +kernel
theorem dX12_lawClause_0 : decode cX12_lawClause 0 = .ok (.aload_n 0, 1) := by decide +kernel
theorem dX12_lawClause_1 : decode cX12_lawClause 1 = .ok (.getfield 16, 3) := by decide +kernel
theorem dX12_lawClause_4 : decode cX12_lawClause 4 = .ok (.iload_n 1, 1) := by decide +kernel
theorem dX12_lawClause_5 : decode cX12_lawClause 5 = .ok (.iconst 1, 1) := by decide +kernel
theorem dX12_lawClause_6 : decode cX12_lawClause 6 = .ok (.iadd, 1) := by decide +kernel
theorem dX12_lawClause_7 : decode cX12_lawClause 7 = .ok (.aload_n 0, 1) := by decide +kernel
theorem dX12_lawClause_8 : decode cX12_lawClause 8 = .ok (.getfield 139, 3) := by decide +kernel
theorem dX12_lawClause_11 : decode cX12_lawClause 11 = .ok (.iastore, 1) := by decide +kernel
theorem dX12_lawClause_12 : decode cX12_lawClause 12 = .ok (.aload_n 0, 1) := by decide +kernel
theorem dX12_lawClause_13 : decode cX12_lawClause 13 = .ok (.invokevirtual 219, 3) := by decide +kernel
theorem cw_X12_summed : CWv yX12_summed cX12_summed 2 (some .int) 0 := ⟨⟨⟨List.mem_of_getElem? (i := 137) (by decide +kernel), by decide +kernel⟩, ⟨List.mem_of_getElem? (i := 1701) (by decide +kernel), by decide +kernel⟩, by decide +kernel⟩, ⟨List.mem_of_getElem? (i := 1700) (by decide +kernel), by decide +kernel⟩, ⟨List.mem_of_getElem? (i := 62) (by decide +kernel), by decide +kernel⟩⟩
theorem km12_219 : inW (Cond.methodLink RX12 219 yX12_summed) := ⟨List.mem_of_getElem? (i := 1698) (by decide +kernel), by decide +kernel⟩
theorem dX12_lawClause_16 : decode cX12_lawClause 16 = .ok (.istore_n 2, 1) := by decide +kernel
theorem dX12_lawClause_17 : decode cX12_lawClause 17 = .ok (.aload_n 0, 1) := by decide +kernel
theorem dX12_lawClause_18 : decode cX12_lawClause 18 = .ok (.getfield 16, 3) := by decide +kernel
theorem dX12_lawClause_21 : decode cX12_lawClause 21 = .ok (.iload_n 1, 1) := by decide +kernel
theorem dX12_lawClause_22 : decode cX12_lawClause 22 = .ok (.iconst 2, 1) := by decide +kernel
theorem dX12_lawClause_23 : decode cX12_lawClause 23 = .ok (.iadd, 1) := by decide +kernel
theorem dX12_lawClause_24 : decode cX12_lawClause 24 = .ok (.aload_n 0, 1) := by decide +kernel
theorem dX12_lawClause_25 : decode cX12_lawClause 25 = .ok (.getfield 139, 3) := by decide +kernel
theorem dX12_lawClause_28 : decode cX12_lawClause 28 = .ok (.iastore, 1) := by decide +kernel
theorem dX12_lawClause_29 : decode cX12_lawClause 29 = .ok (.iload_n 2, 1) := by decide +kernel
theorem dX12_lawClause_30 : decode cX12_lawClause 30 = .ok (.ireturn, 1) := by decide +kernel
theorem dX12_body_0 : decode cX12_body 0 = .ok (.iload_n 1, 1) := by decide +kernel
theorem dX12_body_1 : decode cX12_body 1 = .ok (.tableswitch 112 3 10 #[47, 53, 112, 59, 70, 81, 91, 101], 47) := by decide +kernel
theorem dX12_body_48 : decode cX12_body 48 = .ok (.aload_n 0, 1) := by decide +kernel
theorem dX12_body_49 : decode cX12_body 49 = .ok (.iload_n 2, 1) := by decide +kernel
theorem dX12_body_50 : decode cX12_body 50 = .ok (.invokevirtual 226, 3) := by decide +kernel
theorem cw_X12_oneClause : CWv yX12_oneClause cX12_oneClause 3 (some .int) 1 := ⟨⟨⟨List.mem_of_getElem? (i := 137) (by decide +kernel), by decide +kernel⟩, ⟨List.mem_of_getElem? (i := 1681) (by decide +kernel), by decide +kernel⟩, by decide +kernel⟩, ⟨List.mem_of_getElem? (i := 1680) (by decide +kernel), by decide +kernel⟩, ⟨List.mem_of_getElem? (i := 57) (by decide +kernel), by decide +kernel⟩⟩
theorem km12_226 : inW (Cond.methodLink RX12 226 yX12_oneClause) := ⟨List.mem_of_getElem? (i := 1678) (by decide +kernel), by decide +kernel⟩
theorem dX12_body_53 : decode cX12_body 53 = .ok (.ireturn, 1) := by decide +kernel
theorem dX12_body_54 : decode cX12_body 54 = .ok (.aload_n 0, 1) := by decide +kernel
theorem dX12_body_55 : decode cX12_body 55 = .ok (.iload_n 2, 1) := by decide +kernel
theorem dX12_body_56 : decode cX12_body 56 = .ok (.invokevirtual 229, 3) := by decide +kernel
theorem cw_X12_swearClause : CWv yX12_swearClause cX12_swearClause 4 (some .int) 1 := ⟨⟨⟨List.mem_of_getElem? (i := 137) (by decide +kernel), by decide +kernel⟩, ⟨List.mem_of_getElem? (i := 1693) (by decide +kernel), by decide +kernel⟩, by decide +kernel⟩, ⟨List.mem_of_getElem? (i := 1692) (by decide +kernel), by decide +kernel⟩, ⟨List.mem_of_getElem? (i := 60) (by decide +kernel), by decide +kernel⟩⟩
theorem km12_229 : inW (Cond.methodLink RX12 229 yX12_swearClause) := ⟨List.mem_of_getElem? (i := 1690) (by decide +kernel), by decide +kernel⟩
theorem dX12_body_59 : decode cX12_body 59 = .ok (.ireturn, 1) := by decide +kernel
theorem dX12_body_113 : decode cX12_body 113 = .ok (.aload_n 0, 1) := by decide +kernel
theorem dX12_body_114 : decode cX12_body 114 = .ok (.iload_n 2, 1) := by decide +kernel
theorem dX12_body_115 : decode cX12_body 115 = .ok (.invokevirtual 232, 3) := by decide +kernel
theorem cw_X12_lawClause : CWv yX12_lawClause cX12_lawClause 3 (some .int) 1 := ⟨⟨⟨List.mem_of_getElem? (i := 137) (by decide +kernel), by decide +kernel⟩, ⟨List.mem_of_getElem? (i := 1697) (by decide +kernel), by decide +kernel⟩, by decide +kernel⟩, ⟨List.mem_of_getElem? (i := 1696) (by decide +kernel), by decide +kernel⟩, ⟨List.mem_of_getElem? (i := 61) (by decide +kernel), by decide +kernel⟩⟩
theorem km12_232 : inW (Cond.methodLink RX12 232 yX12_lawClause) := ⟨List.mem_of_getElem? (i := 1694) (by decide +kernel), by decide +kernel⟩
theorem dX12_body_118 : decode cX12_body 118 = .ok (.ireturn, 1) := by decide +kernel
theorem dX12_body_60 : decode cX12_body 60 = .ok (.aload_n 0, 1) := by decide +kernel
theorem dX12_body_61 : decode cX12_body 61 = .ok (.iload_n 2, 1) := by decide +kernel
theorem dX12_body_62 : decode cX12_body 62 = .ok (.iconst 1, 1) := by decide +kernel
theorem dX12_body_63 : decode cX12_body 63 = .ok (.iadd, 1) := by decide +kernel
theorem dX12_body_64 : decode cX12_body 64 = .ok (.iconst 0, 1) := by decide +kernel
theorem dX12_body_65 : decode cX12_body 65 = .ok (.bipush 13, 2) := by decide +kernel
theorem dX12_body_67 : decode cX12_body 67 = .ok (.invokevirtual 215, 3) := by decide +kernel
theorem dX12_body_70 : decode cX12_body 70 = .ok (.ireturn, 1) := by decide +kernel
theorem dX12_body_71 : decode cX12_body 71 = .ok (.aload_n 0, 1) := by decide +kernel
theorem dX12_body_72 : decode cX12_body 72 = .ok (.iload_n 2, 1) := by decide +kernel
theorem dX12_body_73 : decode cX12_body 73 = .ok (.iconst 1, 1) := by decide +kernel
theorem dX12_body_74 : decode cX12_body 74 = .ok (.iadd, 1) := by decide +kernel
theorem dX12_body_75 : decode cX12_body 75 = .ok (.iconst 0, 1) := by decide +kernel
theorem dX12_body_76 : decode cX12_body 76 = .ok (.bipush 13, 2) := by decide +kernel
theorem dX12_body_78 : decode cX12_body 78 = .ok (.invokevirtual 215, 3) := by decide +kernel
theorem dX12_body_81 : decode cX12_body 81 = .ok (.ireturn, 1) := by decide +kernel
theorem dX12_body_82 : decode cX12_body 82 = .ok (.aload_n 0, 1) := by decide +kernel
theorem dX12_body_83 : decode cX12_body 83 = .ok (.iload_n 2, 1) := by decide +kernel
theorem dX12_body_84 : decode cX12_body 84 = .ok (.iconst 1, 1) := by decide +kernel
theorem dX12_body_85 : decode cX12_body 85 = .ok (.iadd, 1) := by decide +kernel
theorem dX12_body_86 : decode cX12_body 86 = .ok (.iconst 0, 1) := by decide +kernel
theorem dX12_body_87 : decode cX12_body 87 = .ok (.iconst 5, 1) := by decide +kernel
theorem dX12_body_88 : decode cX12_body 88 = .ok (.invokevirtual 215, 3) := by decide +kernel
theorem dX12_body_91 : decode cX12_body 91 = .ok (.ireturn, 1) := by decide +kernel
theorem dX12_body_92 : decode cX12_body 92 = .ok (.aload_n 0, 1) := by decide +kernel
theorem dX12_body_93 : decode cX12_body 93 = .ok (.iload_n 2, 1) := by decide +kernel
theorem dX12_body_94 : decode cX12_body 94 = .ok (.iconst 1, 1) := by decide +kernel
theorem dX12_body_95 : decode cX12_body 95 = .ok (.iadd, 1) := by decide +kernel
theorem dX12_body_96 : decode cX12_body 96 = .ok (.iconst 0, 1) := by decide +kernel
theorem dX12_body_97 : decode cX12_body 97 = .ok (.iconst 5, 1) := by decide +kernel
theorem dX12_body_98 : decode cX12_body 98 = .ok (.invokevirtual 215, 3) := by decide +kernel
theorem dX12_body_101 : decode cX12_body 101 = .ok (.ireturn, 1) := by decide +kernel
theorem dX12_body_102 : decode cX12_body 102 = .ok (.aload_n 0, 1) := by decide +kernel
theorem dX12_body_103 : decode cX12_body 103 = .ok (.iload_n 2, 1) := by decide +kernel
theorem dX12_body_104 : decode cX12_body 104 = .ok (.iconst 1, 1) := by decide +kernel
theorem dX12_body_105 : decode cX12_body 105 = .ok (.iadd, 1) := by decide +kernel
theorem dX12_body_106 : decode cX12_body 106 = .ok (.iconst 1, 1) := by decide +kernel
theorem dX12_body_107 : decode cX12_body 107 = .ok (.bipush 60, 2) := by decide +kernel
theorem dX12_body_109 : decode cX12_body 109 = .ok (.invokevirtual 215, 3) := by decide +kernel
theorem dX12_body_112 : decode cX12_body 112 = .ok (.ireturn, 1) := by decide +kernel
section RNR
variable {gB g0 g1 g3 z : Nat → Int32} {x0 n : Nat} {t0 wr wr2 r v x s : Int32}
def RN (gB : Nat → Int32) (x0 : Nat) (z : Nat → Int32) : Prop := (∀ k, k < x0 ∨ x0 + 5 ≤ k → z k = gB k) ∧ 3 ≤ (z x0).toInt
theorem RN_up (h : RN gB x0 z) (hx : x0 < n ∧ n < x0 + 5) : RN gB x0 (upd z n v) := ⟨fun k hk => by rw [pk_un (by omega)]; exact h.1 k hk, by rw [pk_un (by omega)]; exact h.2⟩
theorem RN_u0 (h : RN gB x0 z) (hx : n = x0) (hv : 3 ≤ v.toInt) : RN gB x0 (upd z n v) := ⟨fun k hk => by rw [pk_un (by omega)]; exact h.1 k hk, by rw [hx, pk_us]; exact hv⟩
theorem WFc_ext {b : Nat} (h : WFc z b v wr) (e : ∀ k, b ≤ k → g3 k = z k) : WFc g3 b v wr := by
  obtain ⟨h1, h2, h3, h4⟩ := h
  refine ⟨h1, h2, h3, fun m hm => ?_⟩
  obtain ⟨q, hq⟩ := h4 m hm
  exact ⟨q, by rw [hts_ext m (fun k _ => ⟨e _ (by omega), e _ (by omega)⟩)]; exact hq⟩
def LC (r : Int32) (g0 : Nat → Int32) (x0 : Nat) (t0 wr wr2 : Int32) (z : Nat → Int32) : Prop := (∀ k, k < x0 ∨ x0 + 5 ≤ k → k < t0.toInt.toNat + 121 + 2 * wr.toInt.toNat ∨ t0.toInt.toNat + 729 ≤ k → z k = g0 k) ∧ (r = 0 → WFc z (t0.toInt.toNat + 121) (z (x0 + 1)) (z (x0 + 2)) ∧ (z (x0 + 2)).toInt ≤ wr2.toInt ∧ wr.toInt ≤ wr2.toInt)
def BD (r : Int32) (g0 : Nat → Int32) (x0 : Nat) (t0 wr wr2 : Int32) (z : Nat → Int32) : Prop := (∀ k, k < x0 ∨ x0 + 5 ≤ k → k < t0.toInt.toNat + 121 + 2 * wr.toInt.toNat ∨ t0.toInt.toNat + 729 ≤ k → z k = g0 k) ∧ (r = 0 → (bn 0 2 (z x0) → WFc z (t0.toInt.toNat + 121) (z (x0 + 1)) (z (x0 + 2)) ∧ (z (x0 + 2)).toInt ≤ wr2.toInt) ∧ wr.toInt ≤ wr2.toInt)
theorem LC_mk {i1 i2 : Nat} (h : XE r g1 wr t0 wr2 z) (e1 : g1 = upd g0 i1 wr) (e3 : g3 = upd z i2 wr2) (q1 : i1 = x0 + 1) (q2 : i2 = x0 + 2) (hx : x0 + 5 ≤ t0.toInt.toNat + 121) : LC r g0 x0 t0 wr wr2 g3 := by
  subst q1
  subst q2
  obtain ⟨hB, hW⟩ := h
  refine ⟨fun k hk hk2 => ?_, fun hr => ?_⟩
  · rw [e3, pk_un (by omega), hB k hk2, e1, pk_un (by omega)]
  · obtain ⟨w1, w2⟩ := hW hr
    have a1 : g3 (x0 + 1) = wr := by rw [e3, pk_un (by omega), hB (x0 + 1) (Or.inl (by omega)), e1, pk_us]
    have a2 : g3 (x0 + 2) = wr2 := by rw [e3, pk_us]
    rw [a1, a2]
    exact ⟨WFc_ext w1 (fun k hk => by rw [e3, pk_un (by omega)]), Int.le_refl _, w2⟩
theorem BD_lc (h : LC r g0 x0 t0 wr wr2 z) : BD r g0 x0 t0 wr wr2 z := ⟨h.1, fun hr => ⟨fun _ => ⟨(h.2 hr).1, (h.2 hr).2.1⟩, (h.2 hr).2.2⟩⟩
theorem BD_rn (h : RN g0 x0 z) : BD r g0 x0 t0 wr wr z := ⟨fun k hk _ => h.1 k hk, fun _ => ⟨fun hb => by have h1 := hb.2; have h2 := h.2; omega, Int.le_refl _⟩⟩
theorem RN_eq (e : z = g0) (hs : g0 x0 = s) (h3 : 3 ≤ s.toInt) : RN g0 x0 z := by
  subst e
  exact ⟨fun _ _ => rfl, by rw [hs]; exact h3⟩
end RNR
set_option maxHeartbeats 4000000 in
set_option maxRecDepth 100000 in
theorem x_X12_figure {l : Launch} {G : GG}  {L : List Nat} {f : HF} {ad : Nat → Nat → Nat} {pa : (Nat → Int32) → Prop} {PA : (Nat → Int32) → Prop} {PI : (Nat → Int32) → Prop} {i1 i2 i3 : Int32} {td fa fp at9 ps9 tk nu t0 wr so pd op9 cg iw on9 is9 se : Int32} {wd : Int64} {gB : Nat → Int32} {x0 : Nat} (I : SH (spM PA PI (RN gB x0) pa) nnM G ad L f) (p_ad_0_0 : pt L f (ad 0 0) (.inr (12, [.ref (ad 1 0), .ref (ad 2 0), .ref (ad 3 0), .ref (ad 4 0), .int td, .int fa, .int fp, .int at9, .int ps9, .int tk, .int nu, .long wd, .int t0, .int wr, .int so, .ref (ad 5 0), .ref (ad 6 0), .int pd, .int op9, .int cg, .int iw, .int on9, .ref (ad 7 0), .ref (ad 8 0), .ref (ad 9 0), .int is9, .ref (ad 10 0), .ref (ad 11 0), .ref (ad 12 0), .ref (ad 13 0), .int se, .ref (ad 14 0)]))) (b_i1 : bn 0 2404 i1) (hxr : x0 < i1.toInt.toNat ∧ i1.toInt.toNat < x0 + 5) (hT : TK at9 ps9 tk) : PMi l yX12_figure cX12_figure 4 .int 2 0 0 G [.ref (ad 0 0), .int i1, .int i2, .int i3] L f (fun r L1 f1 => ∃ at92 : Int32, ∃ ps92 : Int32, ∃ tk2 : Int32, ∃ nu2 : Int32, ∃ wd2 : Int64, bn 0 2 r ∧ SH (spM PA PI (RN gB x0) pa) nnM G ad L1 f1 ∧ pt L1 f1 (ad 0 0) (.inr (12, [.ref (ad 1 0), .ref (ad 2 0), .ref (ad 3 0), .ref (ad 4 0), .int td, .int fa, .int fp, .int at92, .int ps92, .int tk2, .int nu2, .long wd2, .int t0, .int wr, .int so, .ref (ad 5 0), .ref (ad 6 0), .int pd, .int op9, .int cg, .int iw, .int on9, .ref (ad 7 0), .ref (ad 8 0), .ref (ad 9 0), .int is9, .ref (ad 10 0), .ref (ad 11 0), .ref (ad 12 0), .ref (ad 13 0), .int se, .ref (ad 14 0)])) ∧ TK at92 ps92 tk2 ∧ ps9.toInt ≤ ps92.toInt) := by
  refine PMi.of (post := fun r L1 f1 => ∃ at92 : Int32, ∃ ps92 : Int32, ∃ tk2 : Int32, ∃ nu2 : Int32, ∃ wd2 : Int64, bn 0 2 r ∧ SH (spM PA PI (RN gB x0) pa) nnM G ad L1 f1 ∧ pt L1 f1 (ad 0 0) (.inr (12, [.ref (ad 1 0), .ref (ad 2 0), .ref (ad 3 0), .ref (ad 4 0), .int td, .int fa, .int fp, .int at92, .int ps92, .int tk2, .int nu2, .long wd2, .int t0, .int wr, .int so, .ref (ad 5 0), .ref (ad 6 0), .int pd, .int op9, .int cg, .int iw, .int on9, .ref (ad 7 0), .ref (ad 8 0), .ref (ad 9 0), .int is9, .ref (ad 10 0), .ref (ad 11 0), .ref (ad 12 0), .ref (ad 13 0), .int se, .ref (ad 14 0)])) ∧ TK at92 ps92 tk2 ∧ ps9.toInt ≤ ps92.toInt) (own := RX12) (by decide) rfl (Nat.le_of_ble_eq_true rfl) (fun sz p e s m args below meth c A ls hA1 hname S Y hl => ?_)
  have hx := S.hx
  have hb := S.hb
  have hl : lv_has ls 4 [(0, .ref (ad 0 0)), (1, .int i1), (2, .int i2), (3, .int i3)] := hl
  obtain ⟨bfe_4, bfe_7, bfe_8, bfe_12, bfe_13, bfe_17, bfe_18, bfe_19, bfe_20, bfe_25⟩ := obM I p_ad_0_0
  refine lv_aload_n hx hb dX12_figure_0 rfl (lv_at hl 0 rfl) ?_
  refine pg_get S Y ok_X12 9 (by decide) kf12_98 (v := .int tk) p_ad_0_0 rfl dX12_figure_1 ?_
  refine lv_iconst (v := 1) hx hb dX12_figure_4 (by decide) ?_
  refine lv_icmp_eq (tgt := 10) hx hb dX12_figure_5 (by decide) (fun c_88263 => ?_) (fun c_88263 => ?_)
  · have B_88264 : bn 1 1 tk := bn_w (bn_eq c_88263 (show bn 1 1 (1 : Int32) from bn_k (by decide))) (by decide)
    refine lv_aload_n hx hb dX12_figure_10 rfl (lv_at hl 0 rfl) ?_
    refine pg_get S Y ok_X12 10 (by decide) kf12_104 (v := .int nu) p_ad_0_0 rfl dX12_figure_11 ?_
    refine lv_iload_n hx hb dX12_figure_14 rfl (lv_at hl 2 rfl) ?_
    refine lv_iload_n hx hb dX12_figure_15 rfl (lv_at hl 3 rfl) ?_
    refine cSp (As := [.int nu, .int i2, .int i3]) (rest := []) S Y (x_X12_isIn (l := l) ) cw_X12_isIn km12_69 rfl ⟨Nat.le_of_ble_eq_true rfl, Nat.le_of_ble_eq_true rfl⟩ hl.1 rfl (Nat.le_of_ble_eq_true rfl) ⟨Nat.le_of_ble_eq_true rfl, Nat.le_of_ble_eq_true rfl⟩ dX12_figure_16 (fun r_88265 H locs er_88265 Y => ?_)
    refine lv_if_ne (tgt := 24) hx hb dX12_figure_19 (by decide) (fun c_88266 => ?_) (fun c_88266 => ?_)
    · have B_88267 : bn (-2147483648) 2147483647 nu := bn_w (bn_i (bn_any nu) (bn_btw (er_88265.2 c_88266).1 (er_88265.2 c_88266).2 (bn_any i2) (bn_any i3))) (by decide)
      have B_88268 : bn 1 1 r_88265 := bn_w (bn_nel c_88266 er_88265.1 (show bn 0 0 (0 : Int32) from bn_k (by decide))) (by decide)
      refine lv_aload_n hx hb dX12_figure_24 rfl (lv_at hl 0 rfl) ?_
      refine pg_get S Y ok_X12 2 (by decide) kf12_16 (v := .ref (ad 3 0)) p_ad_0_0 rfl dX12_figure_25 ?_
      refine lv_iload_n hx hb dX12_figure_28 rfl (lv_at hl 1 rfl) ?_
      refine lv_aload_n hx hb dX12_figure_29 rfl (lv_at hl 0 rfl) ?_
      refine pg_get S Y ok_X12 10 (by decide) kf12_104 (v := .int nu) p_ad_0_0 rfl dX12_figure_30 ?_
      obtain ⟨g_88270, p_ad_3_0, o_88271⟩ := I.opi (k := 3) (j := 0) (by decide) rfl
      have p_ad_3_0 : pt L f (ad 3 0) (.inl (G.2 0, 2916, .inl g_88270)) := p_ad_3_0
      refine pg_iast S Y p_ad_3_0 (vp_bn b_i1 (by decide)) dX12_figure_33 (fun f_88273 H locs ef_88273 Y => ?_)
      obtain ⟨g_88272, eg_88272⟩ : ∃ z, z = upd (g_88270) (i1 : Int32).toNatClampNeg nu := ⟨_, rfl⟩
      rw [← eg_88272] at ef_88273
      have p_ad_0_0 := p_ad_0_0.up ef_88273 (I.ne (k := 0) (j := 0) (k' := 3) (j' := 0) (by decide) (by decide) (Or.inl (by decide)))
      have p_ad_3_0 := p_ad_3_0.me ef_88273
      have o_88274 : (RN gB x0) g_88272 := (by rw [eg_88272]; exact RN_up o_88271 (by rw [tnc]; exact hxr))
      have I := I.upS (sp' := spM PA PI (RN gB x0) pa) (k := 3) (j := 0) (by decide) ef_88273 (okE_a (g := g_88272) o_88274) pXC
      refine lv_aload_n hx hb dX12_figure_34 rfl (lv_at hl 0 rfl) ?_
      obtain ⟨g_88275, p_ad_4_0, o_88276⟩ := I.opi (k := 4) (j := 0) (by decide) rfl
      have p_ad_4_0 : pt L f_88273 (ad 4 0) (.inl (G.2 0, 300, .inl g_88275)) := p_ad_4_0
      obtain ⟨g_88277, p_ad_5_0, o_88278⟩ := I.opi (k := 5) (j := 0) (by decide) rfl
      have p_ad_5_0 : pt L f_88273 (ad 5 0) (.inl (G.2 0, 160, .inl g_88277)) := p_ad_5_0
      obtain ⟨g_88279, p_ad_6_0, o_88280⟩ := I.opi (k := 6) (j := 0) (by decide) rfl
      have p_ad_6_0 : pt L f_88273 (ad 6 0) (.inl (G.2 0, 9, .inl g_88279)) := p_ad_6_0
      refine cVv (As := []) (rest := []) S Y (x_X12_nextToken (l := l) I p_ad_0_0 p_ad_4_0 p_ad_5_0 p_ad_6_0) cw_X12_nextToken km12_166 p_ad_0_0 ok_X12.1 rfl rfl ⟨Nat.le_of_ble_eq_true rfl, Nat.le_of_ble_eq_true rfl⟩ hl.1 rfl (Nat.le_of_ble_eq_true rfl) ⟨Nat.le_of_ble_eq_true rfl, Nat.le_of_ble_eq_true rfl⟩ dX12_figure_35 (fun L_88281 f_88282 H locs hr_88283 Y => ?_)
      obtain ⟨v_88284, v_88285, v_88286, v_88287, v_88288, I, p_ad_0_0, p_ad_4_0, p_ad_5_0, p_ad_6_0, eT_88289, eP_88290⟩ := hr_88283
      obtain ⟨bfc88290_4, bfc88290_7, bfc88290_8, bfc88290_12, bfc88290_13, bfc88290_17, bfc88290_18, bfc88290_19, bfc88290_20, bfc88290_25⟩ := obM I p_ad_0_0
      refine lv_iconst (v := 0) hx hb dX12_figure_38 (by decide) ?_
      exact prI (post := fun r L1 f1 => ∃ at92 : Int32, ∃ ps92 : Int32, ∃ tk2 : Int32, ∃ nu2 : Int32, ∃ wd2 : Int64, bn 0 2 r ∧ SH (spM PA PI (RN gB x0) pa) nnM G ad L1 f1 ∧ pt L1 f1 (ad 0 0) (.inr (12, [.ref (ad 1 0), .ref (ad 2 0), .ref (ad 3 0), .ref (ad 4 0), .int td, .int fa, .int fp, .int at92, .int ps92, .int tk2, .int nu2, .long wd2, .int t0, .int wr, .int so, .ref (ad 5 0), .ref (ad 6 0), .int pd, .int op9, .int cg, .int iw, .int on9, .ref (ad 7 0), .ref (ad 8 0), .ref (ad 9 0), .int is9, .ref (ad 10 0), .ref (ad 11 0), .ref (ad 12 0), .ref (ad 13 0), .int se, .ref (ad 14 0)])) ∧ TK at92 ps92 tk2 ∧ ps9.toInt ≤ ps92.toInt) S Y rfl (by decide) (by decide) hA1 ⟨v_88284, v_88285, v_88286, v_88287, v_88288, bn_w (show bn 0 0 (0 : Int32) from bn_k (by decide)) (by decide), I, p_ad_0_0, eT_88289, (by have c0 := hT.1; have c1 := eT_88289.1; have c2 := eP_88290; omega)⟩ dX12_figure_39
    · have B_88269 : bn 0 0 r_88265 := bn_w (bn_eq c_88266 (show bn 0 0 (0 : Int32) from bn_k (by decide))) (by decide)
      refine lv_iconst (v := 2) hx hb dX12_figure_22 (by decide) ?_
      exact prI (post := fun r L1 f1 => ∃ at92 : Int32, ∃ ps92 : Int32, ∃ tk2 : Int32, ∃ nu2 : Int32, ∃ wd2 : Int64, bn 0 2 r ∧ SH (spM PA PI (RN gB x0) pa) nnM G ad L1 f1 ∧ pt L1 f1 (ad 0 0) (.inr (12, [.ref (ad 1 0), .ref (ad 2 0), .ref (ad 3 0), .ref (ad 4 0), .int td, .int fa, .int fp, .int at92, .int ps92, .int tk2, .int nu2, .long wd2, .int t0, .int wr, .int so, .ref (ad 5 0), .ref (ad 6 0), .int pd, .int op9, .int cg, .int iw, .int on9, .ref (ad 7 0), .ref (ad 8 0), .ref (ad 9 0), .int is9, .ref (ad 10 0), .ref (ad 11 0), .ref (ad 12 0), .ref (ad 13 0), .int se, .ref (ad 14 0)])) ∧ TK at92 ps92 tk2 ∧ ps9.toInt ≤ ps92.toInt) S Y rfl (by decide) (by decide) hA1 ⟨at9, ps9, tk, nu, wd, bn_w (show bn 2 2 (2 : Int32) from bn_k (by decide)) (by decide), I, p_ad_0_0, hT, (Int.le_refl _)⟩ dX12_figure_23
  · refine lv_iconst (v := 1) hx hb dX12_figure_8 (by decide) ?_
    exact prI (post := fun r L1 f1 => ∃ at92 : Int32, ∃ ps92 : Int32, ∃ tk2 : Int32, ∃ nu2 : Int32, ∃ wd2 : Int64, bn 0 2 r ∧ SH (spM PA PI (RN gB x0) pa) nnM G ad L1 f1 ∧ pt L1 f1 (ad 0 0) (.inr (12, [.ref (ad 1 0), .ref (ad 2 0), .ref (ad 3 0), .ref (ad 4 0), .int td, .int fa, .int fp, .int at92, .int ps92, .int tk2, .int nu2, .long wd2, .int t0, .int wr, .int so, .ref (ad 5 0), .ref (ad 6 0), .int pd, .int op9, .int cg, .int iw, .int on9, .ref (ad 7 0), .ref (ad 8 0), .ref (ad 9 0), .int is9, .ref (ad 10 0), .ref (ad 11 0), .ref (ad 12 0), .ref (ad 13 0), .int se, .ref (ad 14 0)])) ∧ TK at92 ps92 tk2 ∧ ps9.toInt ≤ ps92.toInt) S Y rfl (by decide) (by decide) hA1 ⟨at9, ps9, tk, nu, wd, bn_w (show bn 1 1 (1 : Int32) from bn_k (by decide)) (by decide), I, p_ad_0_0, hT, (Int.le_refl _)⟩ dX12_figure_9
set_option maxHeartbeats 4000000 in
set_option maxRecDepth 100000 in
theorem x_X12_worded {l : Launch} {G : GG}  {L : List Nat} {f : HF} {ad : Nat → Nat → Nat} {pa : (Nat → Int32) → Prop} {PA : (Nat → Int32) → Prop} {PI : (Nat → Int32) → Prop} {i2 i3 : Int32} {v1 : Int64} {td fa fp at9 ps9 tk nu t0 wr so pd op9 cg iw on9 is9 se : Int32} {wd : Int64} {gB : Nat → Int32} {x0 : Nat} (I : SH (spM PA PI (RN gB x0) pa) nnM G ad L f) (p_ad_0_0 : pt L f (ad 0 0) (.inr (12, [.ref (ad 1 0), .ref (ad 2 0), .ref (ad 3 0), .ref (ad 4 0), .int td, .int fa, .int fp, .int at9, .int ps9, .int tk, .int nu, .long wd, .int t0, .int wr, .int so, .ref (ad 5 0), .ref (ad 6 0), .int pd, .int op9, .int cg, .int iw, .int on9, .ref (ad 7 0), .ref (ad 8 0), .ref (ad 9 0), .int is9, .ref (ad 10 0), .ref (ad 11 0), .ref (ad 12 0), .ref (ad 13 0), .int se, .ref (ad 14 0)]))) (b_i2 : bn 0 2404 i2) (hxr : x0 < i2.toInt.toNat ∧ i2.toInt.toNat < x0 + 5) (hT : TK at9 ps9 tk) : PMi l yX12_worded cX12_worded 5 .int 3 0 0 G [.ref (ad 0 0), .long v1, .int i2, .int i3] L f (fun r L1 f1 => ∃ at92 : Int32, ∃ ps92 : Int32, ∃ tk2 : Int32, ∃ nu2 : Int32, ∃ wd2 : Int64, bn 0 2 r ∧ SH (spM PA PI (RN gB x0) pa) nnM G ad L1 f1 ∧ pt L1 f1 (ad 0 0) (.inr (12, [.ref (ad 1 0), .ref (ad 2 0), .ref (ad 3 0), .ref (ad 4 0), .int td, .int fa, .int fp, .int at92, .int ps92, .int tk2, .int nu2, .long wd2, .int t0, .int wr, .int so, .ref (ad 5 0), .ref (ad 6 0), .int pd, .int op9, .int cg, .int iw, .int on9, .ref (ad 7 0), .ref (ad 8 0), .ref (ad 9 0), .int is9, .ref (ad 10 0), .ref (ad 11 0), .ref (ad 12 0), .ref (ad 13 0), .int se, .ref (ad 14 0)])) ∧ TK at92 ps92 tk2 ∧ ps9.toInt ≤ ps92.toInt) := by
  refine PMi.of (post := fun r L1 f1 => ∃ at92 : Int32, ∃ ps92 : Int32, ∃ tk2 : Int32, ∃ nu2 : Int32, ∃ wd2 : Int64, bn 0 2 r ∧ SH (spM PA PI (RN gB x0) pa) nnM G ad L1 f1 ∧ pt L1 f1 (ad 0 0) (.inr (12, [.ref (ad 1 0), .ref (ad 2 0), .ref (ad 3 0), .ref (ad 4 0), .int td, .int fa, .int fp, .int at92, .int ps92, .int tk2, .int nu2, .long wd2, .int t0, .int wr, .int so, .ref (ad 5 0), .ref (ad 6 0), .int pd, .int op9, .int cg, .int iw, .int on9, .ref (ad 7 0), .ref (ad 8 0), .ref (ad 9 0), .int is9, .ref (ad 10 0), .ref (ad 11 0), .ref (ad 12 0), .ref (ad 13 0), .int se, .ref (ad 14 0)])) ∧ TK at92 ps92 tk2 ∧ ps9.toInt ≤ ps92.toInt) (own := RX12) (by decide) rfl (Nat.le_of_ble_eq_true rfl) (fun sz p e s m args below meth c A ls hA1 hname S Y hl => ?_)
  have hx := S.hx
  have hb := S.hb
  have hl : lv_has ls 5 [(0, .ref (ad 0 0)), (1, .long v1), (3, .int i2), (4, .int i3)] := hl
  obtain ⟨bfe_4, bfe_7, bfe_8, bfe_12, bfe_13, bfe_17, bfe_18, bfe_19, bfe_20, bfe_25⟩ := obM I p_ad_0_0
  refine lv_aload_n hx hb dX12_worded_0 rfl (lv_at hl 0 rfl) ?_
  refine lv_lload_n hx hb dX12_worded_1 rfl (lv_at hl 1 rfl) ?_
  refine cVp (As := [.long v1]) (rest := []) S Y (x_X12_isWord (l := l) I p_ad_0_0) cw_X12_isWord km12_187 p_ad_0_0 ok_X12.1 rfl rfl ⟨Nat.le_of_ble_eq_true rfl, Nat.le_of_ble_eq_true rfl⟩ hl.1 rfl (Nat.le_of_ble_eq_true rfl) ⟨Nat.le_of_ble_eq_true rfl, Nat.le_of_ble_eq_true rfl⟩ dX12_worded_2 (fun r_88356 H locs er_88356 Y => ?_)
  refine lv_if_ne (tgt := 10) hx hb dX12_worded_5 (by decide) (fun c_88357 => ?_) (fun c_88357 => ?_)
  · have B_88358 : bn 1 1 r_88356 := bn_w (bn_nel c_88357 er_88356.1 (show bn 0 0 (0 : Int32) from bn_k (by decide))) (by decide)
    refine lv_aload_n hx hb dX12_worded_10 rfl (lv_at hl 0 rfl) ?_
    obtain ⟨g_88360, p_ad_4_0, o_88361⟩ := I.opi (k := 4) (j := 0) (by decide) rfl
    have p_ad_4_0 : pt L f (ad 4 0) (.inl (G.2 0, 300, .inl g_88360)) := p_ad_4_0
    obtain ⟨g_88362, p_ad_5_0, o_88363⟩ := I.opi (k := 5) (j := 0) (by decide) rfl
    have p_ad_5_0 : pt L f (ad 5 0) (.inl (G.2 0, 160, .inl g_88362)) := p_ad_5_0
    obtain ⟨g_88364, p_ad_6_0, o_88365⟩ := I.opi (k := 6) (j := 0) (by decide) rfl
    have p_ad_6_0 : pt L f (ad 6 0) (.inl (G.2 0, 9, .inl g_88364)) := p_ad_6_0
    refine cVv (As := []) (rest := []) S Y (x_X12_nextToken (l := l) I p_ad_0_0 p_ad_4_0 p_ad_5_0 p_ad_6_0) cw_X12_nextToken km12_166 p_ad_0_0 ok_X12.1 rfl rfl ⟨Nat.le_of_ble_eq_true rfl, Nat.le_of_ble_eq_true rfl⟩ hl.1 rfl (Nat.le_of_ble_eq_true rfl) ⟨Nat.le_of_ble_eq_true rfl, Nat.le_of_ble_eq_true rfl⟩ dX12_worded_11 (fun L_88366 f_88367 H locs hr_88368 Y => ?_)
    obtain ⟨v_88369, v_88370, v_88371, v_88372, v_88373, I, p_ad_0_0, p_ad_4_0, p_ad_5_0, p_ad_6_0, eT_88374, eP_88375⟩ := hr_88368
    obtain ⟨bfc88375_4, bfc88375_7, bfc88375_8, bfc88375_12, bfc88375_13, bfc88375_17, bfc88375_18, bfc88375_19, bfc88375_20, bfc88375_25⟩ := obM I p_ad_0_0
    refine lv_aload_n hx hb dX12_worded_14 rfl (lv_at hl 0 rfl) ?_
    refine lv_iload_n hx hb dX12_worded_15 rfl (lv_at hl 2 rfl) ?_
    refine lv_iconst (v := 0) hx hb dX12_worded_16 (by decide) ?_
    refine lv_iload hx hb dX12_worded_17 (lv_at hl 3 rfl) ?_
    refine cVi (As := [.int i2, .int 0, .int i3]) (rest := []) S Y (x_X12_figure (l := l) I p_ad_0_0 (bn_w b_i2 (by decide)) hxr eT_88374) cw_X12_figure km12_215 p_ad_0_0 ok_X12.1 rfl rfl ⟨Nat.le_of_ble_eq_true rfl, Nat.le_of_ble_eq_true rfl⟩ hl.1 rfl (Nat.le_of_ble_eq_true rfl) ⟨Nat.le_of_ble_eq_true rfl, Nat.le_of_ble_eq_true rfl⟩ dX12_worded_19 (fun r_88379 L_88377 f_88378 H locs hr_88379 Y => ?_)
    obtain ⟨v_88380, v_88381, v_88382, v_88383, v_88384, er_88379, I, p_ad_0_0, eT_88385, eP_88386⟩ := hr_88379
    obtain ⟨bfc88386_4, bfc88386_7, bfc88386_8, bfc88386_12, bfc88386_13, bfc88386_17, bfc88386_18, bfc88386_19, bfc88386_20, bfc88386_25⟩ := obM I p_ad_0_0
    exact prI (post := fun r L1 f1 => ∃ at92 : Int32, ∃ ps92 : Int32, ∃ tk2 : Int32, ∃ nu2 : Int32, ∃ wd2 : Int64, bn 0 2 r ∧ SH (spM PA PI (RN gB x0) pa) nnM G ad L1 f1 ∧ pt L1 f1 (ad 0 0) (.inr (12, [.ref (ad 1 0), .ref (ad 2 0), .ref (ad 3 0), .ref (ad 4 0), .int td, .int fa, .int fp, .int at92, .int ps92, .int tk2, .int nu2, .long wd2, .int t0, .int wr, .int so, .ref (ad 5 0), .ref (ad 6 0), .int pd, .int op9, .int cg, .int iw, .int on9, .ref (ad 7 0), .ref (ad 8 0), .ref (ad 9 0), .int is9, .ref (ad 10 0), .ref (ad 11 0), .ref (ad 12 0), .ref (ad 13 0), .int se, .ref (ad 14 0)])) ∧ TK at92 ps92 tk2 ∧ ps9.toInt ≤ ps92.toInt) S Y rfl (by decide) (by decide) hA1 ⟨v_88380, v_88381, v_88382, v_88383, v_88384, bn_w er_88379 (by decide), I, p_ad_0_0, eT_88385, (by have c0 := hT.1; have c1 := eT_88374.1; have c2 := eP_88375; have c3 := eT_88385.1; have c4 := eP_88386; omega)⟩ dX12_worded_22
  · have B_88359 : bn 0 0 r_88356 := bn_w (bn_eq c_88357 (show bn 0 0 (0 : Int32) from bn_k (by decide))) (by decide)
    refine lv_iconst (v := 1) hx hb dX12_worded_8 (by decide) ?_
    exact prI (post := fun r L1 f1 => ∃ at92 : Int32, ∃ ps92 : Int32, ∃ tk2 : Int32, ∃ nu2 : Int32, ∃ wd2 : Int64, bn 0 2 r ∧ SH (spM PA PI (RN gB x0) pa) nnM G ad L1 f1 ∧ pt L1 f1 (ad 0 0) (.inr (12, [.ref (ad 1 0), .ref (ad 2 0), .ref (ad 3 0), .ref (ad 4 0), .int td, .int fa, .int fp, .int at92, .int ps92, .int tk2, .int nu2, .long wd2, .int t0, .int wr, .int so, .ref (ad 5 0), .ref (ad 6 0), .int pd, .int op9, .int cg, .int iw, .int on9, .ref (ad 7 0), .ref (ad 8 0), .ref (ad 9 0), .int is9, .ref (ad 10 0), .ref (ad 11 0), .ref (ad 12 0), .ref (ad 13 0), .int se, .ref (ad 14 0)])) ∧ TK at92 ps92 tk2 ∧ ps9.toInt ≤ ps92.toInt) S Y rfl (by decide) (by decide) hA1 ⟨at9, ps9, tk, nu, wd, bn_w (show bn 1 1 (1 : Int32) from bn_k (by decide)) (by decide), I, p_ad_0_0, hT, (Int.le_refl _)⟩ dX12_worded_9
set_option maxHeartbeats 4000000 in
set_option maxRecDepth 100000 in
theorem x_X12_oneClause {l : Launch} {G : GG}  {L : List Nat} {f : HF} {ad : Nat → Nat → Nat} {pa : (Nat → Int32) → Prop} {PA : (Nat → Int32) → Prop} {PI : (Nat → Int32) → Prop} {i1 : Int32} {td fa fp at9 ps9 tk nu t0 wr so pd op9 cg iw on9 is9 se : Int32} {wd : Int64} {gB : Nat → Int32} {x0 : Nat} (I : SH (spM PA PI (RN gB x0) pa) nnM G ad L f) (p_ad_0_0 : pt L f (ad 0 0) (.inr (12, [.ref (ad 1 0), .ref (ad 2 0), .ref (ad 3 0), .ref (ad 4 0), .int td, .int fa, .int fp, .int at9, .int ps9, .int tk, .int nu, .long wd, .int t0, .int wr, .int so, .ref (ad 5 0), .ref (ad 6 0), .int pd, .int op9, .int cg, .int iw, .int on9, .ref (ad 7 0), .ref (ad 8 0), .ref (ad 9 0), .int is9, .ref (ad 10 0), .ref (ad 11 0), .ref (ad 12 0), .ref (ad 13 0), .int se, .ref (ad 14 0)]))) (b_i1 : bn 0 2400 i1) (hx0 : i1.toInt.toNat = x0) (hT : TK at9 ps9 tk) : PMi l yX12_oneClause cX12_oneClause 3 .int 4 0 0 G [.ref (ad 0 0), .int i1] L f (fun r L1 f1 => ∃ at92 : Int32, ∃ ps92 : Int32, ∃ tk2 : Int32, ∃ nu2 : Int32, ∃ wd2 : Int64, bn 0 2 r ∧ SH (spM PA PI (RN gB x0) pa) nnM G ad L1 f1 ∧ pt L1 f1 (ad 0 0) (.inr (12, [.ref (ad 1 0), .ref (ad 2 0), .ref (ad 3 0), .ref (ad 4 0), .int td, .int fa, .int fp, .int at92, .int ps92, .int tk2, .int nu2, .long wd2, .int t0, .int wr, .int so, .ref (ad 5 0), .ref (ad 6 0), .int pd, .int op9, .int cg, .int iw, .int on9, .ref (ad 7 0), .ref (ad 8 0), .ref (ad 9 0), .int is9, .ref (ad 10 0), .ref (ad 11 0), .ref (ad 12 0), .ref (ad 13 0), .int se, .ref (ad 14 0)])) ∧ TK at92 ps92 tk2 ∧ ps9.toInt ≤ ps92.toInt) := by
  refine PMi.of (post := fun r L1 f1 => ∃ at92 : Int32, ∃ ps92 : Int32, ∃ tk2 : Int32, ∃ nu2 : Int32, ∃ wd2 : Int64, bn 0 2 r ∧ SH (spM PA PI (RN gB x0) pa) nnM G ad L1 f1 ∧ pt L1 f1 (ad 0 0) (.inr (12, [.ref (ad 1 0), .ref (ad 2 0), .ref (ad 3 0), .ref (ad 4 0), .int td, .int fa, .int fp, .int at92, .int ps92, .int tk2, .int nu2, .long wd2, .int t0, .int wr, .int so, .ref (ad 5 0), .ref (ad 6 0), .int pd, .int op9, .int cg, .int iw, .int on9, .ref (ad 7 0), .ref (ad 8 0), .ref (ad 9 0), .int is9, .ref (ad 10 0), .ref (ad 11 0), .ref (ad 12 0), .ref (ad 13 0), .int se, .ref (ad 14 0)])) ∧ TK at92 ps92 tk2 ∧ ps9.toInt ≤ ps92.toInt) (own := RX12) (by decide) rfl (Nat.le_of_ble_eq_true rfl) (fun sz p e s m args below meth c A ls hA1 hname S Y hl => ?_)
  have hx := S.hx
  have hb := S.hb
  have hl : lv_has ls 3 [(0, .ref (ad 0 0)), (1, .int i1)] := hl
  obtain ⟨bfe_4, bfe_7, bfe_8, bfe_12, bfe_13, bfe_17, bfe_18, bfe_19, bfe_20, bfe_25⟩ := obM I p_ad_0_0
  refine lv_aload_n hx hb dX12_oneClause_0 rfl (lv_at hl 0 rfl) ?_
  refine lv_iload_n hx hb dX12_oneClause_1 rfl (lv_at hl 1 rfl) ?_
  refine lv_iconst (v := 1) hx hb dX12_oneClause_2 (by decide) ?_
  refine lv_iadd hx hb dX12_oneClause_3 ?_
  refine lv_topi (fun x_88444 ex_88444 => ?_)
  refine lv_iconst (v := 0) hx hb dX12_oneClause_4 (by decide) ?_
  refine lv_bipush (v := 9) hx hb dX12_oneClause_5 (by decide) ?_
  refine cVi (As := [.int x_88444, .int 0, .int 9]) (rest := []) S Y (x_X12_figure (l := l) I p_ad_0_0 (bn_w (bn_eq ex_88444 (bn_add b_i1 (show bn 1 1 (1 : Int32) from bn_k (by decide)) (by decide))) (by decide)) (by have z9 := (la_add ex_88444 (rfl : i1.toInt = i1.toInt) (show (1 : Int32).toInt = 1 from rfl) b_i1 (show bn 1 1 (1 : Int32) from bn_k (by decide)) (by decide)); have z8 := b_i1.1; omega) hT) cw_X12_figure km12_215 p_ad_0_0 ok_X12.1 rfl rfl ⟨Nat.le_of_ble_eq_true rfl, Nat.le_of_ble_eq_true rfl⟩ hl.1 rfl (Nat.le_of_ble_eq_true rfl) ⟨Nat.le_of_ble_eq_true rfl, Nat.le_of_ble_eq_true rfl⟩ dX12_oneClause_7 (fun r_88447 L_88445 f_88446 H locs hr_88447 Y => ?_)
  obtain ⟨v_88448, v_88449, v_88450, v_88451, v_88452, er_88447, I, p_ad_0_0, eT_88453, eP_88454⟩ := hr_88447
  obtain ⟨bfc88454_4, bfc88454_7, bfc88454_8, bfc88454_12, bfc88454_13, bfc88454_17, bfc88454_18, bfc88454_19, bfc88454_20, bfc88454_25⟩ := obM I p_ad_0_0
  refine lv_istore_n (lv' := [(2, .int r_88447), (0, .ref (ad 0 0)), (1, .int i1)]) hx hb dX12_oneClause_10 rfl hl (by decide) rfl (fun ls hl => ?_)
  refine lv_iload_n hx hb dX12_oneClause_11 rfl (lv_at hl 0 rfl) ?_
  refine lv_if_eq (tgt := 19) hx hb dX12_oneClause_12 (by decide) (fun c_88456 => ?_) (fun c_88456 => ?_)
  · have B_88457 : bn 0 0 r_88447 := bn_w (bn_eq c_88456 (show bn 0 0 (0 : Int32) from bn_k (by decide))) (by decide)
    refine lv_aload_n hx hb dX12_oneClause_19 rfl (lv_at hl 1 rfl) ?_
    refine lv_bipush (v := 97) hx hb dX12_oneClause_20 (by decide) ?_
    refine lv_bipush (v := 103) hx hb dX12_oneClause_22 (by decide) ?_
    refine lv_bipush (v := 101) hx hb dX12_oneClause_24 (by decide) ?_
    refine cSlp (As := [.int 97, .int 103, .int 101]) (rest := [.ref (ad 0 0)]) S Y (x_X12_w3 (l := l) ) cw_X12_w3 km12_124 rfl ⟨Nat.le_of_ble_eq_true rfl, Nat.le_of_ble_eq_true rfl⟩ hl.1 rfl (Nat.le_of_ble_eq_true rfl) ⟨Nat.le_of_ble_eq_true rfl, Nat.le_of_ble_eq_true rfl⟩ dX12_oneClause_26 (fun r_88459 H locs er_88459 Y => ?_)
    refine lv_iload_n hx hb dX12_oneClause_29 rfl (lv_at hl 2 rfl) ?_
    refine lv_iconst (v := 2) hx hb dX12_oneClause_30 (by decide) ?_
    refine lv_iadd hx hb dX12_oneClause_31 ?_
    refine lv_topi (fun x_88460 ex_88460 => ?_)
    refine lv_bipush (v := 99) hx hb dX12_oneClause_32 (by decide) ?_
    refine cVi (As := [.long r_88459, .int x_88460, .int 99]) (rest := []) S Y (x_X12_worded (l := l) I p_ad_0_0 (bn_w (bn_eq ex_88460 (bn_add b_i1 (show bn 2 2 (2 : Int32) from bn_k (by decide)) (by decide))) (by decide)) (by have z9 := (la_add ex_88460 (rfl : i1.toInt = i1.toInt) (show (2 : Int32).toInt = 2 from rfl) b_i1 (show bn 2 2 (2 : Int32) from bn_k (by decide)) (by decide)); have z8 := b_i1.1; omega) eT_88453) cw_X12_worded km12_222 p_ad_0_0 ok_X12.1 rfl rfl ⟨Nat.le_of_ble_eq_true rfl, Nat.le_of_ble_eq_true rfl⟩ hl.1 rfl (Nat.le_of_ble_eq_true rfl) ⟨Nat.le_of_ble_eq_true rfl, Nat.le_of_ble_eq_true rfl⟩ dX12_oneClause_34 (fun r_88463 L_88461 f_88462 H locs hr_88463 Y => ?_)
    obtain ⟨v_88464, v_88465, v_88466, v_88467, v_88468, er_88463, I, p_ad_0_0, eT_88469, eP_88470⟩ := hr_88463
    obtain ⟨bfc88470_4, bfc88470_7, bfc88470_8, bfc88470_12, bfc88470_13, bfc88470_17, bfc88470_18, bfc88470_19, bfc88470_20, bfc88470_25⟩ := obM I p_ad_0_0
    exact prI (post := fun r L1 f1 => ∃ at92 : Int32, ∃ ps92 : Int32, ∃ tk2 : Int32, ∃ nu2 : Int32, ∃ wd2 : Int64, bn 0 2 r ∧ SH (spM PA PI (RN gB x0) pa) nnM G ad L1 f1 ∧ pt L1 f1 (ad 0 0) (.inr (12, [.ref (ad 1 0), .ref (ad 2 0), .ref (ad 3 0), .ref (ad 4 0), .int td, .int fa, .int fp, .int at92, .int ps92, .int tk2, .int nu2, .long wd2, .int t0, .int wr, .int so, .ref (ad 5 0), .ref (ad 6 0), .int pd, .int op9, .int cg, .int iw, .int on9, .ref (ad 7 0), .ref (ad 8 0), .ref (ad 9 0), .int is9, .ref (ad 10 0), .ref (ad 11 0), .ref (ad 12 0), .ref (ad 13 0), .int se, .ref (ad 14 0)])) ∧ TK at92 ps92 tk2 ∧ ps9.toInt ≤ ps92.toInt) S Y rfl (by decide) (by decide) hA1 ⟨v_88464, v_88465, v_88466, v_88467, v_88468, bn_w er_88463 (by decide), I, p_ad_0_0, eT_88469, (by have c0 := hT.1; have c1 := eT_88453.1; have c2 := eP_88454; have c3 := eT_88469.1; have c4 := eP_88470; omega)⟩ dX12_oneClause_37
  · have B_88458 : bn 1 2 r_88447 := bn_w (bn_nel c_88456 er_88447 (show bn 0 0 (0 : Int32) from bn_k (by decide))) (by decide)
    refine lv_iload_n hx hb dX12_oneClause_15 rfl (lv_at hl 0 rfl) ?_
    refine lv_goto (tgt := 37) hx hb dX12_oneClause_16 (by decide) ?_
    exact prI (post := fun r L1 f1 => ∃ at92 : Int32, ∃ ps92 : Int32, ∃ tk2 : Int32, ∃ nu2 : Int32, ∃ wd2 : Int64, bn 0 2 r ∧ SH (spM PA PI (RN gB x0) pa) nnM G ad L1 f1 ∧ pt L1 f1 (ad 0 0) (.inr (12, [.ref (ad 1 0), .ref (ad 2 0), .ref (ad 3 0), .ref (ad 4 0), .int td, .int fa, .int fp, .int at92, .int ps92, .int tk2, .int nu2, .long wd2, .int t0, .int wr, .int so, .ref (ad 5 0), .ref (ad 6 0), .int pd, .int op9, .int cg, .int iw, .int on9, .ref (ad 7 0), .ref (ad 8 0), .ref (ad 9 0), .int is9, .ref (ad 10 0), .ref (ad 11 0), .ref (ad 12 0), .ref (ad 13 0), .int se, .ref (ad 14 0)])) ∧ TK at92 ps92 tk2 ∧ ps9.toInt ≤ ps92.toInt) S Y rfl (by decide) (by decide) hA1 ⟨v_88448, v_88449, v_88450, v_88451, v_88452, bn_w B_88458 (by decide), I, p_ad_0_0, eT_88453, (by have c0 := hT.1; have c1 := eT_88453.1; have c2 := eP_88454; omega)⟩ dX12_oneClause_37
set_option maxHeartbeats 4000000 in
set_option maxRecDepth 100000 in
theorem x_X12_swearClause {l : Launch} {G : GG}  {L : List Nat} {f : HF} {ad : Nat → Nat → Nat} {pa : (Nat → Int32) → Prop} {PA : (Nat → Int32) → Prop} {PI : (Nat → Int32) → Prop} {i1 : Int32} {td fa fp at9 ps9 tk nu t0 wr so pd op9 cg iw on9 is9 se : Int32} {wd : Int64} {gB : Nat → Int32} {x0 : Nat} (I : SH (spM PA PI (RN gB x0) pa) nnM G ad L f) (p_ad_0_0 : pt L f (ad 0 0) (.inr (12, [.ref (ad 1 0), .ref (ad 2 0), .ref (ad 3 0), .ref (ad 4 0), .int td, .int fa, .int fp, .int at9, .int ps9, .int tk, .int nu, .long wd, .int t0, .int wr, .int so, .ref (ad 5 0), .ref (ad 6 0), .int pd, .int op9, .int cg, .int iw, .int on9, .ref (ad 7 0), .ref (ad 8 0), .ref (ad 9 0), .int is9, .ref (ad 10 0), .ref (ad 11 0), .ref (ad 12 0), .ref (ad 13 0), .int se, .ref (ad 14 0)]))) (b_i1 : bn 0 2400 i1) (hx0 : i1.toInt.toNat = x0) (hT : TK at9 ps9 tk) : PMi l yX12_swearClause cX12_swearClause 4 .int 4 0 0 G [.ref (ad 0 0), .int i1] L f (fun r L1 f1 => ∃ at92 : Int32, ∃ ps92 : Int32, ∃ tk2 : Int32, ∃ nu2 : Int32, ∃ wd2 : Int64, bn 0 2 r ∧ SH (spM PA PI (RN gB x0) pa) nnM G ad L1 f1 ∧ pt L1 f1 (ad 0 0) (.inr (12, [.ref (ad 1 0), .ref (ad 2 0), .ref (ad 3 0), .ref (ad 4 0), .int td, .int fa, .int fp, .int at92, .int ps92, .int tk2, .int nu2, .long wd2, .int t0, .int wr, .int so, .ref (ad 5 0), .ref (ad 6 0), .int pd, .int op9, .int cg, .int iw, .int on9, .ref (ad 7 0), .ref (ad 8 0), .ref (ad 9 0), .int is9, .ref (ad 10 0), .ref (ad 11 0), .ref (ad 12 0), .ref (ad 13 0), .int se, .ref (ad 14 0)])) ∧ TK at92 ps92 tk2 ∧ ps9.toInt ≤ ps92.toInt) := by
  refine PMi.of (post := fun r L1 f1 => ∃ at92 : Int32, ∃ ps92 : Int32, ∃ tk2 : Int32, ∃ nu2 : Int32, ∃ wd2 : Int64, bn 0 2 r ∧ SH (spM PA PI (RN gB x0) pa) nnM G ad L1 f1 ∧ pt L1 f1 (ad 0 0) (.inr (12, [.ref (ad 1 0), .ref (ad 2 0), .ref (ad 3 0), .ref (ad 4 0), .int td, .int fa, .int fp, .int at92, .int ps92, .int tk2, .int nu2, .long wd2, .int t0, .int wr, .int so, .ref (ad 5 0), .ref (ad 6 0), .int pd, .int op9, .int cg, .int iw, .int on9, .ref (ad 7 0), .ref (ad 8 0), .ref (ad 9 0), .int is9, .ref (ad 10 0), .ref (ad 11 0), .ref (ad 12 0), .ref (ad 13 0), .int se, .ref (ad 14 0)])) ∧ TK at92 ps92 tk2 ∧ ps9.toInt ≤ ps92.toInt) (own := RX12) (by decide) rfl (Nat.le_of_ble_eq_true rfl) (fun sz p e s m args below meth c A ls hA1 hname S Y hl => ?_)
  have hx := S.hx
  have hb := S.hb
  have hl : lv_has ls 4 [(0, .ref (ad 0 0)), (1, .int i1)] := hl
  obtain ⟨bfe_4, bfe_7, bfe_8, bfe_12, bfe_13, bfe_17, bfe_18, bfe_19, bfe_20, bfe_25⟩ := obM I p_ad_0_0
  refine lv_aload_n hx hb dX12_swearClause_0 rfl (lv_at hl 0 rfl) ?_
  refine lv_iload_n hx hb dX12_swearClause_1 rfl (lv_at hl 1 rfl) ?_
  refine lv_iconst (v := 1) hx hb dX12_swearClause_2 (by decide) ?_
  refine lv_iadd hx hb dX12_swearClause_3 ?_
  refine lv_topi (fun x_88690 ex_88690 => ?_)
  refine lv_iconst (v := 0) hx hb dX12_swearClause_4 (by decide) ?_
  refine lv_iconst (v := 5) hx hb dX12_swearClause_5 (by decide) ?_
  refine cVi (As := [.int x_88690, .int 0, .int 5]) (rest := []) S Y (x_X12_figure (l := l) I p_ad_0_0 (bn_w (bn_eq ex_88690 (bn_add b_i1 (show bn 1 1 (1 : Int32) from bn_k (by decide)) (by decide))) (by decide)) (by have z9 := (la_add ex_88690 (rfl : i1.toInt = i1.toInt) (show (1 : Int32).toInt = 1 from rfl) b_i1 (show bn 1 1 (1 : Int32) from bn_k (by decide)) (by decide)); have z8 := b_i1.1; omega) hT) cw_X12_figure km12_215 p_ad_0_0 ok_X12.1 rfl rfl ⟨Nat.le_of_ble_eq_true rfl, Nat.le_of_ble_eq_true rfl⟩ hl.1 rfl (Nat.le_of_ble_eq_true rfl) ⟨Nat.le_of_ble_eq_true rfl, Nat.le_of_ble_eq_true rfl⟩ dX12_swearClause_6 (fun r_88693 L_88691 f_88692 H locs hr_88693 Y => ?_)
  obtain ⟨v_88694, v_88695, v_88696, v_88697, v_88698, er_88693, I, p_ad_0_0, eT_88699, eP_88700⟩ := hr_88693
  obtain ⟨bfc88700_4, bfc88700_7, bfc88700_8, bfc88700_12, bfc88700_13, bfc88700_17, bfc88700_18, bfc88700_19, bfc88700_20, bfc88700_25⟩ := obM I p_ad_0_0
  refine lv_istore_n (lv' := [(2, .int r_88693), (0, .ref (ad 0 0)), (1, .int i1)]) hx hb dX12_swearClause_9 rfl hl (by decide) rfl (fun ls hl => ?_)
  refine lv_iload_n hx hb dX12_swearClause_10 rfl (lv_at hl 0 rfl) ?_
  refine lv_if_ne (tgt := 30) hx hb dX12_swearClause_11 (by decide) (fun c_88702 => ?_) (fun c_88702 => ?_)
  · have B_88703 : bn 1 2 r_88693 := bn_w (bn_nel c_88702 er_88693 (show bn 0 0 (0 : Int32) from bn_k (by decide))) (by decide)
    refine lv_iload_n hx hb dX12_swearClause_30 rfl (lv_at hl 0 rfl) ?_
    refine lv_if_eq (tgt := 36) hx hb dX12_swearClause_31 (by decide) (fun h => absurd h c_88702) (fun _ => ?_)
    refine lv_iload_n hx hb dX12_swearClause_34 rfl (lv_at hl 0 rfl) ?_
    exact prI (post := fun r L1 f1 => ∃ at92 : Int32, ∃ ps92 : Int32, ∃ tk2 : Int32, ∃ nu2 : Int32, ∃ wd2 : Int64, bn 0 2 r ∧ SH (spM PA PI (RN gB x0) pa) nnM G ad L1 f1 ∧ pt L1 f1 (ad 0 0) (.inr (12, [.ref (ad 1 0), .ref (ad 2 0), .ref (ad 3 0), .ref (ad 4 0), .int td, .int fa, .int fp, .int at92, .int ps92, .int tk2, .int nu2, .long wd2, .int t0, .int wr, .int so, .ref (ad 5 0), .ref (ad 6 0), .int pd, .int op9, .int cg, .int iw, .int on9, .ref (ad 7 0), .ref (ad 8 0), .ref (ad 9 0), .int is9, .ref (ad 10 0), .ref (ad 11 0), .ref (ad 12 0), .ref (ad 13 0), .int se, .ref (ad 14 0)])) ∧ TK at92 ps92 tk2 ∧ ps9.toInt ≤ ps92.toInt) S Y rfl (by decide) (by decide) hA1 ⟨v_88694, v_88695, v_88696, v_88697, v_88698, bn_w B_88703 (by decide), I, p_ad_0_0, eT_88699, (by have c0 := hT.1; have c1 := eT_88699.1; have c2 := eP_88700; omega)⟩ dX12_swearClause_35
  · have B_88704 : bn 0 0 r_88693 := bn_w (bn_eq c_88702 (show bn 0 0 (0 : Int32) from bn_k (by decide))) (by decide)
    refine lv_aload_n hx hb dX12_swearClause_14 rfl (lv_at hl 1 rfl) ?_
    refine lv_bipush (v := 116) hx hb dX12_swearClause_15 (by decide) ?_
    refine lv_bipush (v := 111) hx hb dX12_swearClause_17 (by decide) ?_
    refine cSlp (As := [.int 116, .int 111]) (rest := [.ref (ad 0 0)]) S Y (x_X12_w2 (l := l) ) cw_X12_w2 km12_120 rfl ⟨Nat.le_of_ble_eq_true rfl, Nat.le_of_ble_eq_true rfl⟩ hl.1 rfl (Nat.le_of_ble_eq_true rfl) ⟨Nat.le_of_ble_eq_true rfl, Nat.le_of_ble_eq_true rfl⟩ dX12_swearClause_19 (fun r_88705 H locs er_88705 Y => ?_)
    refine lv_iload_n hx hb dX12_swearClause_22 rfl (lv_at hl 2 rfl) ?_
    refine lv_iconst (v := 2) hx hb dX12_swearClause_23 (by decide) ?_
    refine lv_iadd hx hb dX12_swearClause_24 ?_
    refine lv_topi (fun x_88706 ex_88706 => ?_)
    refine lv_iconst (v := 5) hx hb dX12_swearClause_25 (by decide) ?_
    refine cVi (As := [.long r_88705, .int x_88706, .int 5]) (rest := []) S Y (x_X12_worded (l := l) I p_ad_0_0 (bn_w (bn_eq ex_88706 (bn_add b_i1 (show bn 2 2 (2 : Int32) from bn_k (by decide)) (by decide))) (by decide)) (by have z9 := (la_add ex_88706 (rfl : i1.toInt = i1.toInt) (show (2 : Int32).toInt = 2 from rfl) b_i1 (show bn 2 2 (2 : Int32) from bn_k (by decide)) (by decide)); have z8 := b_i1.1; omega) eT_88699) cw_X12_worded km12_222 p_ad_0_0 ok_X12.1 rfl rfl ⟨Nat.le_of_ble_eq_true rfl, Nat.le_of_ble_eq_true rfl⟩ hl.1 rfl (Nat.le_of_ble_eq_true rfl) ⟨Nat.le_of_ble_eq_true rfl, Nat.le_of_ble_eq_true rfl⟩ dX12_swearClause_26 (fun r_88709 L_88707 f_88708 H locs hr_88709 Y => ?_)
    obtain ⟨v_88710, v_88711, v_88712, v_88713, v_88714, er_88709, I, p_ad_0_0, eT_88715, eP_88716⟩ := hr_88709
    obtain ⟨bfc88716_4, bfc88716_7, bfc88716_8, bfc88716_12, bfc88716_13, bfc88716_17, bfc88716_18, bfc88716_19, bfc88716_20, bfc88716_25⟩ := obM I p_ad_0_0
    refine lv_istore_n (lv' := [(2, .int r_88709), (0, .ref (ad 0 0)), (1, .int i1)]) hx hb dX12_swearClause_29 rfl hl (by decide) rfl (fun ls hl => ?_)
    refine lv_iload_n hx hb dX12_swearClause_30 rfl (lv_at hl 0 rfl) ?_
    refine lv_if_eq (tgt := 36) hx hb dX12_swearClause_31 (by decide) (fun c_88718 => ?_) (fun c_88718 => ?_)
    · have B_88719 : bn 0 0 r_88709 := bn_w (bn_eq c_88718 (show bn 0 0 (0 : Int32) from bn_k (by decide))) (by decide)
      refine lv_aload_n hx hb dX12_swearClause_36 rfl (lv_at hl 1 rfl) ?_
      refine lv_bipush (v := 108) hx hb dX12_swearClause_37 (by decide) ?_
      refine lv_bipush (v := 101) hx hb dX12_swearClause_39 (by decide) ?_
      refine lv_bipush (v := 102) hx hb dX12_swearClause_41 (by decide) ?_
      refine lv_bipush (v := 116) hx hb dX12_swearClause_43 (by decide) ?_
      refine cSlp (As := [.int 108, .int 101, .int 102, .int 116]) (rest := [.ref (ad 0 0)]) S Y (x_X12_w4 (l := l) ) cw_X12_w4 km12_128 rfl ⟨Nat.le_of_ble_eq_true rfl, Nat.le_of_ble_eq_true rfl⟩ hl.1 rfl (Nat.le_of_ble_eq_true rfl) ⟨Nat.le_of_ble_eq_true rfl, Nat.le_of_ble_eq_true rfl⟩ dX12_swearClause_45 (fun r_88721 H locs er_88721 Y => ?_)
      refine cVp (As := [.long r_88721]) (rest := []) S Y (x_X12_isWord (l := l) I p_ad_0_0) cw_X12_isWord km12_187 p_ad_0_0 ok_X12.1 rfl rfl ⟨Nat.le_of_ble_eq_true rfl, Nat.le_of_ble_eq_true rfl⟩ hl.1 rfl (Nat.le_of_ble_eq_true rfl) ⟨Nat.le_of_ble_eq_true rfl, Nat.le_of_ble_eq_true rfl⟩ dX12_swearClause_48 (fun r_88722 H locs er_88722 Y => ?_)
      refine lv_istore_n (lv' := [(3, .int r_88722), (2, .int r_88709), (0, .ref (ad 0 0)), (1, .int i1)]) hx hb dX12_swearClause_51 rfl hl (by decide) rfl (fun ls hl => ?_)
      refine lv_iload_n hx hb dX12_swearClause_52 rfl (lv_at hl 0 rfl) ?_
      refine lv_if_ne (tgt := 78) hx hb dX12_swearClause_53 (by decide) (fun c_88723 => ?_) (fun c_88723 => ?_)
      · have B_88724 : bn 1 1 r_88722 := bn_w (bn_nel c_88723 er_88722.1 (show bn 0 0 (0 : Int32) from bn_k (by decide))) (by decide)
        refine lv_aload_n hx hb dX12_swearClause_78 rfl (lv_at hl 2 rfl) ?_
        refine pg_get S Y ok_X12 2 (by decide) kf12_16 (v := .ref (ad 3 0)) p_ad_0_0 rfl dX12_swearClause_79 ?_
        refine lv_iload_n hx hb dX12_swearClause_82 rfl (lv_at hl 3 rfl) ?_
        refine lv_iload_n hx hb dX12_swearClause_83 rfl (lv_at hl 0 rfl) ?_
        refine lv_if_eq (tgt := 91) hx hb dX12_swearClause_84 (by decide) (fun h => absurd h c_88723) (fun _ => ?_)
        refine lv_iconst (v := 4) hx hb dX12_swearClause_87 (by decide) ?_
        refine lv_goto (tgt := 92) hx hb dX12_swearClause_88 (by decide) ?_
        obtain ⟨g_88726, p_ad_3_0, o_88727⟩ := I.opi (k := 3) (j := 0) (by decide) rfl
        have p_ad_3_0 : pt L_88707 f_88708 (ad 3 0) (.inl (G.2 0, 2916, .inl g_88726)) := p_ad_3_0
        refine pg_iast S Y p_ad_3_0 (vp_bn b_i1 (by decide)) dX12_swearClause_92 (fun f_88729 H locs ef_88729 Y => ?_)
        obtain ⟨g_88728, eg_88728⟩ : ∃ z, z = upd (g_88726) (i1 : Int32).toNatClampNeg 4 := ⟨_, rfl⟩
        rw [← eg_88728] at ef_88729
        have p_ad_0_0 := p_ad_0_0.up ef_88729 (I.ne (k := 0) (j := 0) (k' := 3) (j' := 0) (by decide) (by decide) (Or.inl (by decide)))
        have p_ad_3_0 := p_ad_3_0.me ef_88729
        have o_88730 : (RN gB x0) g_88728 := (by rw [eg_88728]; exact RN_u0 o_88727 (by rw [tnc]; exact hx0) (by decide))
        have I := I.upS (sp' := spM PA PI (RN gB x0) pa) (k := 3) (j := 0) (by decide) ef_88729 (okE_a (g := g_88728) o_88730) pXC
        refine lv_aload_n hx hb dX12_swearClause_93 rfl (lv_at hl 2 rfl) ?_
        obtain ⟨g_88731, p_ad_4_0, o_88732⟩ := I.opi (k := 4) (j := 0) (by decide) rfl
        have p_ad_4_0 : pt L_88707 f_88729 (ad 4 0) (.inl (G.2 0, 300, .inl g_88731)) := p_ad_4_0
        obtain ⟨g_88733, p_ad_5_0, o_88734⟩ := I.opi (k := 5) (j := 0) (by decide) rfl
        have p_ad_5_0 : pt L_88707 f_88729 (ad 5 0) (.inl (G.2 0, 160, .inl g_88733)) := p_ad_5_0
        obtain ⟨g_88735, p_ad_6_0, o_88736⟩ := I.opi (k := 6) (j := 0) (by decide) rfl
        have p_ad_6_0 : pt L_88707 f_88729 (ad 6 0) (.inl (G.2 0, 9, .inl g_88735)) := p_ad_6_0
        refine cVv (As := []) (rest := []) S Y (x_X12_nextToken (l := l) I p_ad_0_0 p_ad_4_0 p_ad_5_0 p_ad_6_0) cw_X12_nextToken km12_166 p_ad_0_0 ok_X12.1 rfl rfl ⟨Nat.le_of_ble_eq_true rfl, Nat.le_of_ble_eq_true rfl⟩ hl.1 rfl (Nat.le_of_ble_eq_true rfl) ⟨Nat.le_of_ble_eq_true rfl, Nat.le_of_ble_eq_true rfl⟩ dX12_swearClause_94 (fun L_88737 f_88738 H locs hr_88739 Y => ?_)
        obtain ⟨v_88740, v_88741, v_88742, v_88743, v_88744, I, p_ad_0_0, p_ad_4_0, p_ad_5_0, p_ad_6_0, eT_88745, eP_88746⟩ := hr_88739
        obtain ⟨bfc88746_4, bfc88746_7, bfc88746_8, bfc88746_12, bfc88746_13, bfc88746_17, bfc88746_18, bfc88746_19, bfc88746_20, bfc88746_25⟩ := obM I p_ad_0_0
        refine lv_aload_n hx hb dX12_swearClause_97 rfl (lv_at hl 2 rfl) ?_
        refine lv_iload_n hx hb dX12_swearClause_98 rfl (lv_at hl 3 rfl) ?_
        refine lv_iconst (v := 3) hx hb dX12_swearClause_99 (by decide) ?_
        refine lv_iadd hx hb dX12_swearClause_100 ?_
        refine lv_topi (fun x_88748 ex_88748 => ?_)
        refine lv_iconst (v := 1) hx hb dX12_swearClause_101 (by decide) ?_
        refine lv_bipush (v := 9) hx hb dX12_swearClause_102 (by decide) ?_
        refine cVi (As := [.int x_88748, .int 1, .int 9]) (rest := []) S Y (x_X12_figure (l := l) I p_ad_0_0 (bn_w (bn_eq ex_88748 (bn_add b_i1 (show bn 3 3 (3 : Int32) from bn_k (by decide)) (by decide))) (by decide)) (by have z9 := (la_add ex_88748 (rfl : i1.toInt = i1.toInt) (show (3 : Int32).toInt = 3 from rfl) b_i1 (show bn 3 3 (3 : Int32) from bn_k (by decide)) (by decide)); have z8 := b_i1.1; omega) eT_88745) cw_X12_figure km12_215 p_ad_0_0 ok_X12.1 rfl rfl ⟨Nat.le_of_ble_eq_true rfl, Nat.le_of_ble_eq_true rfl⟩ hl.1 rfl (Nat.le_of_ble_eq_true rfl) ⟨Nat.le_of_ble_eq_true rfl, Nat.le_of_ble_eq_true rfl⟩ dX12_swearClause_104 (fun r_88751 L_88749 f_88750 H locs hr_88751 Y => ?_)
        obtain ⟨v_88752, v_88753, v_88754, v_88755, v_88756, er_88751, I, p_ad_0_0, eT_88757, eP_88758⟩ := hr_88751
        obtain ⟨bfc88758_4, bfc88758_7, bfc88758_8, bfc88758_12, bfc88758_13, bfc88758_17, bfc88758_18, bfc88758_19, bfc88758_20, bfc88758_25⟩ := obM I p_ad_0_0
        exact prI (post := fun r L1 f1 => ∃ at92 : Int32, ∃ ps92 : Int32, ∃ tk2 : Int32, ∃ nu2 : Int32, ∃ wd2 : Int64, bn 0 2 r ∧ SH (spM PA PI (RN gB x0) pa) nnM G ad L1 f1 ∧ pt L1 f1 (ad 0 0) (.inr (12, [.ref (ad 1 0), .ref (ad 2 0), .ref (ad 3 0), .ref (ad 4 0), .int td, .int fa, .int fp, .int at92, .int ps92, .int tk2, .int nu2, .long wd2, .int t0, .int wr, .int so, .ref (ad 5 0), .ref (ad 6 0), .int pd, .int op9, .int cg, .int iw, .int on9, .ref (ad 7 0), .ref (ad 8 0), .ref (ad 9 0), .int is9, .ref (ad 10 0), .ref (ad 11 0), .ref (ad 12 0), .ref (ad 13 0), .int se, .ref (ad 14 0)])) ∧ TK at92 ps92 tk2 ∧ ps9.toInt ≤ ps92.toInt) S Y rfl (by decide) (by decide) hA1 ⟨v_88752, v_88753, v_88754, v_88755, v_88756, bn_w er_88751 (by decide), I, p_ad_0_0, eT_88757, (by have c0 := hT.1; have c1 := eT_88699.1; have c2 := eP_88700; have c3 := eT_88715.1; have c4 := eP_88716; have c5 := eT_88745.1; have c6 := eP_88746; have c7 := eT_88757.1; have c8 := eP_88758; omega)⟩ dX12_swearClause_107
      · have B_88725 : bn 0 0 r_88722 := bn_w (bn_eq c_88723 (show bn 0 0 (0 : Int32) from bn_k (by decide))) (by decide)
        refine lv_aload_n hx hb dX12_swearClause_56 rfl (lv_at hl 2 rfl) ?_
        refine lv_bipush (v := 114) hx hb dX12_swearClause_57 (by decide) ?_
        refine lv_bipush (v := 105) hx hb dX12_swearClause_59 (by decide) ?_
        refine lv_bipush (v := 103) hx hb dX12_swearClause_61 (by decide) ?_
        refine lv_bipush (v := 104) hx hb dX12_swearClause_63 (by decide) ?_
        refine lv_bipush (v := 116) hx hb dX12_swearClause_65 (by decide) ?_
        refine cSlp (As := [.int 114, .int 105, .int 103, .int 104, .int 116]) (rest := [.ref (ad 0 0)]) S Y (x_X12_w5 (l := l) ) cw_X12_w5 km12_132 rfl ⟨Nat.le_of_ble_eq_true rfl, Nat.le_of_ble_eq_true rfl⟩ hl.1 rfl (Nat.le_of_ble_eq_true rfl) ⟨Nat.le_of_ble_eq_true rfl, Nat.le_of_ble_eq_true rfl⟩ dX12_swearClause_67 (fun r_88760 H locs er_88760 Y => ?_)
        refine cVp (As := [.long r_88760]) (rest := []) S Y (x_X12_isWord (l := l) I p_ad_0_0) cw_X12_isWord km12_187 p_ad_0_0 ok_X12.1 rfl rfl ⟨Nat.le_of_ble_eq_true rfl, Nat.le_of_ble_eq_true rfl⟩ hl.1 rfl (Nat.le_of_ble_eq_true rfl) ⟨Nat.le_of_ble_eq_true rfl, Nat.le_of_ble_eq_true rfl⟩ dX12_swearClause_70 (fun r_88761 H locs er_88761 Y => ?_)
        refine lv_if_ne (tgt := 78) hx hb dX12_swearClause_73 (by decide) (fun c_88762 => ?_) (fun c_88762 => ?_)
        · have B_88763 : bn 1 1 r_88761 := bn_w (bn_nel c_88762 er_88761.1 (show bn 0 0 (0 : Int32) from bn_k (by decide))) (by decide)
          refine lv_aload_n hx hb dX12_swearClause_78 rfl (lv_at hl 2 rfl) ?_
          refine pg_get S Y ok_X12 2 (by decide) kf12_16 (v := .ref (ad 3 0)) p_ad_0_0 rfl dX12_swearClause_79 ?_
          refine lv_iload_n hx hb dX12_swearClause_82 rfl (lv_at hl 3 rfl) ?_
          refine lv_iload_n hx hb dX12_swearClause_83 rfl (lv_at hl 0 rfl) ?_
          refine lv_if_eq (tgt := 91) hx hb dX12_swearClause_84 (by decide) (fun _ => ?_) (fun h => absurd c_88723 h)
          refine lv_iconst (v := 5) hx hb dX12_swearClause_91 (by decide) ?_
          obtain ⟨g_88765, p_ad_3_0, o_88766⟩ := I.opi (k := 3) (j := 0) (by decide) rfl
          have p_ad_3_0 : pt L_88707 f_88708 (ad 3 0) (.inl (G.2 0, 2916, .inl g_88765)) := p_ad_3_0
          refine pg_iast S Y p_ad_3_0 (vp_bn b_i1 (by decide)) dX12_swearClause_92 (fun f_88768 H locs ef_88768 Y => ?_)
          obtain ⟨g_88767, eg_88767⟩ : ∃ z, z = upd (g_88765) (i1 : Int32).toNatClampNeg 5 := ⟨_, rfl⟩
          rw [← eg_88767] at ef_88768
          have p_ad_0_0 := p_ad_0_0.up ef_88768 (I.ne (k := 0) (j := 0) (k' := 3) (j' := 0) (by decide) (by decide) (Or.inl (by decide)))
          have p_ad_3_0 := p_ad_3_0.me ef_88768
          have o_88769 : (RN gB x0) g_88767 := (by rw [eg_88767]; exact RN_u0 o_88766 (by rw [tnc]; exact hx0) (by decide))
          have I := I.upS (sp' := spM PA PI (RN gB x0) pa) (k := 3) (j := 0) (by decide) ef_88768 (okE_a (g := g_88767) o_88769) pXC
          refine lv_aload_n hx hb dX12_swearClause_93 rfl (lv_at hl 2 rfl) ?_
          obtain ⟨g_88770, p_ad_4_0, o_88771⟩ := I.opi (k := 4) (j := 0) (by decide) rfl
          have p_ad_4_0 : pt L_88707 f_88768 (ad 4 0) (.inl (G.2 0, 300, .inl g_88770)) := p_ad_4_0
          obtain ⟨g_88772, p_ad_5_0, o_88773⟩ := I.opi (k := 5) (j := 0) (by decide) rfl
          have p_ad_5_0 : pt L_88707 f_88768 (ad 5 0) (.inl (G.2 0, 160, .inl g_88772)) := p_ad_5_0
          obtain ⟨g_88774, p_ad_6_0, o_88775⟩ := I.opi (k := 6) (j := 0) (by decide) rfl
          have p_ad_6_0 : pt L_88707 f_88768 (ad 6 0) (.inl (G.2 0, 9, .inl g_88774)) := p_ad_6_0
          refine cVv (As := []) (rest := []) S Y (x_X12_nextToken (l := l) I p_ad_0_0 p_ad_4_0 p_ad_5_0 p_ad_6_0) cw_X12_nextToken km12_166 p_ad_0_0 ok_X12.1 rfl rfl ⟨Nat.le_of_ble_eq_true rfl, Nat.le_of_ble_eq_true rfl⟩ hl.1 rfl (Nat.le_of_ble_eq_true rfl) ⟨Nat.le_of_ble_eq_true rfl, Nat.le_of_ble_eq_true rfl⟩ dX12_swearClause_94 (fun L_88776 f_88777 H locs hr_88778 Y => ?_)
          obtain ⟨v_88779, v_88780, v_88781, v_88782, v_88783, I, p_ad_0_0, p_ad_4_0, p_ad_5_0, p_ad_6_0, eT_88784, eP_88785⟩ := hr_88778
          obtain ⟨bfc88785_4, bfc88785_7, bfc88785_8, bfc88785_12, bfc88785_13, bfc88785_17, bfc88785_18, bfc88785_19, bfc88785_20, bfc88785_25⟩ := obM I p_ad_0_0
          refine lv_aload_n hx hb dX12_swearClause_97 rfl (lv_at hl 2 rfl) ?_
          refine lv_iload_n hx hb dX12_swearClause_98 rfl (lv_at hl 3 rfl) ?_
          refine lv_iconst (v := 3) hx hb dX12_swearClause_99 (by decide) ?_
          refine lv_iadd hx hb dX12_swearClause_100 ?_
          refine lv_topi (fun x_88787 ex_88787 => ?_)
          refine lv_iconst (v := 1) hx hb dX12_swearClause_101 (by decide) ?_
          refine lv_bipush (v := 9) hx hb dX12_swearClause_102 (by decide) ?_
          refine cVi (As := [.int x_88787, .int 1, .int 9]) (rest := []) S Y (x_X12_figure (l := l) I p_ad_0_0 (bn_w (bn_eq ex_88787 (bn_add b_i1 (show bn 3 3 (3 : Int32) from bn_k (by decide)) (by decide))) (by decide)) (by have z9 := (la_add ex_88787 (rfl : i1.toInt = i1.toInt) (show (3 : Int32).toInt = 3 from rfl) b_i1 (show bn 3 3 (3 : Int32) from bn_k (by decide)) (by decide)); have z8 := b_i1.1; omega) eT_88784) cw_X12_figure km12_215 p_ad_0_0 ok_X12.1 rfl rfl ⟨Nat.le_of_ble_eq_true rfl, Nat.le_of_ble_eq_true rfl⟩ hl.1 rfl (Nat.le_of_ble_eq_true rfl) ⟨Nat.le_of_ble_eq_true rfl, Nat.le_of_ble_eq_true rfl⟩ dX12_swearClause_104 (fun r_88790 L_88788 f_88789 H locs hr_88790 Y => ?_)
          obtain ⟨v_88791, v_88792, v_88793, v_88794, v_88795, er_88790, I, p_ad_0_0, eT_88796, eP_88797⟩ := hr_88790
          obtain ⟨bfc88797_4, bfc88797_7, bfc88797_8, bfc88797_12, bfc88797_13, bfc88797_17, bfc88797_18, bfc88797_19, bfc88797_20, bfc88797_25⟩ := obM I p_ad_0_0
          exact prI (post := fun r L1 f1 => ∃ at92 : Int32, ∃ ps92 : Int32, ∃ tk2 : Int32, ∃ nu2 : Int32, ∃ wd2 : Int64, bn 0 2 r ∧ SH (spM PA PI (RN gB x0) pa) nnM G ad L1 f1 ∧ pt L1 f1 (ad 0 0) (.inr (12, [.ref (ad 1 0), .ref (ad 2 0), .ref (ad 3 0), .ref (ad 4 0), .int td, .int fa, .int fp, .int at92, .int ps92, .int tk2, .int nu2, .long wd2, .int t0, .int wr, .int so, .ref (ad 5 0), .ref (ad 6 0), .int pd, .int op9, .int cg, .int iw, .int on9, .ref (ad 7 0), .ref (ad 8 0), .ref (ad 9 0), .int is9, .ref (ad 10 0), .ref (ad 11 0), .ref (ad 12 0), .ref (ad 13 0), .int se, .ref (ad 14 0)])) ∧ TK at92 ps92 tk2 ∧ ps9.toInt ≤ ps92.toInt) S Y rfl (by decide) (by decide) hA1 ⟨v_88791, v_88792, v_88793, v_88794, v_88795, bn_w er_88790 (by decide), I, p_ad_0_0, eT_88796, (by have c0 := hT.1; have c1 := eT_88699.1; have c2 := eP_88700; have c3 := eT_88715.1; have c4 := eP_88716; have c5 := eT_88784.1; have c6 := eP_88785; have c7 := eT_88796.1; have c8 := eP_88797; omega)⟩ dX12_swearClause_107
        · have B_88764 : bn 0 0 r_88761 := bn_w (bn_eq c_88762 (show bn 0 0 (0 : Int32) from bn_k (by decide))) (by decide)
          refine lv_iconst (v := 1) hx hb dX12_swearClause_76 (by decide) ?_
          exact prI (post := fun r L1 f1 => ∃ at92 : Int32, ∃ ps92 : Int32, ∃ tk2 : Int32, ∃ nu2 : Int32, ∃ wd2 : Int64, bn 0 2 r ∧ SH (spM PA PI (RN gB x0) pa) nnM G ad L1 f1 ∧ pt L1 f1 (ad 0 0) (.inr (12, [.ref (ad 1 0), .ref (ad 2 0), .ref (ad 3 0), .ref (ad 4 0), .int td, .int fa, .int fp, .int at92, .int ps92, .int tk2, .int nu2, .long wd2, .int t0, .int wr, .int so, .ref (ad 5 0), .ref (ad 6 0), .int pd, .int op9, .int cg, .int iw, .int on9, .ref (ad 7 0), .ref (ad 8 0), .ref (ad 9 0), .int is9, .ref (ad 10 0), .ref (ad 11 0), .ref (ad 12 0), .ref (ad 13 0), .int se, .ref (ad 14 0)])) ∧ TK at92 ps92 tk2 ∧ ps9.toInt ≤ ps92.toInt) S Y rfl (by decide) (by decide) hA1 ⟨v_88710, v_88711, v_88712, v_88713, v_88714, bn_w (show bn 1 1 (1 : Int32) from bn_k (by decide)) (by decide), I, p_ad_0_0, eT_88715, (by have c0 := hT.1; have c1 := eT_88699.1; have c2 := eP_88700; have c3 := eT_88715.1; have c4 := eP_88716; omega)⟩ dX12_swearClause_77
    · have B_88720 : bn 1 2 r_88709 := bn_w (bn_nel c_88718 er_88709 (show bn 0 0 (0 : Int32) from bn_k (by decide))) (by decide)
      refine lv_iload_n hx hb dX12_swearClause_34 rfl (lv_at hl 0 rfl) ?_
      exact prI (post := fun r L1 f1 => ∃ at92 : Int32, ∃ ps92 : Int32, ∃ tk2 : Int32, ∃ nu2 : Int32, ∃ wd2 : Int64, bn 0 2 r ∧ SH (spM PA PI (RN gB x0) pa) nnM G ad L1 f1 ∧ pt L1 f1 (ad 0 0) (.inr (12, [.ref (ad 1 0), .ref (ad 2 0), .ref (ad 3 0), .ref (ad 4 0), .int td, .int fa, .int fp, .int at92, .int ps92, .int tk2, .int nu2, .long wd2, .int t0, .int wr, .int so, .ref (ad 5 0), .ref (ad 6 0), .int pd, .int op9, .int cg, .int iw, .int on9, .ref (ad 7 0), .ref (ad 8 0), .ref (ad 9 0), .int is9, .ref (ad 10 0), .ref (ad 11 0), .ref (ad 12 0), .ref (ad 13 0), .int se, .ref (ad 14 0)])) ∧ TK at92 ps92 tk2 ∧ ps9.toInt ≤ ps92.toInt) S Y rfl (by decide) (by decide) hA1 ⟨v_88710, v_88711, v_88712, v_88713, v_88714, bn_w B_88720 (by decide), I, p_ad_0_0, eT_88715, (by have c0 := hT.1; have c1 := eT_88699.1; have c2 := eP_88700; have c3 := eT_88715.1; have c4 := eP_88716; omega)⟩ dX12_swearClause_35
set_option maxHeartbeats 4000000 in
set_option maxRecDepth 100000 in
theorem x_X12_lawClause {l : Launch} {G : GG}  {L : List Nat} {f : HF} {ad : Nat → Nat → Nat} {pa : (Nat → Int32) → Prop} {PA : (Nat → Int32) → Prop} {PI : (Nat → Int32) → Prop} {i1 : Int32} {td fa fp at9 ps9 tk nu t0 wr so pd op9 cg iw on9 is9 se : Int32} {wd : Int64} {gA : Nat → Int32} {x0 : Nat} (I : SH (spM PA PI (EQ gA) pa) nnM G ad L f) (p_ad_0_0 : pt L f (ad 0 0) (.inr (12, [.ref (ad 1 0), .ref (ad 2 0), .ref (ad 3 0), .ref (ad 4 0), .int td, .int fa, .int fp, .int at9, .int ps9, .int tk, .int nu, .long wd, .int t0, .int wr, .int so, .ref (ad 5 0), .ref (ad 6 0), .int pd, .int op9, .int cg, .int iw, .int on9, .ref (ad 7 0), .ref (ad 8 0), .ref (ad 9 0), .int is9, .ref (ad 10 0), .ref (ad 11 0), .ref (ad 12 0), .ref (ad 13 0), .int se, .ref (ad 14 0)]))) (b_i1 : bn 0 2400 i1) (hx0 : i1.toInt.toNat = x0) (hxt : i1.toInt + 5 ≤ t0.toInt + 121) (hroom : wr.toInt ≤ ps9.toInt) (hT : TK at9 ps9 tk) : PMi l yX12_lawClause cX12_lawClause 3 .int 7 0 0 G [.ref (ad 0 0), .int i1] L f (fun r L1 f1 => ∃ at92 : Int32, ∃ ps92 : Int32, ∃ tk2 : Int32, ∃ nu2 : Int32, ∃ wd2 : Int64, ∃ wr2 : Int32, ∃ pd2 : Int32, ∃ op92 : Int32, ∃ cg2 : Int32, ∃ iw2 : Int32, bn 0 7 r ∧ SH (spM PA PI (LC r gA x0 t0 wr wr2) pa) nnM G ad L1 f1 ∧ pt L1 f1 (ad 0 0) (.inr (12, [.ref (ad 1 0), .ref (ad 2 0), .ref (ad 3 0), .ref (ad 4 0), .int td, .int fa, .int fp, .int at92, .int ps92, .int tk2, .int nu2, .long wd2, .int t0, .int wr2, .int so, .ref (ad 5 0), .ref (ad 6 0), .int pd2, .int op92, .int cg2, .int iw2, .int on9, .ref (ad 7 0), .ref (ad 8 0), .ref (ad 9 0), .int is9, .ref (ad 10 0), .ref (ad 11 0), .ref (ad 12 0), .ref (ad 13 0), .int se, .ref (ad 14 0)])) ∧ TK at92 ps92 tk2 ∧ (r.toInt = 0 → ps9.toInt ≤ ps92.toInt) ∧ (r.toInt = 0 → wr2.toInt ≤ ps92.toInt)) := by
  refine PMi.of (post := fun r L1 f1 => ∃ at92 : Int32, ∃ ps92 : Int32, ∃ tk2 : Int32, ∃ nu2 : Int32, ∃ wd2 : Int64, ∃ wr2 : Int32, ∃ pd2 : Int32, ∃ op92 : Int32, ∃ cg2 : Int32, ∃ iw2 : Int32, bn 0 7 r ∧ SH (spM PA PI (LC r gA x0 t0 wr wr2) pa) nnM G ad L1 f1 ∧ pt L1 f1 (ad 0 0) (.inr (12, [.ref (ad 1 0), .ref (ad 2 0), .ref (ad 3 0), .ref (ad 4 0), .int td, .int fa, .int fp, .int at92, .int ps92, .int tk2, .int nu2, .long wd2, .int t0, .int wr2, .int so, .ref (ad 5 0), .ref (ad 6 0), .int pd2, .int op92, .int cg2, .int iw2, .int on9, .ref (ad 7 0), .ref (ad 8 0), .ref (ad 9 0), .int is9, .ref (ad 10 0), .ref (ad 11 0), .ref (ad 12 0), .ref (ad 13 0), .int se, .ref (ad 14 0)])) ∧ TK at92 ps92 tk2 ∧ (r.toInt = 0 → ps9.toInt ≤ ps92.toInt) ∧ (r.toInt = 0 → wr2.toInt ≤ ps92.toInt)) (own := RX12) (by decide) rfl (Nat.le_of_ble_eq_true rfl) (fun sz p e s m args below meth c A ls hA1 hname S Y hl => ?_)
  have hx := S.hx
  have hb := S.hb
  have hl : lv_has ls 3 [(0, .ref (ad 0 0)), (1, .int i1)] := hl
  obtain ⟨bfe_4, bfe_7, bfe_8, bfe_12, bfe_13, bfe_17, bfe_18, bfe_19, bfe_20, bfe_25⟩ := obM I p_ad_0_0
  refine lv_aload_n hx hb dX12_lawClause_0 rfl (lv_at hl 0 rfl) ?_
  refine pg_get S Y ok_X12 2 (by decide) kf12_16 (v := .ref (ad 3 0)) p_ad_0_0 rfl dX12_lawClause_1 ?_
  refine lv_iload_n hx hb dX12_lawClause_4 rfl (lv_at hl 1 rfl) ?_
  refine lv_iconst (v := 1) hx hb dX12_lawClause_5 (by decide) ?_
  refine lv_iadd hx hb dX12_lawClause_6 ?_
  refine lv_topi (fun x_88869 ex_88869 => ?_)
  refine lv_aload_n hx hb dX12_lawClause_7 rfl (lv_at hl 0 rfl) ?_
  refine pg_get S Y ok_X12 13 (by decide) kf12_139 (v := .int wr) p_ad_0_0 rfl dX12_lawClause_8 ?_
  obtain ⟨g_88870, p_ad_3_0, o_88871⟩ := I.opi (k := 3) (j := 0) (by decide) rfl
  have p_ad_3_0 : pt L f (ad 3 0) (.inl (G.2 0, 2916, .inl g_88870)) := p_ad_3_0
  refine pg_iast S Y p_ad_3_0 (vp_bn (bn_eq ex_88869 (bn_add b_i1 (show bn 1 1 (1 : Int32) from bn_k (by decide)) (by decide))) (by decide)) dX12_lawClause_11 (fun f_88873 H locs ef_88873 Y => ?_)
  obtain ⟨g_88872, eg_88872⟩ : ∃ z, z = upd (g_88870) (x_88869 : Int32).toNatClampNeg wr := ⟨_, rfl⟩
  rw [← eg_88872] at ef_88873
  have p_ad_0_0 := p_ad_0_0.up ef_88873 (I.ne (k := 0) (j := 0) (k' := 3) (j' := 0) (by decide) (by decide) (Or.inl (by decide)))
  have p_ad_3_0 := p_ad_3_0.me ef_88873
  have o_88874 : (EQ g_88872) g_88872 := rfl
  have I := I.upS (sp' := spM PA PI (EQ g_88872) pa) (k := 3) (j := 0) (by decide) ef_88873 (okE_a (g := g_88872) o_88874) pXC
  have hgB : g_88872 = upd gA (x_88869 : Int32).toNatClampNeg wr := by rw [eg_88872, show g_88870 = gA from o_88871]
  refine lv_aload_n hx hb dX12_lawClause_12 rfl (lv_at hl 0 rfl) ?_
  obtain ⟨g_88875, p_ad_5_0, o_88876⟩ := I.opi (k := 5) (j := 0) (by decide) rfl
  have p_ad_5_0 : pt L f_88873 (ad 5 0) (.inl (G.2 0, 160, .inl g_88875)) := p_ad_5_0
  obtain ⟨g_88877, p_ad_6_0, o_88878⟩ := I.opi (k := 6) (j := 0) (by decide) rfl
  have p_ad_6_0 : pt L f_88873 (ad 6 0) (.inl (G.2 0, 9, .inl g_88877)) := p_ad_6_0
  refine cVi (As := []) (rest := []) S Y (x_X12_summed (l := l) I p_ad_0_0 p_ad_5_0 p_ad_6_0 hroom hT) cw_X12_summed km12_219 p_ad_0_0 ok_X12.1 rfl rfl ⟨Nat.le_of_ble_eq_true rfl, Nat.le_of_ble_eq_true rfl⟩ hl.1 rfl (Nat.le_of_ble_eq_true rfl) ⟨Nat.le_of_ble_eq_true rfl, Nat.le_of_ble_eq_true rfl⟩ dX12_lawClause_13 (fun r_88881 L_88879 f_88880 H locs hr_88881 Y => ?_)
  obtain ⟨v_88882, v_88883, v_88884, v_88885, v_88886, v_88887, v_88888, v_88889, v_88890, v_88891, g_88892, g_88893, er_88881, I, p_ad_0_0, p_ad_5_0, p_ad_6_0, eT_88894, eQ_88895, eW_88896⟩ := hr_88881
  obtain ⟨bfc88896_4, bfc88896_7, bfc88896_8, bfc88896_12, bfc88896_13, bfc88896_17, bfc88896_18, bfc88896_19, bfc88896_20, bfc88896_25⟩ := obM I p_ad_0_0
  refine lv_istore_n (lv' := [(2, .int r_88881), (0, .ref (ad 0 0)), (1, .int i1)]) hx hb dX12_lawClause_16 rfl hl (by decide) rfl (fun ls hl => ?_)
  refine lv_aload_n hx hb dX12_lawClause_17 rfl (lv_at hl 1 rfl) ?_
  refine pg_get S Y ok_X12 2 (by decide) kf12_16 (v := .ref (ad 3 0)) p_ad_0_0 rfl dX12_lawClause_18 ?_
  refine lv_iload_n hx hb dX12_lawClause_21 rfl (lv_at hl 2 rfl) ?_
  refine lv_iconst (v := 2) hx hb dX12_lawClause_22 (by decide) ?_
  refine lv_iadd hx hb dX12_lawClause_23 ?_
  refine lv_topi (fun x_88898 ex_88898 => ?_)
  refine lv_aload_n hx hb dX12_lawClause_24 rfl (lv_at hl 1 rfl) ?_
  refine pg_get S Y ok_X12 13 (by decide) kf12_139 (v := .int v_88887) p_ad_0_0 rfl dX12_lawClause_25 ?_
  obtain ⟨g_88899, p_ad_3_0, o_88900⟩ := I.opi (k := 3) (j := 0) (by decide) rfl
  have p_ad_3_0 : pt L_88879 f_88880 (ad 3 0) (.inl (G.2 0, 2916, .inl g_88899)) := p_ad_3_0
  refine pg_iast S Y p_ad_3_0 (vp_bn (bn_eq ex_88898 (bn_add b_i1 (show bn 2 2 (2 : Int32) from bn_k (by decide)) (by decide))) (by decide)) dX12_lawClause_28 (fun f_88902 H locs ef_88902 Y => ?_)
  obtain ⟨g_88901, eg_88901⟩ : ∃ z, z = upd (g_88899) (x_88898 : Int32).toNatClampNeg v_88887 := ⟨_, rfl⟩
  rw [← eg_88901] at ef_88902
  have p_ad_0_0 := p_ad_0_0.up ef_88902 (I.ne (k := 0) (j := 0) (k' := 3) (j' := 0) (by decide) (by decide) (Or.inl (by decide)))
  have p_ad_5_0 := p_ad_5_0.up ef_88902 (I.ne (k := 5) (j := 0) (k' := 3) (j' := 0) (by decide) (by decide) (Or.inl (by decide)))
  have p_ad_6_0 := p_ad_6_0.up ef_88902 (I.ne (k := 6) (j := 0) (k' := 3) (j' := 0) (by decide) (by decide) (Or.inl (by decide)))
  have p_ad_3_0 := p_ad_3_0.me ef_88902
  have o_88903 : (LC r_88881 gA x0 t0 wr v_88887) g_88901 := (LC_mk o_88900 hgB eg_88901 (by have z9 := (la_add ex_88869 (rfl : i1.toInt = i1.toInt) (show (1 : Int32).toInt = 1 from rfl) b_i1 (show bn 1 1 (1 : Int32) from bn_k (by decide)) (by decide)); have z8 := b_i1.1; rw [tnc]; omega) (by have z9 := (la_add ex_88898 (rfl : i1.toInt = i1.toInt) (show (2 : Int32).toInt = 2 from rfl) b_i1 (show bn 2 2 (2 : Int32) from bn_k (by decide)) (by decide)); have z8 := b_i1.1; rw [tnc]; omega) (by have z8 := b_i1.1; omega))
  have I := I.upS (sp' := spM PA PI (LC r_88881 gA x0 t0 wr v_88887) pa) (k := 3) (j := 0) (by decide) ef_88902 (okE_a (g := g_88901) o_88903) pXC
  refine lv_iload_n hx hb dX12_lawClause_29 rfl (lv_at hl 0 rfl) ?_
  exact prI (post := fun r L1 f1 => ∃ at92 : Int32, ∃ ps92 : Int32, ∃ tk2 : Int32, ∃ nu2 : Int32, ∃ wd2 : Int64, ∃ wr2 : Int32, ∃ pd2 : Int32, ∃ op92 : Int32, ∃ cg2 : Int32, ∃ iw2 : Int32, bn 0 7 r ∧ SH (spM PA PI (LC r gA x0 t0 wr wr2) pa) nnM G ad L1 f1 ∧ pt L1 f1 (ad 0 0) (.inr (12, [.ref (ad 1 0), .ref (ad 2 0), .ref (ad 3 0), .ref (ad 4 0), .int td, .int fa, .int fp, .int at92, .int ps92, .int tk2, .int nu2, .long wd2, .int t0, .int wr2, .int so, .ref (ad 5 0), .ref (ad 6 0), .int pd2, .int op92, .int cg2, .int iw2, .int on9, .ref (ad 7 0), .ref (ad 8 0), .ref (ad 9 0), .int is9, .ref (ad 10 0), .ref (ad 11 0), .ref (ad 12 0), .ref (ad 13 0), .int se, .ref (ad 14 0)])) ∧ TK at92 ps92 tk2 ∧ (r.toInt = 0 → ps9.toInt ≤ ps92.toInt) ∧ (r.toInt = 0 → wr2.toInt ≤ ps92.toInt)) S Y rfl (by decide) (by decide) hA1 ⟨v_88882, v_88883, v_88884, v_88885, v_88886, v_88887, v_88888, v_88889, v_88890, v_88891, bn_w er_88881 (by decide), I, p_ad_0_0, eT_88894, eQ_88895, eW_88896⟩ dX12_lawClause_30
set_option maxHeartbeats 4000000 in
set_option maxRecDepth 100000 in
theorem x_X12_body {l : Launch} {G : GG}  {L : List Nat} {f : HF} {ad : Nat → Nat → Nat} {pa : (Nat → Int32) → Prop} {PA : (Nat → Int32) → Prop} {PI : (Nat → Int32) → Prop} {i1 i2 : Int32} {td fa fp at9 ps9 tk nu t0 wr so pd op9 cg iw on9 is9 se : Int32} {wd : Int64} {gA : Nat → Int32} {x0 : Nat} (I : SH (spM PA PI (EQ gA) pa) nnM G ad L f) (p_ad_0_0 : pt L f (ad 0 0) (.inr (12, [.ref (ad 1 0), .ref (ad 2 0), .ref (ad 3 0), .ref (ad 4 0), .int td, .int fa, .int fp, .int at9, .int ps9, .int tk, .int nu, .long wd, .int t0, .int wr, .int so, .ref (ad 5 0), .ref (ad 6 0), .int pd, .int op9, .int cg, .int iw, .int on9, .ref (ad 7 0), .ref (ad 8 0), .ref (ad 9 0), .int is9, .ref (ad 10 0), .ref (ad 11 0), .ref (ad 12 0), .ref (ad 13 0), .int se, .ref (ad 14 0)]))) (b_i1 : bn 0 10 i1) (b_i2 : bn 0 2400 i2) (hs : gA x0 = i1) (hx0 : i2.toInt.toNat = x0) (hxt : i2.toInt + 5 ≤ t0.toInt + 121) (hroom : wr.toInt ≤ ps9.toInt) (hT : TK at9 ps9 tk) : PMi l yX12_body cX12_body 3 .int 8 0 0 G [.ref (ad 0 0), .int i1, .int i2] L f (fun r L1 f1 => ∃ at92 : Int32, ∃ ps92 : Int32, ∃ tk2 : Int32, ∃ nu2 : Int32, ∃ wd2 : Int64, ∃ wr2 : Int32, ∃ pd2 : Int32, ∃ op92 : Int32, ∃ cg2 : Int32, ∃ iw2 : Int32, bn 0 7 r ∧ SH (spM PA PI (BD r gA x0 t0 wr wr2) pa) nnM G ad L1 f1 ∧ pt L1 f1 (ad 0 0) (.inr (12, [.ref (ad 1 0), .ref (ad 2 0), .ref (ad 3 0), .ref (ad 4 0), .int td, .int fa, .int fp, .int at92, .int ps92, .int tk2, .int nu2, .long wd2, .int t0, .int wr2, .int so, .ref (ad 5 0), .ref (ad 6 0), .int pd2, .int op92, .int cg2, .int iw2, .int on9, .ref (ad 7 0), .ref (ad 8 0), .ref (ad 9 0), .int is9, .ref (ad 10 0), .ref (ad 11 0), .ref (ad 12 0), .ref (ad 13 0), .int se, .ref (ad 14 0)])) ∧ TK at92 ps92 tk2 ∧ (r.toInt = 0 → ps9.toInt ≤ ps92.toInt) ∧ (r.toInt = 0 → wr2.toInt ≤ ps92.toInt)) := by
  refine PMi.of (post := fun r L1 f1 => ∃ at92 : Int32, ∃ ps92 : Int32, ∃ tk2 : Int32, ∃ nu2 : Int32, ∃ wd2 : Int64, ∃ wr2 : Int32, ∃ pd2 : Int32, ∃ op92 : Int32, ∃ cg2 : Int32, ∃ iw2 : Int32, bn 0 7 r ∧ SH (spM PA PI (BD r gA x0 t0 wr wr2) pa) nnM G ad L1 f1 ∧ pt L1 f1 (ad 0 0) (.inr (12, [.ref (ad 1 0), .ref (ad 2 0), .ref (ad 3 0), .ref (ad 4 0), .int td, .int fa, .int fp, .int at92, .int ps92, .int tk2, .int nu2, .long wd2, .int t0, .int wr2, .int so, .ref (ad 5 0), .ref (ad 6 0), .int pd2, .int op92, .int cg2, .int iw2, .int on9, .ref (ad 7 0), .ref (ad 8 0), .ref (ad 9 0), .int is9, .ref (ad 10 0), .ref (ad 11 0), .ref (ad 12 0), .ref (ad 13 0), .int se, .ref (ad 14 0)])) ∧ TK at92 ps92 tk2 ∧ (r.toInt = 0 → ps9.toInt ≤ ps92.toInt) ∧ (r.toInt = 0 → wr2.toInt ≤ ps92.toInt)) (own := RX12) (by decide) rfl (Nat.le_of_ble_eq_true rfl) (fun sz p e s m args below meth c A ls hA1 hname S Y hl => ?_)
  have hx := S.hx
  have hb := S.hb
  have hl : lv_has ls 3 [(0, .ref (ad 0 0)), (1, .int i1), (2, .int i2)] := hl
  obtain ⟨bfe_4, bfe_7, bfe_8, bfe_12, bfe_13, bfe_17, bfe_18, bfe_19, bfe_20, bfe_25⟩ := obM I p_ad_0_0
  refine lv_iload_n hx hb dX12_body_0 rfl (lv_at hl 1 rfl) ?_
  rcases swM_3_10 i1 with h_89242 | h_89242 | h_89242 | h_89242 | h_89242 | h_89242 | h_89242 | h_89242 | h_89242
  · refine lv_fold (z := 3) h_89242 ?_
    refine lv_tableIn (off := 47) (tgt := 48) hx hb dX12_body_1 (by decide) (by decide) (by decide) (by decide) ?_
    refine lv_aload_n hx hb dX12_body_48 rfl (lv_at hl 0 rfl) ?_
    refine lv_iload_n hx hb dX12_body_49 rfl (lv_at hl 2 rfl) ?_
    obtain ⟨g_89243, p_ad_3_0, o_89244⟩ := I.opi (k := 3) (j := 0) (by decide) rfl
    have p_ad_3_0 : pt L f (ad 3 0) (.inl (G.2 0, 2916, .inl g_89243)) := p_ad_3_0
    have o_89245 : (RN gA x0) g_89243 := (RN_eq o_89244 hs (by have z9 := ((bn_eq h_89242 (show bn 3 3 (3 : Int32) from bn_k (by decide)))).1; omega))
    have I := I.castS (sp' := spM PA PI (RN gA x0) pa) (k := 3) (j := 0) (by decide) p_ad_3_0 (okE_a (g := g_89243) o_89245) pXC
    refine cVi (As := [.int i2]) (rest := []) S Y (x_X12_oneClause (l := l) I p_ad_0_0 (bn_w b_i2 (by decide)) hx0 hT) cw_X12_oneClause km12_226 p_ad_0_0 ok_X12.1 rfl rfl ⟨Nat.le_of_ble_eq_true rfl, Nat.le_of_ble_eq_true rfl⟩ hl.1 rfl (Nat.le_of_ble_eq_true rfl) ⟨Nat.le_of_ble_eq_true rfl, Nat.le_of_ble_eq_true rfl⟩ dX12_body_50 (fun r_89248 L_89246 f_89247 H locs hr_89248 Y => ?_)
    obtain ⟨v_89249, v_89250, v_89251, v_89252, v_89253, er_89248, I, p_ad_0_0, eT_89254, eP_89255⟩ := hr_89248
    obtain ⟨bfc89255_4, bfc89255_7, bfc89255_8, bfc89255_12, bfc89255_13, bfc89255_17, bfc89255_18, bfc89255_19, bfc89255_20, bfc89255_25⟩ := obM I p_ad_0_0
    obtain ⟨g_89257, p_ad_3_0, o_89258⟩ := I.opi (k := 3) (j := 0) (by decide) rfl
    have p_ad_3_0 : pt L_89246 f_89247 (ad 3 0) (.inl (G.2 0, 2916, .inl g_89257)) := p_ad_3_0
    have o_89259 : (BD r_89248 gA x0 t0 wr wr) g_89257 := (BD_rn o_89258)
    have I := I.castS (sp' := spM PA PI (BD r_89248 gA x0 t0 wr wr) pa) (k := 3) (j := 0) (by decide) p_ad_3_0 (okE_a (g := g_89257) o_89259) pXC
    exact prI (post := fun r L1 f1 => ∃ at92 : Int32, ∃ ps92 : Int32, ∃ tk2 : Int32, ∃ nu2 : Int32, ∃ wd2 : Int64, ∃ wr2 : Int32, ∃ pd2 : Int32, ∃ op92 : Int32, ∃ cg2 : Int32, ∃ iw2 : Int32, bn 0 7 r ∧ SH (spM PA PI (BD r gA x0 t0 wr wr2) pa) nnM G ad L1 f1 ∧ pt L1 f1 (ad 0 0) (.inr (12, [.ref (ad 1 0), .ref (ad 2 0), .ref (ad 3 0), .ref (ad 4 0), .int td, .int fa, .int fp, .int at92, .int ps92, .int tk2, .int nu2, .long wd2, .int t0, .int wr2, .int so, .ref (ad 5 0), .ref (ad 6 0), .int pd2, .int op92, .int cg2, .int iw2, .int on9, .ref (ad 7 0), .ref (ad 8 0), .ref (ad 9 0), .int is9, .ref (ad 10 0), .ref (ad 11 0), .ref (ad 12 0), .ref (ad 13 0), .int se, .ref (ad 14 0)])) ∧ TK at92 ps92 tk2 ∧ (r.toInt = 0 → ps9.toInt ≤ ps92.toInt) ∧ (r.toInt = 0 → wr2.toInt ≤ ps92.toInt)) S Y rfl (by decide) (by decide) hA1 ⟨v_89249, v_89250, v_89251, v_89252, v_89253, wr, pd, op9, cg, iw, bn_w er_89248 (by decide), I, p_ad_0_0, eT_89254, (fun _ => (by have c0 := hT.1; have c1 := eT_89254.1; have c2 := eP_89255; omega)), (fun _ => by have z9 := (by have c0 := hT.1; have c1 := eT_89254.1; have c2 := eP_89255; omega); have z8 := hroom; omega)⟩ dX12_body_53
  · refine lv_fold (z := 4) h_89242 ?_
    refine lv_tableIn (off := 53) (tgt := 54) hx hb dX12_body_1 (by decide) (by decide) (by decide) (by decide) ?_
    refine lv_aload_n hx hb dX12_body_54 rfl (lv_at hl 0 rfl) ?_
    refine lv_iload_n hx hb dX12_body_55 rfl (lv_at hl 2 rfl) ?_
    obtain ⟨g_89260, p_ad_3_0, o_89261⟩ := I.opi (k := 3) (j := 0) (by decide) rfl
    have p_ad_3_0 : pt L f (ad 3 0) (.inl (G.2 0, 2916, .inl g_89260)) := p_ad_3_0
    have o_89262 : (RN gA x0) g_89260 := (RN_eq o_89261 hs (by have z9 := ((bn_eq h_89242 (show bn 4 4 (4 : Int32) from bn_k (by decide)))).1; omega))
    have I := I.castS (sp' := spM PA PI (RN gA x0) pa) (k := 3) (j := 0) (by decide) p_ad_3_0 (okE_a (g := g_89260) o_89262) pXC
    refine cVi (As := [.int i2]) (rest := []) S Y (x_X12_swearClause (l := l) I p_ad_0_0 (bn_w b_i2 (by decide)) hx0 hT) cw_X12_swearClause km12_229 p_ad_0_0 ok_X12.1 rfl rfl ⟨Nat.le_of_ble_eq_true rfl, Nat.le_of_ble_eq_true rfl⟩ hl.1 rfl (Nat.le_of_ble_eq_true rfl) ⟨Nat.le_of_ble_eq_true rfl, Nat.le_of_ble_eq_true rfl⟩ dX12_body_56 (fun r_89265 L_89263 f_89264 H locs hr_89265 Y => ?_)
    obtain ⟨v_89266, v_89267, v_89268, v_89269, v_89270, er_89265, I, p_ad_0_0, eT_89271, eP_89272⟩ := hr_89265
    obtain ⟨bfc89272_4, bfc89272_7, bfc89272_8, bfc89272_12, bfc89272_13, bfc89272_17, bfc89272_18, bfc89272_19, bfc89272_20, bfc89272_25⟩ := obM I p_ad_0_0
    obtain ⟨g_89274, p_ad_3_0, o_89275⟩ := I.opi (k := 3) (j := 0) (by decide) rfl
    have p_ad_3_0 : pt L_89263 f_89264 (ad 3 0) (.inl (G.2 0, 2916, .inl g_89274)) := p_ad_3_0
    have o_89276 : (BD r_89265 gA x0 t0 wr wr) g_89274 := (BD_rn o_89275)
    have I := I.castS (sp' := spM PA PI (BD r_89265 gA x0 t0 wr wr) pa) (k := 3) (j := 0) (by decide) p_ad_3_0 (okE_a (g := g_89274) o_89276) pXC
    exact prI (post := fun r L1 f1 => ∃ at92 : Int32, ∃ ps92 : Int32, ∃ tk2 : Int32, ∃ nu2 : Int32, ∃ wd2 : Int64, ∃ wr2 : Int32, ∃ pd2 : Int32, ∃ op92 : Int32, ∃ cg2 : Int32, ∃ iw2 : Int32, bn 0 7 r ∧ SH (spM PA PI (BD r gA x0 t0 wr wr2) pa) nnM G ad L1 f1 ∧ pt L1 f1 (ad 0 0) (.inr (12, [.ref (ad 1 0), .ref (ad 2 0), .ref (ad 3 0), .ref (ad 4 0), .int td, .int fa, .int fp, .int at92, .int ps92, .int tk2, .int nu2, .long wd2, .int t0, .int wr2, .int so, .ref (ad 5 0), .ref (ad 6 0), .int pd2, .int op92, .int cg2, .int iw2, .int on9, .ref (ad 7 0), .ref (ad 8 0), .ref (ad 9 0), .int is9, .ref (ad 10 0), .ref (ad 11 0), .ref (ad 12 0), .ref (ad 13 0), .int se, .ref (ad 14 0)])) ∧ TK at92 ps92 tk2 ∧ (r.toInt = 0 → ps9.toInt ≤ ps92.toInt) ∧ (r.toInt = 0 → wr2.toInt ≤ ps92.toInt)) S Y rfl (by decide) (by decide) hA1 ⟨v_89266, v_89267, v_89268, v_89269, v_89270, wr, pd, op9, cg, iw, bn_w er_89265 (by decide), I, p_ad_0_0, eT_89271, (fun _ => (by have c0 := hT.1; have c1 := eT_89271.1; have c2 := eP_89272; omega)), (fun _ => by have z9 := (by have c0 := hT.1; have c1 := eT_89271.1; have c2 := eP_89272; omega); have z8 := hroom; omega)⟩ dX12_body_59
  · refine lv_fold (z := 5) h_89242 ?_
    refine lv_tableIn (off := 112) (tgt := 113) hx hb dX12_body_1 (by decide) (by decide) (by decide) (by decide) ?_
    refine lv_aload_n hx hb dX12_body_113 rfl (lv_at hl 0 rfl) ?_
    refine lv_iload_n hx hb dX12_body_114 rfl (lv_at hl 2 rfl) ?_
    obtain ⟨g_89277, p_ad_3_0, o_89278⟩ := I.opi (k := 3) (j := 0) (by decide) rfl
    have p_ad_3_0 : pt L f (ad 3 0) (.inl (G.2 0, 2916, .inl g_89277)) := p_ad_3_0
    refine cVi (As := [.int i2]) (rest := []) S Y (x_X12_lawClause (l := l) I p_ad_0_0 (bn_w b_i2 (by decide)) hx0 hxt hroom hT) cw_X12_lawClause km12_232 p_ad_0_0 ok_X12.1 rfl rfl ⟨Nat.le_of_ble_eq_true rfl, Nat.le_of_ble_eq_true rfl⟩ hl.1 rfl (Nat.le_of_ble_eq_true rfl) ⟨Nat.le_of_ble_eq_true rfl, Nat.le_of_ble_eq_true rfl⟩ dX12_body_115 (fun r_89281 L_89279 f_89280 H locs hr_89281 Y => ?_)
    obtain ⟨v_89282, v_89283, v_89284, v_89285, v_89286, v_89287, v_89288, v_89289, v_89290, v_89291, er_89281, I, p_ad_0_0, eT_89292, eQ_89293, eW_89294⟩ := hr_89281
    obtain ⟨bfc89294_4, bfc89294_7, bfc89294_8, bfc89294_12, bfc89294_13, bfc89294_17, bfc89294_18, bfc89294_19, bfc89294_20, bfc89294_25⟩ := obM I p_ad_0_0
    obtain ⟨g_89296, p_ad_3_0, o_89297⟩ := I.opi (k := 3) (j := 0) (by decide) rfl
    have p_ad_3_0 : pt L_89279 f_89280 (ad 3 0) (.inl (G.2 0, 2916, .inl g_89296)) := p_ad_3_0
    have o_89298 : (BD r_89281 gA x0 t0 wr v_89287) g_89296 := (BD_lc o_89297)
    have I := I.castS (sp' := spM PA PI (BD r_89281 gA x0 t0 wr v_89287) pa) (k := 3) (j := 0) (by decide) p_ad_3_0 (okE_a (g := g_89296) o_89298) pXC
    exact prI (post := fun r L1 f1 => ∃ at92 : Int32, ∃ ps92 : Int32, ∃ tk2 : Int32, ∃ nu2 : Int32, ∃ wd2 : Int64, ∃ wr2 : Int32, ∃ pd2 : Int32, ∃ op92 : Int32, ∃ cg2 : Int32, ∃ iw2 : Int32, bn 0 7 r ∧ SH (spM PA PI (BD r gA x0 t0 wr wr2) pa) nnM G ad L1 f1 ∧ pt L1 f1 (ad 0 0) (.inr (12, [.ref (ad 1 0), .ref (ad 2 0), .ref (ad 3 0), .ref (ad 4 0), .int td, .int fa, .int fp, .int at92, .int ps92, .int tk2, .int nu2, .long wd2, .int t0, .int wr2, .int so, .ref (ad 5 0), .ref (ad 6 0), .int pd2, .int op92, .int cg2, .int iw2, .int on9, .ref (ad 7 0), .ref (ad 8 0), .ref (ad 9 0), .int is9, .ref (ad 10 0), .ref (ad 11 0), .ref (ad 12 0), .ref (ad 13 0), .int se, .ref (ad 14 0)])) ∧ TK at92 ps92 tk2 ∧ (r.toInt = 0 → ps9.toInt ≤ ps92.toInt) ∧ (r.toInt = 0 → wr2.toInt ≤ ps92.toInt)) S Y rfl (by decide) (by decide) hA1 ⟨v_89282, v_89283, v_89284, v_89285, v_89286, v_89287, v_89288, v_89289, v_89290, v_89291, bn_w er_89281 (by decide), I, p_ad_0_0, eT_89292, eQ_89293, eW_89294⟩ dX12_body_118
  · refine lv_fold (z := 6) h_89242 ?_
    refine lv_tableIn (off := 59) (tgt := 60) hx hb dX12_body_1 (by decide) (by decide) (by decide) (by decide) ?_
    refine lv_aload_n hx hb dX12_body_60 rfl (lv_at hl 0 rfl) ?_
    refine lv_iload_n hx hb dX12_body_61 rfl (lv_at hl 2 rfl) ?_
    refine lv_iconst (v := 1) hx hb dX12_body_62 (by decide) ?_
    refine lv_iadd hx hb dX12_body_63 ?_
    refine lv_topi (fun x_89299 ex_89299 => ?_)
    refine lv_iconst (v := 0) hx hb dX12_body_64 (by decide) ?_
    refine lv_bipush (v := 13) hx hb dX12_body_65 (by decide) ?_
    obtain ⟨g_89300, p_ad_3_0, o_89301⟩ := I.opi (k := 3) (j := 0) (by decide) rfl
    have p_ad_3_0 : pt L f (ad 3 0) (.inl (G.2 0, 2916, .inl g_89300)) := p_ad_3_0
    have o_89302 : (RN gA x0) g_89300 := (RN_eq o_89301 hs (by have z9 := ((bn_eq h_89242 (show bn 6 6 (6 : Int32) from bn_k (by decide)))).1; omega))
    have I := I.castS (sp' := spM PA PI (RN gA x0) pa) (k := 3) (j := 0) (by decide) p_ad_3_0 (okE_a (g := g_89300) o_89302) pXC
    refine cVi (As := [.int x_89299, .int 0, .int 13]) (rest := []) S Y (x_X12_figure (l := l) I p_ad_0_0 (bn_w (bn_eq ex_89299 (bn_add b_i2 (show bn 1 1 (1 : Int32) from bn_k (by decide)) (by decide))) (by decide)) (by have z9 := (la_add ex_89299 (rfl : i2.toInt = i2.toInt) (show (1 : Int32).toInt = 1 from rfl) b_i2 (show bn 1 1 (1 : Int32) from bn_k (by decide)) (by decide)); have z8 := b_i2.1; omega) hT) cw_X12_figure km12_215 p_ad_0_0 ok_X12.1 rfl rfl ⟨Nat.le_of_ble_eq_true rfl, Nat.le_of_ble_eq_true rfl⟩ hl.1 rfl (Nat.le_of_ble_eq_true rfl) ⟨Nat.le_of_ble_eq_true rfl, Nat.le_of_ble_eq_true rfl⟩ dX12_body_67 (fun r_89305 L_89303 f_89304 H locs hr_89305 Y => ?_)
    obtain ⟨v_89306, v_89307, v_89308, v_89309, v_89310, er_89305, I, p_ad_0_0, eT_89311, eP_89312⟩ := hr_89305
    obtain ⟨bfc89312_4, bfc89312_7, bfc89312_8, bfc89312_12, bfc89312_13, bfc89312_17, bfc89312_18, bfc89312_19, bfc89312_20, bfc89312_25⟩ := obM I p_ad_0_0
    obtain ⟨g_89314, p_ad_3_0, o_89315⟩ := I.opi (k := 3) (j := 0) (by decide) rfl
    have p_ad_3_0 : pt L_89303 f_89304 (ad 3 0) (.inl (G.2 0, 2916, .inl g_89314)) := p_ad_3_0
    have o_89316 : (BD r_89305 gA x0 t0 wr wr) g_89314 := (BD_rn o_89315)
    have I := I.castS (sp' := spM PA PI (BD r_89305 gA x0 t0 wr wr) pa) (k := 3) (j := 0) (by decide) p_ad_3_0 (okE_a (g := g_89314) o_89316) pXC
    exact prI (post := fun r L1 f1 => ∃ at92 : Int32, ∃ ps92 : Int32, ∃ tk2 : Int32, ∃ nu2 : Int32, ∃ wd2 : Int64, ∃ wr2 : Int32, ∃ pd2 : Int32, ∃ op92 : Int32, ∃ cg2 : Int32, ∃ iw2 : Int32, bn 0 7 r ∧ SH (spM PA PI (BD r gA x0 t0 wr wr2) pa) nnM G ad L1 f1 ∧ pt L1 f1 (ad 0 0) (.inr (12, [.ref (ad 1 0), .ref (ad 2 0), .ref (ad 3 0), .ref (ad 4 0), .int td, .int fa, .int fp, .int at92, .int ps92, .int tk2, .int nu2, .long wd2, .int t0, .int wr2, .int so, .ref (ad 5 0), .ref (ad 6 0), .int pd2, .int op92, .int cg2, .int iw2, .int on9, .ref (ad 7 0), .ref (ad 8 0), .ref (ad 9 0), .int is9, .ref (ad 10 0), .ref (ad 11 0), .ref (ad 12 0), .ref (ad 13 0), .int se, .ref (ad 14 0)])) ∧ TK at92 ps92 tk2 ∧ (r.toInt = 0 → ps9.toInt ≤ ps92.toInt) ∧ (r.toInt = 0 → wr2.toInt ≤ ps92.toInt)) S Y rfl (by decide) (by decide) hA1 ⟨v_89306, v_89307, v_89308, v_89309, v_89310, wr, pd, op9, cg, iw, bn_w er_89305 (by decide), I, p_ad_0_0, eT_89311, (fun _ => (by have c0 := hT.1; have c1 := eT_89311.1; have c2 := eP_89312; omega)), (fun _ => by have z9 := (by have c0 := hT.1; have c1 := eT_89311.1; have c2 := eP_89312; omega); have z8 := hroom; omega)⟩ dX12_body_70
  · refine lv_fold (z := 7) h_89242 ?_
    refine lv_tableIn (off := 70) (tgt := 71) hx hb dX12_body_1 (by decide) (by decide) (by decide) (by decide) ?_
    refine lv_aload_n hx hb dX12_body_71 rfl (lv_at hl 0 rfl) ?_
    refine lv_iload_n hx hb dX12_body_72 rfl (lv_at hl 2 rfl) ?_
    refine lv_iconst (v := 1) hx hb dX12_body_73 (by decide) ?_
    refine lv_iadd hx hb dX12_body_74 ?_
    refine lv_topi (fun x_89317 ex_89317 => ?_)
    refine lv_iconst (v := 0) hx hb dX12_body_75 (by decide) ?_
    refine lv_bipush (v := 13) hx hb dX12_body_76 (by decide) ?_
    obtain ⟨g_89318, p_ad_3_0, o_89319⟩ := I.opi (k := 3) (j := 0) (by decide) rfl
    have p_ad_3_0 : pt L f (ad 3 0) (.inl (G.2 0, 2916, .inl g_89318)) := p_ad_3_0
    have o_89320 : (RN gA x0) g_89318 := (RN_eq o_89319 hs (by have z9 := ((bn_eq h_89242 (show bn 7 7 (7 : Int32) from bn_k (by decide)))).1; omega))
    have I := I.castS (sp' := spM PA PI (RN gA x0) pa) (k := 3) (j := 0) (by decide) p_ad_3_0 (okE_a (g := g_89318) o_89320) pXC
    refine cVi (As := [.int x_89317, .int 0, .int 13]) (rest := []) S Y (x_X12_figure (l := l) I p_ad_0_0 (bn_w (bn_eq ex_89317 (bn_add b_i2 (show bn 1 1 (1 : Int32) from bn_k (by decide)) (by decide))) (by decide)) (by have z9 := (la_add ex_89317 (rfl : i2.toInt = i2.toInt) (show (1 : Int32).toInt = 1 from rfl) b_i2 (show bn 1 1 (1 : Int32) from bn_k (by decide)) (by decide)); have z8 := b_i2.1; omega) hT) cw_X12_figure km12_215 p_ad_0_0 ok_X12.1 rfl rfl ⟨Nat.le_of_ble_eq_true rfl, Nat.le_of_ble_eq_true rfl⟩ hl.1 rfl (Nat.le_of_ble_eq_true rfl) ⟨Nat.le_of_ble_eq_true rfl, Nat.le_of_ble_eq_true rfl⟩ dX12_body_78 (fun r_89323 L_89321 f_89322 H locs hr_89323 Y => ?_)
    obtain ⟨v_89324, v_89325, v_89326, v_89327, v_89328, er_89323, I, p_ad_0_0, eT_89329, eP_89330⟩ := hr_89323
    obtain ⟨bfc89330_4, bfc89330_7, bfc89330_8, bfc89330_12, bfc89330_13, bfc89330_17, bfc89330_18, bfc89330_19, bfc89330_20, bfc89330_25⟩ := obM I p_ad_0_0
    obtain ⟨g_89332, p_ad_3_0, o_89333⟩ := I.opi (k := 3) (j := 0) (by decide) rfl
    have p_ad_3_0 : pt L_89321 f_89322 (ad 3 0) (.inl (G.2 0, 2916, .inl g_89332)) := p_ad_3_0
    have o_89334 : (BD r_89323 gA x0 t0 wr wr) g_89332 := (BD_rn o_89333)
    have I := I.castS (sp' := spM PA PI (BD r_89323 gA x0 t0 wr wr) pa) (k := 3) (j := 0) (by decide) p_ad_3_0 (okE_a (g := g_89332) o_89334) pXC
    exact prI (post := fun r L1 f1 => ∃ at92 : Int32, ∃ ps92 : Int32, ∃ tk2 : Int32, ∃ nu2 : Int32, ∃ wd2 : Int64, ∃ wr2 : Int32, ∃ pd2 : Int32, ∃ op92 : Int32, ∃ cg2 : Int32, ∃ iw2 : Int32, bn 0 7 r ∧ SH (spM PA PI (BD r gA x0 t0 wr wr2) pa) nnM G ad L1 f1 ∧ pt L1 f1 (ad 0 0) (.inr (12, [.ref (ad 1 0), .ref (ad 2 0), .ref (ad 3 0), .ref (ad 4 0), .int td, .int fa, .int fp, .int at92, .int ps92, .int tk2, .int nu2, .long wd2, .int t0, .int wr2, .int so, .ref (ad 5 0), .ref (ad 6 0), .int pd2, .int op92, .int cg2, .int iw2, .int on9, .ref (ad 7 0), .ref (ad 8 0), .ref (ad 9 0), .int is9, .ref (ad 10 0), .ref (ad 11 0), .ref (ad 12 0), .ref (ad 13 0), .int se, .ref (ad 14 0)])) ∧ TK at92 ps92 tk2 ∧ (r.toInt = 0 → ps9.toInt ≤ ps92.toInt) ∧ (r.toInt = 0 → wr2.toInt ≤ ps92.toInt)) S Y rfl (by decide) (by decide) hA1 ⟨v_89324, v_89325, v_89326, v_89327, v_89328, wr, pd, op9, cg, iw, bn_w er_89323 (by decide), I, p_ad_0_0, eT_89329, (fun _ => (by have c0 := hT.1; have c1 := eT_89329.1; have c2 := eP_89330; omega)), (fun _ => by have z9 := (by have c0 := hT.1; have c1 := eT_89329.1; have c2 := eP_89330; omega); have z8 := hroom; omega)⟩ dX12_body_81
  · refine lv_fold (z := 8) h_89242 ?_
    refine lv_tableIn (off := 81) (tgt := 82) hx hb dX12_body_1 (by decide) (by decide) (by decide) (by decide) ?_
    refine lv_aload_n hx hb dX12_body_82 rfl (lv_at hl 0 rfl) ?_
    refine lv_iload_n hx hb dX12_body_83 rfl (lv_at hl 2 rfl) ?_
    refine lv_iconst (v := 1) hx hb dX12_body_84 (by decide) ?_
    refine lv_iadd hx hb dX12_body_85 ?_
    refine lv_topi (fun x_89335 ex_89335 => ?_)
    refine lv_iconst (v := 0) hx hb dX12_body_86 (by decide) ?_
    refine lv_iconst (v := 5) hx hb dX12_body_87 (by decide) ?_
    obtain ⟨g_89336, p_ad_3_0, o_89337⟩ := I.opi (k := 3) (j := 0) (by decide) rfl
    have p_ad_3_0 : pt L f (ad 3 0) (.inl (G.2 0, 2916, .inl g_89336)) := p_ad_3_0
    have o_89338 : (RN gA x0) g_89336 := (RN_eq o_89337 hs (by have z9 := ((bn_eq h_89242 (show bn 8 8 (8 : Int32) from bn_k (by decide)))).1; omega))
    have I := I.castS (sp' := spM PA PI (RN gA x0) pa) (k := 3) (j := 0) (by decide) p_ad_3_0 (okE_a (g := g_89336) o_89338) pXC
    refine cVi (As := [.int x_89335, .int 0, .int 5]) (rest := []) S Y (x_X12_figure (l := l) I p_ad_0_0 (bn_w (bn_eq ex_89335 (bn_add b_i2 (show bn 1 1 (1 : Int32) from bn_k (by decide)) (by decide))) (by decide)) (by have z9 := (la_add ex_89335 (rfl : i2.toInt = i2.toInt) (show (1 : Int32).toInt = 1 from rfl) b_i2 (show bn 1 1 (1 : Int32) from bn_k (by decide)) (by decide)); have z8 := b_i2.1; omega) hT) cw_X12_figure km12_215 p_ad_0_0 ok_X12.1 rfl rfl ⟨Nat.le_of_ble_eq_true rfl, Nat.le_of_ble_eq_true rfl⟩ hl.1 rfl (Nat.le_of_ble_eq_true rfl) ⟨Nat.le_of_ble_eq_true rfl, Nat.le_of_ble_eq_true rfl⟩ dX12_body_88 (fun r_89341 L_89339 f_89340 H locs hr_89341 Y => ?_)
    obtain ⟨v_89342, v_89343, v_89344, v_89345, v_89346, er_89341, I, p_ad_0_0, eT_89347, eP_89348⟩ := hr_89341
    obtain ⟨bfc89348_4, bfc89348_7, bfc89348_8, bfc89348_12, bfc89348_13, bfc89348_17, bfc89348_18, bfc89348_19, bfc89348_20, bfc89348_25⟩ := obM I p_ad_0_0
    obtain ⟨g_89350, p_ad_3_0, o_89351⟩ := I.opi (k := 3) (j := 0) (by decide) rfl
    have p_ad_3_0 : pt L_89339 f_89340 (ad 3 0) (.inl (G.2 0, 2916, .inl g_89350)) := p_ad_3_0
    have o_89352 : (BD r_89341 gA x0 t0 wr wr) g_89350 := (BD_rn o_89351)
    have I := I.castS (sp' := spM PA PI (BD r_89341 gA x0 t0 wr wr) pa) (k := 3) (j := 0) (by decide) p_ad_3_0 (okE_a (g := g_89350) o_89352) pXC
    exact prI (post := fun r L1 f1 => ∃ at92 : Int32, ∃ ps92 : Int32, ∃ tk2 : Int32, ∃ nu2 : Int32, ∃ wd2 : Int64, ∃ wr2 : Int32, ∃ pd2 : Int32, ∃ op92 : Int32, ∃ cg2 : Int32, ∃ iw2 : Int32, bn 0 7 r ∧ SH (spM PA PI (BD r gA x0 t0 wr wr2) pa) nnM G ad L1 f1 ∧ pt L1 f1 (ad 0 0) (.inr (12, [.ref (ad 1 0), .ref (ad 2 0), .ref (ad 3 0), .ref (ad 4 0), .int td, .int fa, .int fp, .int at92, .int ps92, .int tk2, .int nu2, .long wd2, .int t0, .int wr2, .int so, .ref (ad 5 0), .ref (ad 6 0), .int pd2, .int op92, .int cg2, .int iw2, .int on9, .ref (ad 7 0), .ref (ad 8 0), .ref (ad 9 0), .int is9, .ref (ad 10 0), .ref (ad 11 0), .ref (ad 12 0), .ref (ad 13 0), .int se, .ref (ad 14 0)])) ∧ TK at92 ps92 tk2 ∧ (r.toInt = 0 → ps9.toInt ≤ ps92.toInt) ∧ (r.toInt = 0 → wr2.toInt ≤ ps92.toInt)) S Y rfl (by decide) (by decide) hA1 ⟨v_89342, v_89343, v_89344, v_89345, v_89346, wr, pd, op9, cg, iw, bn_w er_89341 (by decide), I, p_ad_0_0, eT_89347, (fun _ => (by have c0 := hT.1; have c1 := eT_89347.1; have c2 := eP_89348; omega)), (fun _ => by have z9 := (by have c0 := hT.1; have c1 := eT_89347.1; have c2 := eP_89348; omega); have z8 := hroom; omega)⟩ dX12_body_91
  · refine lv_fold (z := 9) h_89242 ?_
    refine lv_tableIn (off := 91) (tgt := 92) hx hb dX12_body_1 (by decide) (by decide) (by decide) (by decide) ?_
    refine lv_aload_n hx hb dX12_body_92 rfl (lv_at hl 0 rfl) ?_
    refine lv_iload_n hx hb dX12_body_93 rfl (lv_at hl 2 rfl) ?_
    refine lv_iconst (v := 1) hx hb dX12_body_94 (by decide) ?_
    refine lv_iadd hx hb dX12_body_95 ?_
    refine lv_topi (fun x_89353 ex_89353 => ?_)
    refine lv_iconst (v := 0) hx hb dX12_body_96 (by decide) ?_
    refine lv_iconst (v := 5) hx hb dX12_body_97 (by decide) ?_
    obtain ⟨g_89354, p_ad_3_0, o_89355⟩ := I.opi (k := 3) (j := 0) (by decide) rfl
    have p_ad_3_0 : pt L f (ad 3 0) (.inl (G.2 0, 2916, .inl g_89354)) := p_ad_3_0
    have o_89356 : (RN gA x0) g_89354 := (RN_eq o_89355 hs (by have z9 := ((bn_eq h_89242 (show bn 9 9 (9 : Int32) from bn_k (by decide)))).1; omega))
    have I := I.castS (sp' := spM PA PI (RN gA x0) pa) (k := 3) (j := 0) (by decide) p_ad_3_0 (okE_a (g := g_89354) o_89356) pXC
    refine cVi (As := [.int x_89353, .int 0, .int 5]) (rest := []) S Y (x_X12_figure (l := l) I p_ad_0_0 (bn_w (bn_eq ex_89353 (bn_add b_i2 (show bn 1 1 (1 : Int32) from bn_k (by decide)) (by decide))) (by decide)) (by have z9 := (la_add ex_89353 (rfl : i2.toInt = i2.toInt) (show (1 : Int32).toInt = 1 from rfl) b_i2 (show bn 1 1 (1 : Int32) from bn_k (by decide)) (by decide)); have z8 := b_i2.1; omega) hT) cw_X12_figure km12_215 p_ad_0_0 ok_X12.1 rfl rfl ⟨Nat.le_of_ble_eq_true rfl, Nat.le_of_ble_eq_true rfl⟩ hl.1 rfl (Nat.le_of_ble_eq_true rfl) ⟨Nat.le_of_ble_eq_true rfl, Nat.le_of_ble_eq_true rfl⟩ dX12_body_98 (fun r_89359 L_89357 f_89358 H locs hr_89359 Y => ?_)
    obtain ⟨v_89360, v_89361, v_89362, v_89363, v_89364, er_89359, I, p_ad_0_0, eT_89365, eP_89366⟩ := hr_89359
    obtain ⟨bfc89366_4, bfc89366_7, bfc89366_8, bfc89366_12, bfc89366_13, bfc89366_17, bfc89366_18, bfc89366_19, bfc89366_20, bfc89366_25⟩ := obM I p_ad_0_0
    obtain ⟨g_89368, p_ad_3_0, o_89369⟩ := I.opi (k := 3) (j := 0) (by decide) rfl
    have p_ad_3_0 : pt L_89357 f_89358 (ad 3 0) (.inl (G.2 0, 2916, .inl g_89368)) := p_ad_3_0
    have o_89370 : (BD r_89359 gA x0 t0 wr wr) g_89368 := (BD_rn o_89369)
    have I := I.castS (sp' := spM PA PI (BD r_89359 gA x0 t0 wr wr) pa) (k := 3) (j := 0) (by decide) p_ad_3_0 (okE_a (g := g_89368) o_89370) pXC
    exact prI (post := fun r L1 f1 => ∃ at92 : Int32, ∃ ps92 : Int32, ∃ tk2 : Int32, ∃ nu2 : Int32, ∃ wd2 : Int64, ∃ wr2 : Int32, ∃ pd2 : Int32, ∃ op92 : Int32, ∃ cg2 : Int32, ∃ iw2 : Int32, bn 0 7 r ∧ SH (spM PA PI (BD r gA x0 t0 wr wr2) pa) nnM G ad L1 f1 ∧ pt L1 f1 (ad 0 0) (.inr (12, [.ref (ad 1 0), .ref (ad 2 0), .ref (ad 3 0), .ref (ad 4 0), .int td, .int fa, .int fp, .int at92, .int ps92, .int tk2, .int nu2, .long wd2, .int t0, .int wr2, .int so, .ref (ad 5 0), .ref (ad 6 0), .int pd2, .int op92, .int cg2, .int iw2, .int on9, .ref (ad 7 0), .ref (ad 8 0), .ref (ad 9 0), .int is9, .ref (ad 10 0), .ref (ad 11 0), .ref (ad 12 0), .ref (ad 13 0), .int se, .ref (ad 14 0)])) ∧ TK at92 ps92 tk2 ∧ (r.toInt = 0 → ps9.toInt ≤ ps92.toInt) ∧ (r.toInt = 0 → wr2.toInt ≤ ps92.toInt)) S Y rfl (by decide) (by decide) hA1 ⟨v_89360, v_89361, v_89362, v_89363, v_89364, wr, pd, op9, cg, iw, bn_w er_89359 (by decide), I, p_ad_0_0, eT_89365, (fun _ => (by have c0 := hT.1; have c1 := eT_89365.1; have c2 := eP_89366; omega)), (fun _ => by have z9 := (by have c0 := hT.1; have c1 := eT_89365.1; have c2 := eP_89366; omega); have z8 := hroom; omega)⟩ dX12_body_101
  · refine lv_fold (z := 10) h_89242 ?_
    refine lv_tableIn (off := 101) (tgt := 102) hx hb dX12_body_1 (by decide) (by decide) (by decide) (by decide) ?_
    refine lv_aload_n hx hb dX12_body_102 rfl (lv_at hl 0 rfl) ?_
    refine lv_iload_n hx hb dX12_body_103 rfl (lv_at hl 2 rfl) ?_
    refine lv_iconst (v := 1) hx hb dX12_body_104 (by decide) ?_
    refine lv_iadd hx hb dX12_body_105 ?_
    refine lv_topi (fun x_89371 ex_89371 => ?_)
    refine lv_iconst (v := 1) hx hb dX12_body_106 (by decide) ?_
    refine lv_bipush (v := 60) hx hb dX12_body_107 (by decide) ?_
    obtain ⟨g_89372, p_ad_3_0, o_89373⟩ := I.opi (k := 3) (j := 0) (by decide) rfl
    have p_ad_3_0 : pt L f (ad 3 0) (.inl (G.2 0, 2916, .inl g_89372)) := p_ad_3_0
    have o_89374 : (RN gA x0) g_89372 := (RN_eq o_89373 hs (by have z9 := ((bn_eq h_89242 (show bn 10 10 (10 : Int32) from bn_k (by decide)))).1; omega))
    have I := I.castS (sp' := spM PA PI (RN gA x0) pa) (k := 3) (j := 0) (by decide) p_ad_3_0 (okE_a (g := g_89372) o_89374) pXC
    refine cVi (As := [.int x_89371, .int 1, .int 60]) (rest := []) S Y (x_X12_figure (l := l) I p_ad_0_0 (bn_w (bn_eq ex_89371 (bn_add b_i2 (show bn 1 1 (1 : Int32) from bn_k (by decide)) (by decide))) (by decide)) (by have z9 := (la_add ex_89371 (rfl : i2.toInt = i2.toInt) (show (1 : Int32).toInt = 1 from rfl) b_i2 (show bn 1 1 (1 : Int32) from bn_k (by decide)) (by decide)); have z8 := b_i2.1; omega) hT) cw_X12_figure km12_215 p_ad_0_0 ok_X12.1 rfl rfl ⟨Nat.le_of_ble_eq_true rfl, Nat.le_of_ble_eq_true rfl⟩ hl.1 rfl (Nat.le_of_ble_eq_true rfl) ⟨Nat.le_of_ble_eq_true rfl, Nat.le_of_ble_eq_true rfl⟩ dX12_body_109 (fun r_89377 L_89375 f_89376 H locs hr_89377 Y => ?_)
    obtain ⟨v_89378, v_89379, v_89380, v_89381, v_89382, er_89377, I, p_ad_0_0, eT_89383, eP_89384⟩ := hr_89377
    obtain ⟨bfc89384_4, bfc89384_7, bfc89384_8, bfc89384_12, bfc89384_13, bfc89384_17, bfc89384_18, bfc89384_19, bfc89384_20, bfc89384_25⟩ := obM I p_ad_0_0
    obtain ⟨g_89386, p_ad_3_0, o_89387⟩ := I.opi (k := 3) (j := 0) (by decide) rfl
    have p_ad_3_0 : pt L_89375 f_89376 (ad 3 0) (.inl (G.2 0, 2916, .inl g_89386)) := p_ad_3_0
    have o_89388 : (BD r_89377 gA x0 t0 wr wr) g_89386 := (BD_rn o_89387)
    have I := I.castS (sp' := spM PA PI (BD r_89377 gA x0 t0 wr wr) pa) (k := 3) (j := 0) (by decide) p_ad_3_0 (okE_a (g := g_89386) o_89388) pXC
    exact prI (post := fun r L1 f1 => ∃ at92 : Int32, ∃ ps92 : Int32, ∃ tk2 : Int32, ∃ nu2 : Int32, ∃ wd2 : Int64, ∃ wr2 : Int32, ∃ pd2 : Int32, ∃ op92 : Int32, ∃ cg2 : Int32, ∃ iw2 : Int32, bn 0 7 r ∧ SH (spM PA PI (BD r gA x0 t0 wr wr2) pa) nnM G ad L1 f1 ∧ pt L1 f1 (ad 0 0) (.inr (12, [.ref (ad 1 0), .ref (ad 2 0), .ref (ad 3 0), .ref (ad 4 0), .int td, .int fa, .int fp, .int at92, .int ps92, .int tk2, .int nu2, .long wd2, .int t0, .int wr2, .int so, .ref (ad 5 0), .ref (ad 6 0), .int pd2, .int op92, .int cg2, .int iw2, .int on9, .ref (ad 7 0), .ref (ad 8 0), .ref (ad 9 0), .int is9, .ref (ad 10 0), .ref (ad 11 0), .ref (ad 12 0), .ref (ad 13 0), .int se, .ref (ad 14 0)])) ∧ TK at92 ps92 tk2 ∧ (r.toInt = 0 → ps9.toInt ≤ ps92.toInt) ∧ (r.toInt = 0 → wr2.toInt ≤ ps92.toInt)) S Y rfl (by decide) (by decide) hA1 ⟨v_89378, v_89379, v_89380, v_89381, v_89382, wr, pd, op9, cg, iw, bn_w er_89377 (by decide), I, p_ad_0_0, eT_89383, (fun _ => (by have c0 := hT.1; have c1 := eT_89383.1; have c2 := eP_89384; omega)), (fun _ => by have z9 := (by have c0 := hT.1; have c1 := eT_89383.1; have c2 := eP_89384; omega); have z8 := hroom; omega)⟩ dX12_body_112
  · refine lv_tableOut (tgt := 113) hx hb dX12_body_1 h_89242 (by decide) ?_
    refine lv_aload_n hx hb dX12_body_113 rfl (lv_at hl 0 rfl) ?_
    refine lv_iload_n hx hb dX12_body_114 rfl (lv_at hl 2 rfl) ?_
    obtain ⟨g_89389, p_ad_3_0, o_89390⟩ := I.opi (k := 3) (j := 0) (by decide) rfl
    have p_ad_3_0 : pt L f (ad 3 0) (.inl (G.2 0, 2916, .inl g_89389)) := p_ad_3_0
    refine cVi (As := [.int i2]) (rest := []) S Y (x_X12_lawClause (l := l) I p_ad_0_0 (bn_w b_i2 (by decide)) hx0 hxt hroom hT) cw_X12_lawClause km12_232 p_ad_0_0 ok_X12.1 rfl rfl ⟨Nat.le_of_ble_eq_true rfl, Nat.le_of_ble_eq_true rfl⟩ hl.1 rfl (Nat.le_of_ble_eq_true rfl) ⟨Nat.le_of_ble_eq_true rfl, Nat.le_of_ble_eq_true rfl⟩ dX12_body_115 (fun r_89393 L_89391 f_89392 H locs hr_89393 Y => ?_)
    obtain ⟨v_89394, v_89395, v_89396, v_89397, v_89398, v_89399, v_89400, v_89401, v_89402, v_89403, er_89393, I, p_ad_0_0, eT_89404, eQ_89405, eW_89406⟩ := hr_89393
    obtain ⟨bfc89406_4, bfc89406_7, bfc89406_8, bfc89406_12, bfc89406_13, bfc89406_17, bfc89406_18, bfc89406_19, bfc89406_20, bfc89406_25⟩ := obM I p_ad_0_0
    obtain ⟨g_89408, p_ad_3_0, o_89409⟩ := I.opi (k := 3) (j := 0) (by decide) rfl
    have p_ad_3_0 : pt L_89391 f_89392 (ad 3 0) (.inl (G.2 0, 2916, .inl g_89408)) := p_ad_3_0
    have o_89410 : (BD r_89393 gA x0 t0 wr v_89399) g_89408 := (BD_lc o_89409)
    have I := I.castS (sp' := spM PA PI (BD r_89393 gA x0 t0 wr v_89399) pa) (k := 3) (j := 0) (by decide) p_ad_3_0 (okE_a (g := g_89408) o_89410) pXC
    exact prI (post := fun r L1 f1 => ∃ at92 : Int32, ∃ ps92 : Int32, ∃ tk2 : Int32, ∃ nu2 : Int32, ∃ wd2 : Int64, ∃ wr2 : Int32, ∃ pd2 : Int32, ∃ op92 : Int32, ∃ cg2 : Int32, ∃ iw2 : Int32, bn 0 7 r ∧ SH (spM PA PI (BD r gA x0 t0 wr wr2) pa) nnM G ad L1 f1 ∧ pt L1 f1 (ad 0 0) (.inr (12, [.ref (ad 1 0), .ref (ad 2 0), .ref (ad 3 0), .ref (ad 4 0), .int td, .int fa, .int fp, .int at92, .int ps92, .int tk2, .int nu2, .long wd2, .int t0, .int wr2, .int so, .ref (ad 5 0), .ref (ad 6 0), .int pd2, .int op92, .int cg2, .int iw2, .int on9, .ref (ad 7 0), .ref (ad 8 0), .ref (ad 9 0), .int is9, .ref (ad 10 0), .ref (ad 11 0), .ref (ad 12 0), .ref (ad 13 0), .int se, .ref (ad 14 0)])) ∧ TK at92 ps92 tk2 ∧ (r.toInt = 0 → ps9.toInt ≤ ps92.toInt) ∧ (r.toInt = 0 → wr2.toInt ≤ ps92.toInt)) S Y rfl (by decide) (by decide) hA1 ⟨v_89394, v_89395, v_89396, v_89397, v_89398, v_89399, v_89400, v_89401, v_89402, v_89403, bn_w er_89393 (by decide), I, p_ad_0_0, eT_89404, eQ_89405, eW_89406⟩ dX12_body_118
