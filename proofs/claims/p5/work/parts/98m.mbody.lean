theorem dX12_figure_0 : decode cX12_figure 0 = .ok (.aload_n 0, 1) := by decide +kernel
theorem dX12_figure_1 : decode cX12_figure 1 = .ok (.getfield 98, 3) := by decide +kernel
theorem dX12_figure_4 : decode cX12_figure 4 = .ok (.iconst 1, 1) := by decide +kernel
theorem dX12_figure_5 : decode cX12_figure 5 = .ok (.if_icmp .eq 5, 3) := by decide +kernel
theorem dX12_figure_10 : decode cX12_figure 10 = .ok (.aload_n 0, 1) := by decide +kernel
theorem dX12_figure_11 : decode cX12_figure 11 = .ok (.getfield 104, 3) := by decide +kernel
theorem dX12_figure_14 : decode cX12_figure 14 = .ok (.iload_n 2, 1) := by decide +kernel
theorem dX12_figure_15 : decode cX12_figure 15 = .ok (.iload_n 3, 1) := by decide +kernel
theorem dX12_figure_16 : decode cX12_figure 16 = .ok (.invokestatic 69, 3) := by decide +kernel
theorem dX12_figure_19 : decode cX12_figure 19 = .ok (.ifCond .ne 5, 3) := by decide +kernel
theorem dX12_figure_24 : decode cX12_figure 24 = .ok (.aload_n 0, 1) := by decide +kernel
theorem dX12_figure_25 : decode cX12_figure 25 = .ok (.getfield 16, 3) := by decide +kernel
theorem dX12_figure_28 : decode cX12_figure 28 = .ok (.iload_n 1, 1) := by decide +kernel
theorem dX12_figure_29 : decode cX12_figure 29 = .ok (.aload_n 0, 1) := by decide +kernel
theorem dX12_figure_30 : decode cX12_figure 30 = .ok (.getfield 104, 3) := by decide +kernel
theorem dX12_figure_33 : decode cX12_figure 33 = .ok (.iastore, 1) := by decide +kernel
theorem dX12_figure_34 : decode cX12_figure 34 = .ok (.aload_n 0, 1) := by decide +kernel
theorem dX12_figure_35 : decode cX12_figure 35 = .ok (.invokevirtual 166, 3) := by decide +kernel
theorem dX12_figure_38 : decode cX12_figure 38 = .ok (.iconst 0, 1) := by decide +kernel
theorem dX12_figure_39 : decode cX12_figure 39 = .ok (.ireturn, 1) := by decide +kernel
theorem dX12_figure_22 : decode cX12_figure 22 = .ok (.iconst 2, 1) := by decide +kernel
theorem dX12_figure_23 : decode cX12_figure 23 = .ok (.ireturn, 1) := by decide +kernel
theorem dX12_figure_8 : decode cX12_figure 8 = .ok (.iconst 1, 1) := by decide +kernel
theorem dX12_figure_9 : decode cX12_figure 9 = .ok (.ireturn, 1) := by decide +kernel
theorem dX12_worded_0 : decode cX12_worded 0 = .ok (.aload_n 0, 1) := by decide +kernel
theorem dX12_worded_1 : decode cX12_worded 1 = .ok (.lload_n 1, 1) := by decide +kernel
theorem dX12_worded_2 : decode cX12_worded 2 = .ok (.invokevirtual 187, 3) := by decide +kernel
theorem dX12_worded_5 : decode cX12_worded 5 = .ok (.ifCond .ne 5, 3) := by decide +kernel
theorem dX12_worded_10 : decode cX12_worded 10 = .ok (.aload_n 0, 1) := by decide +kernel
theorem dX12_worded_11 : decode cX12_worded 11 = .ok (.invokevirtual 166, 3) := by decide +kernel
theorem dX12_worded_14 : decode cX12_worded 14 = .ok (.aload_n 0, 1) := by decide +kernel
theorem dX12_worded_15 : decode cX12_worded 15 = .ok (.iload_n 3, 1) := by decide +kernel
theorem dX12_worded_16 : decode cX12_worded 16 = .ok (.iconst 0, 1) := by decide +kernel
theorem dX12_worded_17 : decode cX12_worded 17 = .ok (.iload 4, 2) := by decide +kernel
theorem dX12_worded_19 : decode cX12_worded 19 = .ok (.invokevirtual 215, 3) := by decide +kernel
theorem cw_X12_figure : CWv yX12_figure cX12_figure 4 (some .int) 3 := ⟨⟨⟨List.mem_of_getElem? (i := 137) (by decide +kernel), by decide +kernel⟩, ⟨List.mem_of_getElem? (i := 1685) (by decide +kernel), by decide +kernel⟩, by decide +kernel⟩, ⟨List.mem_of_getElem? (i := 1684) (by decide +kernel), by decide +kernel⟩, ⟨List.mem_of_getElem? (i := 58) (by decide +kernel), by decide +kernel⟩⟩
theorem km12_215 : inW (Cond.methodLink RX12 215 yX12_figure) := ⟨List.mem_of_getElem? (i := 1682) (by decide +kernel), by decide +kernel⟩
theorem dX12_worded_22 : decode cX12_worded 22 = .ok (.ireturn, 1) := by decide +kernel
theorem dX12_worded_8 : decode cX12_worded 8 = .ok (.iconst 1, 1) := by decide +kernel
theorem dX12_worded_9 : decode cX12_worded 9 = .ok (.ireturn, 1) := by decide +kernel
theorem dX12_oneClause_0 : decode cX12_oneClause 0 = .ok (.aload_n 0, 1) := by decide +kernel
theorem dX12_oneClause_1 : decode cX12_oneClause 1 = .ok (.iload_n 1, 1) := by decide +kernel
theorem dX12_oneClause_2 : decode cX12_oneClause 2 = .ok (.iconst 1, 1) := by decide +kernel
theorem dX12_oneClause_3 : decode cX12_oneClause 3 = .ok (.iadd, 1) := by decide +kernel
theorem dX12_oneClause_4 : decode cX12_oneClause 4 = .ok (.iconst 0, 1) := by decide +kernel
theorem dX12_oneClause_5 : decode cX12_oneClause 5 = .ok (.bipush 9, 2) := by decide +kernel
theorem dX12_oneClause_7 : decode cX12_oneClause 7 = .ok (.invokevirtual 215, 3) := by decide +kernel
theorem dX12_oneClause_10 : decode cX12_oneClause 10 = .ok (.istore_n 2, 1) := by decide +kernel
theorem dX12_oneClause_11 : decode cX12_oneClause 11 = .ok (.iload_n 2, 1) := by decide +kernel
theorem dX12_oneClause_12 : decode cX12_oneClause 12 = .ok (.ifCond .eq 7, 3) := by decide +kernel
theorem dX12_oneClause_19 : decode cX12_oneClause 19 = .ok (.aload_n 0, 1) := by decide +kernel
theorem dX12_oneClause_20 : decode cX12_oneClause 20 = .ok (.bipush 97, 2) := by decide +kernel
theorem dX12_oneClause_22 : decode cX12_oneClause 22 = .ok (.bipush 103, 2) := by decide +kernel
theorem dX12_oneClause_24 : decode cX12_oneClause 24 = .ok (.bipush 101, 2) := by decide +kernel
theorem dX12_oneClause_26 : decode cX12_oneClause 26 = .ok (.invokestatic 124, 3) := by decide +kernel
theorem dX12_oneClause_29 : decode cX12_oneClause 29 = .ok (.iload_n 1, 1) := by decide +kernel
theorem dX12_oneClause_30 : decode cX12_oneClause 30 = .ok (.iconst 2, 1) := by decide +kernel
theorem dX12_oneClause_31 : decode cX12_oneClause 31 = .ok (.iadd, 1) := by decide +kernel
theorem dX12_oneClause_32 : decode cX12_oneClause 32 = .ok (.bipush 99, 2) := by decide +kernel
theorem dX12_oneClause_34 : decode cX12_oneClause 34 = .ok (.invokevirtual 222, 3) := by decide +kernel
theorem cw_X12_worded : CWv yX12_worded cX12_worded 5 (some .int) 3 := ⟨⟨⟨List.mem_of_getElem? (i := 137) (by decide +kernel), by decide +kernel⟩, ⟨List.mem_of_getElem? (i := 1689) (by decide +kernel), by decide +kernel⟩, by decide +kernel⟩, ⟨List.mem_of_getElem? (i := 1688) (by decide +kernel), by decide +kernel⟩, ⟨List.mem_of_getElem? (i := 59) (by decide +kernel), by decide +kernel⟩⟩
theorem km12_222 : inW (Cond.methodLink RX12 222 yX12_worded) := ⟨List.mem_of_getElem? (i := 1686) (by decide +kernel), by decide +kernel⟩
theorem dX12_oneClause_37 : decode cX12_oneClause 37 = .ok (.ireturn, 1) := by decide +kernel
theorem dX12_oneClause_15 : decode cX12_oneClause 15 = .ok (.iload_n 2, 1) := by decide +kernel
theorem dX12_oneClause_16 : decode cX12_oneClause 16 = .ok (.goto 21, 3) := by decide +kernel
theorem dX12_swearClause_0 : decode cX12_swearClause 0 = .ok (.aload_n 0, 1) := by decide +kernel
theorem dX12_swearClause_1 : decode cX12_swearClause 1 = .ok (.iload_n 1, 1) := by decide +kernel
theorem dX12_swearClause_2 : decode cX12_swearClause 2 = .ok (.iconst 1, 1) := by decide +kernel
theorem dX12_swearClause_3 : decode cX12_swearClause 3 = .ok (.iadd, 1) := by decide +kernel
theorem dX12_swearClause_4 : decode cX12_swearClause 4 = .ok (.iconst 0, 1) := by decide +kernel
theorem dX12_swearClause_5 : decode cX12_swearClause 5 = .ok (.iconst 5, 1) := by decide +kernel
theorem dX12_swearClause_6 : decode cX12_swearClause 6 = .ok (.invokevirtual 215, 3) := by decide +kernel
theorem dX12_swearClause_9 : decode cX12_swearClause 9 = .ok (.istore_n 2, 1) := by decide +kernel
theorem dX12_swearClause_10 : decode cX12_swearClause 10 = .ok (.iload_n 2, 1) := by decide +kernel
theorem dX12_swearClause_11 : decode cX12_swearClause 11 = .ok (.ifCond .ne 19, 3) := by decide +kernel
theorem dX12_swearClause_30 : decode cX12_swearClause 30 = .ok (.iload_n 2, 1) := by decide +kernel
theorem dX12_swearClause_31 : decode cX12_swearClause 31 = .ok (.ifCond .eq 5, 3) := by decide +kernel
theorem dX12_swearClause_34 : decode cX12_swearClause 34 = .ok (.iload_n 2, 1) := by decide +kernel
theorem dX12_swearClause_35 : decode cX12_swearClause 35 = .ok (.ireturn, 1) := by decide +kernel
theorem dX12_swearClause_14 : decode cX12_swearClause 14 = .ok (.aload_n 0, 1) := by decide +kernel
theorem dX12_swearClause_15 : decode cX12_swearClause 15 = .ok (.bipush 116, 2) := by decide +kernel
theorem dX12_swearClause_17 : decode cX12_swearClause 17 = .ok (.bipush 111, 2) := by decide +kernel
theorem dX12_swearClause_19 : decode cX12_swearClause 19 = .ok (.invokestatic 120, 3) := by decide +kernel
theorem dX12_swearClause_22 : decode cX12_swearClause 22 = .ok (.iload_n 1, 1) := by decide +kernel
theorem dX12_swearClause_23 : decode cX12_swearClause 23 = .ok (.iconst 2, 1) := by decide +kernel
theorem dX12_swearClause_24 : decode cX12_swearClause 24 = .ok (.iadd, 1) := by decide +kernel
theorem dX12_swearClause_25 : decode cX12_swearClause 25 = .ok (.iconst 5, 1) := by decide +kernel
theorem dX12_swearClause_26 : decode cX12_swearClause 26 = .ok (.invokevirtual 222, 3) := by decide +kernel
theorem dX12_swearClause_29 : decode cX12_swearClause 29 = .ok (.istore_n 2, 1) := by decide +kernel
theorem dX12_swearClause_36 : decode cX12_swearClause 36 = .ok (.aload_n 0, 1) := by decide +kernel
theorem dX12_swearClause_37 : decode cX12_swearClause 37 = .ok (.bipush 108, 2) := by decide +kernel
theorem dX12_swearClause_39 : decode cX12_swearClause 39 = .ok (.bipush 101, 2) := by decide +kernel
theorem dX12_swearClause_41 : decode cX12_swearClause 41 = .ok (.bipush 102, 2) := by decide +kernel
theorem dX12_swearClause_43 : decode cX12_swearClause 43 = .ok (.bipush 116, 2) := by decide +kernel
theorem dX12_swearClause_45 : decode cX12_swearClause 45 = .ok (.invokestatic 128, 3) := by decide +kernel
theorem dX12_swearClause_48 : decode cX12_swearClause 48 = .ok (.invokevirtual 187, 3) := by decide +kernel
theorem dX12_swearClause_51 : decode cX12_swearClause 51 = .ok (.istore_n 3, 1) := by decide +kernel
theorem dX12_swearClause_52 : decode cX12_swearClause 52 = .ok (.iload_n 3, 1) := by decide +kernel
theorem dX12_swearClause_53 : decode cX12_swearClause 53 = .ok (.ifCond .ne 25, 3) := by decide +kernel
theorem dX12_swearClause_78 : decode cX12_swearClause 78 = .ok (.aload_n 0, 1) := by decide +kernel
theorem dX12_swearClause_79 : decode cX12_swearClause 79 = .ok (.getfield 16, 3) := by decide +kernel
theorem dX12_swearClause_82 : decode cX12_swearClause 82 = .ok (.iload_n 1, 1) := by decide +kernel
theorem dX12_swearClause_83 : decode cX12_swearClause 83 = .ok (.iload_n 3, 1) := by decide +kernel
theorem dX12_swearClause_84 : decode cX12_swearClause 84 = .ok (.ifCond .eq 7, 3) := by decide +kernel
theorem dX12_swearClause_87 : decode cX12_swearClause 87 = .ok (.iconst 4, 1) := by decide +kernel
theorem dX12_swearClause_88 : decode cX12_swearClause 88 = .ok (.goto 4, 3) := by decide +kernel
theorem dX12_swearClause_92 : decode cX12_swearClause 92 = .ok (.iastore, 1) := by decide +kernel
theorem dX12_swearClause_93 : decode cX12_swearClause 93 = .ok (.aload_n 0, 1) := by decide +kernel
theorem dX12_swearClause_94 : decode cX12_swearClause 94 = .ok (.invokevirtual 166, 3) := by decide +kernel
theorem dX12_swearClause_97 : decode cX12_swearClause 97 = .ok (.aload_n 0, 1) := by decide +kernel
theorem dX12_swearClause_98 : decode cX12_swearClause 98 = .ok (.iload_n 1, 1) := by decide +kernel
theorem dX12_swearClause_99 : decode cX12_swearClause 99 = .ok (.iconst 3, 1) := by decide +kernel
theorem dX12_swearClause_100 : decode cX12_swearClause 100 = .ok (.iadd, 1) := by decide +kernel
theorem dX12_swearClause_101 : decode cX12_swearClause 101 = .ok (.iconst 1, 1) := by decide +kernel
theorem dX12_swearClause_102 : decode cX12_swearClause 102 = .ok (.bipush 9, 2) := by decide +kernel
theorem dX12_swearClause_104 : decode cX12_swearClause 104 = .ok (.invokevirtual 215, 3) := by decide +kernel
theorem dX12_swearClause_107 : decode cX12_swearClause 107 = .ok (.ireturn, 1) := by decide +kernel
theorem dX12_swearClause_56 : decode cX12_swearClause 56 = .ok (.aload_n 0, 1) := by decide +kernel
theorem dX12_swearClause_57 : decode cX12_swearClause 57 = .ok (.bipush 114, 2) := by decide +kernel
theorem dX12_swearClause_59 : decode cX12_swearClause 59 = .ok (.bipush 105, 2) := by decide +kernel
theorem dX12_swearClause_61 : decode cX12_swearClause 61 = .ok (.bipush 103, 2) := by decide +kernel
theorem dX12_swearClause_63 : decode cX12_swearClause 63 = .ok (.bipush 104, 2) := by decide +kernel
theorem dX12_swearClause_65 : decode cX12_swearClause 65 = .ok (.bipush 116, 2) := by decide +kernel
theorem dX12_swearClause_67 : decode cX12_swearClause 67 = .ok (.invokestatic 132, 3) := by decide +kernel
theorem dX12_swearClause_70 : decode cX12_swearClause 70 = .ok (.invokevirtual 187, 3) := by decide +kernel
theorem dX12_swearClause_73 : decode cX12_swearClause 73 = .ok (.ifCond .ne 5, 3) := by decide +kernel
theorem dX12_swearClause_91 : decode cX12_swearClause 91 = .ok (.iconst 5, 1) := by decide +kernel
theorem dX12_swearClause_76 : decode cX12_swearClause 76 = .ok (.iconst 1, 1) := by decide +kernel
theorem dX12_swearClause_77 : decode cX12_swearClause 77 = .ok (.ireturn, 1) := by decide +kernel
theorem dX12_lawClause_0 : decode cX12_lawClause 0 = .ok (.aload_n 0, 1) := by decide +kernel
theorem dX12_lawClause_1 : decode cX12_lawClause 1 = .ok (.getfield 16, 3) := by decide +kernel
theorem dX12_lawClause_4 : decode cX12_lawClause 4 = .ok (.iload_n 1, 1) := by decide +kernel
theorem dX12_lawClause_5 : decode cX12_lawClause 5 = .ok (.iconst 1, 1) := by decide +kernel
theorem dX12_lawClause_6 : decode cX12_lawClause 6 = .ok (.iadd, 1) := by decide +kernel
theorem dX12_lawClause_7 : decode cX12_lawClause 7 = .ok (.aload_n 0, 1) := by decide +kernel
theorem dX12_lawClause_8 : decode cX12_lawClause 8 = .ok (.getfield 139, 3) := by decide +kernel
theorem dX12_lawClause_11 : decode cX12_lawClause 11 = .ok (.iastore, 1) := by decide +kernel
theorem dX12_lawClause_12 : decode cX12_lawClause 12 = .ok (.aload_n 0, 1) := by decide +kernel
theorem dX12_lawClause_13 : decode cX12_lawClause 13 = .ok (.invokevirtual 219, 3) := by decide +kernel
theorem cw_X12_summed : CWv yX12_summed cX12_summed 2 (some .int) 0 := ⟨⟨⟨List.mem_of_getElem? (i := 137) (by decide +kernel), by decide +kernel⟩, ⟨List.mem_of_getElem? (i := 1701) (by decide +kernel), by decide +kernel⟩, by decide +kernel⟩, ⟨List.mem_of_getElem? (i := 1700) (by decide +kernel), by decide +kernel⟩, ⟨List.mem_of_getElem? (i := 62) (by decide +kernel), by decide +kernel⟩⟩
theorem km12_219 : inW (Cond.methodLink RX12 219 yX12_summed) := ⟨List.mem_of_getElem? (i := 1698) (by decide +kernel), by decide +kernel⟩
theorem dX12_lawClause_16 : decode cX12_lawClause 16 = .ok (.istore_n 2, 1) := by decide +kernel
theorem dX12_lawClause_17 : decode cX12_lawClause 17 = .ok (.aload_n 0, 1) := by decide +kernel
theorem dX12_lawClause_18 : decode cX12_lawClause 18 = .ok (.getfield 16, 3) := by decide +kernel
theorem dX12_lawClause_21 : decode cX12_lawClause 21 = .ok (.iload_n 1, 1) := by decide +kernel
theorem dX12_lawClause_22 : decode cX12_lawClause 22 = .ok (.iconst 2, 1) := by decide +kernel
theorem dX12_lawClause_23 : decode cX12_lawClause 23 = .ok (.iadd, 1) := by decide +kernel
theorem dX12_lawClause_24 : decode cX12_lawClause 24 = .ok (.aload_n 0, 1) := by decide +kernel
theorem dX12_lawClause_25 : decode cX12_lawClause 25 = .ok (.getfield 139, 3) := by decide +kernel
theorem dX12_lawClause_28 : decode cX12_lawClause 28 = .ok (.iastore, 1) := by decide +kernel
theorem dX12_lawClause_29 : decode cX12_lawClause 29 = .ok (.iload_n 2, 1) := by decide +kernel
theorem dX12_lawClause_30 : decode cX12_lawClause 30 = .ok (.ireturn, 1) := by decide +kernel
theorem dX12_body_0 : decode cX12_body 0 = .ok (.iload_n 1, 1) := by decide +kernel
theorem dX12_body_1 : decode cX12_body 1 = .ok (.tableswitch 112 3 10 #[47, 53, 112, 59, 70, 81, 91, 101], 47) := by decide +kernel
theorem dX12_body_48 : decode cX12_body 48 = .ok (.aload_n 0, 1) := by decide +kernel
theorem dX12_body_49 : decode cX12_body 49 = .ok (.iload_n 2, 1) := by decide +kernel
theorem dX12_body_50 : decode cX12_body 50 = .ok (.invokevirtual 226, 3) := by decide +kernel
theorem cw_X12_oneClause : CWv yX12_oneClause cX12_oneClause 3 (some .int) 1 := ⟨⟨⟨List.mem_of_getElem? (i := 137) (by decide +kernel), by decide +kernel⟩, ⟨List.mem_of_getElem? (i := 1681) (by decide +kernel), by decide +kernel⟩, by decide +kernel⟩, ⟨List.mem_of_getElem? (i := 1680) (by decide +kernel), by decide +kernel⟩, ⟨List.mem_of_getElem? (i := 57) (by decide +kernel), by decide +kernel⟩⟩
theorem km12_226 : inW (Cond.methodLink RX12 226 yX12_oneClause) := ⟨List.mem_of_getElem? (i := 1678) (by decide +kernel), by decide +kernel⟩
theorem dX12_body_53 : decode cX12_body 53 = .ok (.ireturn, 1) := by decide +kernel
theorem dX12_body_54 : decode cX12_body 54 = .ok (.aload_n 0, 1) := by decide +kernel
theorem dX12_body_55 : decode cX12_body 55 = .ok (.iload_n 2, 1) := by decide +kernel
theorem dX12_body_56 : decode cX12_body 56 = .ok (.invokevirtual 229, 3) := by decide +kernel
theorem cw_X12_swearClause : CWv yX12_swearClause cX12_swearClause 4 (some .int) 1 := ⟨⟨⟨List.mem_of_getElem? (i := 137) (by decide +kernel), by decide +kernel⟩, ⟨List.mem_of_getElem? (i := 1693) (by decide +kernel), by decide +kernel⟩, by decide +kernel⟩, ⟨List.mem_of_getElem? (i := 1692) (by decide +kernel), by decide +kernel⟩, ⟨List.mem_of_getElem? (i := 60) (by decide +kernel), by decide +kernel⟩⟩
theorem km12_229 : inW (Cond.methodLink RX12 229 yX12_swearClause) := ⟨List.mem_of_getElem? (i := 1690) (by decide +kernel), by decide +kernel⟩
theorem dX12_body_59 : decode cX12_body 59 = .ok (.ireturn, 1) := by decide +kernel
theorem dX12_body_113 : decode cX12_body 113 = .ok (.aload_n 0, 1) := by decide +kernel
theorem dX12_body_114 : decode cX12_body 114 = .ok (.iload_n 2, 1) := by decide +kernel
theorem dX12_body_115 : decode cX12_body 115 = .ok (.invokevirtual 232, 3) := by decide +kernel
theorem cw_X12_lawClause : CWv yX12_lawClause cX12_lawClause 3 (some .int) 1 := ⟨⟨⟨List.mem_of_getElem? (i := 137) (by decide +kernel), by decide +kernel⟩, ⟨List.mem_of_getElem? (i := 1697) (by decide +kernel), by decide +kernel⟩, by decide +kernel⟩, ⟨List.mem_of_getElem? (i := 1696) (by decide +kernel), by decide +kernel⟩, ⟨List.mem_of_getElem? (i := 61) (by decide +kernel), by decide +kernel⟩⟩
theorem km12_232 : inW (Cond.methodLink RX12 232 yX12_lawClause) := ⟨List.mem_of_getElem? (i := 1694) (by decide +kernel), by decide +kernel⟩
theorem dX12_body_118 : decode cX12_body 118 = .ok (.ireturn, 1) := by decide +kernel
theorem dX12_body_60 : decode cX12_body 60 = .ok (.aload_n 0, 1) := by decide +kernel
theorem dX12_body_61 : decode cX12_body 61 = .ok (.iload_n 2, 1) := by decide +kernel
theorem dX12_body_62 : decode cX12_body 62 = .ok (.iconst 1, 1) := by decide +kernel
theorem dX12_body_63 : decode cX12_body 63 = .ok (.iadd, 1) := by decide +kernel
theorem dX12_body_64 : decode cX12_body 64 = .ok (.iconst 0, 1) := by decide +kernel
theorem dX12_body_65 : decode cX12_body 65 = .ok (.bipush 13, 2) := by decide +kernel
theorem dX12_body_67 : decode cX12_body 67 = .ok (.invokevirtual 215, 3) := by decide +kernel
theorem dX12_body_70 : decode cX12_body 70 = .ok (.ireturn, 1) := by decide +kernel
theorem dX12_body_71 : decode cX12_body 71 = .ok (.aload_n 0, 1) := by decide +kernel
theorem dX12_body_72 : decode cX12_body 72 = .ok (.iload_n 2, 1) := by decide +kernel
theorem dX12_body_73 : decode cX12_body 73 = .ok (.iconst 1, 1) := by decide +kernel
theorem dX12_body_74 : decode cX12_body 74 = .ok (.iadd, 1) := by decide +kernel
theorem dX12_body_75 : decode cX12_body 75 = .ok (.iconst 0, 1) := by decide +kernel
theorem dX12_body_76 : decode cX12_body 76 = .ok (.bipush 13, 2) := by decide +kernel
theorem dX12_body_78 : decode cX12_body 78 = .ok (.invokevirtual 215, 3) := by decide +kernel
theorem dX12_body_81 : decode cX12_body 81 = .ok (.ireturn, 1) := by decide +kernel
theorem dX12_body_82 : decode cX12_body 82 = .ok (.aload_n 0, 1) := by decide +kernel
theorem dX12_body_83 : decode cX12_body 83 = .ok (.iload_n 2, 1) := by decide +kernel
theorem dX12_body_84 : decode cX12_body 84 = .ok (.iconst 1, 1) := by decide +kernel
theorem dX12_body_85 : decode cX12_body 85 = .ok (.iadd, 1) := by decide +kernel
theorem dX12_body_86 : decode cX12_body 86 = .ok (.iconst 0, 1) := by decide +kernel
theorem dX12_body_87 : decode cX12_body 87 = .ok (.iconst 5, 1) := by decide +kernel
theorem dX12_body_88 : decode cX12_body 88 = .ok (.invokevirtual 215, 3) := by decide +kernel
theorem dX12_body_91 : decode cX12_body 91 = .ok (.ireturn, 1) := by decide +kernel
theorem dX12_body_92 : decode cX12_body 92 = .ok (.aload_n 0, 1) := by decide +kernel
theorem dX12_body_93 : decode cX12_body 93 = .ok (.iload_n 2, 1) := by decide +kernel
theorem dX12_body_94 : decode cX12_body 94 = .ok (.iconst 1, 1) := by decide +kernel
theorem dX12_body_95 : decode cX12_body 95 = .ok (.iadd, 1) := by decide +kernel
theorem dX12_body_96 : decode cX12_body 96 = .ok (.iconst 0, 1) := by decide +kernel
theorem dX12_body_97 : decode cX12_body 97 = .ok (.iconst 5, 1) := by decide +kernel
theorem dX12_body_98 : decode cX12_body 98 = .ok (.invokevirtual 215, 3) := by decide +kernel
theorem dX12_body_101 : decode cX12_body 101 = .ok (.ireturn, 1) := by decide +kernel
theorem dX12_body_102 : decode cX12_body 102 = .ok (.aload_n 0, 1) := by decide +kernel
theorem dX12_body_103 : decode cX12_body 103 = .ok (.iload_n 2, 1) := by decide +kernel
theorem dX12_body_104 : decode cX12_body 104 = .ok (.iconst 1, 1) := by decide +kernel
theorem dX12_body_105 : decode cX12_body 105 = .ok (.iadd, 1) := by decide +kernel
theorem dX12_body_106 : decode cX12_body 106 = .ok (.iconst 1, 1) := by decide +kernel
theorem dX12_body_107 : decode cX12_body 107 = .ok (.bipush 60, 2) := by decide +kernel
theorem dX12_body_109 : decode cX12_body 109 = .ok (.invokevirtual 215, 3) := by decide +kernel
theorem dX12_body_112 : decode cX12_body 112 = .ok (.ireturn, 1) := by decide +kernel
section RNR
variable {gB g0 g1 g3 z : Nat → Int32} {x0 n : Nat} {t0 wr wr2 r v x s : Int32}
def RN (gB : Nat → Int32) (x0 : Nat) (z : Nat → Int32) : Prop := (∀ k, k < x0 ∨ x0 + 5 ≤ k → z k = gB k) ∧ 3 ≤ (z x0).toInt
theorem RN_up (h : RN gB x0 z) (hx : x0 < n ∧ n < x0 + 5) : RN gB x0 (upd z n v) := ⟨fun k hk => by rw [pk_un (by omega)]; exact h.1 k hk, by rw [pk_un (by omega)]; exact h.2⟩
theorem RN_u0 (h : RN gB x0 z) (hx : n = x0) (hv : 3 ≤ v.toInt) : RN gB x0 (upd z n v) := ⟨fun k hk => by rw [pk_un (by omega)]; exact h.1 k hk, by rw [hx, pk_us]; exact hv⟩
theorem WFc_ext {b : Nat} (h : WFc z b v wr) (e : ∀ k, b ≤ k → g3 k = z k) : WFc g3 b v wr := by
  obtain ⟨h1, h2, h3, h4⟩ := h
  refine ⟨h1, h2, h3, fun m hm => ?_⟩
  obtain ⟨q, hq⟩ := h4 m hm
  exact ⟨q, by rw [hts_ext m (fun k _ => ⟨e _ (by omega), e _ (by omega)⟩)]; exact hq⟩
def LC (r : Int32) (g0 : Nat → Int32) (x0 : Nat) (t0 wr wr2 : Int32) (z : Nat → Int32) : Prop := (∀ k, k < x0 ∨ x0 + 5 ≤ k → k < t0.toInt.toNat + 121 + 2 * wr.toInt.toNat ∨ t0.toInt.toNat + 729 ≤ k → z k = g0 k) ∧ (r = 0 → WFc z (t0.toInt.toNat + 121) (z (x0 + 1)) (z (x0 + 2)) ∧ (z (x0 + 2)).toInt ≤ wr2.toInt ∧ wr.toInt ≤ wr2.toInt)
def BD (r : Int32) (g0 : Nat → Int32) (x0 : Nat) (t0 wr wr2 : Int32) (z : Nat → Int32) : Prop := (∀ k, k < x0 ∨ x0 + 5 ≤ k → k < t0.toInt.toNat + 121 + 2 * wr.toInt.toNat ∨ t0.toInt.toNat + 729 ≤ k → z k = g0 k) ∧ (r = 0 → (bn 0 2 (z x0) → WFc z (t0.toInt.toNat + 121) (z (x0 + 1)) (z (x0 + 2)) ∧ (z (x0 + 2)).toInt ≤ wr2.toInt) ∧ wr.toInt ≤ wr2.toInt)
theorem LC_mk {i1 i2 : Nat} (h : XE r g1 wr t0 wr2 z) (e1 : g1 = upd g0 i1 wr) (e3 : g3 = upd z i2 wr2) (q1 : i1 = x0 + 1) (q2 : i2 = x0 + 2) (hx : x0 + 5 ≤ t0.toInt.toNat + 121) : LC r g0 x0 t0 wr wr2 g3 := by
  subst q1
  subst q2
  obtain ⟨hB, hW⟩ := h
  refine ⟨fun k hk hk2 => ?_, fun hr => ?_⟩
  · rw [e3, pk_un (by omega), hB k hk2, e1, pk_un (by omega)]
  · obtain ⟨w1, w2⟩ := hW hr
    have a1 : g3 (x0 + 1) = wr := by rw [e3, pk_un (by omega), hB (x0 + 1) (Or.inl (by omega)), e1, pk_us]
    have a2 : g3 (x0 + 2) = wr2 := by rw [e3, pk_us]
    rw [a1, a2]
    exact ⟨WFc_ext w1 (fun k hk => by rw [e3, pk_un (by omega)]), Int.le_refl _, w2⟩
theorem BD_lc (h : LC r g0 x0 t0 wr wr2 z) : BD r g0 x0 t0 wr wr2 z := ⟨h.1, fun hr => ⟨fun _ => ⟨(h.2 hr).1, (h.2 hr).2.1⟩, (h.2 hr).2.2⟩⟩
theorem BD_rn (h : RN g0 x0 z) : BD r g0 x0 t0 wr wr z := ⟨fun k hk _ => h.1 k hk, fun _ => ⟨fun hb => by have h1 := hb.2; have h2 := h.2; omega, Int.le_refl _⟩⟩
theorem RN_eq (e : z = g0) (hs : g0 x0 = s) (h3 : 3 ≤ s.toInt) : RN g0 x0 z := by
  subst e
  exact ⟨fun _ _ => rfl, by rw [hs]; exact h3⟩
end RNR
section BDX
variable {K V : Nat → Int} {S : List LI} {i o : Nat} {b : Bool} {rr : Int × Nat} {k a : Int} {r x y v : Int32}
theorem kx_no (h : LL K V ((kEx k, o, b) :: S) i rr) (hk : K i ≠ k) : rr = (1, i) := by
  rcases LL_ex h with ⟨z, _⟩ | ⟨_, z⟩
  · exact absurd z hk
  · exact z
theorem kx_y (h : LL K V ((kEx k, o, b) :: S) i rr) (hk : K i = k) : LL K V S (i + 1) rr := by
  rcases LL_ex h with ⟨_, z⟩ | ⟨z, _⟩
  · exact z
  · exact absurd hk z
theorem nm_out (hv : V i = min 10000 v.toInt) (h : winM r v x.toInt y.toInt) (e : r = 0) (ha : a / 1000 = x.toInt ∧ a % 1000 = y.toInt) : ¬ (a / 1000 ≤ V i ∧ V i ≤ a % 1000) := by
  have z := winM_f h e
  have q : a % 1000 < 1000 := Int.emod_lt_of_pos _ (by decide)
  rw [hv, ha.1, ha.2]
  omega
theorem nm_in (hv : V i = min 10000 v.toInt) (h : winM r v x.toInt y.toInt) (e : ¬ r = 0) (ha : a / 1000 = x.toInt ∧ a % 1000 = y.toInt) : a / 1000 ≤ V i ∧ V i ≤ a % 1000 := by
  have z := winM_t h e
  have q : a % 1000 < 1000 := Int.emod_lt_of_pos _ (by decide)
  rw [hv, ha.1, ha.2]
  omega
theorem bd_law (h : LL K V (lay 0 false (cbody k) ++ S) i rr) (hk : k < 3) : LL K V ((kOne, 0, decide (k = 2)) :: ((CA (decide (k = 2)) (fun _ => 0) [] 0).1 ++ S)) i rr := law_go (by unfold cbody at h; rw [if_pos hk] at h; exact h)
theorem bd_one (h : LL K V (lay 0 false (cbody k) ++ S) i rr) (hk : k = 3) : LL K V ((kNum 9, 0, false) :: (kEx 12, 0, false) :: (kNum 99, 0, false) :: S) i rr := by subst hk; exact h
theorem bd_sw (h : LL K V (lay 0 false (cbody k) ++ S) i rr) (hk : k = 4) : LL K V ((kNum 5, 0, false) :: (kEx 19, 0, false) :: (kNum 5, 0, false) :: (kKnee, 0, false) :: (kNum 1009, 0, false) :: S) i rr := by subst hk; exact h
theorem bd_13 (h : LL K V (lay 0 false (cbody k) ++ S) i rr) (hk : k = 5 ∨ k = 6) : LL K V ((kNum 13, 0, false) :: S) i rr := by rcases hk with rfl | rfl <;> exact h
theorem bd_5 (h : LL K V (lay 0 false (cbody k) ++ S) i rr) (hk : k = 7 ∨ k = 8) : LL K V ((kNum 5, 0, false) :: S) i rr := by rcases hk with rfl | rfl <;> exact h
theorem bd_60 (h : LL K V (lay 0 false (cbody k) ++ S) i rr) (hk : k = 9) : LL K V ((kNum 1060, 0, false) :: S) i rr := by subst hk; exact h
end BDX
set_option maxHeartbeats 4000000 in
set_option maxRecDepth 100000 in
theorem x_X12_figure {l : Launch} {G : GG}  {L : List Nat} {f : HF} {ad : Nat → Nat → Nat} {pa : (Nat → Int32) → Prop} {PA : (Nat → Int32) → Prop} {PI : PIT} {i1 i2 i3 : Int32} {td fa fp at9 ps9 tk nu t0 wr so pd op9 cg iw on9 is9 se : Int32} {wd : Int64} {gt : Nat → Int32} {gB : Nat → Int32} {x0 : Nat} {i9 : Nat} {S9 : List LI} {rr : Int × Nat} {o9 : Nat} {a9 : Int} {b9 : Bool} (I : SH (spM PA PI (RN gB x0) pa) nnM G ad L f) (p_ad_0_0 : pt L f (ad 0 0) (.inr (12, [.ref (ad 1 0), .ref (ad 2 0), .ref (ad 3 0), .ref (ad 4 0), .int td, .int fa, .int fp, .int at9, .int ps9, .int tk, .int nu, .long wd, .int t0, .int wr, .int so, .ref (ad 5 0), .ref (ad 6 0), .int pd, .int op9, .int cg, .int iw, .int on9, .ref (ad 7 0), .ref (ad 8 0), .ref (ad 9 0), .int is9, .ref (ad 10 0), .ref (ad 11 0), .ref (ad 12 0), .ref (ad 13 0), .int se, .ref (ad 14 0)]))) (p_ad_4_0 : pt L f (ad 4 0) (.inl (G.2 0, 300, .inl gt))) (b_i1 : bn 0 2404 i1) (hxr : x0 < i1.toInt.toNat ∧ i1.toInt.toNat < x0 + 5) (hT : TK at9 ps9 tk) (hB : BYT gt) (hTN : TKN (bI gt) td.toInt.toNat i9 at9 ps9 tk nu wd) (hNm : LL (tkK (bI gt) td.toInt.toNat) (tkV (bI gt) td.toInt.toNat) ((kNum a9, o9, b9) :: S9) i9 rr) (haa : a9 / 1000 = i2.toInt ∧ a9 % 1000 = i3.toInt) : PMi l yX12_figure cX12_figure 4 .int 2 0 0 G [.ref (ad 0 0), .int i1, .int i2, .int i3] L f (fun r L1 f1 => ∃ at92 : Int32, ∃ ps92 : Int32, ∃ tk2 : Int32, ∃ nu2 : Int32, ∃ wd2 : Int64, bn 0 2 r ∧ SH (spM PA PI (RN gB x0) pa) nnM G ad L1 f1 ∧ pt L1 f1 (ad 0 0) (.inr (12, [.ref (ad 1 0), .ref (ad 2 0), .ref (ad 3 0), .ref (ad 4 0), .int td, .int fa, .int fp, .int at92, .int ps92, .int tk2, .int nu2, .long wd2, .int t0, .int wr, .int so, .ref (ad 5 0), .ref (ad 6 0), .int pd, .int op9, .int cg, .int iw, .int on9, .ref (ad 7 0), .ref (ad 8 0), .ref (ad 9 0), .int is9, .ref (ad 10 0), .ref (ad 11 0), .ref (ad 12 0), .ref (ad 13 0), .int se, .ref (ad 14 0)])) ∧ pt L1 f1 (ad 4 0) (.inl (G.2 0, 300, .inl gt)) ∧ TK at92 ps92 tk2 ∧ ps9.toInt ≤ ps92.toInt ∧ ∃ j, TKN (bI gt) td.toInt.toNat j at92 ps92 tk2 nu2 wd2 ∧ (r.toInt = 0 → LL (tkK (bI gt) td.toInt.toNat) (tkV (bI gt) td.toInt.toNat) S9 j rr) ∧ (0 < r.toInt → rr = (r.toInt, j))) := by
  refine PMi.of (post := fun r L1 f1 => ∃ at92 : Int32, ∃ ps92 : Int32, ∃ tk2 : Int32, ∃ nu2 : Int32, ∃ wd2 : Int64, bn 0 2 r ∧ SH (spM PA PI (RN gB x0) pa) nnM G ad L1 f1 ∧ pt L1 f1 (ad 0 0) (.inr (12, [.ref (ad 1 0), .ref (ad 2 0), .ref (ad 3 0), .ref (ad 4 0), .int td, .int fa, .int fp, .int at92, .int ps92, .int tk2, .int nu2, .long wd2, .int t0, .int wr, .int so, .ref (ad 5 0), .ref (ad 6 0), .int pd, .int op9, .int cg, .int iw, .int on9, .ref (ad 7 0), .ref (ad 8 0), .ref (ad 9 0), .int is9, .ref (ad 10 0), .ref (ad 11 0), .ref (ad 12 0), .ref (ad 13 0), .int se, .ref (ad 14 0)])) ∧ pt L1 f1 (ad 4 0) (.inl (G.2 0, 300, .inl gt)) ∧ TK at92 ps92 tk2 ∧ ps9.toInt ≤ ps92.toInt ∧ ∃ j, TKN (bI gt) td.toInt.toNat j at92 ps92 tk2 nu2 wd2 ∧ (r.toInt = 0 → LL (tkK (bI gt) td.toInt.toNat) (tkV (bI gt) td.toInt.toNat) S9 j rr) ∧ (0 < r.toInt → rr = (r.toInt, j))) (own := RX12) (by decide) rfl (Nat.le_of_ble_eq_true rfl) (fun sz p e s m args below meth c A ls hA1 hname S Y hl => ?_)
  have hx := S.hx
  have hb := S.hb
  have hl : lv_has ls 4 [(0, .ref (ad 0 0)), (1, .int i1), (2, .int i2), (3, .int i3)] := hl
  obtain ⟨bfe_4, bfe_5, bfe_6, bfe_7, bfe_8, bfe_12, bfe_13, bfe_17, bfe_18, bfe_19, bfe_20, bfe_25⟩ := obM I p_ad_0_0
  refine lv_aload_n hx hb dX12_figure_0 rfl (lv_at hl 0 rfl) ?_
  refine pg_get S Y ok_X12 9 (by decide) kf12_98 (v := .int tk) p_ad_0_0 rfl dX12_figure_1 ?_
  refine lv_iconst (v := 1) hx hb dX12_figure_4 (by decide) ?_
  refine lv_icmp_eq (tgt := 10) hx hb dX12_figure_5 (by decide) (fun c_88652 => ?_) (fun c_88652 => ?_)
  · have B_88653 : bn 1 1 tk := bn_w (bn_eq c_88652 (show bn 1 1 (1 : Int32) from bn_k (by decide))) (by decide)
    refine lv_aload_n hx hb dX12_figure_10 rfl (lv_at hl 0 rfl) ?_
    refine pg_get S Y ok_X12 10 (by decide) kf12_104 (v := .int nu) p_ad_0_0 rfl dX12_figure_11 ?_
    refine lv_iload_n hx hb dX12_figure_14 rfl (lv_at hl 2 rfl) ?_
    refine lv_iload_n hx hb dX12_figure_15 rfl (lv_at hl 3 rfl) ?_
    refine cSp (As := [.int nu, .int i2, .int i3]) (rest := []) S Y (x_X12_isInX (l := l) ) cw_X12_isIn km12_69 rfl ⟨Nat.le_of_ble_eq_true rfl, Nat.le_of_ble_eq_true rfl⟩ hl.1 rfl (Nat.le_of_ble_eq_true rfl) ⟨Nat.le_of_ble_eq_true rfl, Nat.le_of_ble_eq_true rfl⟩ dX12_figure_16 (fun r_88654 H locs er_88654 Y => ?_)
    refine lv_if_ne (tgt := 24) hx hb dX12_figure_19 (by decide) (fun c_88655 => ?_) (fun c_88655 => ?_)
    · refine lv_aload_n hx hb dX12_figure_24 rfl (lv_at hl 0 rfl) ?_
      refine pg_get S Y ok_X12 2 (by decide) kf12_16 (v := .ref (ad 3 0)) p_ad_0_0 rfl dX12_figure_25 ?_
      refine lv_iload_n hx hb dX12_figure_28 rfl (lv_at hl 1 rfl) ?_
      refine lv_aload_n hx hb dX12_figure_29 rfl (lv_at hl 0 rfl) ?_
      refine pg_get S Y ok_X12 10 (by decide) kf12_104 (v := .int nu) p_ad_0_0 rfl dX12_figure_30 ?_
      obtain ⟨g_88657, p_ad_3_0, o_88658⟩ := I.opi (k := 3) (j := 0) (by decide) rfl
      have p_ad_3_0 : pt L f (ad 3 0) (.inl (G.2 0, 2916, .inl g_88657)) := p_ad_3_0
      refine pg_iast S Y p_ad_3_0 (vp_bn b_i1 (by decide)) dX12_figure_33 (fun f_88660 H locs ef_88660 Y => ?_)
      obtain ⟨g_88659, eg_88659⟩ : ∃ z, z = upd (g_88657) (i1 : Int32).toNatClampNeg nu := ⟨_, rfl⟩
      rw [← eg_88659] at ef_88660
      have p_ad_0_0 := p_ad_0_0.up ef_88660 (I.ne (k := 0) (j := 0) (k' := 3) (j' := 0) (by decide) (by decide) (Or.inl (by decide)))
      have p_ad_4_0 := p_ad_4_0.up ef_88660 (I.ne (k := 4) (j := 0) (k' := 3) (j' := 0) (by decide) (by decide) (Or.inl (by decide)))
      have p_ad_3_0 := p_ad_3_0.me ef_88660
      have o_88661 : (RN gB x0) g_88659 := (by rw [eg_88659]; exact RN_up o_88658 (by rw [tnc]; exact hxr))
      have I := I.upS (sp' := spM PA PI (RN gB x0) pa) (k := 3) (j := 0) (by decide) ef_88660 (okE_a (g := g_88659) o_88661) pXC
      refine lv_aload_n hx hb dX12_figure_34 rfl (lv_at hl 0 rfl) ?_
      obtain ⟨g_88662, p_ad_5_0, o_88663⟩ := I.opi (k := 5) (j := 0) (by decide) rfl
      have p_ad_5_0 : pt L f_88660 (ad 5 0) (.inl (G.2 0, 160, .inl g_88662)) := p_ad_5_0
      obtain ⟨g_88664, p_ad_6_0, o_88665⟩ := I.opi (k := 6) (j := 0) (by decide) rfl
      have p_ad_6_0 : pt L f_88660 (ad 6 0) (.inl (G.2 0, 9, .inl g_88664)) := p_ad_6_0
      refine cVv (As := []) (rest := []) S Y (x_X12_nextToken (l := l) I p_ad_0_0 p_ad_4_0 p_ad_5_0 p_ad_6_0 hB) cw_X12_nextToken km12_166 p_ad_0_0 ok_X12.1 rfl rfl ⟨Nat.le_of_ble_eq_true rfl, Nat.le_of_ble_eq_true rfl⟩ hl.1 rfl (Nat.le_of_ble_eq_true rfl) ⟨Nat.le_of_ble_eq_true rfl, Nat.le_of_ble_eq_true rfl⟩ dX12_figure_35 (fun L_88666 f_88667 H locs hr_88668 Y => ?_)
      obtain ⟨v_88669, v_88670, v_88671, v_88672, v_88673, I, p_ad_0_0, p_ad_4_0, p_ad_5_0, p_ad_6_0, eT_88674, eP_88675, eN_88676⟩ := hr_88668
      obtain ⟨bfc88676_4, bfc88676_5, bfc88676_6, bfc88676_7, bfc88676_8, bfc88676_12, bfc88676_13, bfc88676_17, bfc88676_18, bfc88676_19, bfc88676_20, bfc88676_25⟩ := obM I p_ad_0_0
      have TN_88678 := NT_s hTN eN_88676
      refine lv_iconst (v := 0) hx hb dX12_figure_38 (by decide) ?_
      exact prI (post := fun r L1 f1 => ∃ at92 : Int32, ∃ ps92 : Int32, ∃ tk2 : Int32, ∃ nu2 : Int32, ∃ wd2 : Int64, bn 0 2 r ∧ SH (spM PA PI (RN gB x0) pa) nnM G ad L1 f1 ∧ pt L1 f1 (ad 0 0) (.inr (12, [.ref (ad 1 0), .ref (ad 2 0), .ref (ad 3 0), .ref (ad 4 0), .int td, .int fa, .int fp, .int at92, .int ps92, .int tk2, .int nu2, .long wd2, .int t0, .int wr, .int so, .ref (ad 5 0), .ref (ad 6 0), .int pd, .int op9, .int cg, .int iw, .int on9, .ref (ad 7 0), .ref (ad 8 0), .ref (ad 9 0), .int is9, .ref (ad 10 0), .ref (ad 11 0), .ref (ad 12 0), .ref (ad 13 0), .int se, .ref (ad 14 0)])) ∧ pt L1 f1 (ad 4 0) (.inl (G.2 0, 300, .inl gt)) ∧ TK at92 ps92 tk2 ∧ ps9.toInt ≤ ps92.toInt ∧ ∃ j, TKN (bI gt) td.toInt.toNat j at92 ps92 tk2 nu2 wd2 ∧ (r.toInt = 0 → LL (tkK (bI gt) td.toInt.toNat) (tkV (bI gt) td.toInt.toNat) S9 j rr) ∧ (0 < r.toInt → rr = (r.toInt, j))) S Y rfl (by decide) (by decide) hA1 ⟨v_88669, v_88670, v_88671, v_88672, v_88673, bn_w (show bn 0 0 (0 : Int32) from bn_k (by decide)) (by decide), I, p_ad_0_0, p_ad_4_0, eT_88674, (by have c0 := hT.1; have c1 := eT_88674.1; have c2 := eP_88675; omega), ⟨i9 + 1, TN_88678, fun _ => num_go hNm (show (tkK (bI gt) td.toInt.toNat) i9 = 1000 from (by have j0 := ((tk_k hTN.2.2).2.1.mp (show tk.toInt = 1 from by rw [c_88652]; rfl)); omega)) (nm_in (tk_v hTN.2.2 (show (tkK (bI gt) td.toInt.toNat) i9 = 1000 from (by have j0 := ((tk_k hTN.2.2).2.1.mp (show tk.toInt = 1 from by rw [c_88652]; rfl)); omega))).2 er_88654 c_88655 haa), (fun h => absurd h (by decide))⟩⟩ dX12_figure_39
    · have B_88656 : bn 0 0 r_88654 := bn_w (bn_eq c_88655 (show bn 0 0 (0 : Int32) from bn_k (by decide))) (by decide)
      refine lv_iconst (v := 2) hx hb dX12_figure_22 (by decide) ?_
      exact prI (post := fun r L1 f1 => ∃ at92 : Int32, ∃ ps92 : Int32, ∃ tk2 : Int32, ∃ nu2 : Int32, ∃ wd2 : Int64, bn 0 2 r ∧ SH (spM PA PI (RN gB x0) pa) nnM G ad L1 f1 ∧ pt L1 f1 (ad 0 0) (.inr (12, [.ref (ad 1 0), .ref (ad 2 0), .ref (ad 3 0), .ref (ad 4 0), .int td, .int fa, .int fp, .int at92, .int ps92, .int tk2, .int nu2, .long wd2, .int t0, .int wr, .int so, .ref (ad 5 0), .ref (ad 6 0), .int pd, .int op9, .int cg, .int iw, .int on9, .ref (ad 7 0), .ref (ad 8 0), .ref (ad 9 0), .int is9, .ref (ad 10 0), .ref (ad 11 0), .ref (ad 12 0), .ref (ad 13 0), .int se, .ref (ad 14 0)])) ∧ pt L1 f1 (ad 4 0) (.inl (G.2 0, 300, .inl gt)) ∧ TK at92 ps92 tk2 ∧ ps9.toInt ≤ ps92.toInt ∧ ∃ j, TKN (bI gt) td.toInt.toNat j at92 ps92 tk2 nu2 wd2 ∧ (r.toInt = 0 → LL (tkK (bI gt) td.toInt.toNat) (tkV (bI gt) td.toInt.toNat) S9 j rr) ∧ (0 < r.toInt → rr = (r.toInt, j))) S Y rfl (by decide) (by decide) hA1 ⟨at9, ps9, tk, nu, wd, bn_w (show bn 2 2 (2 : Int32) from bn_k (by decide)) (by decide), I, p_ad_0_0, p_ad_4_0, hT, (Int.le_refl _), ⟨i9, hTN, (fun h => absurd h (by decide)), fun _ => num_bad hNm (show (tkK (bI gt) td.toInt.toNat) i9 = 1000 from (by have j0 := ((tk_k hTN.2.2).2.1.mp (show tk.toInt = 1 from by rw [c_88652]; rfl)); omega)) (nm_out (tk_v hTN.2.2 (show (tkK (bI gt) td.toInt.toNat) i9 = 1000 from (by have j0 := ((tk_k hTN.2.2).2.1.mp (show tk.toInt = 1 from by rw [c_88652]; rfl)); omega))).2 er_88654 c_88655 haa)⟩⟩ dX12_figure_23
  · refine lv_iconst (v := 1) hx hb dX12_figure_8 (by decide) ?_
    exact prI (post := fun r L1 f1 => ∃ at92 : Int32, ∃ ps92 : Int32, ∃ tk2 : Int32, ∃ nu2 : Int32, ∃ wd2 : Int64, bn 0 2 r ∧ SH (spM PA PI (RN gB x0) pa) nnM G ad L1 f1 ∧ pt L1 f1 (ad 0 0) (.inr (12, [.ref (ad 1 0), .ref (ad 2 0), .ref (ad 3 0), .ref (ad 4 0), .int td, .int fa, .int fp, .int at92, .int ps92, .int tk2, .int nu2, .long wd2, .int t0, .int wr, .int so, .ref (ad 5 0), .ref (ad 6 0), .int pd, .int op9, .int cg, .int iw, .int on9, .ref (ad 7 0), .ref (ad 8 0), .ref (ad 9 0), .int is9, .ref (ad 10 0), .ref (ad 11 0), .ref (ad 12 0), .ref (ad 13 0), .int se, .ref (ad 14 0)])) ∧ pt L1 f1 (ad 4 0) (.inl (G.2 0, 300, .inl gt)) ∧ TK at92 ps92 tk2 ∧ ps9.toInt ≤ ps92.toInt ∧ ∃ j, TKN (bI gt) td.toInt.toNat j at92 ps92 tk2 nu2 wd2 ∧ (r.toInt = 0 → LL (tkK (bI gt) td.toInt.toNat) (tkV (bI gt) td.toInt.toNat) S9 j rr) ∧ (0 < r.toInt → rr = (r.toInt, j))) S Y rfl (by decide) (by decide) hA1 ⟨at9, ps9, tk, nu, wd, bn_w (show bn 1 1 (1 : Int32) from bn_k (by decide)) (by decide), I, p_ad_0_0, p_ad_4_0, hT, (Int.le_refl _), ⟨i9, hTN, (fun h => absurd h (by decide)), fun _ => num_no hNm (show (tkK (bI gt) td.toInt.toNat) i9 ≠ 1000 from (by have j0 := (mt (tk_k hTN.2.2).2.1.mpr (show ¬ tk.toInt = 1 from fun z => c_88652 (Int32.toInt_inj.mp (z.trans rfl)))); omega))⟩⟩ dX12_figure_9
set_option maxHeartbeats 4000000 in
set_option maxRecDepth 100000 in
theorem x_X12_worded {l : Launch} {G : GG}  {L : List Nat} {f : HF} {ad : Nat → Nat → Nat} {pa : (Nat → Int32) → Prop} {PA : (Nat → Int32) → Prop} {PI : PIT} {i2 i3 : Int32} {v1 : Int64} {td fa fp at9 ps9 tk nu t0 wr so pd op9 cg iw on9 is9 se : Int32} {wd : Int64} {gt : Nat → Int32} {gB : Nat → Int32} {x0 : Nat} {i9 : Nat} {S9 : List LI} {rr : Int × Nat} {o9 : Nat} {a9 : Int} {b9 : Bool} {j9 : Nat} (I : SH (spM PA PI (RN gB x0) pa) nnM G ad L f) (p_ad_0_0 : pt L f (ad 0 0) (.inr (12, [.ref (ad 1 0), .ref (ad 2 0), .ref (ad 3 0), .ref (ad 4 0), .int td, .int fa, .int fp, .int at9, .int ps9, .int tk, .int nu, .long wd, .int t0, .int wr, .int so, .ref (ad 5 0), .ref (ad 6 0), .int pd, .int op9, .int cg, .int iw, .int on9, .ref (ad 7 0), .ref (ad 8 0), .ref (ad 9 0), .int is9, .ref (ad 10 0), .ref (ad 11 0), .ref (ad 12 0), .ref (ad 13 0), .int se, .ref (ad 14 0)]))) (p_ad_4_0 : pt L f (ad 4 0) (.inl (G.2 0, 300, .inl gt))) (b_i2 : bn 0 2404 i2) (hxr : x0 < i2.toInt.toNat ∧ i2.toInt.toNat < x0 + 5) (hT : TK at9 ps9 tk) (hB : BYT gt) (hTN : TKN (bI gt) td.toInt.toNat i9 at9 ps9 tk nu wd) (hNw : LL (tkK (bI gt) td.toInt.toNat) (tkV (bI gt) td.toInt.toNat) ((kEx (j9 : Int), o9, b9) :: (kNum a9, o9, b9) :: S9) i9 rr) (hj9 : j9 < 31) (hv1 : v1.toInt = pkR (wdj j9).reverse) (haa : a9 / 1000 = (0 : Int32).toInt ∧ a9 % 1000 = i3.toInt) : PMi l yX12_worded cX12_worded 5 .int 3 0 0 G [.ref (ad 0 0), .long v1, .int i2, .int i3] L f (fun r L1 f1 => ∃ at92 : Int32, ∃ ps92 : Int32, ∃ tk2 : Int32, ∃ nu2 : Int32, ∃ wd2 : Int64, bn 0 2 r ∧ SH (spM PA PI (RN gB x0) pa) nnM G ad L1 f1 ∧ pt L1 f1 (ad 0 0) (.inr (12, [.ref (ad 1 0), .ref (ad 2 0), .ref (ad 3 0), .ref (ad 4 0), .int td, .int fa, .int fp, .int at92, .int ps92, .int tk2, .int nu2, .long wd2, .int t0, .int wr, .int so, .ref (ad 5 0), .ref (ad 6 0), .int pd, .int op9, .int cg, .int iw, .int on9, .ref (ad 7 0), .ref (ad 8 0), .ref (ad 9 0), .int is9, .ref (ad 10 0), .ref (ad 11 0), .ref (ad 12 0), .ref (ad 13 0), .int se, .ref (ad 14 0)])) ∧ pt L1 f1 (ad 4 0) (.inl (G.2 0, 300, .inl gt)) ∧ TK at92 ps92 tk2 ∧ ps9.toInt ≤ ps92.toInt ∧ ∃ j, TKN (bI gt) td.toInt.toNat j at92 ps92 tk2 nu2 wd2 ∧ (r.toInt = 0 → LL (tkK (bI gt) td.toInt.toNat) (tkV (bI gt) td.toInt.toNat) S9 j rr) ∧ (0 < r.toInt → rr = (r.toInt, j))) := by
  refine PMi.of (post := fun r L1 f1 => ∃ at92 : Int32, ∃ ps92 : Int32, ∃ tk2 : Int32, ∃ nu2 : Int32, ∃ wd2 : Int64, bn 0 2 r ∧ SH (spM PA PI (RN gB x0) pa) nnM G ad L1 f1 ∧ pt L1 f1 (ad 0 0) (.inr (12, [.ref (ad 1 0), .ref (ad 2 0), .ref (ad 3 0), .ref (ad 4 0), .int td, .int fa, .int fp, .int at92, .int ps92, .int tk2, .int nu2, .long wd2, .int t0, .int wr, .int so, .ref (ad 5 0), .ref (ad 6 0), .int pd, .int op9, .int cg, .int iw, .int on9, .ref (ad 7 0), .ref (ad 8 0), .ref (ad 9 0), .int is9, .ref (ad 10 0), .ref (ad 11 0), .ref (ad 12 0), .ref (ad 13 0), .int se, .ref (ad 14 0)])) ∧ pt L1 f1 (ad 4 0) (.inl (G.2 0, 300, .inl gt)) ∧ TK at92 ps92 tk2 ∧ ps9.toInt ≤ ps92.toInt ∧ ∃ j, TKN (bI gt) td.toInt.toNat j at92 ps92 tk2 nu2 wd2 ∧ (r.toInt = 0 → LL (tkK (bI gt) td.toInt.toNat) (tkV (bI gt) td.toInt.toNat) S9 j rr) ∧ (0 < r.toInt → rr = (r.toInt, j))) (own := RX12) (by decide) rfl (Nat.le_of_ble_eq_true rfl) (fun sz p e s m args below meth c A ls hA1 hname S Y hl => ?_)
  have hx := S.hx
  have hb := S.hb
  have hl : lv_has ls 5 [(0, .ref (ad 0 0)), (1, .long v1), (3, .int i2), (4, .int i3)] := hl
  obtain ⟨bfe_4, bfe_5, bfe_6, bfe_7, bfe_8, bfe_12, bfe_13, bfe_17, bfe_18, bfe_19, bfe_20, bfe_25⟩ := obM I p_ad_0_0
  refine lv_aload_n hx hb dX12_worded_0 rfl (lv_at hl 0 rfl) ?_
  refine lv_lload_n hx hb dX12_worded_1 rfl (lv_at hl 1 rfl) ?_
  refine cVp (As := [.long v1]) (rest := []) S Y (x_X12_isWord (l := l) I p_ad_0_0) cw_X12_isWord km12_187 p_ad_0_0 ok_X12.1 rfl rfl ⟨Nat.le_of_ble_eq_true rfl, Nat.le_of_ble_eq_true rfl⟩ hl.1 rfl (Nat.le_of_ble_eq_true rfl) ⟨Nat.le_of_ble_eq_true rfl, Nat.le_of_ble_eq_true rfl⟩ dX12_worded_2 (fun r_88747 H locs er_88747 Y => ?_)
  refine lv_if_ne (tgt := 10) hx hb dX12_worded_5 (by decide) (fun c_88748 => ?_) (fun c_88748 => ?_)
  · have B_88749 : bn 1 1 r_88747 := bn_w (bn_nel c_88748 er_88747.1 (show bn 0 0 (0 : Int32) from bn_k (by decide))) (by decide)
    refine lv_aload_n hx hb dX12_worded_10 rfl (lv_at hl 0 rfl) ?_
    obtain ⟨g_88751, p_ad_5_0, o_88752⟩ := I.opi (k := 5) (j := 0) (by decide) rfl
    have p_ad_5_0 : pt L f (ad 5 0) (.inl (G.2 0, 160, .inl g_88751)) := p_ad_5_0
    obtain ⟨g_88753, p_ad_6_0, o_88754⟩ := I.opi (k := 6) (j := 0) (by decide) rfl
    have p_ad_6_0 : pt L f (ad 6 0) (.inl (G.2 0, 9, .inl g_88753)) := p_ad_6_0
    refine cVv (As := []) (rest := []) S Y (x_X12_nextToken (l := l) I p_ad_0_0 p_ad_4_0 p_ad_5_0 p_ad_6_0 hB) cw_X12_nextToken km12_166 p_ad_0_0 ok_X12.1 rfl rfl ⟨Nat.le_of_ble_eq_true rfl, Nat.le_of_ble_eq_true rfl⟩ hl.1 rfl (Nat.le_of_ble_eq_true rfl) ⟨Nat.le_of_ble_eq_true rfl, Nat.le_of_ble_eq_true rfl⟩ dX12_worded_11 (fun L_88755 f_88756 H locs hr_88757 Y => ?_)
    obtain ⟨v_88758, v_88759, v_88760, v_88761, v_88762, I, p_ad_0_0, p_ad_4_0, p_ad_5_0, p_ad_6_0, eT_88763, eP_88764, eN_88765⟩ := hr_88757
    obtain ⟨bfc88765_4, bfc88765_5, bfc88765_6, bfc88765_7, bfc88765_8, bfc88765_12, bfc88765_13, bfc88765_17, bfc88765_18, bfc88765_19, bfc88765_20, bfc88765_25⟩ := obM I p_ad_0_0
    have TN_88767 := NT_s hTN eN_88765
    refine lv_aload_n hx hb dX12_worded_14 rfl (lv_at hl 0 rfl) ?_
    refine lv_iload_n hx hb dX12_worded_15 rfl (lv_at hl 2 rfl) ?_
    refine lv_iconst (v := 0) hx hb dX12_worded_16 (by decide) ?_
    refine lv_iload hx hb dX12_worded_17 (lv_at hl 3 rfl) ?_
    refine cVi (As := [.int i2, .int 0, .int i3]) (rest := []) S Y (x_X12_figure (l := l) I p_ad_0_0 p_ad_4_0 (bn_w b_i2 (by decide)) hxr eT_88763 hB TN_88767 (kx_y hNw ((tk_w hTN.2.2 hj9 hv1).mp (cls_t er_88747.2.2 c_88748))) haa) cw_X12_figure km12_215 p_ad_0_0 ok_X12.1 rfl rfl ⟨Nat.le_of_ble_eq_true rfl, Nat.le_of_ble_eq_true rfl⟩ hl.1 rfl (Nat.le_of_ble_eq_true rfl) ⟨Nat.le_of_ble_eq_true rfl, Nat.le_of_ble_eq_true rfl⟩ dX12_worded_19 (fun r_88770 L_88768 f_88769 H locs hr_88770 Y => ?_)
    obtain ⟨v_88771, v_88772, v_88773, v_88774, v_88775, er_88770, I, p_ad_0_0, p_ad_4_0, eT_88776, eP_88777, eL_88778⟩ := hr_88770
    obtain ⟨bfc88778_4, bfc88778_5, bfc88778_6, bfc88778_7, bfc88778_8, bfc88778_12, bfc88778_13, bfc88778_17, bfc88778_18, bfc88778_19, bfc88778_20, bfc88778_25⟩ := obM I p_ad_0_0
    obtain ⟨jTN_88780, TN_88780, LZTN_88780, LFTN_88780⟩ := eL_88778
    exact prI (post := fun r L1 f1 => ∃ at92 : Int32, ∃ ps92 : Int32, ∃ tk2 : Int32, ∃ nu2 : Int32, ∃ wd2 : Int64, bn 0 2 r ∧ SH (spM PA PI (RN gB x0) pa) nnM G ad L1 f1 ∧ pt L1 f1 (ad 0 0) (.inr (12, [.ref (ad 1 0), .ref (ad 2 0), .ref (ad 3 0), .ref (ad 4 0), .int td, .int fa, .int fp, .int at92, .int ps92, .int tk2, .int nu2, .long wd2, .int t0, .int wr, .int so, .ref (ad 5 0), .ref (ad 6 0), .int pd, .int op9, .int cg, .int iw, .int on9, .ref (ad 7 0), .ref (ad 8 0), .ref (ad 9 0), .int is9, .ref (ad 10 0), .ref (ad 11 0), .ref (ad 12 0), .ref (ad 13 0), .int se, .ref (ad 14 0)])) ∧ pt L1 f1 (ad 4 0) (.inl (G.2 0, 300, .inl gt)) ∧ TK at92 ps92 tk2 ∧ ps9.toInt ≤ ps92.toInt ∧ ∃ j, TKN (bI gt) td.toInt.toNat j at92 ps92 tk2 nu2 wd2 ∧ (r.toInt = 0 → LL (tkK (bI gt) td.toInt.toNat) (tkV (bI gt) td.toInt.toNat) S9 j rr) ∧ (0 < r.toInt → rr = (r.toInt, j))) S Y rfl (by decide) (by decide) hA1 ⟨v_88771, v_88772, v_88773, v_88774, v_88775, bn_w er_88770 (by decide), I, p_ad_0_0, p_ad_4_0, eT_88776, (by have c0 := hT.1; have c1 := eT_88763.1; have c2 := eP_88764; have c3 := eT_88776.1; have c4 := eP_88777; omega), ⟨jTN_88780, TN_88780, LZTN_88780, LFTN_88780⟩⟩ dX12_worded_22
  · have B_88750 : bn 0 0 r_88747 := bn_w (bn_eq c_88748 (show bn 0 0 (0 : Int32) from bn_k (by decide))) (by decide)
    refine lv_iconst (v := 1) hx hb dX12_worded_8 (by decide) ?_
    exact prI (post := fun r L1 f1 => ∃ at92 : Int32, ∃ ps92 : Int32, ∃ tk2 : Int32, ∃ nu2 : Int32, ∃ wd2 : Int64, bn 0 2 r ∧ SH (spM PA PI (RN gB x0) pa) nnM G ad L1 f1 ∧ pt L1 f1 (ad 0 0) (.inr (12, [.ref (ad 1 0), .ref (ad 2 0), .ref (ad 3 0), .ref (ad 4 0), .int td, .int fa, .int fp, .int at92, .int ps92, .int tk2, .int nu2, .long wd2, .int t0, .int wr, .int so, .ref (ad 5 0), .ref (ad 6 0), .int pd, .int op9, .int cg, .int iw, .int on9, .ref (ad 7 0), .ref (ad 8 0), .ref (ad 9 0), .int is9, .ref (ad 10 0), .ref (ad 11 0), .ref (ad 12 0), .ref (ad 13 0), .int se, .ref (ad 14 0)])) ∧ pt L1 f1 (ad 4 0) (.inl (G.2 0, 300, .inl gt)) ∧ TK at92 ps92 tk2 ∧ ps9.toInt ≤ ps92.toInt ∧ ∃ j, TKN (bI gt) td.toInt.toNat j at92 ps92 tk2 nu2 wd2 ∧ (r.toInt = 0 → LL (tkK (bI gt) td.toInt.toNat) (tkV (bI gt) td.toInt.toNat) S9 j rr) ∧ (0 < r.toInt → rr = (r.toInt, j))) S Y rfl (by decide) (by decide) hA1 ⟨at9, ps9, tk, nu, wd, bn_w (show bn 1 1 (1 : Int32) from bn_k (by decide)) (by decide), I, p_ad_0_0, p_ad_4_0, hT, (Int.le_refl _), ⟨i9, hTN, (fun h => absurd h (by decide)), fun _ => kx_no hNw (mt (tk_w hTN.2.2 hj9 hv1).mpr (cls_f er_88747.2.2 c_88748))⟩⟩ dX12_worded_9
set_option maxHeartbeats 4000000 in
set_option maxRecDepth 100000 in
theorem x_X12_oneClause {l : Launch} {G : GG}  {L : List Nat} {f : HF} {ad : Nat → Nat → Nat} {pa : (Nat → Int32) → Prop} {PA : (Nat → Int32) → Prop} {PI : PIT} {i1 : Int32} {td fa fp at9 ps9 tk nu t0 wr so pd op9 cg iw on9 is9 se : Int32} {wd : Int64} {gt : Nat → Int32} {gB : Nat → Int32} {x0 : Nat} {i9 : Nat} {S9 : List LI} {rr : Int × Nat} (I : SH (spM PA PI (RN gB x0) pa) nnM G ad L f) (p_ad_0_0 : pt L f (ad 0 0) (.inr (12, [.ref (ad 1 0), .ref (ad 2 0), .ref (ad 3 0), .ref (ad 4 0), .int td, .int fa, .int fp, .int at9, .int ps9, .int tk, .int nu, .long wd, .int t0, .int wr, .int so, .ref (ad 5 0), .ref (ad 6 0), .int pd, .int op9, .int cg, .int iw, .int on9, .ref (ad 7 0), .ref (ad 8 0), .ref (ad 9 0), .int is9, .ref (ad 10 0), .ref (ad 11 0), .ref (ad 12 0), .ref (ad 13 0), .int se, .ref (ad 14 0)]))) (p_ad_4_0 : pt L f (ad 4 0) (.inl (G.2 0, 300, .inl gt))) (b_i1 : bn 0 2400 i1) (hx0 : i1.toInt.toNat = x0) (hT : TK at9 ps9 tk) (hB : BYT gt) (hTN : TKN (bI gt) td.toInt.toNat i9 at9 ps9 tk nu wd) (hOc : LL (tkK (bI gt) td.toInt.toNat) (tkV (bI gt) td.toInt.toNat) ((kNum 9, 0, false) :: (kEx 12, 0, false) :: (kNum 99, 0, false) :: S9) i9 rr) : PMi l yX12_oneClause cX12_oneClause 3 .int 4 0 0 G [.ref (ad 0 0), .int i1] L f (fun r L1 f1 => ∃ at92 : Int32, ∃ ps92 : Int32, ∃ tk2 : Int32, ∃ nu2 : Int32, ∃ wd2 : Int64, bn 0 2 r ∧ SH (spM PA PI (RN gB x0) pa) nnM G ad L1 f1 ∧ pt L1 f1 (ad 0 0) (.inr (12, [.ref (ad 1 0), .ref (ad 2 0), .ref (ad 3 0), .ref (ad 4 0), .int td, .int fa, .int fp, .int at92, .int ps92, .int tk2, .int nu2, .long wd2, .int t0, .int wr, .int so, .ref (ad 5 0), .ref (ad 6 0), .int pd, .int op9, .int cg, .int iw, .int on9, .ref (ad 7 0), .ref (ad 8 0), .ref (ad 9 0), .int is9, .ref (ad 10 0), .ref (ad 11 0), .ref (ad 12 0), .ref (ad 13 0), .int se, .ref (ad 14 0)])) ∧ pt L1 f1 (ad 4 0) (.inl (G.2 0, 300, .inl gt)) ∧ TK at92 ps92 tk2 ∧ ps9.toInt ≤ ps92.toInt ∧ ∃ j, TKN (bI gt) td.toInt.toNat j at92 ps92 tk2 nu2 wd2 ∧ (r.toInt = 0 → LL (tkK (bI gt) td.toInt.toNat) (tkV (bI gt) td.toInt.toNat) S9 j rr) ∧ (0 < r.toInt → rr = (r.toInt, j))) := by
  refine PMi.of (post := fun r L1 f1 => ∃ at92 : Int32, ∃ ps92 : Int32, ∃ tk2 : Int32, ∃ nu2 : Int32, ∃ wd2 : Int64, bn 0 2 r ∧ SH (spM PA PI (RN gB x0) pa) nnM G ad L1 f1 ∧ pt L1 f1 (ad 0 0) (.inr (12, [.ref (ad 1 0), .ref (ad 2 0), .ref (ad 3 0), .ref (ad 4 0), .int td, .int fa, .int fp, .int at92, .int ps92, .int tk2, .int nu2, .long wd2, .int t0, .int wr, .int so, .ref (ad 5 0), .ref (ad 6 0), .int pd, .int op9, .int cg, .int iw, .int on9, .ref (ad 7 0), .ref (ad 8 0), .ref (ad 9 0), .int is9, .ref (ad 10 0), .ref (ad 11 0), .ref (ad 12 0), .ref (ad 13 0), .int se, .ref (ad 14 0)])) ∧ pt L1 f1 (ad 4 0) (.inl (G.2 0, 300, .inl gt)) ∧ TK at92 ps92 tk2 ∧ ps9.toInt ≤ ps92.toInt ∧ ∃ j, TKN (bI gt) td.toInt.toNat j at92 ps92 tk2 nu2 wd2 ∧ (r.toInt = 0 → LL (tkK (bI gt) td.toInt.toNat) (tkV (bI gt) td.toInt.toNat) S9 j rr) ∧ (0 < r.toInt → rr = (r.toInt, j))) (own := RX12) (by decide) rfl (Nat.le_of_ble_eq_true rfl) (fun sz p e s m args below meth c A ls hA1 hname S Y hl => ?_)
  have hx := S.hx
  have hb := S.hb
  have hl : lv_has ls 3 [(0, .ref (ad 0 0)), (1, .int i1)] := hl
  obtain ⟨bfe_4, bfe_5, bfe_6, bfe_7, bfe_8, bfe_12, bfe_13, bfe_17, bfe_18, bfe_19, bfe_20, bfe_25⟩ := obM I p_ad_0_0
  refine lv_aload_n hx hb dX12_oneClause_0 rfl (lv_at hl 0 rfl) ?_
  refine lv_iload_n hx hb dX12_oneClause_1 rfl (lv_at hl 1 rfl) ?_
  refine lv_iconst (v := 1) hx hb dX12_oneClause_2 (by decide) ?_
  refine lv_iadd hx hb dX12_oneClause_3 ?_
  refine lv_topi (fun x_88845 ex_88845 => ?_)
  refine lv_iconst (v := 0) hx hb dX12_oneClause_4 (by decide) ?_
  refine lv_bipush (v := 9) hx hb dX12_oneClause_5 (by decide) ?_
  refine cVi (As := [.int x_88845, .int 0, .int 9]) (rest := []) S Y (x_X12_figure (l := l) I p_ad_0_0 p_ad_4_0 (bn_w (bn_eq ex_88845 (bn_add b_i1 (show bn 1 1 (1 : Int32) from bn_k (by decide)) (by decide))) (by decide)) (by have z9 := (la_add ex_88845 (rfl : i1.toInt = i1.toInt) (show (1 : Int32).toInt = 1 from rfl) b_i1 (show bn 1 1 (1 : Int32) from bn_k (by decide)) (by decide)); have z8 := b_i1.1; omega) hT hB hTN hOc (by decide)) cw_X12_figure km12_215 p_ad_0_0 ok_X12.1 rfl rfl ⟨Nat.le_of_ble_eq_true rfl, Nat.le_of_ble_eq_true rfl⟩ hl.1 rfl (Nat.le_of_ble_eq_true rfl) ⟨Nat.le_of_ble_eq_true rfl, Nat.le_of_ble_eq_true rfl⟩ dX12_oneClause_7 (fun r_88848 L_88846 f_88847 H locs hr_88848 Y => ?_)
  obtain ⟨v_88849, v_88850, v_88851, v_88852, v_88853, er_88848, I, p_ad_0_0, p_ad_4_0, eT_88854, eP_88855, eL_88856⟩ := hr_88848
  obtain ⟨bfc88856_4, bfc88856_5, bfc88856_6, bfc88856_7, bfc88856_8, bfc88856_12, bfc88856_13, bfc88856_17, bfc88856_18, bfc88856_19, bfc88856_20, bfc88856_25⟩ := obM I p_ad_0_0
  obtain ⟨jTN_88858, TN_88858, LZTN_88858, LFTN_88858⟩ := eL_88856
  refine lv_istore_n (lv' := [(2, .int r_88848), (0, .ref (ad 0 0)), (1, .int i1)]) hx hb dX12_oneClause_10 rfl hl (by decide) rfl (fun ls hl => ?_)
  refine lv_iload_n hx hb dX12_oneClause_11 rfl (lv_at hl 0 rfl) ?_
  refine lv_if_eq (tgt := 19) hx hb dX12_oneClause_12 (by decide) (fun c_88859 => ?_) (fun c_88859 => ?_)
  · have B_88860 : bn 0 0 r_88848 := bn_w (bn_eq c_88859 (show bn 0 0 (0 : Int32) from bn_k (by decide))) (by decide)
    refine lv_aload_n hx hb dX12_oneClause_19 rfl (lv_at hl 1 rfl) ?_
    refine lv_bipush (v := 97) hx hb dX12_oneClause_20 (by decide) ?_
    refine lv_bipush (v := 103) hx hb dX12_oneClause_22 (by decide) ?_
    refine lv_bipush (v := 101) hx hb dX12_oneClause_24 (by decide) ?_
    refine cSlp (As := [.int 97, .int 103, .int 101]) (rest := [.ref (ad 0 0)]) S Y (x_X12_w3 (l := l) ) cw_X12_w3 km12_124 rfl ⟨Nat.le_of_ble_eq_true rfl, Nat.le_of_ble_eq_true rfl⟩ hl.1 rfl (Nat.le_of_ble_eq_true rfl) ⟨Nat.le_of_ble_eq_true rfl, Nat.le_of_ble_eq_true rfl⟩ dX12_oneClause_26 (fun r_88862 H locs er_88862 Y => ?_)
    refine lv_iload_n hx hb dX12_oneClause_29 rfl (lv_at hl 2 rfl) ?_
    refine lv_iconst (v := 2) hx hb dX12_oneClause_30 (by decide) ?_
    refine lv_iadd hx hb dX12_oneClause_31 ?_
    refine lv_topi (fun x_88863 ex_88863 => ?_)
    refine lv_bipush (v := 99) hx hb dX12_oneClause_32 (by decide) ?_
    refine cVi (As := [.long r_88862, .int x_88863, .int 99]) (rest := []) S Y (x_X12_worded (l := l) I p_ad_0_0 p_ad_4_0 (bn_w (bn_eq ex_88863 (bn_add b_i1 (show bn 2 2 (2 : Int32) from bn_k (by decide)) (by decide))) (by decide)) (by have z9 := (la_add ex_88863 (rfl : i1.toInt = i1.toInt) (show (2 : Int32).toInt = 2 from rfl) b_i1 (show bn 2 2 (2 : Int32) from bn_k (by decide)) (by decide)); have z8 := b_i1.1; omega) eT_88854 hB TN_88858 (LZTN_88858 (show r_88848.toInt = 0 from by rw [c_88859]; rfl)) (by decide) (show r_88862.toInt = pkR (wdj 12).reverse from by rw [er_88862]; decide +kernel) (by decide)) cw_X12_worded km12_222 p_ad_0_0 ok_X12.1 rfl rfl ⟨Nat.le_of_ble_eq_true rfl, Nat.le_of_ble_eq_true rfl⟩ hl.1 rfl (Nat.le_of_ble_eq_true rfl) ⟨Nat.le_of_ble_eq_true rfl, Nat.le_of_ble_eq_true rfl⟩ dX12_oneClause_34 (fun r_88866 L_88864 f_88865 H locs hr_88866 Y => ?_)
    obtain ⟨v_88867, v_88868, v_88869, v_88870, v_88871, er_88866, I, p_ad_0_0, p_ad_4_0, eT_88872, eP_88873, eL_88874⟩ := hr_88866
    obtain ⟨bfc88874_4, bfc88874_5, bfc88874_6, bfc88874_7, bfc88874_8, bfc88874_12, bfc88874_13, bfc88874_17, bfc88874_18, bfc88874_19, bfc88874_20, bfc88874_25⟩ := obM I p_ad_0_0
    obtain ⟨jTN_88876, TN_88876, LZTN_88876, LFTN_88876⟩ := eL_88874
    exact prI (post := fun r L1 f1 => ∃ at92 : Int32, ∃ ps92 : Int32, ∃ tk2 : Int32, ∃ nu2 : Int32, ∃ wd2 : Int64, bn 0 2 r ∧ SH (spM PA PI (RN gB x0) pa) nnM G ad L1 f1 ∧ pt L1 f1 (ad 0 0) (.inr (12, [.ref (ad 1 0), .ref (ad 2 0), .ref (ad 3 0), .ref (ad 4 0), .int td, .int fa, .int fp, .int at92, .int ps92, .int tk2, .int nu2, .long wd2, .int t0, .int wr, .int so, .ref (ad 5 0), .ref (ad 6 0), .int pd, .int op9, .int cg, .int iw, .int on9, .ref (ad 7 0), .ref (ad 8 0), .ref (ad 9 0), .int is9, .ref (ad 10 0), .ref (ad 11 0), .ref (ad 12 0), .ref (ad 13 0), .int se, .ref (ad 14 0)])) ∧ pt L1 f1 (ad 4 0) (.inl (G.2 0, 300, .inl gt)) ∧ TK at92 ps92 tk2 ∧ ps9.toInt ≤ ps92.toInt ∧ ∃ j, TKN (bI gt) td.toInt.toNat j at92 ps92 tk2 nu2 wd2 ∧ (r.toInt = 0 → LL (tkK (bI gt) td.toInt.toNat) (tkV (bI gt) td.toInt.toNat) S9 j rr) ∧ (0 < r.toInt → rr = (r.toInt, j))) S Y rfl (by decide) (by decide) hA1 ⟨v_88867, v_88868, v_88869, v_88870, v_88871, bn_w er_88866 (by decide), I, p_ad_0_0, p_ad_4_0, eT_88872, (by have c0 := hT.1; have c1 := eT_88854.1; have c2 := eP_88855; have c3 := eT_88872.1; have c4 := eP_88873; omega), ⟨jTN_88876, TN_88876, LZTN_88876, LFTN_88876⟩⟩ dX12_oneClause_37
  · have B_88861 : bn 1 2 r_88848 := bn_w (bn_nel c_88859 er_88848 (show bn 0 0 (0 : Int32) from bn_k (by decide))) (by decide)
    refine lv_iload_n hx hb dX12_oneClause_15 rfl (lv_at hl 0 rfl) ?_
    refine lv_goto (tgt := 37) hx hb dX12_oneClause_16 (by decide) ?_
    exact prI (post := fun r L1 f1 => ∃ at92 : Int32, ∃ ps92 : Int32, ∃ tk2 : Int32, ∃ nu2 : Int32, ∃ wd2 : Int64, bn 0 2 r ∧ SH (spM PA PI (RN gB x0) pa) nnM G ad L1 f1 ∧ pt L1 f1 (ad 0 0) (.inr (12, [.ref (ad 1 0), .ref (ad 2 0), .ref (ad 3 0), .ref (ad 4 0), .int td, .int fa, .int fp, .int at92, .int ps92, .int tk2, .int nu2, .long wd2, .int t0, .int wr, .int so, .ref (ad 5 0), .ref (ad 6 0), .int pd, .int op9, .int cg, .int iw, .int on9, .ref (ad 7 0), .ref (ad 8 0), .ref (ad 9 0), .int is9, .ref (ad 10 0), .ref (ad 11 0), .ref (ad 12 0), .ref (ad 13 0), .int se, .ref (ad 14 0)])) ∧ pt L1 f1 (ad 4 0) (.inl (G.2 0, 300, .inl gt)) ∧ TK at92 ps92 tk2 ∧ ps9.toInt ≤ ps92.toInt ∧ ∃ j, TKN (bI gt) td.toInt.toNat j at92 ps92 tk2 nu2 wd2 ∧ (r.toInt = 0 → LL (tkK (bI gt) td.toInt.toNat) (tkV (bI gt) td.toInt.toNat) S9 j rr) ∧ (0 < r.toInt → rr = (r.toInt, j))) S Y rfl (by decide) (by decide) hA1 ⟨v_88849, v_88850, v_88851, v_88852, v_88853, bn_w B_88861 (by decide), I, p_ad_0_0, p_ad_4_0, eT_88854, (by have c0 := hT.1; have c1 := eT_88854.1; have c2 := eP_88855; omega), ⟨jTN_88858, TN_88858, fun z => absurd (Int32.toInt_inj.mp (z.trans rfl)) c_88859, LFTN_88858⟩⟩ dX12_oneClause_37
set_option maxHeartbeats 4000000 in
set_option maxRecDepth 100000 in
theorem x_X12_swearClause {l : Launch} {G : GG}  {L : List Nat} {f : HF} {ad : Nat → Nat → Nat} {pa : (Nat → Int32) → Prop} {PA : (Nat → Int32) → Prop} {PI : PIT} {i1 : Int32} {td fa fp at9 ps9 tk nu t0 wr so pd op9 cg iw on9 is9 se : Int32} {wd : Int64} {gt : Nat → Int32} {gB : Nat → Int32} {x0 : Nat} {i9 : Nat} {S9 : List LI} {rr : Int × Nat} (I : SH (spM PA PI (RN gB x0) pa) nnM G ad L f) (p_ad_0_0 : pt L f (ad 0 0) (.inr (12, [.ref (ad 1 0), .ref (ad 2 0), .ref (ad 3 0), .ref (ad 4 0), .int td, .int fa, .int fp, .int at9, .int ps9, .int tk, .int nu, .long wd, .int t0, .int wr, .int so, .ref (ad 5 0), .ref (ad 6 0), .int pd, .int op9, .int cg, .int iw, .int on9, .ref (ad 7 0), .ref (ad 8 0), .ref (ad 9 0), .int is9, .ref (ad 10 0), .ref (ad 11 0), .ref (ad 12 0), .ref (ad 13 0), .int se, .ref (ad 14 0)]))) (p_ad_4_0 : pt L f (ad 4 0) (.inl (G.2 0, 300, .inl gt))) (b_i1 : bn 0 2400 i1) (hx0 : i1.toInt.toNat = x0) (hT : TK at9 ps9 tk) (hB : BYT gt) (hTN : TKN (bI gt) td.toInt.toNat i9 at9 ps9 tk nu wd) (hSc : LL (tkK (bI gt) td.toInt.toNat) (tkV (bI gt) td.toInt.toNat) ((kNum 5, 0, false) :: (kEx 19, 0, false) :: (kNum 5, 0, false) :: (kKnee, 0, false) :: (kNum 1009, 0, false) :: S9) i9 rr) : PMi l yX12_swearClause cX12_swearClause 4 .int 4 0 0 G [.ref (ad 0 0), .int i1] L f (fun r L1 f1 => ∃ at92 : Int32, ∃ ps92 : Int32, ∃ tk2 : Int32, ∃ nu2 : Int32, ∃ wd2 : Int64, bn 0 2 r ∧ SH (spM PA PI (RN gB x0) pa) nnM G ad L1 f1 ∧ pt L1 f1 (ad 0 0) (.inr (12, [.ref (ad 1 0), .ref (ad 2 0), .ref (ad 3 0), .ref (ad 4 0), .int td, .int fa, .int fp, .int at92, .int ps92, .int tk2, .int nu2, .long wd2, .int t0, .int wr, .int so, .ref (ad 5 0), .ref (ad 6 0), .int pd, .int op9, .int cg, .int iw, .int on9, .ref (ad 7 0), .ref (ad 8 0), .ref (ad 9 0), .int is9, .ref (ad 10 0), .ref (ad 11 0), .ref (ad 12 0), .ref (ad 13 0), .int se, .ref (ad 14 0)])) ∧ pt L1 f1 (ad 4 0) (.inl (G.2 0, 300, .inl gt)) ∧ TK at92 ps92 tk2 ∧ ps9.toInt ≤ ps92.toInt ∧ ∃ j, TKN (bI gt) td.toInt.toNat j at92 ps92 tk2 nu2 wd2 ∧ (r.toInt = 0 → LL (tkK (bI gt) td.toInt.toNat) (tkV (bI gt) td.toInt.toNat) S9 j rr) ∧ (0 < r.toInt → rr = (r.toInt, j))) := by
  refine PMi.of (post := fun r L1 f1 => ∃ at92 : Int32, ∃ ps92 : Int32, ∃ tk2 : Int32, ∃ nu2 : Int32, ∃ wd2 : Int64, bn 0 2 r ∧ SH (spM PA PI (RN gB x0) pa) nnM G ad L1 f1 ∧ pt L1 f1 (ad 0 0) (.inr (12, [.ref (ad 1 0), .ref (ad 2 0), .ref (ad 3 0), .ref (ad 4 0), .int td, .int fa, .int fp, .int at92, .int ps92, .int tk2, .int nu2, .long wd2, .int t0, .int wr, .int so, .ref (ad 5 0), .ref (ad 6 0), .int pd, .int op9, .int cg, .int iw, .int on9, .ref (ad 7 0), .ref (ad 8 0), .ref (ad 9 0), .int is9, .ref (ad 10 0), .ref (ad 11 0), .ref (ad 12 0), .ref (ad 13 0), .int se, .ref (ad 14 0)])) ∧ pt L1 f1 (ad 4 0) (.inl (G.2 0, 300, .inl gt)) ∧ TK at92 ps92 tk2 ∧ ps9.toInt ≤ ps92.toInt ∧ ∃ j, TKN (bI gt) td.toInt.toNat j at92 ps92 tk2 nu2 wd2 ∧ (r.toInt = 0 → LL (tkK (bI gt) td.toInt.toNat) (tkV (bI gt) td.toInt.toNat) S9 j rr) ∧ (0 < r.toInt → rr = (r.toInt, j))) (own := RX12) (by decide) rfl (Nat.le_of_ble_eq_true rfl) (fun sz p e s m args below meth c A ls hA1 hname S Y hl => ?_)
  have hx := S.hx
  have hb := S.hb
  have hl : lv_has ls 4 [(0, .ref (ad 0 0)), (1, .int i1)] := hl
  obtain ⟨bfe_4, bfe_5, bfe_6, bfe_7, bfe_8, bfe_12, bfe_13, bfe_17, bfe_18, bfe_19, bfe_20, bfe_25⟩ := obM I p_ad_0_0
  refine lv_aload_n hx hb dX12_swearClause_0 rfl (lv_at hl 0 rfl) ?_
  refine lv_iload_n hx hb dX12_swearClause_1 rfl (lv_at hl 1 rfl) ?_
  refine lv_iconst (v := 1) hx hb dX12_swearClause_2 (by decide) ?_
  refine lv_iadd hx hb dX12_swearClause_3 ?_
  refine lv_topi (fun x_89111 ex_89111 => ?_)
  refine lv_iconst (v := 0) hx hb dX12_swearClause_4 (by decide) ?_
  refine lv_iconst (v := 5) hx hb dX12_swearClause_5 (by decide) ?_
  refine cVi (As := [.int x_89111, .int 0, .int 5]) (rest := []) S Y (x_X12_figure (l := l) I p_ad_0_0 p_ad_4_0 (bn_w (bn_eq ex_89111 (bn_add b_i1 (show bn 1 1 (1 : Int32) from bn_k (by decide)) (by decide))) (by decide)) (by have z9 := (la_add ex_89111 (rfl : i1.toInt = i1.toInt) (show (1 : Int32).toInt = 1 from rfl) b_i1 (show bn 1 1 (1 : Int32) from bn_k (by decide)) (by decide)); have z8 := b_i1.1; omega) hT hB hTN hSc (by decide)) cw_X12_figure km12_215 p_ad_0_0 ok_X12.1 rfl rfl ⟨Nat.le_of_ble_eq_true rfl, Nat.le_of_ble_eq_true rfl⟩ hl.1 rfl (Nat.le_of_ble_eq_true rfl) ⟨Nat.le_of_ble_eq_true rfl, Nat.le_of_ble_eq_true rfl⟩ dX12_swearClause_6 (fun r_89114 L_89112 f_89113 H locs hr_89114 Y => ?_)
  obtain ⟨v_89115, v_89116, v_89117, v_89118, v_89119, er_89114, I, p_ad_0_0, p_ad_4_0, eT_89120, eP_89121, eL_89122⟩ := hr_89114
  obtain ⟨bfc89122_4, bfc89122_5, bfc89122_6, bfc89122_7, bfc89122_8, bfc89122_12, bfc89122_13, bfc89122_17, bfc89122_18, bfc89122_19, bfc89122_20, bfc89122_25⟩ := obM I p_ad_0_0
  obtain ⟨jTN_89124, TN_89124, LZTN_89124, LFTN_89124⟩ := eL_89122
  refine lv_istore_n (lv' := [(2, .int r_89114), (0, .ref (ad 0 0)), (1, .int i1)]) hx hb dX12_swearClause_9 rfl hl (by decide) rfl (fun ls hl => ?_)
  refine lv_iload_n hx hb dX12_swearClause_10 rfl (lv_at hl 0 rfl) ?_
  refine lv_if_ne (tgt := 30) hx hb dX12_swearClause_11 (by decide) (fun c_89125 => ?_) (fun c_89125 => ?_)
  · have B_89126 : bn 1 2 r_89114 := bn_w (bn_nel c_89125 er_89114 (show bn 0 0 (0 : Int32) from bn_k (by decide))) (by decide)
    refine lv_iload_n hx hb dX12_swearClause_30 rfl (lv_at hl 0 rfl) ?_
    refine lv_if_eq (tgt := 36) hx hb dX12_swearClause_31 (by decide) (fun h => absurd h c_89125) (fun _ => ?_)
    refine lv_iload_n hx hb dX12_swearClause_34 rfl (lv_at hl 0 rfl) ?_
    exact prI (post := fun r L1 f1 => ∃ at92 : Int32, ∃ ps92 : Int32, ∃ tk2 : Int32, ∃ nu2 : Int32, ∃ wd2 : Int64, bn 0 2 r ∧ SH (spM PA PI (RN gB x0) pa) nnM G ad L1 f1 ∧ pt L1 f1 (ad 0 0) (.inr (12, [.ref (ad 1 0), .ref (ad 2 0), .ref (ad 3 0), .ref (ad 4 0), .int td, .int fa, .int fp, .int at92, .int ps92, .int tk2, .int nu2, .long wd2, .int t0, .int wr, .int so, .ref (ad 5 0), .ref (ad 6 0), .int pd, .int op9, .int cg, .int iw, .int on9, .ref (ad 7 0), .ref (ad 8 0), .ref (ad 9 0), .int is9, .ref (ad 10 0), .ref (ad 11 0), .ref (ad 12 0), .ref (ad 13 0), .int se, .ref (ad 14 0)])) ∧ pt L1 f1 (ad 4 0) (.inl (G.2 0, 300, .inl gt)) ∧ TK at92 ps92 tk2 ∧ ps9.toInt ≤ ps92.toInt ∧ ∃ j, TKN (bI gt) td.toInt.toNat j at92 ps92 tk2 nu2 wd2 ∧ (r.toInt = 0 → LL (tkK (bI gt) td.toInt.toNat) (tkV (bI gt) td.toInt.toNat) S9 j rr) ∧ (0 < r.toInt → rr = (r.toInt, j))) S Y rfl (by decide) (by decide) hA1 ⟨v_89115, v_89116, v_89117, v_89118, v_89119, bn_w B_89126 (by decide), I, p_ad_0_0, p_ad_4_0, eT_89120, (by have c0 := hT.1; have c1 := eT_89120.1; have c2 := eP_89121; omega), ⟨jTN_89124, TN_89124, fun z => absurd (Int32.toInt_inj.mp (z.trans rfl)) c_89125, LFTN_89124⟩⟩ dX12_swearClause_35
  · have B_89127 : bn 0 0 r_89114 := bn_w (bn_eq c_89125 (show bn 0 0 (0 : Int32) from bn_k (by decide))) (by decide)
    refine lv_aload_n hx hb dX12_swearClause_14 rfl (lv_at hl 1 rfl) ?_
    refine lv_bipush (v := 116) hx hb dX12_swearClause_15 (by decide) ?_
    refine lv_bipush (v := 111) hx hb dX12_swearClause_17 (by decide) ?_
    refine cSlp (As := [.int 116, .int 111]) (rest := [.ref (ad 0 0)]) S Y (x_X12_w2 (l := l) ) cw_X12_w2 km12_120 rfl ⟨Nat.le_of_ble_eq_true rfl, Nat.le_of_ble_eq_true rfl⟩ hl.1 rfl (Nat.le_of_ble_eq_true rfl) ⟨Nat.le_of_ble_eq_true rfl, Nat.le_of_ble_eq_true rfl⟩ dX12_swearClause_19 (fun r_89128 H locs er_89128 Y => ?_)
    refine lv_iload_n hx hb dX12_swearClause_22 rfl (lv_at hl 2 rfl) ?_
    refine lv_iconst (v := 2) hx hb dX12_swearClause_23 (by decide) ?_
    refine lv_iadd hx hb dX12_swearClause_24 ?_
    refine lv_topi (fun x_89129 ex_89129 => ?_)
    refine lv_iconst (v := 5) hx hb dX12_swearClause_25 (by decide) ?_
    refine cVi (As := [.long r_89128, .int x_89129, .int 5]) (rest := []) S Y (x_X12_worded (l := l) I p_ad_0_0 p_ad_4_0 (bn_w (bn_eq ex_89129 (bn_add b_i1 (show bn 2 2 (2 : Int32) from bn_k (by decide)) (by decide))) (by decide)) (by have z9 := (la_add ex_89129 (rfl : i1.toInt = i1.toInt) (show (2 : Int32).toInt = 2 from rfl) b_i1 (show bn 2 2 (2 : Int32) from bn_k (by decide)) (by decide)); have z8 := b_i1.1; omega) eT_89120 hB TN_89124 (LZTN_89124 (show r_89114.toInt = 0 from by rw [c_89125]; rfl)) (by decide) (show r_89128.toInt = pkR (wdj 19).reverse from by rw [er_89128]; decide +kernel) (by decide)) cw_X12_worded km12_222 p_ad_0_0 ok_X12.1 rfl rfl ⟨Nat.le_of_ble_eq_true rfl, Nat.le_of_ble_eq_true rfl⟩ hl.1 rfl (Nat.le_of_ble_eq_true rfl) ⟨Nat.le_of_ble_eq_true rfl, Nat.le_of_ble_eq_true rfl⟩ dX12_swearClause_26 (fun r_89132 L_89130 f_89131 H locs hr_89132 Y => ?_)
    obtain ⟨v_89133, v_89134, v_89135, v_89136, v_89137, er_89132, I, p_ad_0_0, p_ad_4_0, eT_89138, eP_89139, eL_89140⟩ := hr_89132
    obtain ⟨bfc89140_4, bfc89140_5, bfc89140_6, bfc89140_7, bfc89140_8, bfc89140_12, bfc89140_13, bfc89140_17, bfc89140_18, bfc89140_19, bfc89140_20, bfc89140_25⟩ := obM I p_ad_0_0
    obtain ⟨jTN_89142, TN_89142, LZTN_89142, LFTN_89142⟩ := eL_89140
    refine lv_istore_n (lv' := [(2, .int r_89132), (0, .ref (ad 0 0)), (1, .int i1)]) hx hb dX12_swearClause_29 rfl hl (by decide) rfl (fun ls hl => ?_)
    refine lv_iload_n hx hb dX12_swearClause_30 rfl (lv_at hl 0 rfl) ?_
    refine lv_if_eq (tgt := 36) hx hb dX12_swearClause_31 (by decide) (fun c_89143 => ?_) (fun c_89143 => ?_)
    · have B_89144 : bn 0 0 r_89132 := bn_w (bn_eq c_89143 (show bn 0 0 (0 : Int32) from bn_k (by decide))) (by decide)
      refine lv_aload_n hx hb dX12_swearClause_36 rfl (lv_at hl 1 rfl) ?_
      refine lv_bipush (v := 108) hx hb dX12_swearClause_37 (by decide) ?_
      refine lv_bipush (v := 101) hx hb dX12_swearClause_39 (by decide) ?_
      refine lv_bipush (v := 102) hx hb dX12_swearClause_41 (by decide) ?_
      refine lv_bipush (v := 116) hx hb dX12_swearClause_43 (by decide) ?_
      refine cSlp (As := [.int 108, .int 101, .int 102, .int 116]) (rest := [.ref (ad 0 0)]) S Y (x_X12_w4 (l := l) ) cw_X12_w4 km12_128 rfl ⟨Nat.le_of_ble_eq_true rfl, Nat.le_of_ble_eq_true rfl⟩ hl.1 rfl (Nat.le_of_ble_eq_true rfl) ⟨Nat.le_of_ble_eq_true rfl, Nat.le_of_ble_eq_true rfl⟩ dX12_swearClause_45 (fun r_89146 H locs er_89146 Y => ?_)
      refine cVp (As := [.long r_89146]) (rest := []) S Y (x_X12_isWord (l := l) I p_ad_0_0) cw_X12_isWord km12_187 p_ad_0_0 ok_X12.1 rfl rfl ⟨Nat.le_of_ble_eq_true rfl, Nat.le_of_ble_eq_true rfl⟩ hl.1 rfl (Nat.le_of_ble_eq_true rfl) ⟨Nat.le_of_ble_eq_true rfl, Nat.le_of_ble_eq_true rfl⟩ dX12_swearClause_48 (fun r_89147 H locs er_89147 Y => ?_)
      refine lv_istore_n (lv' := [(3, .int r_89147), (2, .int r_89132), (0, .ref (ad 0 0)), (1, .int i1)]) hx hb dX12_swearClause_51 rfl hl (by decide) rfl (fun ls hl => ?_)
      refine lv_iload_n hx hb dX12_swearClause_52 rfl (lv_at hl 0 rfl) ?_
      refine lv_if_ne (tgt := 78) hx hb dX12_swearClause_53 (by decide) (fun c_89148 => ?_) (fun c_89148 => ?_)
      · have B_89149 : bn 1 1 r_89147 := bn_w (bn_nel c_89148 er_89147.1 (show bn 0 0 (0 : Int32) from bn_k (by decide))) (by decide)
        refine lv_aload_n hx hb dX12_swearClause_78 rfl (lv_at hl 2 rfl) ?_
        refine pg_get S Y ok_X12 2 (by decide) kf12_16 (v := .ref (ad 3 0)) p_ad_0_0 rfl dX12_swearClause_79 ?_
        refine lv_iload_n hx hb dX12_swearClause_82 rfl (lv_at hl 3 rfl) ?_
        refine lv_iload_n hx hb dX12_swearClause_83 rfl (lv_at hl 0 rfl) ?_
        refine lv_if_eq (tgt := 91) hx hb dX12_swearClause_84 (by decide) (fun h => absurd h c_89148) (fun _ => ?_)
        refine lv_iconst (v := 4) hx hb dX12_swearClause_87 (by decide) ?_
        refine lv_goto (tgt := 92) hx hb dX12_swearClause_88 (by decide) ?_
        obtain ⟨g_89151, p_ad_3_0, o_89152⟩ := I.opi (k := 3) (j := 0) (by decide) rfl
        have p_ad_3_0 : pt L_89130 f_89131 (ad 3 0) (.inl (G.2 0, 2916, .inl g_89151)) := p_ad_3_0
        refine pg_iast S Y p_ad_3_0 (vp_bn b_i1 (by decide)) dX12_swearClause_92 (fun f_89154 H locs ef_89154 Y => ?_)
        obtain ⟨g_89153, eg_89153⟩ : ∃ z, z = upd (g_89151) (i1 : Int32).toNatClampNeg 4 := ⟨_, rfl⟩
        rw [← eg_89153] at ef_89154
        have p_ad_0_0 := p_ad_0_0.up ef_89154 (I.ne (k := 0) (j := 0) (k' := 3) (j' := 0) (by decide) (by decide) (Or.inl (by decide)))
        have p_ad_4_0 := p_ad_4_0.up ef_89154 (I.ne (k := 4) (j := 0) (k' := 3) (j' := 0) (by decide) (by decide) (Or.inl (by decide)))
        have p_ad_3_0 := p_ad_3_0.me ef_89154
        have o_89155 : (RN gB x0) g_89153 := (by rw [eg_89153]; exact RN_u0 o_89152 (by rw [tnc]; exact hx0) (by decide))
        have I := I.upS (sp' := spM PA PI (RN gB x0) pa) (k := 3) (j := 0) (by decide) ef_89154 (okE_a (g := g_89153) o_89155) pXC
        refine lv_aload_n hx hb dX12_swearClause_93 rfl (lv_at hl 2 rfl) ?_
        obtain ⟨g_89156, p_ad_5_0, o_89157⟩ := I.opi (k := 5) (j := 0) (by decide) rfl
        have p_ad_5_0 : pt L_89130 f_89154 (ad 5 0) (.inl (G.2 0, 160, .inl g_89156)) := p_ad_5_0
        obtain ⟨g_89158, p_ad_6_0, o_89159⟩ := I.opi (k := 6) (j := 0) (by decide) rfl
        have p_ad_6_0 : pt L_89130 f_89154 (ad 6 0) (.inl (G.2 0, 9, .inl g_89158)) := p_ad_6_0
        refine cVv (As := []) (rest := []) S Y (x_X12_nextToken (l := l) I p_ad_0_0 p_ad_4_0 p_ad_5_0 p_ad_6_0 hB) cw_X12_nextToken km12_166 p_ad_0_0 ok_X12.1 rfl rfl ⟨Nat.le_of_ble_eq_true rfl, Nat.le_of_ble_eq_true rfl⟩ hl.1 rfl (Nat.le_of_ble_eq_true rfl) ⟨Nat.le_of_ble_eq_true rfl, Nat.le_of_ble_eq_true rfl⟩ dX12_swearClause_94 (fun L_89160 f_89161 H locs hr_89162 Y => ?_)
        obtain ⟨v_89163, v_89164, v_89165, v_89166, v_89167, I, p_ad_0_0, p_ad_4_0, p_ad_5_0, p_ad_6_0, eT_89168, eP_89169, eN_89170⟩ := hr_89162
        obtain ⟨bfc89170_4, bfc89170_5, bfc89170_6, bfc89170_7, bfc89170_8, bfc89170_12, bfc89170_13, bfc89170_17, bfc89170_18, bfc89170_19, bfc89170_20, bfc89170_25⟩ := obM I p_ad_0_0
        have TN_89172 := NT_s TN_89142 eN_89170
        refine lv_aload_n hx hb dX12_swearClause_97 rfl (lv_at hl 2 rfl) ?_
        refine lv_iload_n hx hb dX12_swearClause_98 rfl (lv_at hl 3 rfl) ?_
        refine lv_iconst (v := 3) hx hb dX12_swearClause_99 (by decide) ?_
        refine lv_iadd hx hb dX12_swearClause_100 ?_
        refine lv_topi (fun x_89173 ex_89173 => ?_)
        refine lv_iconst (v := 1) hx hb dX12_swearClause_101 (by decide) ?_
        refine lv_bipush (v := 9) hx hb dX12_swearClause_102 (by decide) ?_
        refine cVi (As := [.int x_89173, .int 1, .int 9]) (rest := []) S Y (x_X12_figure (l := l) I p_ad_0_0 p_ad_4_0 (bn_w (bn_eq ex_89173 (bn_add b_i1 (show bn 3 3 (3 : Int32) from bn_k (by decide)) (by decide))) (by decide)) (by have z9 := (la_add ex_89173 (rfl : i1.toInt = i1.toInt) (show (3 : Int32).toInt = 3 from rfl) b_i1 (show bn 3 3 (3 : Int32) from bn_k (by decide)) (by decide)); have z8 := b_i1.1; omega) eT_89168 hB TN_89172 (knee_go (LZTN_89142 (show r_89132.toInt = 0 from by rw [c_89143]; rfl)) (show (tkK (bI gt) td.toInt.toNat) jTN_89142 = 20 ∨ (tkK (bI gt) td.toInt.toNat) jTN_89142 = 21 from (by have j0 := ((tk_w TN_89142.2.2 (show 20 < 31 from by decide) (show r_89146.toInt = pkR (wdj 20).reverse from by rw [er_89146]; decide +kernel)).mp (cls_t er_89147.2.2 c_89148)); omega))) (by decide)) cw_X12_figure km12_215 p_ad_0_0 ok_X12.1 rfl rfl ⟨Nat.le_of_ble_eq_true rfl, Nat.le_of_ble_eq_true rfl⟩ hl.1 rfl (Nat.le_of_ble_eq_true rfl) ⟨Nat.le_of_ble_eq_true rfl, Nat.le_of_ble_eq_true rfl⟩ dX12_swearClause_104 (fun r_89176 L_89174 f_89175 H locs hr_89176 Y => ?_)
        obtain ⟨v_89177, v_89178, v_89179, v_89180, v_89181, er_89176, I, p_ad_0_0, p_ad_4_0, eT_89182, eP_89183, eL_89184⟩ := hr_89176
        obtain ⟨bfc89184_4, bfc89184_5, bfc89184_6, bfc89184_7, bfc89184_8, bfc89184_12, bfc89184_13, bfc89184_17, bfc89184_18, bfc89184_19, bfc89184_20, bfc89184_25⟩ := obM I p_ad_0_0
        obtain ⟨jTN_89186, TN_89186, LZTN_89186, LFTN_89186⟩ := eL_89184
        exact prI (post := fun r L1 f1 => ∃ at92 : Int32, ∃ ps92 : Int32, ∃ tk2 : Int32, ∃ nu2 : Int32, ∃ wd2 : Int64, bn 0 2 r ∧ SH (spM PA PI (RN gB x0) pa) nnM G ad L1 f1 ∧ pt L1 f1 (ad 0 0) (.inr (12, [.ref (ad 1 0), .ref (ad 2 0), .ref (ad 3 0), .ref (ad 4 0), .int td, .int fa, .int fp, .int at92, .int ps92, .int tk2, .int nu2, .long wd2, .int t0, .int wr, .int so, .ref (ad 5 0), .ref (ad 6 0), .int pd, .int op9, .int cg, .int iw, .int on9, .ref (ad 7 0), .ref (ad 8 0), .ref (ad 9 0), .int is9, .ref (ad 10 0), .ref (ad 11 0), .ref (ad 12 0), .ref (ad 13 0), .int se, .ref (ad 14 0)])) ∧ pt L1 f1 (ad 4 0) (.inl (G.2 0, 300, .inl gt)) ∧ TK at92 ps92 tk2 ∧ ps9.toInt ≤ ps92.toInt ∧ ∃ j, TKN (bI gt) td.toInt.toNat j at92 ps92 tk2 nu2 wd2 ∧ (r.toInt = 0 → LL (tkK (bI gt) td.toInt.toNat) (tkV (bI gt) td.toInt.toNat) S9 j rr) ∧ (0 < r.toInt → rr = (r.toInt, j))) S Y rfl (by decide) (by decide) hA1 ⟨v_89177, v_89178, v_89179, v_89180, v_89181, bn_w er_89176 (by decide), I, p_ad_0_0, p_ad_4_0, eT_89182, (by have c0 := hT.1; have c1 := eT_89120.1; have c2 := eP_89121; have c3 := eT_89138.1; have c4 := eP_89139; have c5 := eT_89168.1; have c6 := eP_89169; have c7 := eT_89182.1; have c8 := eP_89183; omega), ⟨jTN_89186, TN_89186, LZTN_89186, LFTN_89186⟩⟩ dX12_swearClause_107
      · have B_89150 : bn 0 0 r_89147 := bn_w (bn_eq c_89148 (show bn 0 0 (0 : Int32) from bn_k (by decide))) (by decide)
        refine lv_aload_n hx hb dX12_swearClause_56 rfl (lv_at hl 2 rfl) ?_
        refine lv_bipush (v := 114) hx hb dX12_swearClause_57 (by decide) ?_
        refine lv_bipush (v := 105) hx hb dX12_swearClause_59 (by decide) ?_
        refine lv_bipush (v := 103) hx hb dX12_swearClause_61 (by decide) ?_
        refine lv_bipush (v := 104) hx hb dX12_swearClause_63 (by decide) ?_
        refine lv_bipush (v := 116) hx hb dX12_swearClause_65 (by decide) ?_
        refine cSlp (As := [.int 114, .int 105, .int 103, .int 104, .int 116]) (rest := [.ref (ad 0 0)]) S Y (x_X12_w5 (l := l) ) cw_X12_w5 km12_132 rfl ⟨Nat.le_of_ble_eq_true rfl, Nat.le_of_ble_eq_true rfl⟩ hl.1 rfl (Nat.le_of_ble_eq_true rfl) ⟨Nat.le_of_ble_eq_true rfl, Nat.le_of_ble_eq_true rfl⟩ dX12_swearClause_67 (fun r_89187 H locs er_89187 Y => ?_)
        refine cVp (As := [.long r_89187]) (rest := []) S Y (x_X12_isWord (l := l) I p_ad_0_0) cw_X12_isWord km12_187 p_ad_0_0 ok_X12.1 rfl rfl ⟨Nat.le_of_ble_eq_true rfl, Nat.le_of_ble_eq_true rfl⟩ hl.1 rfl (Nat.le_of_ble_eq_true rfl) ⟨Nat.le_of_ble_eq_true rfl, Nat.le_of_ble_eq_true rfl⟩ dX12_swearClause_70 (fun r_89188 H locs er_89188 Y => ?_)
        refine lv_if_ne (tgt := 78) hx hb dX12_swearClause_73 (by decide) (fun c_89189 => ?_) (fun c_89189 => ?_)
        · have B_89190 : bn 1 1 r_89188 := bn_w (bn_nel c_89189 er_89188.1 (show bn 0 0 (0 : Int32) from bn_k (by decide))) (by decide)
          refine lv_aload_n hx hb dX12_swearClause_78 rfl (lv_at hl 2 rfl) ?_
          refine pg_get S Y ok_X12 2 (by decide) kf12_16 (v := .ref (ad 3 0)) p_ad_0_0 rfl dX12_swearClause_79 ?_
          refine lv_iload_n hx hb dX12_swearClause_82 rfl (lv_at hl 3 rfl) ?_
          refine lv_iload_n hx hb dX12_swearClause_83 rfl (lv_at hl 0 rfl) ?_
          refine lv_if_eq (tgt := 91) hx hb dX12_swearClause_84 (by decide) (fun _ => ?_) (fun h => absurd c_89148 h)
          refine lv_iconst (v := 5) hx hb dX12_swearClause_91 (by decide) ?_
          obtain ⟨g_89192, p_ad_3_0, o_89193⟩ := I.opi (k := 3) (j := 0) (by decide) rfl
          have p_ad_3_0 : pt L_89130 f_89131 (ad 3 0) (.inl (G.2 0, 2916, .inl g_89192)) := p_ad_3_0
          refine pg_iast S Y p_ad_3_0 (vp_bn b_i1 (by decide)) dX12_swearClause_92 (fun f_89195 H locs ef_89195 Y => ?_)
          obtain ⟨g_89194, eg_89194⟩ : ∃ z, z = upd (g_89192) (i1 : Int32).toNatClampNeg 5 := ⟨_, rfl⟩
          rw [← eg_89194] at ef_89195
          have p_ad_0_0 := p_ad_0_0.up ef_89195 (I.ne (k := 0) (j := 0) (k' := 3) (j' := 0) (by decide) (by decide) (Or.inl (by decide)))
          have p_ad_4_0 := p_ad_4_0.up ef_89195 (I.ne (k := 4) (j := 0) (k' := 3) (j' := 0) (by decide) (by decide) (Or.inl (by decide)))
          have p_ad_3_0 := p_ad_3_0.me ef_89195
          have o_89196 : (RN gB x0) g_89194 := (by rw [eg_89194]; exact RN_u0 o_89193 (by rw [tnc]; exact hx0) (by decide))
          have I := I.upS (sp' := spM PA PI (RN gB x0) pa) (k := 3) (j := 0) (by decide) ef_89195 (okE_a (g := g_89194) o_89196) pXC
          refine lv_aload_n hx hb dX12_swearClause_93 rfl (lv_at hl 2 rfl) ?_
          obtain ⟨g_89197, p_ad_5_0, o_89198⟩ := I.opi (k := 5) (j := 0) (by decide) rfl
          have p_ad_5_0 : pt L_89130 f_89195 (ad 5 0) (.inl (G.2 0, 160, .inl g_89197)) := p_ad_5_0
          obtain ⟨g_89199, p_ad_6_0, o_89200⟩ := I.opi (k := 6) (j := 0) (by decide) rfl
          have p_ad_6_0 : pt L_89130 f_89195 (ad 6 0) (.inl (G.2 0, 9, .inl g_89199)) := p_ad_6_0
          refine cVv (As := []) (rest := []) S Y (x_X12_nextToken (l := l) I p_ad_0_0 p_ad_4_0 p_ad_5_0 p_ad_6_0 hB) cw_X12_nextToken km12_166 p_ad_0_0 ok_X12.1 rfl rfl ⟨Nat.le_of_ble_eq_true rfl, Nat.le_of_ble_eq_true rfl⟩ hl.1 rfl (Nat.le_of_ble_eq_true rfl) ⟨Nat.le_of_ble_eq_true rfl, Nat.le_of_ble_eq_true rfl⟩ dX12_swearClause_94 (fun L_89201 f_89202 H locs hr_89203 Y => ?_)
          obtain ⟨v_89204, v_89205, v_89206, v_89207, v_89208, I, p_ad_0_0, p_ad_4_0, p_ad_5_0, p_ad_6_0, eT_89209, eP_89210, eN_89211⟩ := hr_89203
          obtain ⟨bfc89211_4, bfc89211_5, bfc89211_6, bfc89211_7, bfc89211_8, bfc89211_12, bfc89211_13, bfc89211_17, bfc89211_18, bfc89211_19, bfc89211_20, bfc89211_25⟩ := obM I p_ad_0_0
          have TN_89213 := NT_s TN_89142 eN_89211
          refine lv_aload_n hx hb dX12_swearClause_97 rfl (lv_at hl 2 rfl) ?_
          refine lv_iload_n hx hb dX12_swearClause_98 rfl (lv_at hl 3 rfl) ?_
          refine lv_iconst (v := 3) hx hb dX12_swearClause_99 (by decide) ?_
          refine lv_iadd hx hb dX12_swearClause_100 ?_
          refine lv_topi (fun x_89214 ex_89214 => ?_)
          refine lv_iconst (v := 1) hx hb dX12_swearClause_101 (by decide) ?_
          refine lv_bipush (v := 9) hx hb dX12_swearClause_102 (by decide) ?_
          refine cVi (As := [.int x_89214, .int 1, .int 9]) (rest := []) S Y (x_X12_figure (l := l) I p_ad_0_0 p_ad_4_0 (bn_w (bn_eq ex_89214 (bn_add b_i1 (show bn 3 3 (3 : Int32) from bn_k (by decide)) (by decide))) (by decide)) (by have z9 := (la_add ex_89214 (rfl : i1.toInt = i1.toInt) (show (3 : Int32).toInt = 3 from rfl) b_i1 (show bn 3 3 (3 : Int32) from bn_k (by decide)) (by decide)); have z8 := b_i1.1; omega) eT_89209 hB TN_89213 (knee_go (LZTN_89142 (show r_89132.toInt = 0 from by rw [c_89143]; rfl)) (show (tkK (bI gt) td.toInt.toNat) jTN_89142 = 20 ∨ (tkK (bI gt) td.toInt.toNat) jTN_89142 = 21 from (by have j0 := (mt (tk_w TN_89142.2.2 (show 20 < 31 from by decide) (show r_89146.toInt = pkR (wdj 20).reverse from by rw [er_89146]; decide +kernel)).mpr (cls_f er_89147.2.2 c_89148)); have j1 := ((tk_w TN_89142.2.2 (show 21 < 31 from by decide) (show r_89187.toInt = pkR (wdj 21).reverse from by rw [er_89187]; decide +kernel)).mp (cls_t er_89188.2.2 c_89189)); omega))) (by decide)) cw_X12_figure km12_215 p_ad_0_0 ok_X12.1 rfl rfl ⟨Nat.le_of_ble_eq_true rfl, Nat.le_of_ble_eq_true rfl⟩ hl.1 rfl (Nat.le_of_ble_eq_true rfl) ⟨Nat.le_of_ble_eq_true rfl, Nat.le_of_ble_eq_true rfl⟩ dX12_swearClause_104 (fun r_89217 L_89215 f_89216 H locs hr_89217 Y => ?_)
          obtain ⟨v_89218, v_89219, v_89220, v_89221, v_89222, er_89217, I, p_ad_0_0, p_ad_4_0, eT_89223, eP_89224, eL_89225⟩ := hr_89217
          obtain ⟨bfc89225_4, bfc89225_5, bfc89225_6, bfc89225_7, bfc89225_8, bfc89225_12, bfc89225_13, bfc89225_17, bfc89225_18, bfc89225_19, bfc89225_20, bfc89225_25⟩ := obM I p_ad_0_0
          obtain ⟨jTN_89227, TN_89227, LZTN_89227, LFTN_89227⟩ := eL_89225
          exact prI (post := fun r L1 f1 => ∃ at92 : Int32, ∃ ps92 : Int32, ∃ tk2 : Int32, ∃ nu2 : Int32, ∃ wd2 : Int64, bn 0 2 r ∧ SH (spM PA PI (RN gB x0) pa) nnM G ad L1 f1 ∧ pt L1 f1 (ad 0 0) (.inr (12, [.ref (ad 1 0), .ref (ad 2 0), .ref (ad 3 0), .ref (ad 4 0), .int td, .int fa, .int fp, .int at92, .int ps92, .int tk2, .int nu2, .long wd2, .int t0, .int wr, .int so, .ref (ad 5 0), .ref (ad 6 0), .int pd, .int op9, .int cg, .int iw, .int on9, .ref (ad 7 0), .ref (ad 8 0), .ref (ad 9 0), .int is9, .ref (ad 10 0), .ref (ad 11 0), .ref (ad 12 0), .ref (ad 13 0), .int se, .ref (ad 14 0)])) ∧ pt L1 f1 (ad 4 0) (.inl (G.2 0, 300, .inl gt)) ∧ TK at92 ps92 tk2 ∧ ps9.toInt ≤ ps92.toInt ∧ ∃ j, TKN (bI gt) td.toInt.toNat j at92 ps92 tk2 nu2 wd2 ∧ (r.toInt = 0 → LL (tkK (bI gt) td.toInt.toNat) (tkV (bI gt) td.toInt.toNat) S9 j rr) ∧ (0 < r.toInt → rr = (r.toInt, j))) S Y rfl (by decide) (by decide) hA1 ⟨v_89218, v_89219, v_89220, v_89221, v_89222, bn_w er_89217 (by decide), I, p_ad_0_0, p_ad_4_0, eT_89223, (by have c0 := hT.1; have c1 := eT_89120.1; have c2 := eP_89121; have c3 := eT_89138.1; have c4 := eP_89139; have c5 := eT_89209.1; have c6 := eP_89210; have c7 := eT_89223.1; have c8 := eP_89224; omega), ⟨jTN_89227, TN_89227, LZTN_89227, LFTN_89227⟩⟩ dX12_swearClause_107
        · have B_89191 : bn 0 0 r_89188 := bn_w (bn_eq c_89189 (show bn 0 0 (0 : Int32) from bn_k (by decide))) (by decide)
          refine lv_iconst (v := 1) hx hb dX12_swearClause_76 (by decide) ?_
          exact prI (post := fun r L1 f1 => ∃ at92 : Int32, ∃ ps92 : Int32, ∃ tk2 : Int32, ∃ nu2 : Int32, ∃ wd2 : Int64, bn 0 2 r ∧ SH (spM PA PI (RN gB x0) pa) nnM G ad L1 f1 ∧ pt L1 f1 (ad 0 0) (.inr (12, [.ref (ad 1 0), .ref (ad 2 0), .ref (ad 3 0), .ref (ad 4 0), .int td, .int fa, .int fp, .int at92, .int ps92, .int tk2, .int nu2, .long wd2, .int t0, .int wr, .int so, .ref (ad 5 0), .ref (ad 6 0), .int pd, .int op9, .int cg, .int iw, .int on9, .ref (ad 7 0), .ref (ad 8 0), .ref (ad 9 0), .int is9, .ref (ad 10 0), .ref (ad 11 0), .ref (ad 12 0), .ref (ad 13 0), .int se, .ref (ad 14 0)])) ∧ pt L1 f1 (ad 4 0) (.inl (G.2 0, 300, .inl gt)) ∧ TK at92 ps92 tk2 ∧ ps9.toInt ≤ ps92.toInt ∧ ∃ j, TKN (bI gt) td.toInt.toNat j at92 ps92 tk2 nu2 wd2 ∧ (r.toInt = 0 → LL (tkK (bI gt) td.toInt.toNat) (tkV (bI gt) td.toInt.toNat) S9 j rr) ∧ (0 < r.toInt → rr = (r.toInt, j))) S Y rfl (by decide) (by decide) hA1 ⟨v_89133, v_89134, v_89135, v_89136, v_89137, bn_w (show bn 1 1 (1 : Int32) from bn_k (by decide)) (by decide), I, p_ad_0_0, p_ad_4_0, eT_89138, (by have c0 := hT.1; have c1 := eT_89120.1; have c2 := eP_89121; have c3 := eT_89138.1; have c4 := eP_89139; omega), ⟨jTN_89142, TN_89142, (fun h => absurd h (by decide)), fun _ => knee_no (LZTN_89142 (show r_89132.toInt = 0 from by rw [c_89143]; rfl)) (show ¬ ((tkK (bI gt) td.toInt.toNat) jTN_89142 = 20 ∨ (tkK (bI gt) td.toInt.toNat) jTN_89142 = 21) from (by have j0 := (mt (tk_w TN_89142.2.2 (show 20 < 31 from by decide) (show r_89146.toInt = pkR (wdj 20).reverse from by rw [er_89146]; decide +kernel)).mpr (cls_f er_89147.2.2 c_89148)); have j1 := (mt (tk_w TN_89142.2.2 (show 21 < 31 from by decide) (show r_89187.toInt = pkR (wdj 21).reverse from by rw [er_89187]; decide +kernel)).mpr (cls_f er_89188.2.2 c_89189)); omega))⟩⟩ dX12_swearClause_77
    · have B_89145 : bn 1 2 r_89132 := bn_w (bn_nel c_89143 er_89132 (show bn 0 0 (0 : Int32) from bn_k (by decide))) (by decide)
      refine lv_iload_n hx hb dX12_swearClause_34 rfl (lv_at hl 0 rfl) ?_
      exact prI (post := fun r L1 f1 => ∃ at92 : Int32, ∃ ps92 : Int32, ∃ tk2 : Int32, ∃ nu2 : Int32, ∃ wd2 : Int64, bn 0 2 r ∧ SH (spM PA PI (RN gB x0) pa) nnM G ad L1 f1 ∧ pt L1 f1 (ad 0 0) (.inr (12, [.ref (ad 1 0), .ref (ad 2 0), .ref (ad 3 0), .ref (ad 4 0), .int td, .int fa, .int fp, .int at92, .int ps92, .int tk2, .int nu2, .long wd2, .int t0, .int wr, .int so, .ref (ad 5 0), .ref (ad 6 0), .int pd, .int op9, .int cg, .int iw, .int on9, .ref (ad 7 0), .ref (ad 8 0), .ref (ad 9 0), .int is9, .ref (ad 10 0), .ref (ad 11 0), .ref (ad 12 0), .ref (ad 13 0), .int se, .ref (ad 14 0)])) ∧ pt L1 f1 (ad 4 0) (.inl (G.2 0, 300, .inl gt)) ∧ TK at92 ps92 tk2 ∧ ps9.toInt ≤ ps92.toInt ∧ ∃ j, TKN (bI gt) td.toInt.toNat j at92 ps92 tk2 nu2 wd2 ∧ (r.toInt = 0 → LL (tkK (bI gt) td.toInt.toNat) (tkV (bI gt) td.toInt.toNat) S9 j rr) ∧ (0 < r.toInt → rr = (r.toInt, j))) S Y rfl (by decide) (by decide) hA1 ⟨v_89133, v_89134, v_89135, v_89136, v_89137, bn_w B_89145 (by decide), I, p_ad_0_0, p_ad_4_0, eT_89138, (by have c0 := hT.1; have c1 := eT_89120.1; have c2 := eP_89121; have c3 := eT_89138.1; have c4 := eP_89139; omega), ⟨jTN_89142, TN_89142, fun z => absurd (Int32.toInt_inj.mp (z.trans rfl)) c_89143, LFTN_89142⟩⟩ dX12_swearClause_35
set_option maxHeartbeats 4000000 in
set_option maxRecDepth 100000 in
theorem x_X12_lawClause {l : Launch} {G : GG}  {L : List Nat} {f : HF} {ad : Nat → Nat → Nat} {pa : (Nat → Int32) → Prop} {PA : (Nat → Int32) → Prop} {PI : PIT} {i1 : Int32} {td fa fp at9 ps9 tk nu t0 wr so pd op9 cg iw on9 is9 se : Int32} {wd : Int64} {gt : Nat → Int32} {gA : Nat → Int32} {x0 : Nat} {i9 : Nat} {bL : Bool} {S9 : List LI} {rr : Int × Nat} (I : SH (spM PA PI (EQ gA) pa) nnM G ad L f) (p_ad_0_0 : pt L f (ad 0 0) (.inr (12, [.ref (ad 1 0), .ref (ad 2 0), .ref (ad 3 0), .ref (ad 4 0), .int td, .int fa, .int fp, .int at9, .int ps9, .int tk, .int nu, .long wd, .int t0, .int wr, .int so, .ref (ad 5 0), .ref (ad 6 0), .int pd, .int op9, .int cg, .int iw, .int on9, .ref (ad 7 0), .ref (ad 8 0), .ref (ad 9 0), .int is9, .ref (ad 10 0), .ref (ad 11 0), .ref (ad 12 0), .ref (ad 13 0), .int se, .ref (ad 14 0)]))) (p_ad_4_0 : pt L f (ad 4 0) (.inl (G.2 0, 300, .inl gt))) (b_i1 : bn 0 2400 i1) (hx0 : i1.toInt.toNat = x0) (hxt : i1.toInt + 5 ≤ t0.toInt + 121) (hroom : wr.toInt ≤ ps9.toInt) (hT : TK at9 ps9 tk) (hB : BYT gt) (hTN : TKN (bI gt) td.toInt.toNat i9 at9 ps9 tk nu wd) (hbl : bL = true ↔ so.toInt = 2) (hLL : LL (tkK (bI gt) td.toInt.toNat) (tkV (bI gt) td.toInt.toNat) ((kOne, 0, bL) :: ((CA bL (fun _ => 0) [] 0).1 ++ S9)) i9 rr) : PMi l yX12_lawClause cX12_lawClause 3 .int 7 0 0 G [.ref (ad 0 0), .int i1] L f (fun r L1 f1 => ∃ at92 : Int32, ∃ ps92 : Int32, ∃ tk2 : Int32, ∃ nu2 : Int32, ∃ wd2 : Int64, ∃ wr2 : Int32, ∃ pd2 : Int32, ∃ op92 : Int32, ∃ cg2 : Int32, ∃ iw2 : Int32, bn 0 7 r ∧ SH (spM PA PI (LC r gA x0 t0 wr wr2) pa) nnM G ad L1 f1 ∧ pt L1 f1 (ad 0 0) (.inr (12, [.ref (ad 1 0), .ref (ad 2 0), .ref (ad 3 0), .ref (ad 4 0), .int td, .int fa, .int fp, .int at92, .int ps92, .int tk2, .int nu2, .long wd2, .int t0, .int wr2, .int so, .ref (ad 5 0), .ref (ad 6 0), .int pd2, .int op92, .int cg2, .int iw2, .int on9, .ref (ad 7 0), .ref (ad 8 0), .ref (ad 9 0), .int is9, .ref (ad 10 0), .ref (ad 11 0), .ref (ad 12 0), .ref (ad 13 0), .int se, .ref (ad 14 0)])) ∧ pt L1 f1 (ad 4 0) (.inl (G.2 0, 300, .inl gt)) ∧ TK at92 ps92 tk2 ∧ (r.toInt = 0 → ps9.toInt ≤ ps92.toInt) ∧ (r.toInt = 0 → wr2.toInt ≤ ps92.toInt) ∧ ∃ j, TKN (bI gt) td.toInt.toNat j at92 ps92 tk2 nu2 wd2 ∧ (r.toInt = 0 → LL (tkK (bI gt) td.toInt.toNat) (tkV (bI gt) td.toInt.toNat) S9 j rr) ∧ (0 < r.toInt → rr = (r.toInt, j))) := by
  refine PMi.of (post := fun r L1 f1 => ∃ at92 : Int32, ∃ ps92 : Int32, ∃ tk2 : Int32, ∃ nu2 : Int32, ∃ wd2 : Int64, ∃ wr2 : Int32, ∃ pd2 : Int32, ∃ op92 : Int32, ∃ cg2 : Int32, ∃ iw2 : Int32, bn 0 7 r ∧ SH (spM PA PI (LC r gA x0 t0 wr wr2) pa) nnM G ad L1 f1 ∧ pt L1 f1 (ad 0 0) (.inr (12, [.ref (ad 1 0), .ref (ad 2 0), .ref (ad 3 0), .ref (ad 4 0), .int td, .int fa, .int fp, .int at92, .int ps92, .int tk2, .int nu2, .long wd2, .int t0, .int wr2, .int so, .ref (ad 5 0), .ref (ad 6 0), .int pd2, .int op92, .int cg2, .int iw2, .int on9, .ref (ad 7 0), .ref (ad 8 0), .ref (ad 9 0), .int is9, .ref (ad 10 0), .ref (ad 11 0), .ref (ad 12 0), .ref (ad 13 0), .int se, .ref (ad 14 0)])) ∧ pt L1 f1 (ad 4 0) (.inl (G.2 0, 300, .inl gt)) ∧ TK at92 ps92 tk2 ∧ (r.toInt = 0 → ps9.toInt ≤ ps92.toInt) ∧ (r.toInt = 0 → wr2.toInt ≤ ps92.toInt) ∧ ∃ j, TKN (bI gt) td.toInt.toNat j at92 ps92 tk2 nu2 wd2 ∧ (r.toInt = 0 → LL (tkK (bI gt) td.toInt.toNat) (tkV (bI gt) td.toInt.toNat) S9 j rr) ∧ (0 < r.toInt → rr = (r.toInt, j))) (own := RX12) (by decide) rfl (Nat.le_of_ble_eq_true rfl) (fun sz p e s m args below meth c A ls hA1 hname S Y hl => ?_)
  have hx := S.hx
  have hb := S.hb
  have hl : lv_has ls 3 [(0, .ref (ad 0 0)), (1, .int i1)] := hl
  obtain ⟨bfe_4, bfe_5, bfe_6, bfe_7, bfe_8, bfe_12, bfe_13, bfe_17, bfe_18, bfe_19, bfe_20, bfe_25⟩ := obM I p_ad_0_0
  refine lv_aload_n hx hb dX12_lawClause_0 rfl (lv_at hl 0 rfl) ?_
  refine pg_get S Y ok_X12 2 (by decide) kf12_16 (v := .ref (ad 3 0)) p_ad_0_0 rfl dX12_lawClause_1 ?_
  refine lv_iload_n hx hb dX12_lawClause_4 rfl (lv_at hl 1 rfl) ?_
  refine lv_iconst (v := 1) hx hb dX12_lawClause_5 (by decide) ?_
  refine lv_iadd hx hb dX12_lawClause_6 ?_
  refine lv_topi (fun x_89300 ex_89300 => ?_)
  refine lv_aload_n hx hb dX12_lawClause_7 rfl (lv_at hl 0 rfl) ?_
  refine pg_get S Y ok_X12 13 (by decide) kf12_139 (v := .int wr) p_ad_0_0 rfl dX12_lawClause_8 ?_
  obtain ⟨g_89301, p_ad_3_0, o_89302⟩ := I.opi (k := 3) (j := 0) (by decide) rfl
  have p_ad_3_0 : pt L f (ad 3 0) (.inl (G.2 0, 2916, .inl g_89301)) := p_ad_3_0
  refine pg_iast S Y p_ad_3_0 (vp_bn (bn_eq ex_89300 (bn_add b_i1 (show bn 1 1 (1 : Int32) from bn_k (by decide)) (by decide))) (by decide)) dX12_lawClause_11 (fun f_89304 H locs ef_89304 Y => ?_)
  obtain ⟨g_89303, eg_89303⟩ : ∃ z, z = upd (g_89301) (x_89300 : Int32).toNatClampNeg wr := ⟨_, rfl⟩
  rw [← eg_89303] at ef_89304
  have p_ad_0_0 := p_ad_0_0.up ef_89304 (I.ne (k := 0) (j := 0) (k' := 3) (j' := 0) (by decide) (by decide) (Or.inl (by decide)))
  have p_ad_4_0 := p_ad_4_0.up ef_89304 (I.ne (k := 4) (j := 0) (k' := 3) (j' := 0) (by decide) (by decide) (Or.inl (by decide)))
  have p_ad_3_0 := p_ad_3_0.me ef_89304
  have o_89305 : (EQ g_89303) g_89303 := rfl
  have I := I.upS (sp' := spM PA PI (EQ g_89303) pa) (k := 3) (j := 0) (by decide) ef_89304 (okE_a (g := g_89303) o_89305) pXC
  have hgB : g_89303 = upd gA (x_89300 : Int32).toNatClampNeg wr := by rw [eg_89303, show g_89301 = gA from o_89302]
  refine lv_aload_n hx hb dX12_lawClause_12 rfl (lv_at hl 0 rfl) ?_
  obtain ⟨g_89306, p_ad_5_0, o_89307⟩ := I.opi (k := 5) (j := 0) (by decide) rfl
  have p_ad_5_0 : pt L f_89304 (ad 5 0) (.inl (G.2 0, 160, .inl g_89306)) := p_ad_5_0
  obtain ⟨g_89308, p_ad_6_0, o_89309⟩ := I.opi (k := 6) (j := 0) (by decide) rfl
  have p_ad_6_0 : pt L f_89304 (ad 6 0) (.inl (G.2 0, 9, .inl g_89308)) := p_ad_6_0
  refine cVi (As := []) (rest := []) S Y (x_X12_summed (l := l) I p_ad_0_0 p_ad_4_0 p_ad_5_0 p_ad_6_0 hroom hT hB hTN hbl hLL) cw_X12_summed km12_219 p_ad_0_0 ok_X12.1 rfl rfl ⟨Nat.le_of_ble_eq_true rfl, Nat.le_of_ble_eq_true rfl⟩ hl.1 rfl (Nat.le_of_ble_eq_true rfl) ⟨Nat.le_of_ble_eq_true rfl, Nat.le_of_ble_eq_true rfl⟩ dX12_lawClause_13 (fun r_89312 L_89310 f_89311 H locs hr_89312 Y => ?_)
  obtain ⟨v_89313, v_89314, v_89315, v_89316, v_89317, v_89318, v_89319, v_89320, v_89321, v_89322, g_89323, g_89324, er_89312, I, p_ad_0_0, p_ad_4_0, p_ad_5_0, p_ad_6_0, eT_89325, eQ_89326, eW_89327, eL_89328⟩ := hr_89312
  obtain ⟨bfc89328_4, bfc89328_5, bfc89328_6, bfc89328_7, bfc89328_8, bfc89328_12, bfc89328_13, bfc89328_17, bfc89328_18, bfc89328_19, bfc89328_20, bfc89328_25⟩ := obM I p_ad_0_0
  refine lv_istore_n (lv' := [(2, .int r_89312), (0, .ref (ad 0 0)), (1, .int i1)]) hx hb dX12_lawClause_16 rfl hl (by decide) rfl (fun ls hl => ?_)
  refine lv_aload_n hx hb dX12_lawClause_17 rfl (lv_at hl 1 rfl) ?_
  refine pg_get S Y ok_X12 2 (by decide) kf12_16 (v := .ref (ad 3 0)) p_ad_0_0 rfl dX12_lawClause_18 ?_
  refine lv_iload_n hx hb dX12_lawClause_21 rfl (lv_at hl 2 rfl) ?_
  refine lv_iconst (v := 2) hx hb dX12_lawClause_22 (by decide) ?_
  refine lv_iadd hx hb dX12_lawClause_23 ?_
  refine lv_topi (fun x_89330 ex_89330 => ?_)
  refine lv_aload_n hx hb dX12_lawClause_24 rfl (lv_at hl 1 rfl) ?_
  refine pg_get S Y ok_X12 13 (by decide) kf12_139 (v := .int v_89318) p_ad_0_0 rfl dX12_lawClause_25 ?_
  obtain ⟨g_89331, p_ad_3_0, o_89332⟩ := I.opi (k := 3) (j := 0) (by decide) rfl
  have p_ad_3_0 : pt L_89310 f_89311 (ad 3 0) (.inl (G.2 0, 2916, .inl g_89331)) := p_ad_3_0
  refine pg_iast S Y p_ad_3_0 (vp_bn (bn_eq ex_89330 (bn_add b_i1 (show bn 2 2 (2 : Int32) from bn_k (by decide)) (by decide))) (by decide)) dX12_lawClause_28 (fun f_89334 H locs ef_89334 Y => ?_)
  obtain ⟨g_89333, eg_89333⟩ : ∃ z, z = upd (g_89331) (x_89330 : Int32).toNatClampNeg v_89318 := ⟨_, rfl⟩
  rw [← eg_89333] at ef_89334
  have p_ad_0_0 := p_ad_0_0.up ef_89334 (I.ne (k := 0) (j := 0) (k' := 3) (j' := 0) (by decide) (by decide) (Or.inl (by decide)))
  have p_ad_4_0 := p_ad_4_0.up ef_89334 (I.ne (k := 4) (j := 0) (k' := 3) (j' := 0) (by decide) (by decide) (Or.inl (by decide)))
  have p_ad_5_0 := p_ad_5_0.up ef_89334 (I.ne (k := 5) (j := 0) (k' := 3) (j' := 0) (by decide) (by decide) (Or.inl (by decide)))
  have p_ad_6_0 := p_ad_6_0.up ef_89334 (I.ne (k := 6) (j := 0) (k' := 3) (j' := 0) (by decide) (by decide) (Or.inl (by decide)))
  have p_ad_3_0 := p_ad_3_0.me ef_89334
  have o_89335 : (LC r_89312 gA x0 t0 wr v_89318) g_89333 := (LC_mk o_89332 hgB eg_89333 (by have z9 := (la_add ex_89300 (rfl : i1.toInt = i1.toInt) (show (1 : Int32).toInt = 1 from rfl) b_i1 (show bn 1 1 (1 : Int32) from bn_k (by decide)) (by decide)); have z8 := b_i1.1; rw [tnc]; omega) (by have z9 := (la_add ex_89330 (rfl : i1.toInt = i1.toInt) (show (2 : Int32).toInt = 2 from rfl) b_i1 (show bn 2 2 (2 : Int32) from bn_k (by decide)) (by decide)); have z8 := b_i1.1; rw [tnc]; omega) (by have z8 := b_i1.1; omega))
  have I := I.upS (sp' := spM PA PI (LC r_89312 gA x0 t0 wr v_89318) pa) (k := 3) (j := 0) (by decide) ef_89334 (okE_a (g := g_89333) o_89335) pXC
  refine lv_iload_n hx hb dX12_lawClause_29 rfl (lv_at hl 0 rfl) ?_
  exact prI (post := fun r L1 f1 => ∃ at92 : Int32, ∃ ps92 : Int32, ∃ tk2 : Int32, ∃ nu2 : Int32, ∃ wd2 : Int64, ∃ wr2 : Int32, ∃ pd2 : Int32, ∃ op92 : Int32, ∃ cg2 : Int32, ∃ iw2 : Int32, bn 0 7 r ∧ SH (spM PA PI (LC r gA x0 t0 wr wr2) pa) nnM G ad L1 f1 ∧ pt L1 f1 (ad 0 0) (.inr (12, [.ref (ad 1 0), .ref (ad 2 0), .ref (ad 3 0), .ref (ad 4 0), .int td, .int fa, .int fp, .int at92, .int ps92, .int tk2, .int nu2, .long wd2, .int t0, .int wr2, .int so, .ref (ad 5 0), .ref (ad 6 0), .int pd2, .int op92, .int cg2, .int iw2, .int on9, .ref (ad 7 0), .ref (ad 8 0), .ref (ad 9 0), .int is9, .ref (ad 10 0), .ref (ad 11 0), .ref (ad 12 0), .ref (ad 13 0), .int se, .ref (ad 14 0)])) ∧ pt L1 f1 (ad 4 0) (.inl (G.2 0, 300, .inl gt)) ∧ TK at92 ps92 tk2 ∧ (r.toInt = 0 → ps9.toInt ≤ ps92.toInt) ∧ (r.toInt = 0 → wr2.toInt ≤ ps92.toInt) ∧ ∃ j, TKN (bI gt) td.toInt.toNat j at92 ps92 tk2 nu2 wd2 ∧ (r.toInt = 0 → LL (tkK (bI gt) td.toInt.toNat) (tkV (bI gt) td.toInt.toNat) S9 j rr) ∧ (0 < r.toInt → rr = (r.toInt, j))) S Y rfl (by decide) (by decide) hA1 ⟨v_89313, v_89314, v_89315, v_89316, v_89317, v_89318, v_89319, v_89320, v_89321, v_89322, bn_w er_89312 (by decide), I, p_ad_0_0, p_ad_4_0, eT_89325, eQ_89326, eW_89327, eL_89328⟩ dX12_lawClause_30
set_option maxHeartbeats 4000000 in
set_option maxRecDepth 100000 in
theorem x_X12_body {l : Launch} {G : GG}  {L : List Nat} {f : HF} {ad : Nat → Nat → Nat} {pa : (Nat → Int32) → Prop} {PA : (Nat → Int32) → Prop} {PI : PIT} {i1 i2 : Int32} {td fa fp at9 ps9 tk nu t0 wr so pd op9 cg iw on9 is9 se : Int32} {wd : Int64} {gt : Nat → Int32} {gA : Nat → Int32} {x0 : Nat} {k8 : Int} {i9 : Nat} {S9 : List LI} {rr : Int × Nat} (I : SH (spM PA PI (EQ gA) pa) nnM G ad L f) (p_ad_0_0 : pt L f (ad 0 0) (.inr (12, [.ref (ad 1 0), .ref (ad 2 0), .ref (ad 3 0), .ref (ad 4 0), .int td, .int fa, .int fp, .int at9, .int ps9, .int tk, .int nu, .long wd, .int t0, .int wr, .int so, .ref (ad 5 0), .ref (ad 6 0), .int pd, .int op9, .int cg, .int iw, .int on9, .ref (ad 7 0), .ref (ad 8 0), .ref (ad 9 0), .int is9, .ref (ad 10 0), .ref (ad 11 0), .ref (ad 12 0), .ref (ad 13 0), .int se, .ref (ad 14 0)]))) (p_ad_4_0 : pt L f (ad 4 0) (.inl (G.2 0, 300, .inl gt))) (b_i1 : bn 0 10 i1) (b_i2 : bn 0 2400 i2) (hs : gA x0 = i1) (hx0 : i2.toInt.toNat = x0) (hxt : i2.toInt + 5 ≤ t0.toInt + 121) (hroom : wr.toInt ≤ ps9.toInt) (hT : TK at9 ps9 tk) (hB : BYT gt) (hTN : TKN (bI gt) td.toInt.toNat i9 at9 ps9 tk nu wd) (hk8 : 0 ≤ k8 ∧ k8 ≤ 9 ∧ ((k8 ≤ 4 ∧ i1.toInt = k8) ∨ (5 ≤ k8 ∧ i1.toInt = k8 + 1))) (hs8 : so.toInt = 2 ↔ k8 = 2) (hBd : LL (tkK (bI gt) td.toInt.toNat) (tkV (bI gt) td.toInt.toNat) (lay 0 false (cbody k8) ++ S9) i9 rr) : PMi l yX12_body cX12_body 3 .int 8 0 0 G [.ref (ad 0 0), .int i1, .int i2] L f (fun r L1 f1 => ∃ at92 : Int32, ∃ ps92 : Int32, ∃ tk2 : Int32, ∃ nu2 : Int32, ∃ wd2 : Int64, ∃ wr2 : Int32, ∃ pd2 : Int32, ∃ op92 : Int32, ∃ cg2 : Int32, ∃ iw2 : Int32, bn 0 7 r ∧ SH (spM PA PI (BD r gA x0 t0 wr wr2) pa) nnM G ad L1 f1 ∧ pt L1 f1 (ad 0 0) (.inr (12, [.ref (ad 1 0), .ref (ad 2 0), .ref (ad 3 0), .ref (ad 4 0), .int td, .int fa, .int fp, .int at92, .int ps92, .int tk2, .int nu2, .long wd2, .int t0, .int wr2, .int so, .ref (ad 5 0), .ref (ad 6 0), .int pd2, .int op92, .int cg2, .int iw2, .int on9, .ref (ad 7 0), .ref (ad 8 0), .ref (ad 9 0), .int is9, .ref (ad 10 0), .ref (ad 11 0), .ref (ad 12 0), .ref (ad 13 0), .int se, .ref (ad 14 0)])) ∧ pt L1 f1 (ad 4 0) (.inl (G.2 0, 300, .inl gt)) ∧ TK at92 ps92 tk2 ∧ (r.toInt = 0 → ps9.toInt ≤ ps92.toInt) ∧ (r.toInt = 0 → wr2.toInt ≤ ps92.toInt) ∧ ∃ j, TKN (bI gt) td.toInt.toNat j at92 ps92 tk2 nu2 wd2 ∧ (r.toInt = 0 → LL (tkK (bI gt) td.toInt.toNat) (tkV (bI gt) td.toInt.toNat) S9 j rr) ∧ (0 < r.toInt → rr = (r.toInt, j))) := by
  refine PMi.of (post := fun r L1 f1 => ∃ at92 : Int32, ∃ ps92 : Int32, ∃ tk2 : Int32, ∃ nu2 : Int32, ∃ wd2 : Int64, ∃ wr2 : Int32, ∃ pd2 : Int32, ∃ op92 : Int32, ∃ cg2 : Int32, ∃ iw2 : Int32, bn 0 7 r ∧ SH (spM PA PI (BD r gA x0 t0 wr wr2) pa) nnM G ad L1 f1 ∧ pt L1 f1 (ad 0 0) (.inr (12, [.ref (ad 1 0), .ref (ad 2 0), .ref (ad 3 0), .ref (ad 4 0), .int td, .int fa, .int fp, .int at92, .int ps92, .int tk2, .int nu2, .long wd2, .int t0, .int wr2, .int so, .ref (ad 5 0), .ref (ad 6 0), .int pd2, .int op92, .int cg2, .int iw2, .int on9, .ref (ad 7 0), .ref (ad 8 0), .ref (ad 9 0), .int is9, .ref (ad 10 0), .ref (ad 11 0), .ref (ad 12 0), .ref (ad 13 0), .int se, .ref (ad 14 0)])) ∧ pt L1 f1 (ad 4 0) (.inl (G.2 0, 300, .inl gt)) ∧ TK at92 ps92 tk2 ∧ (r.toInt = 0 → ps9.toInt ≤ ps92.toInt) ∧ (r.toInt = 0 → wr2.toInt ≤ ps92.toInt) ∧ ∃ j, TKN (bI gt) td.toInt.toNat j at92 ps92 tk2 nu2 wd2 ∧ (r.toInt = 0 → LL (tkK (bI gt) td.toInt.toNat) (tkV (bI gt) td.toInt.toNat) S9 j rr) ∧ (0 < r.toInt → rr = (r.toInt, j))) (own := RX12) (by decide) rfl (Nat.le_of_ble_eq_true rfl) (fun sz p e s m args below meth c A ls hA1 hname S Y hl => ?_)
  have hx := S.hx
  have hb := S.hb
  have hl : lv_has ls 3 [(0, .ref (ad 0 0)), (1, .int i1), (2, .int i2)] := hl
  obtain ⟨bfe_4, bfe_5, bfe_6, bfe_7, bfe_8, bfe_12, bfe_13, bfe_17, bfe_18, bfe_19, bfe_20, bfe_25⟩ := obM I p_ad_0_0
  refine lv_iload_n hx hb dX12_body_0 rfl (lv_at hl 1 rfl) ?_
  rcases swM_3_10 i1 with h_89706 | h_89706 | h_89706 | h_89706 | h_89706 | h_89706 | h_89706 | h_89706 | h_89706
  · refine lv_fold (z := 3) h_89706 ?_
    refine lv_tableIn (off := 47) (tgt := 48) hx hb dX12_body_1 (by decide) (by decide) (by decide) (by decide) ?_
    refine lv_aload_n hx hb dX12_body_48 rfl (lv_at hl 0 rfl) ?_
    refine lv_iload_n hx hb dX12_body_49 rfl (lv_at hl 2 rfl) ?_
    obtain ⟨g_89707, p_ad_3_0, o_89708⟩ := I.opi (k := 3) (j := 0) (by decide) rfl
    have p_ad_3_0 : pt L f (ad 3 0) (.inl (G.2 0, 2916, .inl g_89707)) := p_ad_3_0
    have o_89709 : (RN gA x0) g_89707 := (RN_eq o_89708 hs (by have z9 := ((bn_eq h_89706 (show bn 3 3 (3 : Int32) from bn_k (by decide)))).1; omega))
    have I := I.castS (sp' := spM PA PI (RN gA x0) pa) (k := 3) (j := 0) (by decide) p_ad_3_0 (okE_a (g := g_89707) o_89709) pXC
    refine cVi (As := [.int i2]) (rest := []) S Y (x_X12_oneClause (l := l) I p_ad_0_0 p_ad_4_0 (bn_w b_i2 (by decide)) hx0 hT hB hTN (bd_one hBd (by have z9 := (show i1.toInt = 3 from by rw [h_89706]; rfl); have z8 := hk8; omega))) cw_X12_oneClause km12_226 p_ad_0_0 ok_X12.1 rfl rfl ⟨Nat.le_of_ble_eq_true rfl, Nat.le_of_ble_eq_true rfl⟩ hl.1 rfl (Nat.le_of_ble_eq_true rfl) ⟨Nat.le_of_ble_eq_true rfl, Nat.le_of_ble_eq_true rfl⟩ dX12_body_50 (fun r_89712 L_89710 f_89711 H locs hr_89712 Y => ?_)
    obtain ⟨v_89713, v_89714, v_89715, v_89716, v_89717, er_89712, I, p_ad_0_0, p_ad_4_0, eT_89718, eP_89719, eL_89720⟩ := hr_89712
    obtain ⟨bfc89720_4, bfc89720_5, bfc89720_6, bfc89720_7, bfc89720_8, bfc89720_12, bfc89720_13, bfc89720_17, bfc89720_18, bfc89720_19, bfc89720_20, bfc89720_25⟩ := obM I p_ad_0_0
    obtain ⟨jTN_89722, TN_89722, LZTN_89722, LFTN_89722⟩ := eL_89720
    obtain ⟨g_89723, p_ad_3_0, o_89724⟩ := I.opi (k := 3) (j := 0) (by decide) rfl
    have p_ad_3_0 : pt L_89710 f_89711 (ad 3 0) (.inl (G.2 0, 2916, .inl g_89723)) := p_ad_3_0
    have o_89725 : (BD r_89712 gA x0 t0 wr wr) g_89723 := (BD_rn o_89724)
    have I := I.castS (sp' := spM PA PI (BD r_89712 gA x0 t0 wr wr) pa) (k := 3) (j := 0) (by decide) p_ad_3_0 (okE_a (g := g_89723) o_89725) pXC
    exact prI (post := fun r L1 f1 => ∃ at92 : Int32, ∃ ps92 : Int32, ∃ tk2 : Int32, ∃ nu2 : Int32, ∃ wd2 : Int64, ∃ wr2 : Int32, ∃ pd2 : Int32, ∃ op92 : Int32, ∃ cg2 : Int32, ∃ iw2 : Int32, bn 0 7 r ∧ SH (spM PA PI (BD r gA x0 t0 wr wr2) pa) nnM G ad L1 f1 ∧ pt L1 f1 (ad 0 0) (.inr (12, [.ref (ad 1 0), .ref (ad 2 0), .ref (ad 3 0), .ref (ad 4 0), .int td, .int fa, .int fp, .int at92, .int ps92, .int tk2, .int nu2, .long wd2, .int t0, .int wr2, .int so, .ref (ad 5 0), .ref (ad 6 0), .int pd2, .int op92, .int cg2, .int iw2, .int on9, .ref (ad 7 0), .ref (ad 8 0), .ref (ad 9 0), .int is9, .ref (ad 10 0), .ref (ad 11 0), .ref (ad 12 0), .ref (ad 13 0), .int se, .ref (ad 14 0)])) ∧ pt L1 f1 (ad 4 0) (.inl (G.2 0, 300, .inl gt)) ∧ TK at92 ps92 tk2 ∧ (r.toInt = 0 → ps9.toInt ≤ ps92.toInt) ∧ (r.toInt = 0 → wr2.toInt ≤ ps92.toInt) ∧ ∃ j, TKN (bI gt) td.toInt.toNat j at92 ps92 tk2 nu2 wd2 ∧ (r.toInt = 0 → LL (tkK (bI gt) td.toInt.toNat) (tkV (bI gt) td.toInt.toNat) S9 j rr) ∧ (0 < r.toInt → rr = (r.toInt, j))) S Y rfl (by decide) (by decide) hA1 ⟨v_89713, v_89714, v_89715, v_89716, v_89717, wr, pd, op9, cg, iw, bn_w er_89712 (by decide), I, p_ad_0_0, p_ad_4_0, eT_89718, (fun _ => (by have c0 := hT.1; have c1 := eT_89718.1; have c2 := eP_89719; omega)), (fun _ => by have z9 := (by have c0 := hT.1; have c1 := eT_89718.1; have c2 := eP_89719; omega); have z8 := hroom; omega), ⟨jTN_89722, TN_89722, LZTN_89722, LFTN_89722⟩⟩ dX12_body_53
  · refine lv_fold (z := 4) h_89706 ?_
    refine lv_tableIn (off := 53) (tgt := 54) hx hb dX12_body_1 (by decide) (by decide) (by decide) (by decide) ?_
    refine lv_aload_n hx hb dX12_body_54 rfl (lv_at hl 0 rfl) ?_
    refine lv_iload_n hx hb dX12_body_55 rfl (lv_at hl 2 rfl) ?_
    obtain ⟨g_89726, p_ad_3_0, o_89727⟩ := I.opi (k := 3) (j := 0) (by decide) rfl
    have p_ad_3_0 : pt L f (ad 3 0) (.inl (G.2 0, 2916, .inl g_89726)) := p_ad_3_0
    have o_89728 : (RN gA x0) g_89726 := (RN_eq o_89727 hs (by have z9 := ((bn_eq h_89706 (show bn 4 4 (4 : Int32) from bn_k (by decide)))).1; omega))
    have I := I.castS (sp' := spM PA PI (RN gA x0) pa) (k := 3) (j := 0) (by decide) p_ad_3_0 (okE_a (g := g_89726) o_89728) pXC
    refine cVi (As := [.int i2]) (rest := []) S Y (x_X12_swearClause (l := l) I p_ad_0_0 p_ad_4_0 (bn_w b_i2 (by decide)) hx0 hT hB hTN (bd_sw hBd (by have z9 := (show i1.toInt = 4 from by rw [h_89706]; rfl); have z8 := hk8; omega))) cw_X12_swearClause km12_229 p_ad_0_0 ok_X12.1 rfl rfl ⟨Nat.le_of_ble_eq_true rfl, Nat.le_of_ble_eq_true rfl⟩ hl.1 rfl (Nat.le_of_ble_eq_true rfl) ⟨Nat.le_of_ble_eq_true rfl, Nat.le_of_ble_eq_true rfl⟩ dX12_body_56 (fun r_89731 L_89729 f_89730 H locs hr_89731 Y => ?_)
    obtain ⟨v_89732, v_89733, v_89734, v_89735, v_89736, er_89731, I, p_ad_0_0, p_ad_4_0, eT_89737, eP_89738, eL_89739⟩ := hr_89731
    obtain ⟨bfc89739_4, bfc89739_5, bfc89739_6, bfc89739_7, bfc89739_8, bfc89739_12, bfc89739_13, bfc89739_17, bfc89739_18, bfc89739_19, bfc89739_20, bfc89739_25⟩ := obM I p_ad_0_0
    obtain ⟨jTN_89741, TN_89741, LZTN_89741, LFTN_89741⟩ := eL_89739
    obtain ⟨g_89742, p_ad_3_0, o_89743⟩ := I.opi (k := 3) (j := 0) (by decide) rfl
    have p_ad_3_0 : pt L_89729 f_89730 (ad 3 0) (.inl (G.2 0, 2916, .inl g_89742)) := p_ad_3_0
    have o_89744 : (BD r_89731 gA x0 t0 wr wr) g_89742 := (BD_rn o_89743)
    have I := I.castS (sp' := spM PA PI (BD r_89731 gA x0 t0 wr wr) pa) (k := 3) (j := 0) (by decide) p_ad_3_0 (okE_a (g := g_89742) o_89744) pXC
    exact prI (post := fun r L1 f1 => ∃ at92 : Int32, ∃ ps92 : Int32, ∃ tk2 : Int32, ∃ nu2 : Int32, ∃ wd2 : Int64, ∃ wr2 : Int32, ∃ pd2 : Int32, ∃ op92 : Int32, ∃ cg2 : Int32, ∃ iw2 : Int32, bn 0 7 r ∧ SH (spM PA PI (BD r gA x0 t0 wr wr2) pa) nnM G ad L1 f1 ∧ pt L1 f1 (ad 0 0) (.inr (12, [.ref (ad 1 0), .ref (ad 2 0), .ref (ad 3 0), .ref (ad 4 0), .int td, .int fa, .int fp, .int at92, .int ps92, .int tk2, .int nu2, .long wd2, .int t0, .int wr2, .int so, .ref (ad 5 0), .ref (ad 6 0), .int pd2, .int op92, .int cg2, .int iw2, .int on9, .ref (ad 7 0), .ref (ad 8 0), .ref (ad 9 0), .int is9, .ref (ad 10 0), .ref (ad 11 0), .ref (ad 12 0), .ref (ad 13 0), .int se, .ref (ad 14 0)])) ∧ pt L1 f1 (ad 4 0) (.inl (G.2 0, 300, .inl gt)) ∧ TK at92 ps92 tk2 ∧ (r.toInt = 0 → ps9.toInt ≤ ps92.toInt) ∧ (r.toInt = 0 → wr2.toInt ≤ ps92.toInt) ∧ ∃ j, TKN (bI gt) td.toInt.toNat j at92 ps92 tk2 nu2 wd2 ∧ (r.toInt = 0 → LL (tkK (bI gt) td.toInt.toNat) (tkV (bI gt) td.toInt.toNat) S9 j rr) ∧ (0 < r.toInt → rr = (r.toInt, j))) S Y rfl (by decide) (by decide) hA1 ⟨v_89732, v_89733, v_89734, v_89735, v_89736, wr, pd, op9, cg, iw, bn_w er_89731 (by decide), I, p_ad_0_0, p_ad_4_0, eT_89737, (fun _ => (by have c0 := hT.1; have c1 := eT_89737.1; have c2 := eP_89738; omega)), (fun _ => by have z9 := (by have c0 := hT.1; have c1 := eT_89737.1; have c2 := eP_89738; omega); have z8 := hroom; omega), ⟨jTN_89741, TN_89741, LZTN_89741, LFTN_89741⟩⟩ dX12_body_59
  · refine lv_fold (z := 5) h_89706 ?_
    refine lv_tableIn (off := 112) (tgt := 113) hx hb dX12_body_1 (by decide) (by decide) (by decide) (by decide) ?_
    refine lv_aload_n hx hb dX12_body_113 rfl (lv_at hl 0 rfl) ?_
    refine lv_iload_n hx hb dX12_body_114 rfl (lv_at hl 2 rfl) ?_
    obtain ⟨g_89745, p_ad_3_0, o_89746⟩ := I.opi (k := 3) (j := 0) (by decide) rfl
    have p_ad_3_0 : pt L f (ad 3 0) (.inl (G.2 0, 2916, .inl g_89745)) := p_ad_3_0
    refine cVi (As := [.int i2]) (rest := []) S Y (x_X12_lawClause (l := l) I p_ad_0_0 p_ad_4_0 (bn_w b_i2 (by decide)) hx0 hxt hroom hT hB hTN (by rw [decide_eq_true_iff]; exact hs8.symm) (bd_law hBd (show k8 < 3 from by have z9 := (show i1.toInt = 5 from by rw [h_89706]; rfl); have z8 := hk8; omega))) cw_X12_lawClause km12_232 p_ad_0_0 ok_X12.1 rfl rfl ⟨Nat.le_of_ble_eq_true rfl, Nat.le_of_ble_eq_true rfl⟩ hl.1 rfl (Nat.le_of_ble_eq_true rfl) ⟨Nat.le_of_ble_eq_true rfl, Nat.le_of_ble_eq_true rfl⟩ dX12_body_115 (fun r_89749 L_89747 f_89748 H locs hr_89749 Y => ?_)
    obtain ⟨v_89750, v_89751, v_89752, v_89753, v_89754, v_89755, v_89756, v_89757, v_89758, v_89759, er_89749, I, p_ad_0_0, p_ad_4_0, eT_89760, eQ_89761, eW_89762, eL_89763⟩ := hr_89749
    obtain ⟨bfc89763_4, bfc89763_5, bfc89763_6, bfc89763_7, bfc89763_8, bfc89763_12, bfc89763_13, bfc89763_17, bfc89763_18, bfc89763_19, bfc89763_20, bfc89763_25⟩ := obM I p_ad_0_0
    obtain ⟨g_89765, p_ad_3_0, o_89766⟩ := I.opi (k := 3) (j := 0) (by decide) rfl
    have p_ad_3_0 : pt L_89747 f_89748 (ad 3 0) (.inl (G.2 0, 2916, .inl g_89765)) := p_ad_3_0
    have o_89767 : (BD r_89749 gA x0 t0 wr v_89755) g_89765 := (BD_lc o_89766)
    have I := I.castS (sp' := spM PA PI (BD r_89749 gA x0 t0 wr v_89755) pa) (k := 3) (j := 0) (by decide) p_ad_3_0 (okE_a (g := g_89765) o_89767) pXC
    exact prI (post := fun r L1 f1 => ∃ at92 : Int32, ∃ ps92 : Int32, ∃ tk2 : Int32, ∃ nu2 : Int32, ∃ wd2 : Int64, ∃ wr2 : Int32, ∃ pd2 : Int32, ∃ op92 : Int32, ∃ cg2 : Int32, ∃ iw2 : Int32, bn 0 7 r ∧ SH (spM PA PI (BD r gA x0 t0 wr wr2) pa) nnM G ad L1 f1 ∧ pt L1 f1 (ad 0 0) (.inr (12, [.ref (ad 1 0), .ref (ad 2 0), .ref (ad 3 0), .ref (ad 4 0), .int td, .int fa, .int fp, .int at92, .int ps92, .int tk2, .int nu2, .long wd2, .int t0, .int wr2, .int so, .ref (ad 5 0), .ref (ad 6 0), .int pd2, .int op92, .int cg2, .int iw2, .int on9, .ref (ad 7 0), .ref (ad 8 0), .ref (ad 9 0), .int is9, .ref (ad 10 0), .ref (ad 11 0), .ref (ad 12 0), .ref (ad 13 0), .int se, .ref (ad 14 0)])) ∧ pt L1 f1 (ad 4 0) (.inl (G.2 0, 300, .inl gt)) ∧ TK at92 ps92 tk2 ∧ (r.toInt = 0 → ps9.toInt ≤ ps92.toInt) ∧ (r.toInt = 0 → wr2.toInt ≤ ps92.toInt) ∧ ∃ j, TKN (bI gt) td.toInt.toNat j at92 ps92 tk2 nu2 wd2 ∧ (r.toInt = 0 → LL (tkK (bI gt) td.toInt.toNat) (tkV (bI gt) td.toInt.toNat) S9 j rr) ∧ (0 < r.toInt → rr = (r.toInt, j))) S Y rfl (by decide) (by decide) hA1 ⟨v_89750, v_89751, v_89752, v_89753, v_89754, v_89755, v_89756, v_89757, v_89758, v_89759, bn_w er_89749 (by decide), I, p_ad_0_0, p_ad_4_0, eT_89760, eQ_89761, eW_89762, eL_89763⟩ dX12_body_118
  · refine lv_fold (z := 6) h_89706 ?_
    refine lv_tableIn (off := 59) (tgt := 60) hx hb dX12_body_1 (by decide) (by decide) (by decide) (by decide) ?_
    refine lv_aload_n hx hb dX12_body_60 rfl (lv_at hl 0 rfl) ?_
    refine lv_iload_n hx hb dX12_body_61 rfl (lv_at hl 2 rfl) ?_
    refine lv_iconst (v := 1) hx hb dX12_body_62 (by decide) ?_
    refine lv_iadd hx hb dX12_body_63 ?_
    refine lv_topi (fun x_89768 ex_89768 => ?_)
    refine lv_iconst (v := 0) hx hb dX12_body_64 (by decide) ?_
    refine lv_bipush (v := 13) hx hb dX12_body_65 (by decide) ?_
    obtain ⟨g_89769, p_ad_3_0, o_89770⟩ := I.opi (k := 3) (j := 0) (by decide) rfl
    have p_ad_3_0 : pt L f (ad 3 0) (.inl (G.2 0, 2916, .inl g_89769)) := p_ad_3_0
    have o_89771 : (RN gA x0) g_89769 := (RN_eq o_89770 hs (by have z9 := ((bn_eq h_89706 (show bn 6 6 (6 : Int32) from bn_k (by decide)))).1; omega))
    have I := I.castS (sp' := spM PA PI (RN gA x0) pa) (k := 3) (j := 0) (by decide) p_ad_3_0 (okE_a (g := g_89769) o_89771) pXC
    refine cVi (As := [.int x_89768, .int 0, .int 13]) (rest := []) S Y (x_X12_figure (l := l) I p_ad_0_0 p_ad_4_0 (bn_w (bn_eq ex_89768 (bn_add b_i2 (show bn 1 1 (1 : Int32) from bn_k (by decide)) (by decide))) (by decide)) (by have z9 := (la_add ex_89768 (rfl : i2.toInt = i2.toInt) (show (1 : Int32).toInt = 1 from rfl) b_i2 (show bn 1 1 (1 : Int32) from bn_k (by decide)) (by decide)); have z8 := b_i2.1; omega) hT hB hTN (bd_13 hBd (by have z9 := (show i1.toInt = 6 from by rw [h_89706]; rfl); have z8 := hk8; omega)) (by decide)) cw_X12_figure km12_215 p_ad_0_0 ok_X12.1 rfl rfl ⟨Nat.le_of_ble_eq_true rfl, Nat.le_of_ble_eq_true rfl⟩ hl.1 rfl (Nat.le_of_ble_eq_true rfl) ⟨Nat.le_of_ble_eq_true rfl, Nat.le_of_ble_eq_true rfl⟩ dX12_body_67 (fun r_89774 L_89772 f_89773 H locs hr_89774 Y => ?_)
    obtain ⟨v_89775, v_89776, v_89777, v_89778, v_89779, er_89774, I, p_ad_0_0, p_ad_4_0, eT_89780, eP_89781, eL_89782⟩ := hr_89774
    obtain ⟨bfc89782_4, bfc89782_5, bfc89782_6, bfc89782_7, bfc89782_8, bfc89782_12, bfc89782_13, bfc89782_17, bfc89782_18, bfc89782_19, bfc89782_20, bfc89782_25⟩ := obM I p_ad_0_0
    obtain ⟨jTN_89784, TN_89784, LZTN_89784, LFTN_89784⟩ := eL_89782
    obtain ⟨g_89785, p_ad_3_0, o_89786⟩ := I.opi (k := 3) (j := 0) (by decide) rfl
    have p_ad_3_0 : pt L_89772 f_89773 (ad 3 0) (.inl (G.2 0, 2916, .inl g_89785)) := p_ad_3_0
    have o_89787 : (BD r_89774 gA x0 t0 wr wr) g_89785 := (BD_rn o_89786)
    have I := I.castS (sp' := spM PA PI (BD r_89774 gA x0 t0 wr wr) pa) (k := 3) (j := 0) (by decide) p_ad_3_0 (okE_a (g := g_89785) o_89787) pXC
    exact prI (post := fun r L1 f1 => ∃ at92 : Int32, ∃ ps92 : Int32, ∃ tk2 : Int32, ∃ nu2 : Int32, ∃ wd2 : Int64, ∃ wr2 : Int32, ∃ pd2 : Int32, ∃ op92 : Int32, ∃ cg2 : Int32, ∃ iw2 : Int32, bn 0 7 r ∧ SH (spM PA PI (BD r gA x0 t0 wr wr2) pa) nnM G ad L1 f1 ∧ pt L1 f1 (ad 0 0) (.inr (12, [.ref (ad 1 0), .ref (ad 2 0), .ref (ad 3 0), .ref (ad 4 0), .int td, .int fa, .int fp, .int at92, .int ps92, .int tk2, .int nu2, .long wd2, .int t0, .int wr2, .int so, .ref (ad 5 0), .ref (ad 6 0), .int pd2, .int op92, .int cg2, .int iw2, .int on9, .ref (ad 7 0), .ref (ad 8 0), .ref (ad 9 0), .int is9, .ref (ad 10 0), .ref (ad 11 0), .ref (ad 12 0), .ref (ad 13 0), .int se, .ref (ad 14 0)])) ∧ pt L1 f1 (ad 4 0) (.inl (G.2 0, 300, .inl gt)) ∧ TK at92 ps92 tk2 ∧ (r.toInt = 0 → ps9.toInt ≤ ps92.toInt) ∧ (r.toInt = 0 → wr2.toInt ≤ ps92.toInt) ∧ ∃ j, TKN (bI gt) td.toInt.toNat j at92 ps92 tk2 nu2 wd2 ∧ (r.toInt = 0 → LL (tkK (bI gt) td.toInt.toNat) (tkV (bI gt) td.toInt.toNat) S9 j rr) ∧ (0 < r.toInt → rr = (r.toInt, j))) S Y rfl (by decide) (by decide) hA1 ⟨v_89775, v_89776, v_89777, v_89778, v_89779, wr, pd, op9, cg, iw, bn_w er_89774 (by decide), I, p_ad_0_0, p_ad_4_0, eT_89780, (fun _ => (by have c0 := hT.1; have c1 := eT_89780.1; have c2 := eP_89781; omega)), (fun _ => by have z9 := (by have c0 := hT.1; have c1 := eT_89780.1; have c2 := eP_89781; omega); have z8 := hroom; omega), ⟨jTN_89784, TN_89784, LZTN_89784, LFTN_89784⟩⟩ dX12_body_70
  · refine lv_fold (z := 7) h_89706 ?_
    refine lv_tableIn (off := 70) (tgt := 71) hx hb dX12_body_1 (by decide) (by decide) (by decide) (by decide) ?_
    refine lv_aload_n hx hb dX12_body_71 rfl (lv_at hl 0 rfl) ?_
    refine lv_iload_n hx hb dX12_body_72 rfl (lv_at hl 2 rfl) ?_
    refine lv_iconst (v := 1) hx hb dX12_body_73 (by decide) ?_
    refine lv_iadd hx hb dX12_body_74 ?_
    refine lv_topi (fun x_89788 ex_89788 => ?_)
    refine lv_iconst (v := 0) hx hb dX12_body_75 (by decide) ?_
    refine lv_bipush (v := 13) hx hb dX12_body_76 (by decide) ?_
    obtain ⟨g_89789, p_ad_3_0, o_89790⟩ := I.opi (k := 3) (j := 0) (by decide) rfl
    have p_ad_3_0 : pt L f (ad 3 0) (.inl (G.2 0, 2916, .inl g_89789)) := p_ad_3_0
    have o_89791 : (RN gA x0) g_89789 := (RN_eq o_89790 hs (by have z9 := ((bn_eq h_89706 (show bn 7 7 (7 : Int32) from bn_k (by decide)))).1; omega))
    have I := I.castS (sp' := spM PA PI (RN gA x0) pa) (k := 3) (j := 0) (by decide) p_ad_3_0 (okE_a (g := g_89789) o_89791) pXC
    refine cVi (As := [.int x_89788, .int 0, .int 13]) (rest := []) S Y (x_X12_figure (l := l) I p_ad_0_0 p_ad_4_0 (bn_w (bn_eq ex_89788 (bn_add b_i2 (show bn 1 1 (1 : Int32) from bn_k (by decide)) (by decide))) (by decide)) (by have z9 := (la_add ex_89788 (rfl : i2.toInt = i2.toInt) (show (1 : Int32).toInt = 1 from rfl) b_i2 (show bn 1 1 (1 : Int32) from bn_k (by decide)) (by decide)); have z8 := b_i2.1; omega) hT hB hTN (bd_13 hBd (by have z9 := (show i1.toInt = 7 from by rw [h_89706]; rfl); have z8 := hk8; omega)) (by decide)) cw_X12_figure km12_215 p_ad_0_0 ok_X12.1 rfl rfl ⟨Nat.le_of_ble_eq_true rfl, Nat.le_of_ble_eq_true rfl⟩ hl.1 rfl (Nat.le_of_ble_eq_true rfl) ⟨Nat.le_of_ble_eq_true rfl, Nat.le_of_ble_eq_true rfl⟩ dX12_body_78 (fun r_89794 L_89792 f_89793 H locs hr_89794 Y => ?_)
    obtain ⟨v_89795, v_89796, v_89797, v_89798, v_89799, er_89794, I, p_ad_0_0, p_ad_4_0, eT_89800, eP_89801, eL_89802⟩ := hr_89794
    obtain ⟨bfc89802_4, bfc89802_5, bfc89802_6, bfc89802_7, bfc89802_8, bfc89802_12, bfc89802_13, bfc89802_17, bfc89802_18, bfc89802_19, bfc89802_20, bfc89802_25⟩ := obM I p_ad_0_0
    obtain ⟨jTN_89804, TN_89804, LZTN_89804, LFTN_89804⟩ := eL_89802
    obtain ⟨g_89805, p_ad_3_0, o_89806⟩ := I.opi (k := 3) (j := 0) (by decide) rfl
    have p_ad_3_0 : pt L_89792 f_89793 (ad 3 0) (.inl (G.2 0, 2916, .inl g_89805)) := p_ad_3_0
    have o_89807 : (BD r_89794 gA x0 t0 wr wr) g_89805 := (BD_rn o_89806)
    have I := I.castS (sp' := spM PA PI (BD r_89794 gA x0 t0 wr wr) pa) (k := 3) (j := 0) (by decide) p_ad_3_0 (okE_a (g := g_89805) o_89807) pXC
    exact prI (post := fun r L1 f1 => ∃ at92 : Int32, ∃ ps92 : Int32, ∃ tk2 : Int32, ∃ nu2 : Int32, ∃ wd2 : Int64, ∃ wr2 : Int32, ∃ pd2 : Int32, ∃ op92 : Int32, ∃ cg2 : Int32, ∃ iw2 : Int32, bn 0 7 r ∧ SH (spM PA PI (BD r gA x0 t0 wr wr2) pa) nnM G ad L1 f1 ∧ pt L1 f1 (ad 0 0) (.inr (12, [.ref (ad 1 0), .ref (ad 2 0), .ref (ad 3 0), .ref (ad 4 0), .int td, .int fa, .int fp, .int at92, .int ps92, .int tk2, .int nu2, .long wd2, .int t0, .int wr2, .int so, .ref (ad 5 0), .ref (ad 6 0), .int pd2, .int op92, .int cg2, .int iw2, .int on9, .ref (ad 7 0), .ref (ad 8 0), .ref (ad 9 0), .int is9, .ref (ad 10 0), .ref (ad 11 0), .ref (ad 12 0), .ref (ad 13 0), .int se, .ref (ad 14 0)])) ∧ pt L1 f1 (ad 4 0) (.inl (G.2 0, 300, .inl gt)) ∧ TK at92 ps92 tk2 ∧ (r.toInt = 0 → ps9.toInt ≤ ps92.toInt) ∧ (r.toInt = 0 → wr2.toInt ≤ ps92.toInt) ∧ ∃ j, TKN (bI gt) td.toInt.toNat j at92 ps92 tk2 nu2 wd2 ∧ (r.toInt = 0 → LL (tkK (bI gt) td.toInt.toNat) (tkV (bI gt) td.toInt.toNat) S9 j rr) ∧ (0 < r.toInt → rr = (r.toInt, j))) S Y rfl (by decide) (by decide) hA1 ⟨v_89795, v_89796, v_89797, v_89798, v_89799, wr, pd, op9, cg, iw, bn_w er_89794 (by decide), I, p_ad_0_0, p_ad_4_0, eT_89800, (fun _ => (by have c0 := hT.1; have c1 := eT_89800.1; have c2 := eP_89801; omega)), (fun _ => by have z9 := (by have c0 := hT.1; have c1 := eT_89800.1; have c2 := eP_89801; omega); have z8 := hroom; omega), ⟨jTN_89804, TN_89804, LZTN_89804, LFTN_89804⟩⟩ dX12_body_81
  · refine lv_fold (z := 8) h_89706 ?_
    refine lv_tableIn (off := 81) (tgt := 82) hx hb dX12_body_1 (by decide) (by decide) (by decide) (by decide) ?_
    refine lv_aload_n hx hb dX12_body_82 rfl (lv_at hl 0 rfl) ?_
    refine lv_iload_n hx hb dX12_body_83 rfl (lv_at hl 2 rfl) ?_
    refine lv_iconst (v := 1) hx hb dX12_body_84 (by decide) ?_
    refine lv_iadd hx hb dX12_body_85 ?_
    refine lv_topi (fun x_89808 ex_89808 => ?_)
    refine lv_iconst (v := 0) hx hb dX12_body_86 (by decide) ?_
    refine lv_iconst (v := 5) hx hb dX12_body_87 (by decide) ?_
    obtain ⟨g_89809, p_ad_3_0, o_89810⟩ := I.opi (k := 3) (j := 0) (by decide) rfl
    have p_ad_3_0 : pt L f (ad 3 0) (.inl (G.2 0, 2916, .inl g_89809)) := p_ad_3_0
    have o_89811 : (RN gA x0) g_89809 := (RN_eq o_89810 hs (by have z9 := ((bn_eq h_89706 (show bn 8 8 (8 : Int32) from bn_k (by decide)))).1; omega))
    have I := I.castS (sp' := spM PA PI (RN gA x0) pa) (k := 3) (j := 0) (by decide) p_ad_3_0 (okE_a (g := g_89809) o_89811) pXC
    refine cVi (As := [.int x_89808, .int 0, .int 5]) (rest := []) S Y (x_X12_figure (l := l) I p_ad_0_0 p_ad_4_0 (bn_w (bn_eq ex_89808 (bn_add b_i2 (show bn 1 1 (1 : Int32) from bn_k (by decide)) (by decide))) (by decide)) (by have z9 := (la_add ex_89808 (rfl : i2.toInt = i2.toInt) (show (1 : Int32).toInt = 1 from rfl) b_i2 (show bn 1 1 (1 : Int32) from bn_k (by decide)) (by decide)); have z8 := b_i2.1; omega) hT hB hTN (bd_5 hBd (by have z9 := (show i1.toInt = 8 from by rw [h_89706]; rfl); have z8 := hk8; omega)) (by decide)) cw_X12_figure km12_215 p_ad_0_0 ok_X12.1 rfl rfl ⟨Nat.le_of_ble_eq_true rfl, Nat.le_of_ble_eq_true rfl⟩ hl.1 rfl (Nat.le_of_ble_eq_true rfl) ⟨Nat.le_of_ble_eq_true rfl, Nat.le_of_ble_eq_true rfl⟩ dX12_body_88 (fun r_89814 L_89812 f_89813 H locs hr_89814 Y => ?_)
    obtain ⟨v_89815, v_89816, v_89817, v_89818, v_89819, er_89814, I, p_ad_0_0, p_ad_4_0, eT_89820, eP_89821, eL_89822⟩ := hr_89814
    obtain ⟨bfc89822_4, bfc89822_5, bfc89822_6, bfc89822_7, bfc89822_8, bfc89822_12, bfc89822_13, bfc89822_17, bfc89822_18, bfc89822_19, bfc89822_20, bfc89822_25⟩ := obM I p_ad_0_0
    obtain ⟨jTN_89824, TN_89824, LZTN_89824, LFTN_89824⟩ := eL_89822
    obtain ⟨g_89825, p_ad_3_0, o_89826⟩ := I.opi (k := 3) (j := 0) (by decide) rfl
    have p_ad_3_0 : pt L_89812 f_89813 (ad 3 0) (.inl (G.2 0, 2916, .inl g_89825)) := p_ad_3_0
    have o_89827 : (BD r_89814 gA x0 t0 wr wr) g_89825 := (BD_rn o_89826)
    have I := I.castS (sp' := spM PA PI (BD r_89814 gA x0 t0 wr wr) pa) (k := 3) (j := 0) (by decide) p_ad_3_0 (okE_a (g := g_89825) o_89827) pXC
    exact prI (post := fun r L1 f1 => ∃ at92 : Int32, ∃ ps92 : Int32, ∃ tk2 : Int32, ∃ nu2 : Int32, ∃ wd2 : Int64, ∃ wr2 : Int32, ∃ pd2 : Int32, ∃ op92 : Int32, ∃ cg2 : Int32, ∃ iw2 : Int32, bn 0 7 r ∧ SH (spM PA PI (BD r gA x0 t0 wr wr2) pa) nnM G ad L1 f1 ∧ pt L1 f1 (ad 0 0) (.inr (12, [.ref (ad 1 0), .ref (ad 2 0), .ref (ad 3 0), .ref (ad 4 0), .int td, .int fa, .int fp, .int at92, .int ps92, .int tk2, .int nu2, .long wd2, .int t0, .int wr2, .int so, .ref (ad 5 0), .ref (ad 6 0), .int pd2, .int op92, .int cg2, .int iw2, .int on9, .ref (ad 7 0), .ref (ad 8 0), .ref (ad 9 0), .int is9, .ref (ad 10 0), .ref (ad 11 0), .ref (ad 12 0), .ref (ad 13 0), .int se, .ref (ad 14 0)])) ∧ pt L1 f1 (ad 4 0) (.inl (G.2 0, 300, .inl gt)) ∧ TK at92 ps92 tk2 ∧ (r.toInt = 0 → ps9.toInt ≤ ps92.toInt) ∧ (r.toInt = 0 → wr2.toInt ≤ ps92.toInt) ∧ ∃ j, TKN (bI gt) td.toInt.toNat j at92 ps92 tk2 nu2 wd2 ∧ (r.toInt = 0 → LL (tkK (bI gt) td.toInt.toNat) (tkV (bI gt) td.toInt.toNat) S9 j rr) ∧ (0 < r.toInt → rr = (r.toInt, j))) S Y rfl (by decide) (by decide) hA1 ⟨v_89815, v_89816, v_89817, v_89818, v_89819, wr, pd, op9, cg, iw, bn_w er_89814 (by decide), I, p_ad_0_0, p_ad_4_0, eT_89820, (fun _ => (by have c0 := hT.1; have c1 := eT_89820.1; have c2 := eP_89821; omega)), (fun _ => by have z9 := (by have c0 := hT.1; have c1 := eT_89820.1; have c2 := eP_89821; omega); have z8 := hroom; omega), ⟨jTN_89824, TN_89824, LZTN_89824, LFTN_89824⟩⟩ dX12_body_91
  · refine lv_fold (z := 9) h_89706 ?_
    refine lv_tableIn (off := 91) (tgt := 92) hx hb dX12_body_1 (by decide) (by decide) (by decide) (by decide) ?_
    refine lv_aload_n hx hb dX12_body_92 rfl (lv_at hl 0 rfl) ?_
    refine lv_iload_n hx hb dX12_body_93 rfl (lv_at hl 2 rfl) ?_
    refine lv_iconst (v := 1) hx hb dX12_body_94 (by decide) ?_
    refine lv_iadd hx hb dX12_body_95 ?_
    refine lv_topi (fun x_89828 ex_89828 => ?_)
    refine lv_iconst (v := 0) hx hb dX12_body_96 (by decide) ?_
    refine lv_iconst (v := 5) hx hb dX12_body_97 (by decide) ?_
    obtain ⟨g_89829, p_ad_3_0, o_89830⟩ := I.opi (k := 3) (j := 0) (by decide) rfl
    have p_ad_3_0 : pt L f (ad 3 0) (.inl (G.2 0, 2916, .inl g_89829)) := p_ad_3_0
    have o_89831 : (RN gA x0) g_89829 := (RN_eq o_89830 hs (by have z9 := ((bn_eq h_89706 (show bn 9 9 (9 : Int32) from bn_k (by decide)))).1; omega))
    have I := I.castS (sp' := spM PA PI (RN gA x0) pa) (k := 3) (j := 0) (by decide) p_ad_3_0 (okE_a (g := g_89829) o_89831) pXC
    refine cVi (As := [.int x_89828, .int 0, .int 5]) (rest := []) S Y (x_X12_figure (l := l) I p_ad_0_0 p_ad_4_0 (bn_w (bn_eq ex_89828 (bn_add b_i2 (show bn 1 1 (1 : Int32) from bn_k (by decide)) (by decide))) (by decide)) (by have z9 := (la_add ex_89828 (rfl : i2.toInt = i2.toInt) (show (1 : Int32).toInt = 1 from rfl) b_i2 (show bn 1 1 (1 : Int32) from bn_k (by decide)) (by decide)); have z8 := b_i2.1; omega) hT hB hTN (bd_5 hBd (by have z9 := (show i1.toInt = 9 from by rw [h_89706]; rfl); have z8 := hk8; omega)) (by decide)) cw_X12_figure km12_215 p_ad_0_0 ok_X12.1 rfl rfl ⟨Nat.le_of_ble_eq_true rfl, Nat.le_of_ble_eq_true rfl⟩ hl.1 rfl (Nat.le_of_ble_eq_true rfl) ⟨Nat.le_of_ble_eq_true rfl, Nat.le_of_ble_eq_true rfl⟩ dX12_body_98 (fun r_89834 L_89832 f_89833 H locs hr_89834 Y => ?_)
    obtain ⟨v_89835, v_89836, v_89837, v_89838, v_89839, er_89834, I, p_ad_0_0, p_ad_4_0, eT_89840, eP_89841, eL_89842⟩ := hr_89834
    obtain ⟨bfc89842_4, bfc89842_5, bfc89842_6, bfc89842_7, bfc89842_8, bfc89842_12, bfc89842_13, bfc89842_17, bfc89842_18, bfc89842_19, bfc89842_20, bfc89842_25⟩ := obM I p_ad_0_0
    obtain ⟨jTN_89844, TN_89844, LZTN_89844, LFTN_89844⟩ := eL_89842
    obtain ⟨g_89845, p_ad_3_0, o_89846⟩ := I.opi (k := 3) (j := 0) (by decide) rfl
    have p_ad_3_0 : pt L_89832 f_89833 (ad 3 0) (.inl (G.2 0, 2916, .inl g_89845)) := p_ad_3_0
    have o_89847 : (BD r_89834 gA x0 t0 wr wr) g_89845 := (BD_rn o_89846)
    have I := I.castS (sp' := spM PA PI (BD r_89834 gA x0 t0 wr wr) pa) (k := 3) (j := 0) (by decide) p_ad_3_0 (okE_a (g := g_89845) o_89847) pXC
    exact prI (post := fun r L1 f1 => ∃ at92 : Int32, ∃ ps92 : Int32, ∃ tk2 : Int32, ∃ nu2 : Int32, ∃ wd2 : Int64, ∃ wr2 : Int32, ∃ pd2 : Int32, ∃ op92 : Int32, ∃ cg2 : Int32, ∃ iw2 : Int32, bn 0 7 r ∧ SH (spM PA PI (BD r gA x0 t0 wr wr2) pa) nnM G ad L1 f1 ∧ pt L1 f1 (ad 0 0) (.inr (12, [.ref (ad 1 0), .ref (ad 2 0), .ref (ad 3 0), .ref (ad 4 0), .int td, .int fa, .int fp, .int at92, .int ps92, .int tk2, .int nu2, .long wd2, .int t0, .int wr2, .int so, .ref (ad 5 0), .ref (ad 6 0), .int pd2, .int op92, .int cg2, .int iw2, .int on9, .ref (ad 7 0), .ref (ad 8 0), .ref (ad 9 0), .int is9, .ref (ad 10 0), .ref (ad 11 0), .ref (ad 12 0), .ref (ad 13 0), .int se, .ref (ad 14 0)])) ∧ pt L1 f1 (ad 4 0) (.inl (G.2 0, 300, .inl gt)) ∧ TK at92 ps92 tk2 ∧ (r.toInt = 0 → ps9.toInt ≤ ps92.toInt) ∧ (r.toInt = 0 → wr2.toInt ≤ ps92.toInt) ∧ ∃ j, TKN (bI gt) td.toInt.toNat j at92 ps92 tk2 nu2 wd2 ∧ (r.toInt = 0 → LL (tkK (bI gt) td.toInt.toNat) (tkV (bI gt) td.toInt.toNat) S9 j rr) ∧ (0 < r.toInt → rr = (r.toInt, j))) S Y rfl (by decide) (by decide) hA1 ⟨v_89835, v_89836, v_89837, v_89838, v_89839, wr, pd, op9, cg, iw, bn_w er_89834 (by decide), I, p_ad_0_0, p_ad_4_0, eT_89840, (fun _ => (by have c0 := hT.1; have c1 := eT_89840.1; have c2 := eP_89841; omega)), (fun _ => by have z9 := (by have c0 := hT.1; have c1 := eT_89840.1; have c2 := eP_89841; omega); have z8 := hroom; omega), ⟨jTN_89844, TN_89844, LZTN_89844, LFTN_89844⟩⟩ dX12_body_101
  · refine lv_fold (z := 10) h_89706 ?_
    refine lv_tableIn (off := 101) (tgt := 102) hx hb dX12_body_1 (by decide) (by decide) (by decide) (by decide) ?_
    refine lv_aload_n hx hb dX12_body_102 rfl (lv_at hl 0 rfl) ?_
    refine lv_iload_n hx hb dX12_body_103 rfl (lv_at hl 2 rfl) ?_
    refine lv_iconst (v := 1) hx hb dX12_body_104 (by decide) ?_
    refine lv_iadd hx hb dX12_body_105 ?_
    refine lv_topi (fun x_89848 ex_89848 => ?_)
    refine lv_iconst (v := 1) hx hb dX12_body_106 (by decide) ?_
    refine lv_bipush (v := 60) hx hb dX12_body_107 (by decide) ?_
    obtain ⟨g_89849, p_ad_3_0, o_89850⟩ := I.opi (k := 3) (j := 0) (by decide) rfl
    have p_ad_3_0 : pt L f (ad 3 0) (.inl (G.2 0, 2916, .inl g_89849)) := p_ad_3_0
    have o_89851 : (RN gA x0) g_89849 := (RN_eq o_89850 hs (by have z9 := ((bn_eq h_89706 (show bn 10 10 (10 : Int32) from bn_k (by decide)))).1; omega))
    have I := I.castS (sp' := spM PA PI (RN gA x0) pa) (k := 3) (j := 0) (by decide) p_ad_3_0 (okE_a (g := g_89849) o_89851) pXC
    refine cVi (As := [.int x_89848, .int 1, .int 60]) (rest := []) S Y (x_X12_figure (l := l) I p_ad_0_0 p_ad_4_0 (bn_w (bn_eq ex_89848 (bn_add b_i2 (show bn 1 1 (1 : Int32) from bn_k (by decide)) (by decide))) (by decide)) (by have z9 := (la_add ex_89848 (rfl : i2.toInt = i2.toInt) (show (1 : Int32).toInt = 1 from rfl) b_i2 (show bn 1 1 (1 : Int32) from bn_k (by decide)) (by decide)); have z8 := b_i2.1; omega) hT hB hTN (bd_60 hBd (by have z9 := (show i1.toInt = 10 from by rw [h_89706]; rfl); have z8 := hk8; omega)) (by decide)) cw_X12_figure km12_215 p_ad_0_0 ok_X12.1 rfl rfl ⟨Nat.le_of_ble_eq_true rfl, Nat.le_of_ble_eq_true rfl⟩ hl.1 rfl (Nat.le_of_ble_eq_true rfl) ⟨Nat.le_of_ble_eq_true rfl, Nat.le_of_ble_eq_true rfl⟩ dX12_body_109 (fun r_89854 L_89852 f_89853 H locs hr_89854 Y => ?_)
    obtain ⟨v_89855, v_89856, v_89857, v_89858, v_89859, er_89854, I, p_ad_0_0, p_ad_4_0, eT_89860, eP_89861, eL_89862⟩ := hr_89854
    obtain ⟨bfc89862_4, bfc89862_5, bfc89862_6, bfc89862_7, bfc89862_8, bfc89862_12, bfc89862_13, bfc89862_17, bfc89862_18, bfc89862_19, bfc89862_20, bfc89862_25⟩ := obM I p_ad_0_0
    obtain ⟨jTN_89864, TN_89864, LZTN_89864, LFTN_89864⟩ := eL_89862
    obtain ⟨g_89865, p_ad_3_0, o_89866⟩ := I.opi (k := 3) (j := 0) (by decide) rfl
    have p_ad_3_0 : pt L_89852 f_89853 (ad 3 0) (.inl (G.2 0, 2916, .inl g_89865)) := p_ad_3_0
    have o_89867 : (BD r_89854 gA x0 t0 wr wr) g_89865 := (BD_rn o_89866)
    have I := I.castS (sp' := spM PA PI (BD r_89854 gA x0 t0 wr wr) pa) (k := 3) (j := 0) (by decide) p_ad_3_0 (okE_a (g := g_89865) o_89867) pXC
    exact prI (post := fun r L1 f1 => ∃ at92 : Int32, ∃ ps92 : Int32, ∃ tk2 : Int32, ∃ nu2 : Int32, ∃ wd2 : Int64, ∃ wr2 : Int32, ∃ pd2 : Int32, ∃ op92 : Int32, ∃ cg2 : Int32, ∃ iw2 : Int32, bn 0 7 r ∧ SH (spM PA PI (BD r gA x0 t0 wr wr2) pa) nnM G ad L1 f1 ∧ pt L1 f1 (ad 0 0) (.inr (12, [.ref (ad 1 0), .ref (ad 2 0), .ref (ad 3 0), .ref (ad 4 0), .int td, .int fa, .int fp, .int at92, .int ps92, .int tk2, .int nu2, .long wd2, .int t0, .int wr2, .int so, .ref (ad 5 0), .ref (ad 6 0), .int pd2, .int op92, .int cg2, .int iw2, .int on9, .ref (ad 7 0), .ref (ad 8 0), .ref (ad 9 0), .int is9, .ref (ad 10 0), .ref (ad 11 0), .ref (ad 12 0), .ref (ad 13 0), .int se, .ref (ad 14 0)])) ∧ pt L1 f1 (ad 4 0) (.inl (G.2 0, 300, .inl gt)) ∧ TK at92 ps92 tk2 ∧ (r.toInt = 0 → ps9.toInt ≤ ps92.toInt) ∧ (r.toInt = 0 → wr2.toInt ≤ ps92.toInt) ∧ ∃ j, TKN (bI gt) td.toInt.toNat j at92 ps92 tk2 nu2 wd2 ∧ (r.toInt = 0 → LL (tkK (bI gt) td.toInt.toNat) (tkV (bI gt) td.toInt.toNat) S9 j rr) ∧ (0 < r.toInt → rr = (r.toInt, j))) S Y rfl (by decide) (by decide) hA1 ⟨v_89855, v_89856, v_89857, v_89858, v_89859, wr, pd, op9, cg, iw, bn_w er_89854 (by decide), I, p_ad_0_0, p_ad_4_0, eT_89860, (fun _ => (by have c0 := hT.1; have c1 := eT_89860.1; have c2 := eP_89861; omega)), (fun _ => by have z9 := (by have c0 := hT.1; have c1 := eT_89860.1; have c2 := eP_89861; omega); have z8 := hroom; omega), ⟨jTN_89864, TN_89864, LZTN_89864, LFTN_89864⟩⟩ dX12_body_112
  · refine lv_tableOut (tgt := 113) hx hb dX12_body_1 h_89706 (by decide) ?_
    refine lv_aload_n hx hb dX12_body_113 rfl (lv_at hl 0 rfl) ?_
    refine lv_iload_n hx hb dX12_body_114 rfl (lv_at hl 2 rfl) ?_
    obtain ⟨g_89868, p_ad_3_0, o_89869⟩ := I.opi (k := 3) (j := 0) (by decide) rfl
    have p_ad_3_0 : pt L f (ad 3 0) (.inl (G.2 0, 2916, .inl g_89868)) := p_ad_3_0
    refine cVi (As := [.int i2]) (rest := []) S Y (x_X12_lawClause (l := l) I p_ad_0_0 p_ad_4_0 (bn_w b_i2 (by decide)) hx0 hxt hroom hT hB hTN (by rw [decide_eq_true_iff]; exact hs8.symm) (bd_law hBd (show k8 < 3 from by have z9 := h_89706; have z8 := hk8; omega))) cw_X12_lawClause km12_232 p_ad_0_0 ok_X12.1 rfl rfl ⟨Nat.le_of_ble_eq_true rfl, Nat.le_of_ble_eq_true rfl⟩ hl.1 rfl (Nat.le_of_ble_eq_true rfl) ⟨Nat.le_of_ble_eq_true rfl, Nat.le_of_ble_eq_true rfl⟩ dX12_body_115 (fun r_89872 L_89870 f_89871 H locs hr_89872 Y => ?_)
    obtain ⟨v_89873, v_89874, v_89875, v_89876, v_89877, v_89878, v_89879, v_89880, v_89881, v_89882, er_89872, I, p_ad_0_0, p_ad_4_0, eT_89883, eQ_89884, eW_89885, eL_89886⟩ := hr_89872
    obtain ⟨bfc89886_4, bfc89886_5, bfc89886_6, bfc89886_7, bfc89886_8, bfc89886_12, bfc89886_13, bfc89886_17, bfc89886_18, bfc89886_19, bfc89886_20, bfc89886_25⟩ := obM I p_ad_0_0
    obtain ⟨g_89888, p_ad_3_0, o_89889⟩ := I.opi (k := 3) (j := 0) (by decide) rfl
    have p_ad_3_0 : pt L_89870 f_89871 (ad 3 0) (.inl (G.2 0, 2916, .inl g_89888)) := p_ad_3_0
    have o_89890 : (BD r_89872 gA x0 t0 wr v_89878) g_89888 := (BD_lc o_89889)
    have I := I.castS (sp' := spM PA PI (BD r_89872 gA x0 t0 wr v_89878) pa) (k := 3) (j := 0) (by decide) p_ad_3_0 (okE_a (g := g_89888) o_89890) pXC
    exact prI (post := fun r L1 f1 => ∃ at92 : Int32, ∃ ps92 : Int32, ∃ tk2 : Int32, ∃ nu2 : Int32, ∃ wd2 : Int64, ∃ wr2 : Int32, ∃ pd2 : Int32, ∃ op92 : Int32, ∃ cg2 : Int32, ∃ iw2 : Int32, bn 0 7 r ∧ SH (spM PA PI (BD r gA x0 t0 wr wr2) pa) nnM G ad L1 f1 ∧ pt L1 f1 (ad 0 0) (.inr (12, [.ref (ad 1 0), .ref (ad 2 0), .ref (ad 3 0), .ref (ad 4 0), .int td, .int fa, .int fp, .int at92, .int ps92, .int tk2, .int nu2, .long wd2, .int t0, .int wr2, .int so, .ref (ad 5 0), .ref (ad 6 0), .int pd2, .int op92, .int cg2, .int iw2, .int on9, .ref (ad 7 0), .ref (ad 8 0), .ref (ad 9 0), .int is9, .ref (ad 10 0), .ref (ad 11 0), .ref (ad 12 0), .ref (ad 13 0), .int se, .ref (ad 14 0)])) ∧ pt L1 f1 (ad 4 0) (.inl (G.2 0, 300, .inl gt)) ∧ TK at92 ps92 tk2 ∧ (r.toInt = 0 → ps9.toInt ≤ ps92.toInt) ∧ (r.toInt = 0 → wr2.toInt ≤ ps92.toInt) ∧ ∃ j, TKN (bI gt) td.toInt.toNat j at92 ps92 tk2 nu2 wd2 ∧ (r.toInt = 0 → LL (tkK (bI gt) td.toInt.toNat) (tkV (bI gt) td.toInt.toNat) S9 j rr) ∧ (0 < r.toInt → rr = (r.toInt, j))) S Y rfl (by decide) (by decide) hA1 ⟨v_89873, v_89874, v_89875, v_89876, v_89877, v_89878, v_89879, v_89880, v_89881, v_89882, bn_w er_89872 (by decide), I, p_ad_0_0, p_ad_4_0, eT_89883, eQ_89884, eW_89885, eL_89886⟩ dX12_body_118
