theorem dX3_combine_0 : decode cX3_combine 0 = .ok (.iload_n 1, 1) := by decide +kernel
theorem dX3_combine_1 : decode cX3_combine 1 = .ok (.iconst 5, 1) := by decide +kernel
theorem dX3_combine_2 : decode cX3_combine 2 = .ok (.if_icmp .ne 16, 3) := by decide +kernel
theorem dX3_combine_18 : decode cX3_combine 18 = .ok (.iload_n 1, 1) := by decide +kernel
theorem dX3_combine_19 : decode cX3_combine 19 = .ok (.bipush 6, 2) := by decide +kernel
theorem dX3_combine_21 : decode cX3_combine 21 = .ok (.if_icmp .ne 17, 3) := by decide +kernel
theorem dX3_combine_38 : decode cX3_combine 38 = .ok (.iload_n 1, 1) := by decide +kernel
theorem dX3_combine_39 : decode cX3_combine 39 = .ok (.bipush 7, 2) := by decide +kernel
theorem dX3_combine_41 : decode cX3_combine 41 = .ok (.if_icmp .ne 44, 3) := by decide +kernel
theorem dX3_combine_85 : decode cX3_combine 85 = .ok (.aload_n 0, 1) := by decide +kernel
theorem dX3_combine_86 : decode cX3_combine 86 = .ok (.invokevirtual 118, 3) := by decide +kernel
theorem cw_X3_pop : CWv yX3_pop cX3_pop 1 (some .int) 0 := ⟨⟨⟨List.mem_of_getElem? (i := 131) (by decide +kernel), by decide +kernel⟩, ⟨List.mem_of_getElem? (i := 995) (by decide +kernel), by decide +kernel⟩, by decide +kernel⟩, ⟨List.mem_of_getElem? (i := 994) (by decide +kernel), by decide +kernel⟩, ⟨List.mem_of_getElem? (i := 31) (by decide +kernel), by decide +kernel⟩⟩
theorem km3_118 : inW (Cond.methodLink RX3 118 yX3_pop) := ⟨List.mem_of_getElem? (i := 992) (by decide +kernel), by decide +kernel⟩
theorem dX3_combine_89 : decode cX3_combine 89 = .ok (.i2l, 1) := by decide +kernel
theorem dX3_combine_90 : decode cX3_combine 90 = .ok (.lstore_n 3, 1) := by decide +kernel
theorem dX3_combine_91 : decode cX3_combine 91 = .ok (.aload_n 0, 1) := by decide +kernel
theorem dX3_combine_92 : decode cX3_combine 92 = .ok (.invokevirtual 118, 3) := by decide +kernel
theorem dX3_combine_95 : decode cX3_combine 95 = .ok (.i2l, 1) := by decide +kernel
theorem dX3_combine_96 : decode cX3_combine 96 = .ok (.lstore 5, 2) := by decide +kernel
theorem dX3_combine_98 : decode cX3_combine 98 = .ok (.aload_n 0, 1) := by decide +kernel
theorem dX3_combine_99 : decode cX3_combine 99 = .ok (.iload_n 1, 1) := by decide +kernel
theorem dX3_combine_100 : decode cX3_combine 100 = .ok (.lload 5, 2) := by decide +kernel
theorem dX3_combine_102 : decode cX3_combine 102 = .ok (.lload_n 3, 1) := by decide +kernel
theorem dX3_combine_103 : decode cX3_combine 103 = .ok (.invokestatic 136, 3) := by decide +kernel
theorem cw_X3_joined : CWs yX3_joined cX3_joined 5 (some .long) 3 := ⟨⟨⟨List.mem_of_getElem? (i := 131) (by decide +kernel), by decide +kernel⟩, ⟨List.mem_of_getElem? (i := 1010) (by decide +kernel), by decide +kernel⟩, by decide +kernel⟩, ⟨List.mem_of_getElem? (i := 1009) (by decide +kernel), by decide +kernel⟩⟩
theorem km3_136 : inW (Cond.methodLink RX3 136 yX3_joined) := ⟨List.mem_of_getElem? (i := 1008) (by decide +kernel), by decide +kernel⟩
theorem dX3_combine_106 : decode cX3_combine 106 = .ok (.invokevirtual 110, 3) := by decide +kernel
theorem cw_X3_push : CWv yX3_push cX3_push 5 none 1 := ⟨⟨⟨List.mem_of_getElem? (i := 131) (by decide +kernel), by decide +kernel⟩, ⟨List.mem_of_getElem? (i := 981) (by decide +kernel), by decide +kernel⟩, by decide +kernel⟩, ⟨List.mem_of_getElem? (i := 980) (by decide +kernel), by decide +kernel⟩, ⟨List.mem_of_getElem? (i := 29) (by decide +kernel), by decide +kernel⟩⟩
theorem km3_110 : inW (Cond.methodLink RX3 110 yX3_push) := ⟨List.mem_of_getElem? (i := 978) (by decide +kernel), by decide +kernel⟩
theorem dX3_combine_109 : decode cX3_combine 109 = .ok (.return_, 1) := by decide +kernel
theorem dX3_combine_44 : decode cX3_combine 44 = .ok (.iconst 0, 1) := by decide +kernel
theorem dX3_combine_45 : decode cX3_combine 45 = .ok (.istore_n 3, 1) := by decide +kernel
theorem dX3_combine_46 : decode cX3_combine 46 = .ok (.iconst 0, 1) := by decide +kernel
theorem dX3_combine_47 : decode cX3_combine 47 = .ok (.istore 4, 2) := by decide +kernel
theorem dX3_combine_24 : decode cX3_combine 24 = .ok (.aload_n 0, 1) := by decide +kernel
theorem dX3_combine_25 : decode cX3_combine 25 = .ok (.iconst 1, 1) := by decide +kernel
theorem dX3_combine_26 : decode cX3_combine 26 = .ok (.aload_n 0, 1) := by decide +kernel
theorem dX3_combine_27 : decode cX3_combine 27 = .ok (.invokevirtual 118, 3) := by decide +kernel
theorem dX3_combine_30 : decode cX3_combine 30 = .ok (.isub, 1) := by decide +kernel
theorem dX3_combine_31 : decode cX3_combine 31 = .ok (.i2l, 1) := by decide +kernel
theorem dX3_combine_32 : decode cX3_combine 32 = .ok (.invokevirtual 110, 3) := by decide +kernel
theorem dX3_combine_35 : decode cX3_combine 35 = .ok (.goto 74, 3) := by decide +kernel
theorem dX3_combine_5 : decode cX3_combine 5 = .ok (.aload_n 0, 1) := by decide +kernel
theorem dX3_combine_6 : decode cX3_combine 6 = .ok (.aload_n 0, 1) := by decide +kernel
theorem dX3_combine_7 : decode cX3_combine 7 = .ok (.invokevirtual 118, 3) := by decide +kernel
theorem dX3_combine_10 : decode cX3_combine 10 = .ok (.ineg, 1) := by decide +kernel
theorem dX3_combine_11 : decode cX3_combine 11 = .ok (.i2l, 1) := by decide +kernel
theorem dX3_combine_12 : decode cX3_combine 12 = .ok (.invokevirtual 110, 3) := by decide +kernel
theorem dX3_combine_15 : decode cX3_combine 15 = .ok (.goto 94, 3) := by decide +kernel
theorem dX3_combine_49 : decode cX3_combine 49 = .ok (.iload 4, 2) := by decide +kernel
theorem dX3_combine_51 : decode cX3_combine 51 = .ok (.iload_n 2, 1) := by decide +kernel
theorem dX3_combine_52 : decode cX3_combine 52 = .ok (.if_icmp .ge 16, 3) := by decide +kernel
theorem dX3_combine_68 : decode cX3_combine 68 = .ok (.aload_n 0, 1) := by decide +kernel
theorem dX3_combine_69 : decode cX3_combine 69 = .ok (.iload_n 3, 1) := by decide +kernel
theorem dX3_combine_70 : decode cX3_combine 70 = .ok (.iconst 1, 1) := by decide +kernel
theorem dX3_combine_71 : decode cX3_combine 71 = .ok (.if_icmp .ne 7, 3) := by decide +kernel
theorem dX3_combine_78 : decode cX3_combine 78 = .ok (.lconst 0, 1) := by decide +kernel
theorem dX3_combine_79 : decode cX3_combine 79 = .ok (.invokevirtual 110, 3) := by decide +kernel
theorem dX3_combine_82 : decode cX3_combine 82 = .ok (.goto 27, 3) := by decide +kernel
theorem dX3_combine_55 : decode cX3_combine 55 = .ok (.iload_n 3, 1) := by decide +kernel
theorem dX3_combine_56 : decode cX3_combine 56 = .ok (.aload_n 0, 1) := by decide +kernel
theorem dX3_combine_57 : decode cX3_combine 57 = .ok (.invokevirtual 118, 3) := by decide +kernel
theorem dX3_combine_60 : decode cX3_combine 60 = .ok (.iadd, 1) := by decide +kernel
theorem dX3_combine_61 : decode cX3_combine 61 = .ok (.istore_n 3, 1) := by decide +kernel
theorem dX3_combine_62 : decode cX3_combine 62 = .ok (.iinc 4 1, 3) := by decide +kernel
theorem dX3_combine_65 : decode cX3_combine 65 = .ok (.goto (-16), 3) := by decide +kernel
theorem dX3_combine_74 : decode cX3_combine 74 = .ok (.lconst 1, 1) := by decide +kernel
theorem dX3_combine_75 : decode cX3_combine 75 = .ok (.goto 4, 3) := by decide +kernel
theorem dX3_work_0 : decode cX3_work 0 = .ok (.aload_n 1, 1) := by decide +kernel
theorem dX3_work_1 : decode cX3_work 1 = .ok (.iload_n 2, 1) := by decide +kernel
theorem dX3_work_2 : decode cX3_work 2 = .ok (.invokevirtual 95, 3) := by decide +kernel
theorem cw_X7_lawStart : CWv yX7_lawStart cX7_lawStart 2 (some .int) 1 := ⟨⟨⟨List.mem_of_getElem? (i := 129) (by decide +kernel), by decide +kernel⟩, ⟨List.mem_of_getElem? (i := 965) (by decide +kernel), by decide +kernel⟩, by decide +kernel⟩, ⟨List.mem_of_getElem? (i := 963) (by decide +kernel), by decide +kernel⟩, ⟨List.mem_of_getElem? (i := 964) (by decide +kernel), by decide +kernel⟩⟩
theorem km3_95 : inW (Cond.methodLink RX3 95 yX7_lawStart) := ⟨List.mem_of_getElem? (i := 962) (by decide +kernel), by decide +kernel⟩
theorem dX3_work_5 : decode cX3_work 5 = .ok (.istore 6, 2) := by decide +kernel
theorem dX3_work_7 : decode cX3_work 7 = .ok (.aload_n 1, 1) := by decide +kernel
theorem dX3_work_8 : decode cX3_work 8 = .ok (.iload_n 2, 1) := by decide +kernel
theorem dX3_work_9 : decode cX3_work 9 = .ok (.invokevirtual 98, 3) := by decide +kernel
theorem cw_X7_lawEnd : CWv yX7_lawEnd cX7_lawEnd 2 (some .int) 1 := ⟨⟨⟨List.mem_of_getElem? (i := 129) (by decide +kernel), by decide +kernel⟩, ⟨List.mem_of_getElem? (i := 969) (by decide +kernel), by decide +kernel⟩, by decide +kernel⟩, ⟨List.mem_of_getElem? (i := 967) (by decide +kernel), by decide +kernel⟩, ⟨List.mem_of_getElem? (i := 968) (by decide +kernel), by decide +kernel⟩⟩
theorem km3_98 : inW (Cond.methodLink RX3 98 yX7_lawEnd) := ⟨List.mem_of_getElem? (i := 966) (by decide +kernel), by decide +kernel⟩
theorem dX3_work_12 : decode cX3_work 12 = .ok (.istore 7, 2) := by decide +kernel
theorem dX3_work_14 : decode cX3_work 14 = .ok (.aload_n 0, 1) := by decide +kernel
theorem dX3_work_15 : decode cX3_work 15 = .ok (.iconst 0, 1) := by decide +kernel
theorem dX3_work_16 : decode cX3_work 16 = .ok (.putfield 101, 3) := by decide +kernel
theorem dX3_work_19 : decode cX3_work 19 = .ok (.iconst 0, 1) := by decide +kernel
theorem dX3_work_20 : decode cX3_work 20 = .ok (.istore 8, 2) := by decide +kernel
theorem dX3_work_22 : decode cX3_work 22 = .ok (.iload 8, 2) := by decide +kernel
theorem dX3_work_24 : decode cX3_work 24 = .ok (.sipush 300, 3) := by decide +kernel
theorem dX3_work_27 : decode cX3_work 27 = .ok (.if_icmp .ge 137, 3) := by decide +kernel
theorem dX3_work_30 : decode cX3_work 30 = .ok (.iload 6, 2) := by decide +kernel
theorem dX3_work_32 : decode cX3_work 32 = .ok (.iload 7, 2) := by decide +kernel
theorem dX3_work_34 : decode cX3_work 34 = .ok (.if_icmp .ge 130, 3) := by decide +kernel
theorem dX3_work_164 : decode cX3_work 164 = .ok (.aload_n 0, 1) := by decide +kernel
theorem dX3_work_165 : decode cX3_work 165 = .ok (.invokevirtual 118, 3) := by decide +kernel
theorem dX3_work_168 : decode cX3_work 168 = .ok (.ireturn, 1) := by decide +kernel
theorem dX3_work_37 : decode cX3_work 37 = .ok (.aload_n 1, 1) := by decide +kernel
theorem dX3_work_38 : decode cX3_work 38 = .ok (.iload 6, 2) := by decide +kernel
theorem dX3_work_40 : decode cX3_work 40 = .ok (.invokevirtual 104, 3) := by decide +kernel
theorem cw_X7_doing : CWv yX7_doing cX7_doing 2 (some .int) 1 := ⟨⟨⟨List.mem_of_getElem? (i := 129) (by decide +kernel), by decide +kernel⟩, ⟨List.mem_of_getElem? (i := 973) (by decide +kernel), by decide +kernel⟩, by decide +kernel⟩, ⟨List.mem_of_getElem? (i := 971) (by decide +kernel), by decide +kernel⟩, ⟨List.mem_of_getElem? (i := 972) (by decide +kernel), by decide +kernel⟩⟩
theorem km3_104 : inW (Cond.methodLink RX3 104 yX7_doing) := ⟨List.mem_of_getElem? (i := 970) (by decide +kernel), by decide +kernel⟩
theorem dX3_work_43 : decode cX3_work 43 = .ok (.istore 9, 2) := by decide +kernel
theorem dX3_work_45 : decode cX3_work 45 = .ok (.aload_n 1, 1) := by decide +kernel
theorem dX3_work_46 : decode cX3_work 46 = .ok (.iload 6, 2) := by decide +kernel
theorem dX3_work_48 : decode cX3_work 48 = .ok (.invokevirtual 107, 3) := by decide +kernel
theorem cw_X7_number : CWv yX7_number cX7_number 2 (some .int) 1 := ⟨⟨⟨List.mem_of_getElem? (i := 129) (by decide +kernel), by decide +kernel⟩, ⟨List.mem_of_getElem? (i := 977) (by decide +kernel), by decide +kernel⟩, by decide +kernel⟩, ⟨List.mem_of_getElem? (i := 975) (by decide +kernel), by decide +kernel⟩, ⟨List.mem_of_getElem? (i := 976) (by decide +kernel), by decide +kernel⟩⟩
theorem km3_107 : inW (Cond.methodLink RX3 107 yX7_number) := ⟨List.mem_of_getElem? (i := 974) (by decide +kernel), by decide +kernel⟩
theorem dX3_work_51 : decode cX3_work 51 = .ok (.istore 10, 2) := by decide +kernel
theorem dX3_work_53 : decode cX3_work 53 = .ok (.iinc 6 1, 3) := by decide +kernel
theorem dX3_work_56 : decode cX3_work 56 = .ok (.iload 9, 2) := by decide +kernel
theorem dX3_work_58 : decode cX3_work 58 = .ok (.ifCond .ne 13, 3) := by decide +kernel
theorem dX3_work_71 : decode cX3_work 71 = .ok (.iload 9, 2) := by decide +kernel
theorem dX3_work_73 : decode cX3_work 73 = .ok (.iconst 1, 1) := by decide +kernel
theorem dX3_work_74 : decode cX3_work 74 = .ok (.if_icmp .ne 22, 3) := by decide +kernel
theorem dX3_work_96 : decode cX3_work 96 = .ok (.iload 9, 2) := by decide +kernel
theorem dX3_work_98 : decode cX3_work 98 = .ok (.iconst 2, 1) := by decide +kernel
theorem dX3_work_99 : decode cX3_work 99 = .ok (.if_icmp .ne 19, 3) := by decide +kernel
theorem dX3_work_118 : decode cX3_work 118 = .ok (.iload 9, 2) := by decide +kernel
theorem dX3_work_120 : decode cX3_work 120 = .ok (.iconst 3, 1) := by decide +kernel
theorem dX3_work_121 : decode cX3_work 121 = .ok (.if_icmp .eq 16, 3) := by decide +kernel
theorem dX3_work_137 : decode cX3_work 137 = .ok (.iload 10, 2) := by decide +kernel
theorem dX3_work_139 : decode cX3_work 139 = .ok (.istore 6, 2) := by decide +kernel
theorem dX3_work_141 : decode cX3_work 141 = .ok (.goto 17, 3) := by decide +kernel
theorem dX3_work_158 : decode cX3_work 158 = .ok (.iinc 8 1, 3) := by decide +kernel
theorem dX3_work_161 : decode cX3_work 161 = .ok (.goto (-139), 3) := by decide +kernel
theorem dX3_work_124 : decode cX3_work 124 = .ok (.iload 9, 2) := by decide +kernel
theorem dX3_work_126 : decode cX3_work 126 = .ok (.iconst 4, 1) := by decide +kernel
theorem dX3_work_127 : decode cX3_work 127 = .ok (.if_icmp .ne 17, 3) := by decide +kernel
theorem dX3_work_144 : decode cX3_work 144 = .ok (.iload 9, 2) := by decide +kernel
theorem dX3_work_146 : decode cX3_work 146 = .ok (.iconst 5, 1) := by decide +kernel
theorem dX3_work_147 : decode cX3_work 147 = .ok (.if_icmp .lt 11, 3) := by decide +kernel
theorem dX3_work_150 : decode cX3_work 150 = .ok (.aload_n 0, 1) := by decide +kernel
theorem dX3_work_151 : decode cX3_work 151 = .ok (.iload 9, 2) := by decide +kernel
theorem dX3_work_153 : decode cX3_work 153 = .ok (.iload 10, 2) := by decide +kernel
theorem dX3_work_155 : decode cX3_work 155 = .ok (.invokevirtual 122, 3) := by decide +kernel
theorem cw_X3_combine : CWv yX3_combine cX3_combine 7 none 2 := ⟨⟨⟨List.mem_of_getElem? (i := 131) (by decide +kernel), by decide +kernel⟩, ⟨List.mem_of_getElem? (i := 1007) (by decide +kernel), by decide +kernel⟩, by decide +kernel⟩, ⟨List.mem_of_getElem? (i := 1006) (by decide +kernel), by decide +kernel⟩, ⟨List.mem_of_getElem? (i := 32) (by decide +kernel), by decide +kernel⟩⟩
theorem km3_122 : inW (Cond.methodLink RX3 122 yX3_combine) := ⟨List.mem_of_getElem? (i := 1004) (by decide +kernel), by decide +kernel⟩
theorem dX3_work_130 : decode cX3_work 130 = .ok (.aload_n 0, 1) := by decide +kernel
theorem dX3_work_131 : decode cX3_work 131 = .ok (.invokevirtual 118, 3) := by decide +kernel
theorem dX3_work_134 : decode cX3_work 134 = .ok (.ifCond .ne 10, 3) := by decide +kernel
theorem dX3_work_102 : decode cX3_work 102 = .ok (.aload_n 0, 1) := by decide +kernel
theorem dX3_work_103 : decode cX3_work 103 = .ok (.aload_n 3, 1) := by decide +kernel
theorem dX3_work_104 : decode cX3_work 104 = .ok (.aload_n 0, 1) := by decide +kernel
theorem dX3_work_105 : decode cX3_work 105 = .ok (.invokevirtual 118, 3) := by decide +kernel
theorem dX3_work_108 : decode cX3_work 108 = .ok (.invokevirtual 60, 3) := by decide +kernel
theorem cw_X4_marks : CWv yX4_marks cX4_marks 4 (some .int) 1 := ⟨⟨⟨List.mem_of_getElem? (i := 125) (by decide +kernel), by decide +kernel⟩, ⟨List.mem_of_getElem? (i := 999) (by decide +kernel), by decide +kernel⟩, by decide +kernel⟩, ⟨List.mem_of_getElem? (i := 997) (by decide +kernel), by decide +kernel⟩, ⟨List.mem_of_getElem? (i := 998) (by decide +kernel), by decide +kernel⟩⟩
theorem km3_60 : inW (Cond.methodLink RX3 60 yX4_marks) := ⟨List.mem_of_getElem? (i := 996) (by decide +kernel), by decide +kernel⟩
theorem dX3_work_111 : decode cX3_work 111 = .ok (.i2l, 1) := by decide +kernel
theorem dX3_work_112 : decode cX3_work 112 = .ok (.invokevirtual 110, 3) := by decide +kernel
theorem dX3_work_115 : decode cX3_work 115 = .ok (.goto 43, 3) := by decide +kernel
theorem dX3_work_77 : decode cX3_work 77 = .ok (.aload_n 0, 1) := by decide +kernel
theorem dX3_work_78 : decode cX3_work 78 = .ok (.aload_n 0, 1) := by decide +kernel
theorem dX3_work_79 : decode cX3_work 79 = .ok (.iload 10, 2) := by decide +kernel
theorem dX3_work_81 : decode cX3_work 81 = .ok (.aload_n 3, 1) := by decide +kernel
theorem dX3_work_82 : decode cX3_work 82 = .ok (.iload 4, 2) := by decide +kernel
theorem dX3_work_84 : decode cX3_work 84 = .ok (.iload 5, 2) := by decide +kernel
theorem dX3_work_86 : decode cX3_work 86 = .ok (.invokevirtual 114, 3) := by decide +kernel
theorem cw_X3_named : CWv yX3_named cX3_named 5 (some .int) 4 := ⟨⟨⟨List.mem_of_getElem? (i := 131) (by decide +kernel), by decide +kernel⟩, ⟨List.mem_of_getElem? (i := 987) (by decide +kernel), by decide +kernel⟩, by decide +kernel⟩, ⟨List.mem_of_getElem? (i := 986) (by decide +kernel), by decide +kernel⟩, ⟨List.mem_of_getElem? (i := 30) (by decide +kernel), by decide +kernel⟩⟩
theorem km3_114 : inW (Cond.methodLink RX3 114 yX3_named) := ⟨List.mem_of_getElem? (i := 984) (by decide +kernel), by decide +kernel⟩
theorem dX3_work_89 : decode cX3_work 89 = .ok (.i2l, 1) := by decide +kernel
theorem dX3_work_90 : decode cX3_work 90 = .ok (.invokevirtual 110, 3) := by decide +kernel
theorem dX3_work_93 : decode cX3_work 93 = .ok (.goto 65, 3) := by decide +kernel
theorem dX3_work_61 : decode cX3_work 61 = .ok (.aload_n 0, 1) := by decide +kernel
theorem dX3_work_62 : decode cX3_work 62 = .ok (.iload 10, 2) := by decide +kernel
theorem dX3_work_64 : decode cX3_work 64 = .ok (.i2l, 1) := by decide +kernel
theorem dX3_work_65 : decode cX3_work 65 = .ok (.invokevirtual 110, 3) := by decide +kernel
theorem dX3_work_68 : decode cX3_work 68 = .ok (.goto 90, 3) := by decide +kernel
theorem dX3_wearOf_0 : decode cX3_wearOf 0 = .ok (.aload_n 2, 1) := by decide +kernel
theorem dX3_wearOf_1 : decode cX3_wearOf 1 = .ok (.iload_n 3, 1) := by decide +kernel
theorem dX3_wearOf_2 : decode cX3_wearOf 2 = .ok (.iconst 1, 1) := by decide +kernel
theorem dX3_wearOf_3 : decode cX3_wearOf 3 = .ok (.invokevirtual 19, 3) := by decide +kernel
theorem dX3_wearOf_6 : decode cX3_wearOf 6 = .ok (.istore 4, 2) := by decide +kernel
theorem dX3_wearOf_8 : decode cX3_wearOf 8 = .ok (.aload_n 0, 1) := by decide +kernel
theorem dX3_wearOf_9 : decode cX3_wearOf 9 = .ok (.getfield 15, 3) := by decide +kernel
theorem dX3_wearOf_12 : decode cX3_wearOf 12 = .ok (.iload_n 1, 1) := by decide +kernel
theorem dX3_wearOf_13 : decode cX3_wearOf 13 = .ok (.invokevirtual 25, 3) := by decide +kernel
theorem km3_25 : inW (Cond.methodLink RX3 25 yX10_script) := ⟨List.mem_of_getElem? (i := 952) (by decide +kernel), by decide +kernel⟩
theorem dX3_wearOf_16 : decode cX3_wearOf 16 = .ok (.astore 5, 2) := by decide +kernel
theorem dX3_wearOf_18 : decode cX3_wearOf 18 = .ok (.aload 5, 2) := by decide +kernel
theorem dX3_wearOf_20 : decode cX3_wearOf 20 = .ok (.ifnull 12, 3) := by decide +kernel
theorem dX3_wearOf_32 : decode cX3_wearOf 32 = .ok (.bipush 10, 2) := by decide +kernel
theorem dX3_wearOf_34 : decode cX3_wearOf 34 = .ok (.aload_n 0, 1) := by decide +kernel
theorem dX3_wearOf_35 : decode cX3_wearOf 35 = .ok (.getfield 15, 3) := by decide +kernel
theorem dX3_wearOf_38 : decode cX3_wearOf 38 = .ok (.iload 4, 2) := by decide +kernel
theorem dX3_wearOf_40 : decode cX3_wearOf 40 = .ok (.invokevirtual 37, 3) := by decide +kernel
theorem dX3_wearOf_43 : decode cX3_wearOf 43 = .ok (.isub, 1) := by decide +kernel
theorem dX3_wearOf_44 : decode cX3_wearOf 44 = .ok (.ireturn, 1) := by decide +kernel
theorem dX3_wearOf_23 : decode cX3_wearOf 23 = .ok (.aload 5, 2) := by decide +kernel
theorem dX3_wearOf_25 : decode cX3_wearOf 25 = .ok (.iconst 0, 1) := by decide +kernel
theorem dX3_wearOf_26 : decode cX3_wearOf 26 = .ok (.invokevirtual 31, 3) := by decide +kernel
theorem cw_X7_hasLaw : CWv yX7_hasLaw cX7_hasLaw 2 (some .boolean) 1 := ⟨⟨⟨List.mem_of_getElem? (i := 129) (by decide +kernel), by decide +kernel⟩, ⟨List.mem_of_getElem? (i := 745) (by decide +kernel), by decide +kernel⟩, by decide +kernel⟩, ⟨List.mem_of_getElem? (i := 743) (by decide +kernel), by decide +kernel⟩, ⟨List.mem_of_getElem? (i := 744) (by decide +kernel), by decide +kernel⟩⟩
theorem km3_31 : inW (Cond.methodLink RX3 31 yX7_hasLaw) := ⟨List.mem_of_getElem? (i := 953) (by decide +kernel), by decide +kernel⟩
theorem dX3_wearOf_29 : decode cX3_wearOf 29 = .ok (.ifCond .ne 16, 3) := by decide +kernel
theorem dX3_wearOf_45 : decode cX3_wearOf 45 = .ok (.iconst 0, 1) := by decide +kernel
theorem dX3_wearOf_46 : decode cX3_wearOf 46 = .ok (.bipush 99, 2) := by decide +kernel
theorem dX3_wearOf_48 : decode cX3_wearOf 48 = .ok (.aload_n 0, 1) := by decide +kernel
theorem dX3_wearOf_49 : decode cX3_wearOf 49 = .ok (.aload 5, 2) := by decide +kernel
theorem dX3_wearOf_51 : decode cX3_wearOf 51 = .ok (.iconst 0, 1) := by decide +kernel
theorem dX3_wearOf_52 : decode cX3_wearOf 52 = .ok (.aload_n 2, 1) := by decide +kernel
theorem dX3_wearOf_53 : decode cX3_wearOf 53 = .ok (.iload 4, 2) := by decide +kernel
theorem dX3_wearOf_55 : decode cX3_wearOf 55 = .ok (.iload_n 3, 1) := by decide +kernel
theorem dX3_wearOf_56 : decode cX3_wearOf 56 = .ok (.invokevirtual 41, 3) := by decide +kernel
theorem cw_X3_work : CWv yX3_work cX3_work 11 (some .int) 5 := ⟨⟨⟨List.mem_of_getElem? (i := 131) (by decide +kernel), by decide +kernel⟩, ⟨List.mem_of_getElem? (i := 961) (by decide +kernel), by decide +kernel⟩, by decide +kernel⟩, ⟨List.mem_of_getElem? (i := 960) (by decide +kernel), by decide +kernel⟩, ⟨List.mem_of_getElem? (i := 28) (by decide +kernel), by decide +kernel⟩⟩
theorem km3_41 : inW (Cond.methodLink RX3 41 yX3_work) := ⟨List.mem_of_getElem? (i := 958) (by decide +kernel), by decide +kernel⟩
theorem dX3_wearOf_59 : decode cX3_wearOf 59 = .ok (.invokestatic 45, 3) := by decide +kernel
theorem km3_45 : inW (Cond.methodLink RX3 45 Lib.Math.min.name) := ⟨List.mem_of_getElem? (i := 1011) (by decide +kernel), by decide +kernel⟩
theorem dX3_wearOf_62 : decode cX3_wearOf 62 = .ok (.invokestatic 50, 3) := by decide +kernel
theorem km3_50 : inW (Cond.methodLink RX3 50 Lib.Math.max.name) := ⟨List.mem_of_getElem? (i := 1012) (by decide +kernel), by decide +kernel⟩
theorem kMs_max : inW (Cond.static Lib.Math.max.name) := ⟨List.mem_of_getElem? (i := 689) (by decide +kernel), by decide +kernel⟩
theorem kMc_max : inW (Cond.code Lib.Math.max.name Lib.Math.max.code 2 (some .int)) := ⟨List.mem_of_getElem? (i := 690) (by decide +kernel), by decide +kernel⟩
theorem dX3_wearOf_65 : decode cX3_wearOf 65 = .ok (.ireturn, 1) := by decide +kernel
theorem dX3_painOf_0 : decode cX3_painOf 0 = .ok (.aload_n 0, 1) := by decide +kernel
theorem dX3_painOf_1 : decode cX3_painOf 1 = .ok (.getfield 15, 3) := by decide +kernel
theorem dX3_painOf_4 : decode cX3_painOf 4 = .ok (.aload_n 0, 1) := by decide +kernel
theorem dX3_painOf_5 : decode cX3_painOf 5 = .ok (.getfield 15, 3) := by decide +kernel
theorem dX3_painOf_8 : decode cX3_painOf 8 = .ok (.getfield 53, 3) := by decide +kernel
theorem kf3_53 : inW (Cond.fieldLinkNest RX3 53 "KneeOaths$World" "ruling" "I" "KneeOaths") := ⟨List.mem_of_getElem? (i := 296) (by decide +kernel), by decide +kernel⟩
theorem dX3_painOf_11 : decode cX3_painOf 11 = .ok (.invokevirtual 25, 3) := by decide +kernel
theorem dX3_painOf_14 : decode cX3_painOf 14 = .ok (.astore_n 3, 1) := by decide +kernel
theorem dX3_painOf_15 : decode cX3_painOf 15 = .ok (.aload_n 3, 1) := by decide +kernel
theorem dX3_painOf_16 : decode cX3_painOf 16 = .ok (.ifnull 11, 3) := by decide +kernel
theorem dX3_painOf_27 : decode cX3_painOf 27 = .ok (.aload_n 1, 1) := by decide +kernel
theorem dX3_painOf_28 : decode cX3_painOf 28 = .ok (.iload_n 2, 1) := by decide +kernel
theorem dX3_painOf_29 : decode cX3_painOf 29 = .ok (.iconst 3, 1) := by decide +kernel
theorem dX3_painOf_30 : decode cX3_painOf 30 = .ok (.invokevirtual 19, 3) := by decide +kernel
theorem dX3_painOf_33 : decode cX3_painOf 33 = .ok (.aload_n 1, 1) := by decide +kernel
theorem dX3_painOf_34 : decode cX3_painOf 34 = .ok (.getfield 57, 3) := by decide +kernel
theorem dX3_painOf_37 : decode cX3_painOf 37 = .ok (.imul, 1) := by decide +kernel
theorem dX3_painOf_38 : decode cX3_painOf 38 = .ok (.bipush 10, 2) := by decide +kernel
theorem dX3_painOf_40 : decode cX3_painOf 40 = .ok (.idiv, 1) := by decide +kernel
theorem dX3_painOf_41 : decode cX3_painOf 41 = .ok (.ireturn, 1) := by decide +kernel
theorem dX3_painOf_19 : decode cX3_painOf 19 = .ok (.aload_n 3, 1) := by decide +kernel
theorem dX3_painOf_20 : decode cX3_painOf 20 = .ok (.iconst 1, 1) := by decide +kernel
theorem dX3_painOf_21 : decode cX3_painOf 21 = .ok (.invokevirtual 31, 3) := by decide +kernel
theorem dX3_painOf_24 : decode cX3_painOf 24 = .ok (.ifCond .ne 18, 3) := by decide +kernel
theorem dX3_painOf_42 : decode cX3_painOf 42 = .ok (.iconst 0, 1) := by decide +kernel
theorem dX3_painOf_43 : decode cX3_painOf 43 = .ok (.bipush 99, 2) := by decide +kernel
theorem dX3_painOf_45 : decode cX3_painOf 45 = .ok (.aload_n 0, 1) := by decide +kernel
theorem dX3_painOf_46 : decode cX3_painOf 46 = .ok (.aload_n 3, 1) := by decide +kernel
theorem dX3_painOf_47 : decode cX3_painOf 47 = .ok (.iconst 1, 1) := by decide +kernel
theorem dX3_painOf_48 : decode cX3_painOf 48 = .ok (.aload_n 1, 1) := by decide +kernel
theorem dX3_painOf_49 : decode cX3_painOf 49 = .ok (.aload_n 1, 1) := by decide +kernel
theorem dX3_painOf_50 : decode cX3_painOf 50 = .ok (.iload_n 2, 1) := by decide +kernel
theorem dX3_painOf_51 : decode cX3_painOf 51 = .ok (.iconst 1, 1) := by decide +kernel
theorem dX3_painOf_52 : decode cX3_painOf 52 = .ok (.invokevirtual 19, 3) := by decide +kernel
theorem dX3_painOf_55 : decode cX3_painOf 55 = .ok (.iload_n 2, 1) := by decide +kernel
theorem dX3_painOf_56 : decode cX3_painOf 56 = .ok (.invokevirtual 41, 3) := by decide +kernel
theorem dX3_painOf_59 : decode cX3_painOf 59 = .ok (.invokestatic 45, 3) := by decide +kernel
theorem dX3_painOf_62 : decode cX3_painOf 62 = .ok (.invokestatic 50, 3) := by decide +kernel
theorem dX3_painOf_65 : decode cX3_painOf 65 = .ok (.ireturn, 1) := by decide +kernel
theorem dX3_riskOf_0 : decode cX3_riskOf 0 = .ok (.aload_n 0, 1) := by decide +kernel
theorem dX3_riskOf_1 : decode cX3_riskOf 1 = .ok (.getfield 15, 3) := by decide +kernel
theorem dX3_riskOf_4 : decode cX3_riskOf 4 = .ok (.aload_n 0, 1) := by decide +kernel
theorem dX3_riskOf_5 : decode cX3_riskOf 5 = .ok (.getfield 15, 3) := by decide +kernel
theorem dX3_riskOf_8 : decode cX3_riskOf 8 = .ok (.getfield 53, 3) := by decide +kernel
theorem dX3_riskOf_11 : decode cX3_riskOf 11 = .ok (.invokevirtual 25, 3) := by decide +kernel
theorem dX3_riskOf_14 : decode cX3_riskOf 14 = .ok (.astore_n 3, 1) := by decide +kernel
theorem dX3_riskOf_15 : decode cX3_riskOf 15 = .ok (.aload_n 3, 1) := by decide +kernel
theorem dX3_riskOf_16 : decode cX3_riskOf 16 = .ok (.ifnull 11, 3) := by decide +kernel
theorem dX3_riskOf_27 : decode cX3_riskOf 27 = .ok (.aload_n 1, 1) := by decide +kernel
theorem dX3_riskOf_28 : decode cX3_riskOf 28 = .ok (.iload_n 2, 1) := by decide +kernel
theorem dX3_riskOf_29 : decode cX3_riskOf 29 = .ok (.invokevirtual 60, 3) := by decide +kernel
theorem dX3_riskOf_32 : decode cX3_riskOf 32 = .ok (.bipush 10, 2) := by decide +kernel
theorem dX3_riskOf_34 : decode cX3_riskOf 34 = .ok (.imul, 1) := by decide +kernel
theorem dX3_riskOf_35 : decode cX3_riskOf 35 = .ok (.aload_n 0, 1) := by decide +kernel
theorem dX3_riskOf_36 : decode cX3_riskOf 36 = .ok (.getfield 15, 3) := by decide +kernel
theorem dX3_riskOf_39 : decode cX3_riskOf 39 = .ok (.iload_n 2, 1) := by decide +kernel
theorem dX3_riskOf_40 : decode cX3_riskOf 40 = .ok (.invokevirtual 37, 3) := by decide +kernel
theorem dX3_riskOf_43 : decode cX3_riskOf 43 = .ok (.isub, 1) := by decide +kernel
theorem dX3_riskOf_44 : decode cX3_riskOf 44 = .ok (.goto 12, 3) := by decide +kernel
theorem dX3_riskOf_56 : decode cX3_riskOf 56 = .ok (.istore 4, 2) := by decide +kernel
theorem dX3_riskOf_58 : decode cX3_riskOf 58 = .ok (.iconst 0, 1) := by decide +kernel
theorem dX3_riskOf_59 : decode cX3_riskOf 59 = .ok (.sipush 9999, 3) := by decide +kernel
theorem dX3_riskOf_62 : decode cX3_riskOf 62 = .ok (.iload 4, 2) := by decide +kernel
theorem dX3_riskOf_64 : decode cX3_riskOf 64 = .ok (.invokestatic 45, 3) := by decide +kernel
theorem dX3_riskOf_67 : decode cX3_riskOf 67 = .ok (.invokestatic 50, 3) := by decide +kernel
theorem dX3_riskOf_70 : decode cX3_riskOf 70 = .ok (.ireturn, 1) := by decide +kernel
theorem dX3_riskOf_19 : decode cX3_riskOf 19 = .ok (.aload_n 3, 1) := by decide +kernel
theorem dX3_riskOf_20 : decode cX3_riskOf 20 = .ok (.iconst 2, 1) := by decide +kernel
theorem dX3_riskOf_21 : decode cX3_riskOf 21 = .ok (.invokevirtual 31, 3) := by decide +kernel
theorem dX3_riskOf_24 : decode cX3_riskOf 24 = .ok (.ifCond .ne 23, 3) := by decide +kernel
theorem dX3_riskOf_47 : decode cX3_riskOf 47 = .ok (.aload_n 0, 1) := by decide +kernel
theorem dX3_riskOf_48 : decode cX3_riskOf 48 = .ok (.aload_n 3, 1) := by decide +kernel
theorem dX3_riskOf_49 : decode cX3_riskOf 49 = .ok (.iconst 2, 1) := by decide +kernel
theorem dX3_riskOf_50 : decode cX3_riskOf 50 = .ok (.aload_n 1, 1) := by decide +kernel
theorem dX3_riskOf_51 : decode cX3_riskOf 51 = .ok (.iload_n 2, 1) := by decide +kernel
theorem dX3_riskOf_52 : decode cX3_riskOf 52 = .ok (.iconst (-1), 1) := by decide +kernel
theorem dX3_riskOf_53 : decode cX3_riskOf 53 = .ok (.invokevirtual 41, 3) := by decide +kernel
theorem dX3_acheOf_0 : decode cX3_acheOf 0 = .ok (.iconst 0, 1) := by decide +kernel
theorem dX3_acheOf_1 : decode cX3_acheOf 1 = .ok (.istore_n 3, 1) := by decide +kernel
theorem dX3_acheOf_2 : decode cX3_acheOf 2 = .ok (.iconst 0, 1) := by decide +kernel
theorem dX3_acheOf_3 : decode cX3_acheOf 3 = .ok (.istore 4, 2) := by decide +kernel
theorem dX3_acheOf_5 : decode cX3_acheOf 5 = .ok (.iload 4, 2) := by decide +kernel
theorem dX3_acheOf_7 : decode cX3_acheOf 7 = .ok (.aload_n 1, 1) := by decide +kernel
theorem dX3_acheOf_8 : decode cX3_acheOf 8 = .ok (.getfield 63, 3) := by decide +kernel
theorem kf3_63 : inW (Cond.fieldLinkNest RX3 63 "KneeOaths$Ledger" "oathCount" "I" "KneeOaths") := ⟨List.mem_of_getElem? (i := 166) (by decide +kernel), by decide +kernel⟩
theorem dX3_acheOf_11 : decode cX3_acheOf 11 = .ok (.if_icmp .ge 40, 3) := by decide +kernel
theorem dX3_acheOf_51 : decode cX3_acheOf 51 = .ok (.iload_n 3, 1) := by decide +kernel
theorem dX3_acheOf_52 : decode cX3_acheOf 52 = .ok (.ireturn, 1) := by decide +kernel
theorem dX3_acheOf_14 : decode cX3_acheOf 14 = .ok (.aload_n 1, 1) := by decide +kernel
theorem dX3_acheOf_15 : decode cX3_acheOf 15 = .ok (.iload 4, 2) := by decide +kernel
theorem dX3_acheOf_17 : decode cX3_acheOf 17 = .ok (.iload_n 2, 1) := by decide +kernel
theorem dX3_acheOf_18 : decode cX3_acheOf 18 = .ok (.invokevirtual 66, 3) := by decide +kernel
theorem km3_66 : inW (Cond.methodLink RX3 66 yX4_legibleOn) := ⟨List.mem_of_getElem? (i := 1076) (by decide +kernel), by decide +kernel⟩
theorem dX3_acheOf_21 : decode cX3_acheOf 21 = .ok (.ifCond .eq 24, 3) := by decide +kernel
theorem dX3_acheOf_45 : decode cX3_acheOf 45 = .ok (.iinc 4 1, 3) := by decide +kernel
theorem dX3_acheOf_48 : decode cX3_acheOf 48 = .ok (.goto (-43), 3) := by decide +kernel
theorem dX3_acheOf_24 : decode cX3_acheOf 24 = .ok (.aload_n 1, 1) := by decide +kernel
theorem dX3_acheOf_25 : decode cX3_acheOf 25 = .ok (.iload 4, 2) := by decide +kernel
theorem dX3_acheOf_27 : decode cX3_acheOf 27 = .ok (.iconst 4, 1) := by decide +kernel
theorem dX3_acheOf_28 : decode cX3_acheOf 28 = .ok (.invokevirtual 19, 3) := by decide +kernel
theorem dX3_acheOf_31 : decode cX3_acheOf 31 = .ok (.iconst 1, 1) := by decide +kernel
theorem dX3_acheOf_32 : decode cX3_acheOf 32 = .ok (.if_icmp .ne 13, 3) := by decide +kernel
theorem dX3_acheOf_35 : decode cX3_acheOf 35 = .ok (.iload_n 3, 1) := by decide +kernel
theorem dX3_acheOf_36 : decode cX3_acheOf 36 = .ok (.aload_n 0, 1) := by decide +kernel
theorem dX3_acheOf_37 : decode cX3_acheOf 37 = .ok (.aload_n 1, 1) := by decide +kernel
theorem dX3_acheOf_38 : decode cX3_acheOf 38 = .ok (.iload 4, 2) := by decide +kernel
theorem dX3_acheOf_40 : decode cX3_acheOf 40 = .ok (.invokevirtual 70, 3) := by decide +kernel
theorem cw_X3_painOf : CWv yX3_painOf cX3_painOf 4 (some .int) 2 := ⟨⟨⟨List.mem_of_getElem? (i := 131) (by decide +kernel), by decide +kernel⟩, ⟨List.mem_of_getElem? (i := 1080) (by decide +kernel), by decide +kernel⟩, by decide +kernel⟩, ⟨List.mem_of_getElem? (i := 1078) (by decide +kernel), by decide +kernel⟩, ⟨List.mem_of_getElem? (i := 1079) (by decide +kernel), by decide +kernel⟩⟩
theorem km3_70 : inW (Cond.methodLink RX3 70 yX3_painOf) := ⟨List.mem_of_getElem? (i := 1077) (by decide +kernel), by decide +kernel⟩
theorem dX3_acheOf_43 : decode cX3_acheOf 43 = .ok (.iadd, 1) := by decide +kernel
theorem dX3_acheOf_44 : decode cX3_acheOf 44 = .ok (.istore_n 3, 1) := by decide +kernel
theorem dX3_explains_0 : decode cX3_explains 0 = .ok (.iconst 0, 1) := by decide +kernel
theorem dX3_explains_1 : decode cX3_explains 1 = .ok (.istore_n 2, 1) := by decide +kernel
theorem dX3_explains_2 : decode cX3_explains 2 = .ok (.iload_n 2, 1) := by decide +kernel
theorem dX3_explains_3 : decode cX3_explains 3 = .ok (.aload_n 0, 1) := by decide +kernel
theorem dX3_explains_4 : decode cX3_explains 4 = .ok (.getfield 15, 3) := by decide +kernel
theorem dX3_explains_7 : decode cX3_explains 7 = .ok (.getfield 74, 3) := by decide +kernel
theorem kf3_74 : inW (Cond.fieldLinkNest RX3 74 "KneeOaths$World" "wearings" "LKneeOaths$Told;" "KneeOaths") := ⟨List.mem_of_getElem? (i := 286) (by decide +kernel), by decide +kernel⟩
theorem dX3_explains_10 : decode cX3_explains 10 = .ok (.getfield 78, 3) := by decide +kernel
theorem kf3_78 : inW (Cond.fieldLinkNest RX3 78 "KneeOaths$Told" "count" "I" "KneeOaths") := ⟨List.mem_of_getElem? (i := 223) (by decide +kernel), by decide +kernel⟩
theorem dX3_explains_13 : decode cX3_explains 13 = .ok (.if_icmp .ge 66, 3) := by decide +kernel
theorem dX3_explains_79 : decode cX3_explains 79 = .ok (.iconst 1, 1) := by decide +kernel
theorem dX3_explains_80 : decode cX3_explains 80 = .ok (.ireturn, 1) := by decide +kernel
theorem dX3_explains_16 : decode cX3_explains 16 = .ok (.aload_n 0, 1) := by decide +kernel
theorem dX3_explains_17 : decode cX3_explains 17 = .ok (.getfield 15, 3) := by decide +kernel
theorem dX3_explains_20 : decode cX3_explains 20 = .ok (.getfield 74, 3) := by decide +kernel
theorem dX3_explains_23 : decode cX3_explains 23 = .ok (.iload_n 2, 1) := by decide +kernel
theorem dX3_explains_24 : decode cX3_explains 24 = .ok (.iconst 0, 1) := by decide +kernel
theorem dX3_explains_25 : decode cX3_explains 25 = .ok (.invokevirtual 83, 3) := by decide +kernel
theorem cw_X9_get : CWv yX9_get cX9_get 3 (some .int) 2 := ⟨⟨⟨List.mem_of_getElem? (i := 127) (by decide +kernel), by decide +kernel⟩, ⟨List.mem_of_getElem? (i := 1244) (by decide +kernel), by decide +kernel⟩, by decide +kernel⟩, ⟨List.mem_of_getElem? (i := 1242) (by decide +kernel), by decide +kernel⟩, ⟨List.mem_of_getElem? (i := 1243) (by decide +kernel), by decide +kernel⟩⟩
theorem km3_83 : inW (Cond.methodLink RX3 83 yX9_get) := ⟨List.mem_of_getElem? (i := 1422) (by decide +kernel), by decide +kernel⟩
theorem dX3_explains_28 : decode cX3_explains 28 = .ok (.istore_n 3, 1) := by decide +kernel
theorem dX3_explains_29 : decode cX3_explains 29 = .ok (.aload_n 0, 1) := by decide +kernel
theorem dX3_explains_30 : decode cX3_explains 30 = .ok (.getfield 15, 3) := by decide +kernel
theorem dX3_explains_33 : decode cX3_explains 33 = .ok (.getfield 84, 3) := by decide +kernel
theorem kf3_84 : inW (Cond.fieldLinkNest RX3 84 "KneeOaths$World" "now" "LKneeOaths$Ledger;" "KneeOaths") := ⟨List.mem_of_getElem? (i := 270) (by decide +kernel), by decide +kernel⟩
theorem dX3_explains_36 : decode cX3_explains 36 = .ok (.iload_n 3, 1) := by decide +kernel
theorem dX3_explains_37 : decode cX3_explains 37 = .ok (.invokevirtual 88, 3) := by decide +kernel
theorem km3_88 : inW (Cond.methodLink RX3 88 yX4_has) := ⟨List.mem_of_getElem? (i := 1423) (by decide +kernel), by decide +kernel⟩
theorem dX3_explains_40 : decode cX3_explains 40 = .ok (.ifCond .eq 33, 3) := by decide +kernel
theorem dX3_explains_73 : decode cX3_explains 73 = .ok (.iinc 2 1, 3) := by decide +kernel
theorem dX3_explains_76 : decode cX3_explains 76 = .ok (.goto (-74), 3) := by decide +kernel
theorem dX3_explains_43 : decode cX3_explains 43 = .ok (.aload_n 0, 1) := by decide +kernel
theorem dX3_explains_44 : decode cX3_explains 44 = .ok (.iload_n 1, 1) := by decide +kernel
theorem dX3_explains_45 : decode cX3_explains 45 = .ok (.aload_n 0, 1) := by decide +kernel
theorem dX3_explains_46 : decode cX3_explains 46 = .ok (.getfield 15, 3) := by decide +kernel
theorem dX3_explains_49 : decode cX3_explains 49 = .ok (.getfield 84, 3) := by decide +kernel
theorem dX3_explains_52 : decode cX3_explains 52 = .ok (.iload_n 3, 1) := by decide +kernel
theorem dX3_explains_53 : decode cX3_explains 53 = .ok (.invokevirtual 91, 3) := by decide +kernel
theorem cw_X3_wearOf : CWv yX3_wearOf cX3_wearOf 6 (some .int) 3 := ⟨⟨⟨List.mem_of_getElem? (i := 131) (by decide +kernel), by decide +kernel⟩, ⟨List.mem_of_getElem? (i := 950) (by decide +kernel), by decide +kernel⟩, by decide +kernel⟩, ⟨List.mem_of_getElem? (i := 948) (by decide +kernel), by decide +kernel⟩, ⟨List.mem_of_getElem? (i := 949) (by decide +kernel), by decide +kernel⟩⟩
theorem km3_91 : inW (Cond.methodLink RX3 91 yX3_wearOf) := ⟨List.mem_of_getElem? (i := 1424) (by decide +kernel), by decide +kernel⟩
theorem dX3_explains_56 : decode cX3_explains 56 = .ok (.aload_n 0, 1) := by decide +kernel
theorem dX3_explains_57 : decode cX3_explains 57 = .ok (.getfield 15, 3) := by decide +kernel
theorem dX3_explains_60 : decode cX3_explains 60 = .ok (.getfield 74, 3) := by decide +kernel
theorem dX3_explains_63 : decode cX3_explains 63 = .ok (.iload_n 2, 1) := by decide +kernel
theorem dX3_explains_64 : decode cX3_explains 64 = .ok (.iconst 1, 1) := by decide +kernel
theorem dX3_explains_65 : decode cX3_explains 65 = .ok (.invokevirtual 83, 3) := by decide +kernel
theorem dX3_explains_68 : decode cX3_explains 68 = .ok (.if_icmp .eq 5, 3) := by decide +kernel
theorem dX3_explains_71 : decode cX3_explains 71 = .ok (.iconst 0, 1) := by decide +kernel
theorem dX3_explains_72 : decode cX3_explains 72 = .ok (.ireturn, 1) := by decide +kernel
set_option maxHeartbeats 4000000 in
set_option maxRecDepth 100000 in
theorem x_X3_combine {l : Launch} {G : GG}  {L : List Nat} {f : HF} {ad : Nat → Nat → Nat} {rs : FS} {fc : Int × Int} {tc w : Nat → Int × Int} {q : Nat → (Nat → Int32) → Prop} {i1 i2 : Int32} (I : SH (spC rs fc tc w q) nnC G ad L f) (hW : WBp w 8) (hT : WBp tc 4) (hQ : QIp q) : PMv l yX3_combine cX3_combine 7 1 0 0 G [.ref (ad 3 0), .int i1, .int i2] L f (fun L1 f1 => SH (spC rs fc tc w q) nnC G ad L1 f1) := by
  refine PMv.of (post := fun L1 f1 => SH (spC rs fc tc w q) nnC G ad L1 f1) (own := RX3) (by decide) rfl (Nat.le_of_ble_eq_true rfl) (fun sz p e s m args below meth c A ls hA1 hname S Y hl => ?_)
  have hx := S.hx
  have hb := S.hb
  have hl : lv_has ls 7 [(0, .ref (ad 3 0)), (1, .int i1), (2, .int i2)] := hl
  have J_49 : ∀ (n49 : Nat) (y49_3 y49_4 : Int32) (L_49 : List Nat) (f_49 : HF) (H : Heap) (locs : List Loc) (ls : Array Slot), (SH (spC rs fc tc w q) nnC G ad L_49 f_49) → (bn 0 2147483647 y49_4) → (bn 7 7 i1) → (((2147483647 : Int) - y49_4.toInt).toNat = n49) → (DY G A s [] L_49 f_49 H locs) → (lv_has ls 7 [(0, .ref (ad 3 0)), (1, .int i1), (2, .int i2), (3, .int y49_3), (4, .int y49_4)]) → W p l e (rmD 1 0 0) s m args below meth c H locs (0) (0) (MQ below (va_Qv (fun (u : List Nat × HF) => (fun L1 f1 => SH (spC rs fc tc w q) nnC G ad L1 f1) u.1 u.2) (fun u t => pOut G (va_A (va_pl L f) sz) u.1 u.2 t) (va_A (va_pl L f) sz)) args s 0 0 A) (F0 m 49 ls []) := by
    intro n49
    induction n49 using Nat.strongRecOn with
    | _ n49 ih49 =>
      intro y49_3 y49_4 L_49 f_49 H locs ls I b_y49_4 b49_i1 hm49 Y hl
      refine lv_iload hx hb dX3_combine_49 (lv_at hl 4 rfl) ?_
      refine lv_iload_n hx hb dX3_combine_51 rfl (lv_at hl 2 rfl) ?_
      refine lv_icmp_ge (tgt := 68) hx hb dX3_combine_52 (by decide) (fun c_9913 => ?_) (fun c_9913 => ?_)
      · refine lv_aload_n hx hb dX3_combine_68 rfl (lv_at hl 0 rfl) ?_
        refine lv_iload_n hx hb dX3_combine_69 rfl (lv_at hl 3 rfl) ?_
        refine lv_iconst (v := 1) hx hb dX3_combine_70 (by decide) ?_
        refine lv_icmp_ne (tgt := 78) hx hb dX3_combine_71 (by decide) (fun c_9916 => ?_) (fun c_9916 => ?_)
        · refine lv_lconst (v := 0) hx hb dX3_combine_78 (by decide) ?_
          refine cVv (As := [.long 0]) (rest := []) S Y (x_X3_push (l := l) I hW hT hQ) cw_X3_push km3_110 (I.opo (k := 3) (j := 0) (by decide) rfl).choose_spec.1 ok_X3.1 rfl rfl ⟨Nat.le_of_ble_eq_true rfl, Nat.le_of_ble_eq_true rfl⟩ hl.1 rfl (Nat.le_of_ble_eq_true rfl) ⟨Nat.le_of_ble_eq_true rfl, Nat.le_of_ble_eq_true rfl⟩ dX3_combine_79 (fun L_9918 f_9919 H locs I Y => ?_)
          refine lv_goto (tgt := 109) hx hb dX3_combine_82 (by decide) ?_
          exact prV (post := fun L1 f1 => SH (spC rs fc tc w q) nnC G ad L1 f1) S Y (by decide) (by decide) hA1 I dX3_combine_109
        · have B_9917 : bn 1 1 y49_3 := bn_w (bn_eq c_9916 (show bn 1 1 (1 : Int32) from bn_k (by decide))) (by decide)
          refine lv_lconst (v := 1) hx hb dX3_combine_74 (by decide) ?_
          refine lv_goto (tgt := 79) hx hb dX3_combine_75 (by decide) ?_
          refine cVv (As := [.long 1]) (rest := []) S Y (x_X3_push (l := l) I hW hT hQ) cw_X3_push km3_110 (I.opo (k := 3) (j := 0) (by decide) rfl).choose_spec.1 ok_X3.1 rfl rfl ⟨Nat.le_of_ble_eq_true rfl, Nat.le_of_ble_eq_true rfl⟩ hl.1 rfl (Nat.le_of_ble_eq_true rfl) ⟨Nat.le_of_ble_eq_true rfl, Nat.le_of_ble_eq_true rfl⟩ dX3_combine_79 (fun L_9920 f_9921 H locs I Y => ?_)
          refine lv_goto (tgt := 109) hx hb dX3_combine_82 (by decide) ?_
          exact prV (post := fun L1 f1 => SH (spC rs fc tc w q) nnC G ad L1 f1) S Y (by decide) (by decide) hA1 I dX3_combine_109
      · have B_9914 : bn 1 2147483647 i2 := bn_w (bn_gtl c_9913 (bn_any i2) b_y49_4) (by decide)
        have B_9915 : bn 0 2147483646 y49_4 := bn_w (bn_gtr c_9913 (bn_any i2) b_y49_4) (by decide)
        refine lv_iload_n hx hb dX3_combine_55 rfl (lv_at hl 3 rfl) ?_
        refine lv_aload_n hx hb dX3_combine_56 rfl (lv_at hl 0 rfl) ?_
        refine cVi (As := []) (rest := [.int y49_3]) S Y (x_X3_pop (l := l) I hW hT hQ) cw_X3_pop km3_118 (I.opo (k := 3) (j := 0) (by decide) rfl).choose_spec.1 ok_X3.1 rfl rfl ⟨Nat.le_of_ble_eq_true rfl, Nat.le_of_ble_eq_true rfl⟩ hl.1 rfl (Nat.le_of_ble_eq_true rfl) ⟨Nat.le_of_ble_eq_true rfl, Nat.le_of_ble_eq_true rfl⟩ dX3_combine_57 (fun r_9924 L_9922 f_9923 H locs I Y => ?_)
        refine lv_iadd hx hb dX3_combine_60 ?_
        refine lv_topi (fun x_9925 ex_9925 => ?_)
        refine lv_istore_n (lv' := [(3, .int x_9925), (0, .ref (ad 3 0)), (1, .int i1), (2, .int i2), (4, .int y49_4)]) hx hb dX3_combine_61 rfl hl (by decide) rfl (fun ls hl => ?_)
        obtain ⟨x_9926, ex_9926⟩ : ∃ z : Int32, z = y49_4 + 1 := ⟨_, rfl⟩
        refine lv_iinc (v := x_9926) (lv' := [(4, .int x_9926), (3, .int x_9925), (0, .ref (ad 3 0)), (1, .int i1), (2, .int i2)]) hx hb dX3_combine_62 hl (k := 4) rfl (by rw [ex_9926]; rfl) (by decide) rfl (fun ls hl => ?_)
        refine lv_goto (tgt := 49) hx hb dX3_combine_65 (by decide) ?_
        exact ih49 _ (by rw [← hm49]; exact ms_up (m := 1) ex_9926 (show bn 1 1 (1 : Int32) from bn_k (by decide)) B_9915 (bn_w (bn_eq ex_9926 (bn_add B_9915 (show bn 1 1 (1 : Int32) from bn_k (by decide)) (by decide))) (by decide) : bn 0 2147483647 x_9926) (by decide)) x_9925 x_9926 _ _  _ _ _ I (bn_w (bn_eq ex_9926 (bn_add B_9915 (show bn 1 1 (1 : Int32) from bn_k (by decide)) (by decide))) (by decide)) (bn_w b49_i1 (by decide)) rfl Y (lv_sub hl [2, 3, 4, 1, 0] rfl)
  refine lv_iload_n hx hb dX3_combine_0 rfl (lv_at hl 1 rfl) ?_
  refine lv_iconst (v := 5) hx hb dX3_combine_1 (by decide) ?_
  refine lv_icmp_ne (tgt := 18) hx hb dX3_combine_2 (by decide) (fun c_9927 => ?_) (fun c_9927 => ?_)
  · refine lv_iload_n hx hb dX3_combine_18 rfl (lv_at hl 1 rfl) ?_
    refine lv_bipush (v := 6) hx hb dX3_combine_19 (by decide) ?_
    refine lv_icmp_ne (tgt := 38) hx hb dX3_combine_21 (by decide) (fun c_9929 => ?_) (fun c_9929 => ?_)
    · refine lv_iload_n hx hb dX3_combine_38 rfl (lv_at hl 1 rfl) ?_
      refine lv_bipush (v := 7) hx hb dX3_combine_39 (by decide) ?_
      refine lv_icmp_ne (tgt := 85) hx hb dX3_combine_41 (by decide) (fun c_9931 => ?_) (fun c_9931 => ?_)
      · refine lv_aload_n hx hb dX3_combine_85 rfl (lv_at hl 0 rfl) ?_
        refine cVi (As := []) (rest := []) S Y (x_X3_pop (l := l) I hW hT hQ) cw_X3_pop km3_118 (I.opo (k := 3) (j := 0) (by decide) rfl).choose_spec.1 ok_X3.1 rfl rfl ⟨Nat.le_of_ble_eq_true rfl, Nat.le_of_ble_eq_true rfl⟩ hl.1 rfl (Nat.le_of_ble_eq_true rfl) ⟨Nat.le_of_ble_eq_true rfl, Nat.le_of_ble_eq_true rfl⟩ dX3_combine_86 (fun r_9935 L_9933 f_9934 H locs I Y => ?_)
        refine lv_i2l hx hb dX3_combine_89 rfl ?_
        refine lv_topl (fun x_9936 ex_9936 => ?_)
        refine lv_lstore_n (lv' := [(3, .long x_9936), (0, .ref (ad 3 0)), (1, .int i1), (2, .int i2)]) hx hb dX3_combine_90 rfl hl (by decide) rfl (fun ls hl => ?_)
        refine lv_aload_n hx hb dX3_combine_91 rfl (lv_at hl 1 rfl) ?_
        refine cVi (As := []) (rest := []) S Y (x_X3_pop (l := l) I hW hT hQ) cw_X3_pop km3_118 (I.opo (k := 3) (j := 0) (by decide) rfl).choose_spec.1 ok_X3.1 rfl rfl ⟨Nat.le_of_ble_eq_true rfl, Nat.le_of_ble_eq_true rfl⟩ hl.1 rfl (Nat.le_of_ble_eq_true rfl) ⟨Nat.le_of_ble_eq_true rfl, Nat.le_of_ble_eq_true rfl⟩ dX3_combine_92 (fun r_9939 L_9937 f_9938 H locs I Y => ?_)
        refine lv_i2l hx hb dX3_combine_95 rfl ?_
        refine lv_topl (fun x_9940 ex_9940 => ?_)
        refine lv_lstore (lv' := [(5, .long x_9940), (3, .long x_9936), (0, .ref (ad 3 0)), (1, .int i1), (2, .int i2)]) hx hb dX3_combine_96 hl (by decide) rfl (fun ls hl => ?_)
        refine lv_aload_n hx hb dX3_combine_98 rfl (lv_at hl 2 rfl) ?_
        refine lv_iload_n hx hb dX3_combine_99 rfl (lv_at hl 3 rfl) ?_
        refine lv_lload hx hb dX3_combine_100 (lv_at hl 0 rfl) ?_
        refine lv_lload_n hx hb dX3_combine_102 rfl (lv_at hl 1 rfl) ?_
        refine cSlp (As := [.int i1, .long x_9940, .long x_9936]) (rest := [.ref (ad 3 0)]) S Y (x_X3_joined (l := l) ) cw_X3_joined km3_136 rfl ⟨Nat.le_of_ble_eq_true rfl, Nat.le_of_ble_eq_true rfl⟩ hl.1 rfl (Nat.le_of_ble_eq_true rfl) ⟨Nat.le_of_ble_eq_true rfl, Nat.le_of_ble_eq_true rfl⟩ dX3_combine_103 (fun r_9941 H locs er_9941 Y => ?_)
        refine cVv (As := [.long r_9941]) (rest := []) S Y (x_X3_push (l := l) I hW hT hQ) cw_X3_push km3_110 (I.opo (k := 3) (j := 0) (by decide) rfl).choose_spec.1 ok_X3.1 rfl rfl ⟨Nat.le_of_ble_eq_true rfl, Nat.le_of_ble_eq_true rfl⟩ hl.1 rfl (Nat.le_of_ble_eq_true rfl) ⟨Nat.le_of_ble_eq_true rfl, Nat.le_of_ble_eq_true rfl⟩ dX3_combine_106 (fun L_9942 f_9943 H locs I Y => ?_)
        exact prV (post := fun L1 f1 => SH (spC rs fc tc w q) nnC G ad L1 f1) S Y (by decide) (by decide) hA1 I dX3_combine_109
      · have B_9932 : bn 7 7 i1 := bn_w (bn_eq c_9931 (show bn 7 7 (7 : Int32) from bn_k (by decide))) (by decide)
        refine lv_iconst (v := 0) hx hb dX3_combine_44 (by decide) ?_
        refine lv_istore_n (lv' := [(3, .int 0), (0, .ref (ad 3 0)), (1, .int i1), (2, .int i2)]) hx hb dX3_combine_45 rfl hl (by decide) rfl (fun ls hl => ?_)
        refine lv_iconst (v := 0) hx hb dX3_combine_46 (by decide) ?_
        refine lv_istore (lv' := [(4, .int 0), (3, .int 0), (0, .ref (ad 3 0)), (1, .int i1), (2, .int i2)]) hx hb dX3_combine_47 hl (by decide) rfl (fun ls hl => ?_)
        exact J_49 _ 0 0 _ _  _ _ _ I (bn_w (show bn 0 0 (0 : Int32) from bn_k (by decide)) (by decide)) (bn_w B_9932 (by decide)) rfl Y (lv_sub hl [2, 3, 4, 1, 0] rfl)
    · have B_9930 : bn 6 6 i1 := bn_w (bn_eq c_9929 (show bn 6 6 (6 : Int32) from bn_k (by decide))) (by decide)
      refine lv_aload_n hx hb dX3_combine_24 rfl (lv_at hl 0 rfl) ?_
      refine lv_iconst (v := 1) hx hb dX3_combine_25 (by decide) ?_
      refine lv_aload_n hx hb dX3_combine_26 rfl (lv_at hl 0 rfl) ?_
      refine cVi (As := []) (rest := [.int 1, .ref (ad 3 0)]) S Y (x_X3_pop (l := l) I hW hT hQ) cw_X3_pop km3_118 (I.opo (k := 3) (j := 0) (by decide) rfl).choose_spec.1 ok_X3.1 rfl rfl ⟨Nat.le_of_ble_eq_true rfl, Nat.le_of_ble_eq_true rfl⟩ hl.1 rfl (Nat.le_of_ble_eq_true rfl) ⟨Nat.le_of_ble_eq_true rfl, Nat.le_of_ble_eq_true rfl⟩ dX3_combine_27 (fun r_9946 L_9944 f_9945 H locs I Y => ?_)
      refine lv_isub hx hb dX3_combine_30 ?_
      refine lv_topi (fun x_9947 ex_9947 => ?_)
      refine lv_i2l hx hb dX3_combine_31 rfl ?_
      refine lv_topl (fun x_9948 ex_9948 => ?_)
      refine cVv (As := [.long x_9948]) (rest := []) S Y (x_X3_push (l := l) I hW hT hQ) cw_X3_push km3_110 (I.opo (k := 3) (j := 0) (by decide) rfl).choose_spec.1 ok_X3.1 rfl rfl ⟨Nat.le_of_ble_eq_true rfl, Nat.le_of_ble_eq_true rfl⟩ hl.1 rfl (Nat.le_of_ble_eq_true rfl) ⟨Nat.le_of_ble_eq_true rfl, Nat.le_of_ble_eq_true rfl⟩ dX3_combine_32 (fun L_9949 f_9950 H locs I Y => ?_)
      refine lv_goto (tgt := 109) hx hb dX3_combine_35 (by decide) ?_
      exact prV (post := fun L1 f1 => SH (spC rs fc tc w q) nnC G ad L1 f1) S Y (by decide) (by decide) hA1 I dX3_combine_109
  · have B_9928 : bn 5 5 i1 := bn_w (bn_eq c_9927 (show bn 5 5 (5 : Int32) from bn_k (by decide))) (by decide)
    refine lv_aload_n hx hb dX3_combine_5 rfl (lv_at hl 0 rfl) ?_
    refine lv_aload_n hx hb dX3_combine_6 rfl (lv_at hl 0 rfl) ?_
    refine cVi (As := []) (rest := [.ref (ad 3 0)]) S Y (x_X3_pop (l := l) I hW hT hQ) cw_X3_pop km3_118 (I.opo (k := 3) (j := 0) (by decide) rfl).choose_spec.1 ok_X3.1 rfl rfl ⟨Nat.le_of_ble_eq_true rfl, Nat.le_of_ble_eq_true rfl⟩ hl.1 rfl (Nat.le_of_ble_eq_true rfl) ⟨Nat.le_of_ble_eq_true rfl, Nat.le_of_ble_eq_true rfl⟩ dX3_combine_7 (fun r_9953 L_9951 f_9952 H locs I Y => ?_)
    refine lv_ineg hx hb dX3_combine_10 ?_
    refine lv_topi (fun x_9954 ex_9954 => ?_)
    refine lv_i2l hx hb dX3_combine_11 rfl ?_
    refine lv_topl (fun x_9955 ex_9955 => ?_)
    refine cVv (As := [.long x_9955]) (rest := []) S Y (x_X3_push (l := l) I hW hT hQ) cw_X3_push km3_110 (I.opo (k := 3) (j := 0) (by decide) rfl).choose_spec.1 ok_X3.1 rfl rfl ⟨Nat.le_of_ble_eq_true rfl, Nat.le_of_ble_eq_true rfl⟩ hl.1 rfl (Nat.le_of_ble_eq_true rfl) ⟨Nat.le_of_ble_eq_true rfl, Nat.le_of_ble_eq_true rfl⟩ dX3_combine_12 (fun L_9956 f_9957 H locs I Y => ?_)
    refine lv_goto (tgt := 109) hx hb dX3_combine_15 (by decide) ?_
    exact prV (post := fun L1 f1 => SH (spC rs fc tc w q) nnC G ad L1 f1) S Y (by decide) (by decide) hA1 I dX3_combine_109
set_option maxHeartbeats 4000000 in
set_option maxRecDepth 100000 in
theorem x_X3_work {l : Launch} {G : GG}  {L : List Nat} {f : HF} {ad : Nat → Nat → Nat} {rs : FS} {fc : Int × Int} {tc w : Nat → Int × Int} {q : Nat → (Nat → Int32) → Prop} {i j : Nat} {i1 i2 i3 : Int32} (I : SH (spC rs fc tc w q) nnC G ad L f) (hW : WBp w 8) (hT : WBp tc 4) (hQ : QIp q) (hi : i < 8) (hj : j < 63) : PMi l yX3_work cX3_work 11 .int 2 0 0 G [.ref (ad 3 0), .ref (ad 30 i), .int i1, .ref (ad 10 j), .int i2, .int i3] L f (fun r L1 f1 => SH (spC rs fc tc w q) nnC G ad L1 f1) := by
  refine PMi.of (post := fun r L1 f1 => SH (spC rs fc tc w q) nnC G ad L1 f1) (own := RX3) (by decide) rfl (Nat.le_of_ble_eq_true rfl) (fun sz p e s m args below meth c A ls hA1 hname S Y hl => ?_)
  have hx := S.hx
  have hb := S.hb
  have hl : lv_has ls 11 [(0, .ref (ad 3 0)), (1, .ref (ad 30 i)), (2, .int i1), (3, .ref (ad 10 j)), (4, .int i2), (5, .int i3)] := hl
  have J_22 : ∀ (n22 : Nat) (y22_6 y22_7 y22_8 : Int32) (L_22 : List Nat) (f_22 : HF) (H : Heap) (locs : List Loc) (ls : Array Slot), (SH (spC rs fc tc w q) nnC G ad L_22 f_22) → (bn 0 300 y22_8) → (((300 : Int) - y22_8.toInt).toNat = n22) → (DY G A s [] L_22 f_22 H locs) → (lv_has ls 11 [(0, .ref (ad 3 0)), (1, .ref (ad 30 i)), (2, .int i1), (3, .ref (ad 10 j)), (4, .int i2), (5, .int i3), (6, .int y22_6), (7, .int y22_7), (8, .int y22_8)]) → W p l e (rmD 2 0 0) s m args below meth c H locs (0) (0) (MQ below (va_Qi (fun r (u : List Nat × HF) => (fun r L1 f1 => SH (spC rs fc tc w q) nnC G ad L1 f1) r u.1 u.2) (fun u t => pOut G (va_A (va_pl L f) sz) u.1 u.2 t) (va_A (va_pl L f) sz)) args s 0 0 A) (F0 m 22 ls []) := by
    intro n22
    induction n22 using Nat.strongRecOn with
    | _ n22 ih22 =>
      intro y22_6 y22_7 y22_8 L_22 f_22 H locs ls I b_y22_8 hm22 Y hl
      refine lv_iload hx hb dX3_work_22 (lv_at hl 8 rfl) ?_
      refine lv_sipush (v := 300) hx hb dX3_work_24 (by decide) ?_
      refine lv_icmp_ge (tgt := 164) hx hb dX3_work_27 (by decide) (fun c_11969 => ?_) (fun c_11969 => ?_)
      · have B_11970 : bn 300 300 y22_8 := bn_w (bn_ler c_11969 (show bn 300 300 (300 : Int32) from bn_k (by decide)) b_y22_8) (by decide)
        refine lv_aload_n hx hb dX3_work_164 rfl (lv_at hl 0 rfl) ?_
        refine cVi (As := []) (rest := []) S Y (x_X3_pop (l := l) I hW hT hQ) cw_X3_pop km3_118 (I.opo (k := 3) (j := 0) (by decide) rfl).choose_spec.1 ok_X3.1 rfl rfl ⟨Nat.le_of_ble_eq_true rfl, Nat.le_of_ble_eq_true rfl⟩ hl.1 rfl (Nat.le_of_ble_eq_true rfl) ⟨Nat.le_of_ble_eq_true rfl, Nat.le_of_ble_eq_true rfl⟩ dX3_work_165 (fun r_11974 L_11972 f_11973 H locs I Y => ?_)
        exact prI (post := fun r L1 f1 => SH (spC rs fc tc w q) nnC G ad L1 f1) S Y rfl (by decide) (by decide) hA1 I dX3_work_168
      · have B_11971 : bn 0 299 y22_8 := bn_w (bn_gtr c_11969 (show bn 300 300 (300 : Int32) from bn_k (by decide)) b_y22_8) (by decide)
        refine lv_iload hx hb dX3_work_30 (lv_at hl 6 rfl) ?_
        refine lv_iload hx hb dX3_work_32 (lv_at hl 7 rfl) ?_
        refine lv_icmp_ge (tgt := 164) hx hb dX3_work_34 (by decide) (fun c_11975 => ?_) (fun c_11975 => ?_)
        · refine lv_aload_n hx hb dX3_work_164 rfl (lv_at hl 0 rfl) ?_
          refine cVi (As := []) (rest := []) S Y (x_X3_pop (l := l) I hW hT hQ) cw_X3_pop km3_118 (I.opo (k := 3) (j := 0) (by decide) rfl).choose_spec.1 ok_X3.1 rfl rfl ⟨Nat.le_of_ble_eq_true rfl, Nat.le_of_ble_eq_true rfl⟩ hl.1 rfl (Nat.le_of_ble_eq_true rfl) ⟨Nat.le_of_ble_eq_true rfl, Nat.le_of_ble_eq_true rfl⟩ dX3_work_165 (fun r_11980 L_11978 f_11979 H locs I Y => ?_)
          exact prI (post := fun r L1 f1 => SH (spC rs fc tc w q) nnC G ad L1 f1) S Y rfl (by decide) (by decide) hA1 I dX3_work_168
        · have B_11976 : bn (-2147483647) 2147483647 y22_7 := bn_w (bn_gtl c_11975 (bn_any y22_7) (bn_any y22_6)) (by decide)
          have B_11977 : bn (-2147483648) 2147483646 y22_6 := bn_w (bn_gtr c_11975 (bn_any y22_7) (bn_any y22_6)) (by decide)
          refine lv_aload_n hx hb dX3_work_37 rfl (lv_at hl 1 rfl) ?_
          refine lv_iload hx hb dX3_work_38 (lv_at hl 6 rfl) ?_
          refine cVp (As := [.int y22_6]) (rest := []) S Y (x_X7_doing (l := l) (j := i) I hW hT hQ hi) cw_X7_doing km3_104 (I.opo (k := 30) (j := i) hi rfl).choose_spec.1 ok_X7.1 rfl rfl ⟨Nat.le_of_ble_eq_true rfl, Nat.le_of_ble_eq_true rfl⟩ hl.1 rfl (Nat.le_of_ble_eq_true rfl) ⟨Nat.le_of_ble_eq_true rfl, Nat.le_of_ble_eq_true rfl⟩ dX3_work_40 (fun r_11981 H locs er_11981 Y => ?_)
          refine lv_istore (lv' := [(9, .int r_11981), (0, .ref (ad 3 0)), (1, .ref (ad 30 i)), (2, .int i1), (3, .ref (ad 10 j)), (4, .int i2), (5, .int i3), (6, .int y22_6), (7, .int y22_7), (8, .int y22_8)]) hx hb dX3_work_43 hl (by decide) rfl (fun ls hl => ?_)
          refine lv_aload_n hx hb dX3_work_45 rfl (lv_at hl 2 rfl) ?_
          refine lv_iload hx hb dX3_work_46 (lv_at hl 7 rfl) ?_
          refine cVp (As := [.int y22_6]) (rest := []) S Y (x_X7_number (l := l) (j := i) I hW hT hQ hi) cw_X7_number km3_107 (I.opo (k := 30) (j := i) hi rfl).choose_spec.1 ok_X7.1 rfl rfl ⟨Nat.le_of_ble_eq_true rfl, Nat.le_of_ble_eq_true rfl⟩ hl.1 rfl (Nat.le_of_ble_eq_true rfl) ⟨Nat.le_of_ble_eq_true rfl, Nat.le_of_ble_eq_true rfl⟩ dX3_work_48 (fun r_11982 H locs er_11982 Y => ?_)
          refine lv_istore (lv' := [(10, .int r_11982), (9, .int r_11981), (0, .ref (ad 3 0)), (1, .ref (ad 30 i)), (2, .int i1), (3, .ref (ad 10 j)), (4, .int i2), (5, .int i3), (6, .int y22_6), (7, .int y22_7), (8, .int y22_8)]) hx hb dX3_work_51 hl (by decide) rfl (fun ls hl => ?_)
          obtain ⟨x_11983, ex_11983⟩ : ∃ z : Int32, z = y22_6 + 1 := ⟨_, rfl⟩
          refine lv_iinc (v := x_11983) (lv' := [(6, .int x_11983), (10, .int r_11982), (9, .int r_11981), (0, .ref (ad 3 0)), (1, .ref (ad 30 i)), (2, .int i1), (3, .ref (ad 10 j)), (4, .int i2), (5, .int i3), (7, .int y22_7), (8, .int y22_8)]) hx hb dX3_work_53 hl (k := 8) rfl (by rw [ex_11983]; rfl) (by decide) rfl (fun ls hl => ?_)
          refine lv_iload hx hb dX3_work_56 (lv_at hl 2 rfl) ?_
          refine lv_if_ne (tgt := 71) hx hb dX3_work_58 (by decide) (fun c_11984 => ?_) (fun c_11984 => ?_)
          · refine lv_iload hx hb dX3_work_71 (lv_at hl 2 rfl) ?_
            refine lv_iconst (v := 1) hx hb dX3_work_73 (by decide) ?_
            refine lv_icmp_ne (tgt := 96) hx hb dX3_work_74 (by decide) (fun c_11986 => ?_) (fun c_11986 => ?_)
            · refine lv_iload hx hb dX3_work_96 (lv_at hl 2 rfl) ?_
              refine lv_iconst (v := 2) hx hb dX3_work_98 (by decide) ?_
              refine lv_icmp_ne (tgt := 118) hx hb dX3_work_99 (by decide) (fun c_11988 => ?_) (fun c_11988 => ?_)
              · refine lv_iload hx hb dX3_work_118 (lv_at hl 2 rfl) ?_
                refine lv_iconst (v := 3) hx hb dX3_work_120 (by decide) ?_
                refine lv_icmp_eq (tgt := 137) hx hb dX3_work_121 (by decide) (fun c_11990 => ?_) (fun c_11990 => ?_)
                · have B_11991 : bn 3 3 r_11981 := bn_w (bn_eq c_11990 (show bn 3 3 (3 : Int32) from bn_k (by decide))) (by decide)
                  refine lv_iload hx hb dX3_work_137 (lv_at hl 1 rfl) ?_
                  refine lv_istore (lv' := [(6, .int r_11982), (10, .int r_11982), (9, .int r_11981), (0, .ref (ad 3 0)), (1, .ref (ad 30 i)), (2, .int i1), (3, .ref (ad 10 j)), (4, .int i2), (5, .int i3), (7, .int y22_7), (8, .int y22_8)]) hx hb dX3_work_139 hl (by decide) rfl (fun ls hl => ?_)
                  refine lv_goto (tgt := 158) hx hb dX3_work_141 (by decide) ?_
                  obtain ⟨x_11992, ex_11992⟩ : ∃ z : Int32, z = y22_8 + 1 := ⟨_, rfl⟩
                  refine lv_iinc (v := x_11992) (lv' := [(8, .int x_11992), (6, .int r_11982), (10, .int r_11982), (9, .int r_11981), (0, .ref (ad 3 0)), (1, .ref (ad 30 i)), (2, .int i1), (3, .ref (ad 10 j)), (4, .int i2), (5, .int i3), (7, .int y22_7)]) hx hb dX3_work_158 hl (k := 10) rfl (by rw [ex_11992]; rfl) (by decide) rfl (fun ls hl => ?_)
                  refine lv_goto (tgt := 22) hx hb dX3_work_161 (by decide) ?_
                  exact ih22 _ (by rw [← hm22]; exact ms_up (m := 1) ex_11992 (show bn 1 1 (1 : Int32) from bn_k (by decide)) B_11971 (bn_w (bn_eq ex_11992 (bn_add B_11971 (show bn 1 1 (1 : Int32) from bn_k (by decide)) (by decide))) (by decide) : bn 0 300 x_11992) (by decide)) r_11982 y22_7 x_11992 _ _  _ _ _ I (bn_w (bn_eq ex_11992 (bn_add B_11971 (show bn 1 1 (1 : Int32) from bn_k (by decide)) (by decide))) (by decide)) rfl Y (lv_sub hl [4, 5, 6, 7, 8, 9, 1, 10, 0] rfl)
                · refine lv_iload hx hb dX3_work_124 (lv_at hl 2 rfl) ?_
                  refine lv_iconst (v := 4) hx hb dX3_work_126 (by decide) ?_
                  refine lv_icmp_ne (tgt := 144) hx hb dX3_work_127 (by decide) (fun c_11993 => ?_) (fun c_11993 => ?_)
                  · refine lv_iload hx hb dX3_work_144 (lv_at hl 2 rfl) ?_
                    refine lv_iconst (v := 5) hx hb dX3_work_146 (by decide) ?_
                    refine lv_icmp_lt (tgt := 158) hx hb dX3_work_147 (by decide) (fun c_11995 => ?_) (fun c_11995 => ?_)
                    · have B_11996 : bn (-2147483648) 4 r_11981 := bn_w (bn_ltl c_11995 (bn_any r_11981) (show bn 5 5 (5 : Int32) from bn_k (by decide))) (by decide)
                      obtain ⟨x_11998, ex_11998⟩ : ∃ z : Int32, z = y22_8 + 1 := ⟨_, rfl⟩
                      refine lv_iinc (v := x_11998) (lv' := [(8, .int x_11998), (6, .int x_11983), (10, .int r_11982), (9, .int r_11981), (0, .ref (ad 3 0)), (1, .ref (ad 30 i)), (2, .int i1), (3, .ref (ad 10 j)), (4, .int i2), (5, .int i3), (7, .int y22_7)]) hx hb dX3_work_158 hl (k := 10) rfl (by rw [ex_11998]; rfl) (by decide) rfl (fun ls hl => ?_)
                      refine lv_goto (tgt := 22) hx hb dX3_work_161 (by decide) ?_
                      exact ih22 _ (by rw [← hm22]; exact ms_up (m := 1) ex_11998 (show bn 1 1 (1 : Int32) from bn_k (by decide)) B_11971 (bn_w (bn_eq ex_11998 (bn_add B_11971 (show bn 1 1 (1 : Int32) from bn_k (by decide)) (by decide))) (by decide) : bn 0 300 x_11998) (by decide)) x_11983 y22_7 x_11998 _ _  _ _ _ I (bn_w (bn_eq ex_11998 (bn_add B_11971 (show bn 1 1 (1 : Int32) from bn_k (by decide)) (by decide))) (by decide)) rfl Y (lv_sub hl [4, 5, 6, 7, 8, 9, 1, 10, 0] rfl)
                    · have B_11997 : bn 5 2147483647 r_11981 := bn_w (bn_gel c_11995 (bn_any r_11981) (show bn 5 5 (5 : Int32) from bn_k (by decide))) (by decide)
                      refine lv_aload_n hx hb dX3_work_150 rfl (lv_at hl 3 rfl) ?_
                      refine lv_iload hx hb dX3_work_151 (lv_at hl 2 rfl) ?_
                      refine lv_iload hx hb dX3_work_153 (lv_at hl 1 rfl) ?_
                      refine cVv (As := [.int r_11981, .int r_11982]) (rest := []) S Y (x_X3_combine (l := l) I hW hT hQ) cw_X3_combine km3_122 (I.opo (k := 3) (j := 0) (by decide) rfl).choose_spec.1 ok_X3.1 rfl rfl ⟨Nat.le_of_ble_eq_true rfl, Nat.le_of_ble_eq_true rfl⟩ hl.1 rfl (Nat.le_of_ble_eq_true rfl) ⟨Nat.le_of_ble_eq_true rfl, Nat.le_of_ble_eq_true rfl⟩ dX3_work_155 (fun L_11999 f_12000 H locs I Y => ?_)
                      obtain ⟨x_12001, ex_12001⟩ : ∃ z : Int32, z = y22_8 + 1 := ⟨_, rfl⟩
                      refine lv_iinc (v := x_12001) (lv' := [(8, .int x_12001), (6, .int x_11983), (10, .int r_11982), (9, .int r_11981), (0, .ref (ad 3 0)), (1, .ref (ad 30 i)), (2, .int i1), (3, .ref (ad 10 j)), (4, .int i2), (5, .int i3), (7, .int y22_7)]) hx hb dX3_work_158 hl (k := 10) rfl (by rw [ex_12001]; rfl) (by decide) rfl (fun ls hl => ?_)
                      refine lv_goto (tgt := 22) hx hb dX3_work_161 (by decide) ?_
                      exact ih22 _ (by rw [← hm22]; exact ms_up (m := 1) ex_12001 (show bn 1 1 (1 : Int32) from bn_k (by decide)) B_11971 (bn_w (bn_eq ex_12001 (bn_add B_11971 (show bn 1 1 (1 : Int32) from bn_k (by decide)) (by decide))) (by decide) : bn 0 300 x_12001) (by decide)) x_11983 y22_7 x_12001 _ _  _ _ _ I (bn_w (bn_eq ex_12001 (bn_add B_11971 (show bn 1 1 (1 : Int32) from bn_k (by decide)) (by decide))) (by decide)) rfl Y (lv_sub hl [4, 5, 6, 7, 8, 9, 1, 10, 0] rfl)
                  · have B_11994 : bn 4 4 r_11981 := bn_w (bn_eq c_11993 (show bn 4 4 (4 : Int32) from bn_k (by decide))) (by decide)
                    refine lv_aload_n hx hb dX3_work_130 rfl (lv_at hl 3 rfl) ?_
                    refine cVi (As := []) (rest := []) S Y (x_X3_pop (l := l) I hW hT hQ) cw_X3_pop km3_118 (I.opo (k := 3) (j := 0) (by decide) rfl).choose_spec.1 ok_X3.1 rfl rfl ⟨Nat.le_of_ble_eq_true rfl, Nat.le_of_ble_eq_true rfl⟩ hl.1 rfl (Nat.le_of_ble_eq_true rfl) ⟨Nat.le_of_ble_eq_true rfl, Nat.le_of_ble_eq_true rfl⟩ dX3_work_131 (fun r_12004 L_12002 f_12003 H locs I Y => ?_)
                    refine lv_if_ne (tgt := 144) hx hb dX3_work_134 (by decide) (fun c_12005 => ?_) (fun c_12005 => ?_)
                    · refine lv_iload hx hb dX3_work_144 (lv_at hl 2 rfl) ?_
                      refine lv_iconst (v := 5) hx hb dX3_work_146 (by decide) ?_
                      refine lv_icmp_lt (tgt := 158) hx hb dX3_work_147 (by decide) (fun _ => ?_) (fun h => absurd (bd_lt B_11994 (show bn 5 5 (5 : Int32) from bn_k (by decide)) (by decide)) h)
                      obtain ⟨x_12007, ex_12007⟩ : ∃ z : Int32, z = y22_8 + 1 := ⟨_, rfl⟩
                      refine lv_iinc (v := x_12007) (lv' := [(8, .int x_12007), (6, .int x_11983), (10, .int r_11982), (9, .int r_11981), (0, .ref (ad 3 0)), (1, .ref (ad 30 i)), (2, .int i1), (3, .ref (ad 10 j)), (4, .int i2), (5, .int i3), (7, .int y22_7)]) hx hb dX3_work_158 hl (k := 10) rfl (by rw [ex_12007]; rfl) (by decide) rfl (fun ls hl => ?_)
                      refine lv_goto (tgt := 22) hx hb dX3_work_161 (by decide) ?_
                      exact ih22 _ (by rw [← hm22]; exact ms_up (m := 1) ex_12007 (show bn 1 1 (1 : Int32) from bn_k (by decide)) B_11971 (bn_w (bn_eq ex_12007 (bn_add B_11971 (show bn 1 1 (1 : Int32) from bn_k (by decide)) (by decide))) (by decide) : bn 0 300 x_12007) (by decide)) x_11983 y22_7 x_12007 _ _  _ _ _ I (bn_w (bn_eq ex_12007 (bn_add B_11971 (show bn 1 1 (1 : Int32) from bn_k (by decide)) (by decide))) (by decide)) rfl Y (lv_sub hl [4, 5, 6, 7, 8, 9, 1, 10, 0] rfl)
                    · have B_12006 : bn 0 0 r_12004 := bn_w (bn_eq c_12005 (show bn 0 0 (0 : Int32) from bn_k (by decide))) (by decide)
                      refine lv_iload hx hb dX3_work_137 (lv_at hl 1 rfl) ?_
                      refine lv_istore (lv' := [(6, .int r_11982), (10, .int r_11982), (9, .int r_11981), (0, .ref (ad 3 0)), (1, .ref (ad 30 i)), (2, .int i1), (3, .ref (ad 10 j)), (4, .int i2), (5, .int i3), (7, .int y22_7), (8, .int y22_8)]) hx hb dX3_work_139 hl (by decide) rfl (fun ls hl => ?_)
                      refine lv_goto (tgt := 158) hx hb dX3_work_141 (by decide) ?_
                      obtain ⟨x_12008, ex_12008⟩ : ∃ z : Int32, z = y22_8 + 1 := ⟨_, rfl⟩
                      refine lv_iinc (v := x_12008) (lv' := [(8, .int x_12008), (6, .int r_11982), (10, .int r_11982), (9, .int r_11981), (0, .ref (ad 3 0)), (1, .ref (ad 30 i)), (2, .int i1), (3, .ref (ad 10 j)), (4, .int i2), (5, .int i3), (7, .int y22_7)]) hx hb dX3_work_158 hl (k := 10) rfl (by rw [ex_12008]; rfl) (by decide) rfl (fun ls hl => ?_)
                      refine lv_goto (tgt := 22) hx hb dX3_work_161 (by decide) ?_
                      exact ih22 _ (by rw [← hm22]; exact ms_up (m := 1) ex_12008 (show bn 1 1 (1 : Int32) from bn_k (by decide)) B_11971 (bn_w (bn_eq ex_12008 (bn_add B_11971 (show bn 1 1 (1 : Int32) from bn_k (by decide)) (by decide))) (by decide) : bn 0 300 x_12008) (by decide)) r_11982 y22_7 x_12008 _ _  _ _ _ I (bn_w (bn_eq ex_12008 (bn_add B_11971 (show bn 1 1 (1 : Int32) from bn_k (by decide)) (by decide))) (by decide)) rfl Y (lv_sub hl [4, 5, 6, 7, 8, 9, 1, 10, 0] rfl)
              · have B_11989 : bn 2 2 r_11981 := bn_w (bn_eq c_11988 (show bn 2 2 (2 : Int32) from bn_k (by decide))) (by decide)
                refine lv_aload_n hx hb dX3_work_102 rfl (lv_at hl 3 rfl) ?_
                refine lv_aload_n hx hb dX3_work_103 rfl (lv_at hl 6 rfl) ?_
                refine lv_aload_n hx hb dX3_work_104 rfl (lv_at hl 3 rfl) ?_
                refine cVi (As := []) (rest := [.ref (ad 10 j), .ref (ad 3 0)]) S Y (x_X3_pop (l := l) I hW hT hQ) cw_X3_pop km3_118 (I.opo (k := 3) (j := 0) (by decide) rfl).choose_spec.1 ok_X3.1 rfl rfl ⟨Nat.le_of_ble_eq_true rfl, Nat.le_of_ble_eq_true rfl⟩ hl.1 rfl (Nat.le_of_ble_eq_true rfl) ⟨Nat.le_of_ble_eq_true rfl, Nat.le_of_ble_eq_true rfl⟩ dX3_work_105 (fun r_12011 L_12009 f_12010 H locs I Y => ?_)
                refine cVp (As := [.int r_12011]) (rest := [.ref (ad 3 0)]) S Y (x_X4_marks (l := l) (j := j) I hW hT hQ hj) cw_X4_marks km3_60 (I.opo (k := 10) (j := j) hj rfl).choose_spec.1 ok_X4.1 rfl rfl ⟨Nat.le_of_ble_eq_true rfl, Nat.le_of_ble_eq_true rfl⟩ hl.1 rfl (Nat.le_of_ble_eq_true rfl) ⟨Nat.le_of_ble_eq_true rfl, Nat.le_of_ble_eq_true rfl⟩ dX3_work_108 (fun r_12012 H locs er_12012 Y => ?_)
                refine lv_i2l hx hb dX3_work_111 rfl ?_
                refine lv_topl (fun x_12013 ex_12013 => ?_)
                refine cVv (As := [.long x_12013]) (rest := []) S Y (x_X3_push (l := l) I hW hT hQ) cw_X3_push km3_110 (I.opo (k := 3) (j := 0) (by decide) rfl).choose_spec.1 ok_X3.1 rfl rfl ⟨Nat.le_of_ble_eq_true rfl, Nat.le_of_ble_eq_true rfl⟩ hl.1 rfl (Nat.le_of_ble_eq_true rfl) ⟨Nat.le_of_ble_eq_true rfl, Nat.le_of_ble_eq_true rfl⟩ dX3_work_112 (fun L_12014 f_12015 H locs I Y => ?_)
                refine lv_goto (tgt := 158) hx hb dX3_work_115 (by decide) ?_
                obtain ⟨x_12016, ex_12016⟩ : ∃ z : Int32, z = y22_8 + 1 := ⟨_, rfl⟩
                refine lv_iinc (v := x_12016) (lv' := [(8, .int x_12016), (6, .int x_11983), (10, .int r_11982), (9, .int r_11981), (0, .ref (ad 3 0)), (1, .ref (ad 30 i)), (2, .int i1), (3, .ref (ad 10 j)), (4, .int i2), (5, .int i3), (7, .int y22_7)]) hx hb dX3_work_158 hl (k := 10) rfl (by rw [ex_12016]; rfl) (by decide) rfl (fun ls hl => ?_)
                refine lv_goto (tgt := 22) hx hb dX3_work_161 (by decide) ?_
                exact ih22 _ (by rw [← hm22]; exact ms_up (m := 1) ex_12016 (show bn 1 1 (1 : Int32) from bn_k (by decide)) B_11971 (bn_w (bn_eq ex_12016 (bn_add B_11971 (show bn 1 1 (1 : Int32) from bn_k (by decide)) (by decide))) (by decide) : bn 0 300 x_12016) (by decide)) x_11983 y22_7 x_12016 _ _  _ _ _ I (bn_w (bn_eq ex_12016 (bn_add B_11971 (show bn 1 1 (1 : Int32) from bn_k (by decide)) (by decide))) (by decide)) rfl Y (lv_sub hl [4, 5, 6, 7, 8, 9, 1, 10, 0] rfl)
            · have B_11987 : bn 1 1 r_11981 := bn_w (bn_eq c_11986 (show bn 1 1 (1 : Int32) from bn_k (by decide))) (by decide)
              refine lv_aload_n hx hb dX3_work_77 rfl (lv_at hl 3 rfl) ?_
              refine lv_aload_n hx hb dX3_work_78 rfl (lv_at hl 3 rfl) ?_
              refine lv_iload hx hb dX3_work_79 (lv_at hl 1 rfl) ?_
              refine lv_aload_n hx hb dX3_work_81 rfl (lv_at hl 6 rfl) ?_
              refine lv_iload hx hb dX3_work_82 (lv_at hl 7 rfl) ?_
              refine lv_iload hx hb dX3_work_84 (lv_at hl 8 rfl) ?_
              refine cVp (As := [.int r_11982, .ref (ad 10 j), .int i2, .int i3]) (rest := [.ref (ad 3 0)]) S Y (x_X3_named (l := l) (j := j) I hW hT hQ hj) cw_X3_named km3_114 (I.opo (k := 3) (j := 0) (by decide) rfl).choose_spec.1 ok_X3.1 rfl rfl ⟨Nat.le_of_ble_eq_true rfl, Nat.le_of_ble_eq_true rfl⟩ hl.1 rfl (Nat.le_of_ble_eq_true rfl) ⟨Nat.le_of_ble_eq_true rfl, Nat.le_of_ble_eq_true rfl⟩ dX3_work_86 (fun r_12017 H locs er_12017 Y => ?_)
              refine lv_i2l hx hb dX3_work_89 rfl ?_
              refine lv_topl (fun x_12018 ex_12018 => ?_)
              refine cVv (As := [.long x_12018]) (rest := []) S Y (x_X3_push (l := l) I hW hT hQ) cw_X3_push km3_110 (I.opo (k := 3) (j := 0) (by decide) rfl).choose_spec.1 ok_X3.1 rfl rfl ⟨Nat.le_of_ble_eq_true rfl, Nat.le_of_ble_eq_true rfl⟩ hl.1 rfl (Nat.le_of_ble_eq_true rfl) ⟨Nat.le_of_ble_eq_true rfl, Nat.le_of_ble_eq_true rfl⟩ dX3_work_90 (fun L_12019 f_12020 H locs I Y => ?_)
              refine lv_goto (tgt := 158) hx hb dX3_work_93 (by decide) ?_
              obtain ⟨x_12021, ex_12021⟩ : ∃ z : Int32, z = y22_8 + 1 := ⟨_, rfl⟩
              refine lv_iinc (v := x_12021) (lv' := [(8, .int x_12021), (6, .int x_11983), (10, .int r_11982), (9, .int r_11981), (0, .ref (ad 3 0)), (1, .ref (ad 30 i)), (2, .int i1), (3, .ref (ad 10 j)), (4, .int i2), (5, .int i3), (7, .int y22_7)]) hx hb dX3_work_158 hl (k := 10) rfl (by rw [ex_12021]; rfl) (by decide) rfl (fun ls hl => ?_)
              refine lv_goto (tgt := 22) hx hb dX3_work_161 (by decide) ?_
              exact ih22 _ (by rw [← hm22]; exact ms_up (m := 1) ex_12021 (show bn 1 1 (1 : Int32) from bn_k (by decide)) B_11971 (bn_w (bn_eq ex_12021 (bn_add B_11971 (show bn 1 1 (1 : Int32) from bn_k (by decide)) (by decide))) (by decide) : bn 0 300 x_12021) (by decide)) x_11983 y22_7 x_12021 _ _  _ _ _ I (bn_w (bn_eq ex_12021 (bn_add B_11971 (show bn 1 1 (1 : Int32) from bn_k (by decide)) (by decide))) (by decide)) rfl Y (lv_sub hl [4, 5, 6, 7, 8, 9, 1, 10, 0] rfl)
          · have B_11985 : bn 0 0 r_11981 := bn_w (bn_eq c_11984 (show bn 0 0 (0 : Int32) from bn_k (by decide))) (by decide)
            refine lv_aload_n hx hb dX3_work_61 rfl (lv_at hl 3 rfl) ?_
            refine lv_iload hx hb dX3_work_62 (lv_at hl 1 rfl) ?_
            refine lv_i2l hx hb dX3_work_64 rfl ?_
            refine lv_topl (fun x_12022 ex_12022 => ?_)
            refine cVv (As := [.long x_12022]) (rest := []) S Y (x_X3_push (l := l) I hW hT hQ) cw_X3_push km3_110 (I.opo (k := 3) (j := 0) (by decide) rfl).choose_spec.1 ok_X3.1 rfl rfl ⟨Nat.le_of_ble_eq_true rfl, Nat.le_of_ble_eq_true rfl⟩ hl.1 rfl (Nat.le_of_ble_eq_true rfl) ⟨Nat.le_of_ble_eq_true rfl, Nat.le_of_ble_eq_true rfl⟩ dX3_work_65 (fun L_12023 f_12024 H locs I Y => ?_)
            refine lv_goto (tgt := 158) hx hb dX3_work_68 (by decide) ?_
            obtain ⟨x_12025, ex_12025⟩ : ∃ z : Int32, z = y22_8 + 1 := ⟨_, rfl⟩
            refine lv_iinc (v := x_12025) (lv' := [(8, .int x_12025), (6, .int x_11983), (10, .int r_11982), (9, .int r_11981), (0, .ref (ad 3 0)), (1, .ref (ad 30 i)), (2, .int i1), (3, .ref (ad 10 j)), (4, .int i2), (5, .int i3), (7, .int y22_7)]) hx hb dX3_work_158 hl (k := 10) rfl (by rw [ex_12025]; rfl) (by decide) rfl (fun ls hl => ?_)
            refine lv_goto (tgt := 22) hx hb dX3_work_161 (by decide) ?_
            exact ih22 _ (by rw [← hm22]; exact ms_up (m := 1) ex_12025 (show bn 1 1 (1 : Int32) from bn_k (by decide)) B_11971 (bn_w (bn_eq ex_12025 (bn_add B_11971 (show bn 1 1 (1 : Int32) from bn_k (by decide)) (by decide))) (by decide) : bn 0 300 x_12025) (by decide)) x_11983 y22_7 x_12025 _ _  _ _ _ I (bn_w (bn_eq ex_12025 (bn_add B_11971 (show bn 1 1 (1 : Int32) from bn_k (by decide)) (by decide))) (by decide)) rfl Y (lv_sub hl [4, 5, 6, 7, 8, 9, 1, 10, 0] rfl)
  refine lv_aload_n hx hb dX3_work_0 rfl (lv_at hl 1 rfl) ?_
  refine lv_iload_n hx hb dX3_work_1 rfl (lv_at hl 2 rfl) ?_
  refine cVp (As := [.int i1]) (rest := []) S Y (x_X7_lawStart (l := l) (j := i) I hW hT hQ hi) cw_X7_lawStart km3_95 (I.opo (k := 30) (j := i) hi rfl).choose_spec.1 ok_X7.1 rfl rfl ⟨Nat.le_of_ble_eq_true rfl, Nat.le_of_ble_eq_true rfl⟩ hl.1 rfl (Nat.le_of_ble_eq_true rfl) ⟨Nat.le_of_ble_eq_true rfl, Nat.le_of_ble_eq_true rfl⟩ dX3_work_2 (fun r_12026 H locs er_12026 Y => ?_)
  refine lv_istore (lv' := [(6, .int r_12026), (0, .ref (ad 3 0)), (1, .ref (ad 30 i)), (2, .int i1), (3, .ref (ad 10 j)), (4, .int i2), (5, .int i3)]) hx hb dX3_work_5 hl (by decide) rfl (fun ls hl => ?_)
  refine lv_aload_n hx hb dX3_work_7 rfl (lv_at hl 2 rfl) ?_
  refine lv_iload_n hx hb dX3_work_8 rfl (lv_at hl 3 rfl) ?_
  refine cVp (As := [.int i1]) (rest := []) S Y (x_X7_lawEnd (l := l) (j := i) I hW hT hQ hi) cw_X7_lawEnd km3_98 (I.opo (k := 30) (j := i) hi rfl).choose_spec.1 ok_X7.1 rfl rfl ⟨Nat.le_of_ble_eq_true rfl, Nat.le_of_ble_eq_true rfl⟩ hl.1 rfl (Nat.le_of_ble_eq_true rfl) ⟨Nat.le_of_ble_eq_true rfl, Nat.le_of_ble_eq_true rfl⟩ dX3_work_9 (fun r_12027 H locs er_12027 Y => ?_)
  refine lv_istore (lv' := [(7, .int r_12027), (6, .int r_12026), (0, .ref (ad 3 0)), (1, .ref (ad 30 i)), (2, .int i1), (3, .ref (ad 10 j)), (4, .int i2), (5, .int i3)]) hx hb dX3_work_12 hl (by decide) rfl (fun ls hl => ?_)
  refine lv_aload_n hx hb dX3_work_14 rfl (lv_at hl 2 rfl) ?_
  refine lv_iconst (v := 0) hx hb dX3_work_15 (by decide) ?_
  obtain ⟨v_12028, p_ad_3_0, b_12029⟩ := opnC_3 (j := 0) I (by decide)
  have p_ad_3_0 : pt L f (ad 3 0) (.inr (3, [.ref (ad 1 0), .ref (ad 54 0), .int v_12028])) := p_ad_3_0
  refine pg_put S Y ok_X3 2 (by decide) kf3_101 rfl (fs' := [.ref (ad 1 0), .ref (ad 54 0), .int 0]) (v := .int 0) p_ad_3_0 rfl rfl rfl (Nat.le_of_ble_eq_true rfl) dX3_work_16 (fun f_12030 H locs ef_12030 Y => ?_)
  have p_ad_3_0 := p_ad_3_0.me ef_12030
  have I := I.up (k := 3) (j := 0) (by decide) ef_12030 (okE_o (okFs_c okV_r (okFs_c okV_r (okFs_c (okV_i (bn_w (show bn 0 0 (0 : Int32) from bn_k (by decide)) (by decide))) okFs_n))))
  refine lv_iconst (v := 0) hx hb dX3_work_19 (by decide) ?_
  refine lv_istore (lv' := [(8, .int 0), (7, .int r_12027), (6, .int r_12026), (0, .ref (ad 3 0)), (1, .ref (ad 30 i)), (2, .int i1), (3, .ref (ad 10 j)), (4, .int i2), (5, .int i3)]) hx hb dX3_work_20 hl (by decide) rfl (fun ls hl => ?_)
  exact J_22 _ r_12026 r_12027 0 _ _  _ _ _ I (bn_w (show bn 0 0 (0 : Int32) from bn_k (by decide)) (by decide)) rfl Y (lv_sub hl [3, 4, 5, 6, 7, 8, 2, 1, 0] rfl)
set_option maxHeartbeats 4000000 in
set_option maxRecDepth 100000 in
theorem x_X3_wearOf {l : Launch} {G : GG}  {L : List Nat} {f : HF} {ad : Nat → Nat → Nat} {rs : FS} {fc : Int × Int} {tc w : Nat → Int × Int} {q : Nat → (Nat → Int32) → Prop} {j : Nat} {i1 i2 : Int32} (I : SH (spC rs fc tc w q) nnC G ad L f) (hW : WBp w 8) (hT : WBp tc 4) (hQ : QIp q) (hj : j < 63) : PMi l yX3_wearOf cX3_wearOf 6 .int 3 0 0 G [.ref (ad 3 0), .int i1, .ref (ad 10 j), .int i2] L f (fun r L1 f1 => SH (spC rs fc tc w q) nnC G ad L1 f1) := by
  refine PMi.of (post := fun r L1 f1 => SH (spC rs fc tc w q) nnC G ad L1 f1) (own := RX3) (by decide) rfl (Nat.le_of_ble_eq_true rfl) (fun sz p e s m args below meth c A ls hA1 hname S Y hl => ?_)
  have hx := S.hx
  have hb := S.hb
  have hl : lv_has ls 6 [(0, .ref (ad 3 0)), (1, .int i1), (2, .ref (ad 10 j)), (3, .int i2)] := hl
  refine lv_aload_n hx hb dX3_wearOf_0 rfl (lv_at hl 2 rfl) ?_
  refine lv_iload_n hx hb dX3_wearOf_1 rfl (lv_at hl 3 rfl) ?_
  refine lv_iconst (v := 1) hx hb dX3_wearOf_2 (by decide) ?_
  refine cVp (As := [.int i2, .int 1]) (rest := []) S Y (x_X4_get (l := l) (j := j) I hW hT hQ hj) cw_X4_get km3_19 (I.opo (k := 10) (j := j) hj rfl).choose_spec.1 ok_X4.1 rfl rfl ⟨Nat.le_of_ble_eq_true rfl, Nat.le_of_ble_eq_true rfl⟩ hl.1 rfl (Nat.le_of_ble_eq_true rfl) ⟨Nat.le_of_ble_eq_true rfl, Nat.le_of_ble_eq_true rfl⟩ dX3_wearOf_3 (fun r_12067 H locs er_12067 Y => ?_)
  refine lv_istore (lv' := [(4, .int r_12067), (0, .ref (ad 3 0)), (1, .int i1), (2, .ref (ad 10 j)), (3, .int i2)]) hx hb dX3_wearOf_6 hl (by decide) rfl (fun ls hl => ?_)
  refine lv_aload_n hx hb dX3_wearOf_8 rfl (lv_at hl 1 rfl) ?_
  obtain ⟨v_12068, p_ad_3_0, b_12069⟩ := opnC_3 (j := 0) I (by decide)
  have p_ad_3_0 : pt L f (ad 3 0) (.inr (3, [.ref (ad 1 0), .ref (ad 54 0), .int v_12068])) := p_ad_3_0
  refine pg_get S Y ok_X3 0 (by decide) kf3_15 (v := .ref (ad 1 0)) p_ad_3_0 rfl dX3_wearOf_9 ?_
  refine lv_iload_n hx hb dX3_wearOf_12 rfl (lv_at hl 2 rfl) ?_
  refine cVw (As := [.int i1]) (rest := []) S Y (x_X10_script (l := l) I hW hT hQ) cw_X10_script km3_25 (I.opo (k := 1) (j := 0) (by decide) rfl).choose_spec.1 ok_X10.1 rfl rfl ⟨Nat.le_of_ble_eq_true rfl, Nat.le_of_ble_eq_true rfl⟩ hl.1 rfl (Nat.le_of_ble_eq_true rfl) ⟨Nat.le_of_ble_eq_true rfl, Nat.le_of_ble_eq_true rfl⟩ dX3_wearOf_13 (fun r_12070 H locs er_12070 Y => ?_)
  rcases er_12070 with er_12070 | ⟨t_12071, ht_12071, er_12070⟩
  · rw [er_12070]
    show W _ _ _ _ _ _ _ _ _ _ _ _ _ _ _ (F0 _ _ _ (.null :: _))
    refine lv_astoreN (lv' := [(5, .null), (4, .int r_12067), (0, .ref (ad 3 0)), (1, .int i1), (2, .ref (ad 10 j)), (3, .int i2)]) hx hb dX3_wearOf_16 hl (by decide) rfl (fun ls hl => ?_)
    refine lv_aloadN hx hb dX3_wearOf_18 (lv_at hl 0 rfl) ?_
    refine lv_ifnullN (tgt := 32) hx hb dX3_wearOf_20 (by decide) ?_
    refine lv_bipush (v := 10) hx hb dX3_wearOf_32 (by decide) ?_
    refine lv_aload_n hx hb dX3_wearOf_34 rfl (lv_at hl 2 rfl) ?_
    refine pg_get S Y ok_X3 0 (by decide) kf3_15 (v := .ref (ad 1 0)) p_ad_3_0 rfl dX3_wearOf_35 ?_
    refine lv_iload hx hb dX3_wearOf_38 (lv_at hl 1 rfl) ?_
    refine cVp (As := [.int r_12067]) (rest := [.int 10]) S Y (x_X10_toughOf (l := l) I hW hT hQ) cw_X10_toughOf km3_37 (I.opo (k := 1) (j := 0) (by decide) rfl).choose_spec.1 ok_X10.1 rfl rfl ⟨Nat.le_of_ble_eq_true rfl, Nat.le_of_ble_eq_true rfl⟩ hl.1 rfl (Nat.le_of_ble_eq_true rfl) ⟨Nat.le_of_ble_eq_true rfl, Nat.le_of_ble_eq_true rfl⟩ dX3_wearOf_40 (fun r_12072 H locs er_12072 Y => ?_)
    refine lv_isub hx hb dX3_wearOf_43 ?_
    refine lv_topi (fun x_12073 ex_12073 => ?_)
    exact prI (post := fun r L1 f1 => SH (spC rs fc tc w q) nnC G ad L1 f1) S Y rfl (by decide) (by decide) hA1 I dX3_wearOf_44
  · rw [er_12070]
    have e9 : 0 + t_12071 = t_12071 := Nat.zero_add _
    rw [e9]
    show W _ _ _ _ _ _ _ _ _ _ _ _ _ _ _ (F0 _ _ _ (.ref (ad 30 t_12071) :: _))
    refine lv_astore (lv' := [(5, .ref (ad 30 t_12071)), (4, .int r_12067), (0, .ref (ad 3 0)), (1, .int i1), (2, .ref (ad 10 j)), (3, .int i2)]) hx hb dX3_wearOf_16 hl (by decide) rfl (fun ls hl => ?_)
    refine lv_aload hx hb dX3_wearOf_18 (lv_at hl 0 rfl) ?_
    refine lv_ifnull hx hb dX3_wearOf_20 ?_
    refine lv_aload hx hb dX3_wearOf_23 (lv_at hl 0 rfl) ?_
    refine lv_iconst (v := 0) hx hb dX3_wearOf_25 (by decide) ?_
    refine cVp (As := [.int 0]) (rest := []) S Y (x_X7_hasLaw (l := l) (j := t_12071) I hW hT hQ (show t_12071 < 8 from by omega)) cw_X7_hasLaw km3_31 (I.opo (k := 30) (j := t_12071) (show t_12071 < 8 from by omega) rfl).choose_spec.1 ok_X7.1 rfl rfl ⟨Nat.le_of_ble_eq_true rfl, Nat.le_of_ble_eq_true rfl⟩ hl.1 rfl (Nat.le_of_ble_eq_true rfl) ⟨Nat.le_of_ble_eq_true rfl, Nat.le_of_ble_eq_true rfl⟩ dX3_wearOf_26 (fun r_12074 H locs er_12074 Y => ?_)
    refine lv_if_ne (tgt := 45) hx hb dX3_wearOf_29 (by decide) (fun c_12075 => ?_) (fun c_12075 => ?_)
    · have B_12076 : bn 1 1 r_12074 := bn_w (bn_nel c_12075 er_12074 (show bn 0 0 (0 : Int32) from bn_k (by decide))) (by decide)
      refine lv_iconst (v := 0) hx hb dX3_wearOf_45 (by decide) ?_
      refine lv_bipush (v := 99) hx hb dX3_wearOf_46 (by decide) ?_
      refine lv_aload_n hx hb dX3_wearOf_48 rfl (lv_at hl 2 rfl) ?_
      refine lv_aload hx hb dX3_wearOf_49 (lv_at hl 0 rfl) ?_
      refine lv_iconst (v := 0) hx hb dX3_wearOf_51 (by decide) ?_
      refine lv_aload_n hx hb dX3_wearOf_52 rfl (lv_at hl 4 rfl) ?_
      refine lv_iload hx hb dX3_wearOf_53 (lv_at hl 1 rfl) ?_
      refine lv_iload_n hx hb dX3_wearOf_55 rfl (lv_at hl 5 rfl) ?_
      refine cVi (As := [.ref (ad 30 t_12071), .int 0, .ref (ad 10 j), .int r_12067, .int i2]) (rest := [.int 99, .int 0]) S Y (x_X3_work (l := l) (i := t_12071) (j := j) I hW hT hQ (show t_12071 < 8 from by omega) hj) cw_X3_work km3_41 p_ad_3_0 ok_X3.1 rfl rfl ⟨Nat.le_of_ble_eq_true rfl, Nat.le_of_ble_eq_true rfl⟩ hl.1 rfl (Nat.le_of_ble_eq_true rfl) ⟨Nat.le_of_ble_eq_true rfl, Nat.le_of_ble_eq_true rfl⟩ dX3_wearOf_56 (fun r_12080 L_12078 f_12079 H locs I Y => ?_)
      refine va_mmin hx hb (S.ml.trans hl.1.symm) S.ow (S.w km3_45) (S.w kMs_min) (S.w kMi) (S.w kMc_min) (Nat.le_of_ble_eq_true rfl) (Nat.le_of_ble_eq_true rfl) (by decide) (by decide) dX3_wearOf_59 ?_
      refine lv_topi (fun x_12081 ex_12081 => ?_)
      refine va_mmax hx hb (S.ml.trans hl.1.symm) S.ow (S.w km3_50) (S.w kMs_max) (S.w kMi) (S.w kMc_max) (Nat.le_of_ble_eq_true rfl) (Nat.le_of_ble_eq_true rfl) (by decide) (by decide) dX3_wearOf_62 ?_
      refine lv_topi (fun x_12082 ex_12082 => ?_)
      exact prI (post := fun r L1 f1 => SH (spC rs fc tc w q) nnC G ad L1 f1) S Y rfl (by decide) (by decide) hA1 I dX3_wearOf_65
    · have B_12077 : bn 0 0 r_12074 := bn_w (bn_eq c_12075 (show bn 0 0 (0 : Int32) from bn_k (by decide))) (by decide)
      refine lv_bipush (v := 10) hx hb dX3_wearOf_32 (by decide) ?_
      refine lv_aload_n hx hb dX3_wearOf_34 rfl (lv_at hl 2 rfl) ?_
      refine pg_get S Y ok_X3 0 (by decide) kf3_15 (v := .ref (ad 1 0)) p_ad_3_0 rfl dX3_wearOf_35 ?_
      refine lv_iload hx hb dX3_wearOf_38 (lv_at hl 1 rfl) ?_
      refine cVp (As := [.int r_12067]) (rest := [.int 10]) S Y (x_X10_toughOf (l := l) I hW hT hQ) cw_X10_toughOf km3_37 (I.opo (k := 1) (j := 0) (by decide) rfl).choose_spec.1 ok_X10.1 rfl rfl ⟨Nat.le_of_ble_eq_true rfl, Nat.le_of_ble_eq_true rfl⟩ hl.1 rfl (Nat.le_of_ble_eq_true rfl) ⟨Nat.le_of_ble_eq_true rfl, Nat.le_of_ble_eq_true rfl⟩ dX3_wearOf_40 (fun r_12083 H locs er_12083 Y => ?_)
      refine lv_isub hx hb dX3_wearOf_43 ?_
      refine lv_topi (fun x_12084 ex_12084 => ?_)
      exact prI (post := fun r L1 f1 => SH (spC rs fc tc w q) nnC G ad L1 f1) S Y rfl (by decide) (by decide) hA1 I dX3_wearOf_44
set_option maxHeartbeats 4000000 in
set_option maxRecDepth 100000 in
theorem x_X3_painOf {l : Launch} {G : GG}  {L : List Nat} {f : HF} {ad : Nat → Nat → Nat} {rs : FS} {fc : Int × Int} {tc w : Nat → Int × Int} {q : Nat → (Nat → Int32) → Prop} {j : Nat} {i2 : Int32} (I : SH (spC rs fc tc w q) nnC G ad L f) (hW : WBp w 8) (hT : WBp tc 4) (hQ : QIp q) (hj : j < 63) : PMi l yX3_painOf cX3_painOf 4 .int 3 0 0 G [.ref (ad 3 0), .ref (ad 10 j), .int i2] L f (fun r L1 f1 => SH (spC rs fc tc w q) nnC G ad L1 f1) := by
  refine PMi.of (post := fun r L1 f1 => SH (spC rs fc tc w q) nnC G ad L1 f1) (own := RX3) (by decide) rfl (Nat.le_of_ble_eq_true rfl) (fun sz p e s m args below meth c A ls hA1 hname S Y hl => ?_)
  have hx := S.hx
  have hb := S.hb
  have hl : lv_has ls 4 [(0, .ref (ad 3 0)), (1, .ref (ad 10 j)), (2, .int i2)] := hl
  refine lv_aload_n hx hb dX3_painOf_0 rfl (lv_at hl 0 rfl) ?_
  obtain ⟨v_12185, p_ad_3_0, b_12186⟩ := opnC_3 (j := 0) I (by decide)
  have p_ad_3_0 : pt L f (ad 3 0) (.inr (3, [.ref (ad 1 0), .ref (ad 54 0), .int v_12185])) := p_ad_3_0
  refine pg_get S Y ok_X3 0 (by decide) kf3_15 (v := .ref (ad 1 0)) p_ad_3_0 rfl dX3_painOf_1 ?_
  refine lv_aload_n hx hb dX3_painOf_4 rfl (lv_at hl 0 rfl) ?_
  refine pg_get S Y ok_X3 0 (by decide) kf3_15 (v := .ref (ad 1 0)) p_ad_3_0 rfl dX3_painOf_5 ?_
  obtain ⟨v_12187, v_12189, v_12191, v_12193, v_12195, p_ad_1_0, b_12188, b_12190, b_12192, b_12194, b_12196⟩ := opnC_1 (j := 0) I (by decide)
  have p_ad_1_0 : pt L f (ad 1 0) (.inr (10, [.ref (ad 40 0), .ref (ad 41 0), .ref (ad 42 0), .ref (ad 10 0), .ref (ad 43 0), .ref (ad 20 0), .ref (ad 20 1), .ref (ad 20 2), .ref (ad 20 3), .ref (ad 20 4), .int v_12187, .int v_12189, .int v_12191, .int v_12193, .int v_12195])) := p_ad_1_0
  refine pg_getN S Y ok_X10 12 (by decide) kf3_53 (v := .int v_12191) p_ad_1_0 rfl dX3_painOf_8 ?_
  refine cVw (As := [.int v_12191]) (rest := []) S Y (x_X10_script (l := l) I hW hT hQ) cw_X10_script km3_25 p_ad_1_0 ok_X10.1 rfl rfl ⟨Nat.le_of_ble_eq_true rfl, Nat.le_of_ble_eq_true rfl⟩ hl.1 rfl (Nat.le_of_ble_eq_true rfl) ⟨Nat.le_of_ble_eq_true rfl, Nat.le_of_ble_eq_true rfl⟩ dX3_painOf_11 (fun r_12197 H locs er_12197 Y => ?_)
  rcases er_12197 with er_12197 | ⟨t_12198, ht_12198, er_12197⟩
  · rw [er_12197]
    show W _ _ _ _ _ _ _ _ _ _ _ _ _ _ _ (F0 _ _ _ (.null :: _))
    refine lv_astore_nN (lv' := [(3, .null), (0, .ref (ad 3 0)), (1, .ref (ad 10 j)), (2, .int i2)]) hx hb dX3_painOf_14 rfl hl (by decide) rfl (fun ls hl => ?_)
    refine lv_aload_nN hx hb dX3_painOf_15 rfl (lv_at hl 0 rfl) ?_
    refine lv_ifnullN (tgt := 27) hx hb dX3_painOf_16 (by decide) ?_
    refine lv_aload_n hx hb dX3_painOf_27 rfl (lv_at hl 2 rfl) ?_
    refine lv_iload_n hx hb dX3_painOf_28 rfl (lv_at hl 3 rfl) ?_
    refine lv_iconst (v := 3) hx hb dX3_painOf_29 (by decide) ?_
    refine cVp (As := [.int i2, .int 3]) (rest := []) S Y (x_X4_get (l := l) (j := j) I hW hT hQ hj) cw_X4_get km3_19 (I.opo (k := 10) (j := j) hj rfl).choose_spec.1 ok_X4.1 rfl rfl ⟨Nat.le_of_ble_eq_true rfl, Nat.le_of_ble_eq_true rfl⟩ hl.1 rfl (Nat.le_of_ble_eq_true rfl) ⟨Nat.le_of_ble_eq_true rfl, Nat.le_of_ble_eq_true rfl⟩ dX3_painOf_30 (fun r_12199 H locs er_12199 Y => ?_)
    refine lv_aload_n hx hb dX3_painOf_33 rfl (lv_at hl 2 rfl) ?_
    obtain ⟨v_12200, v_12202, v_12204, v_12206, v_12208, p_ad_10_j, b_12201, b_12203, b_12205, b_12207, b_12209⟩ := opnC_10 (j := j) I hj
    have p_ad_10_j : pt L f (ad 10 j) (.inr (4, [.ref (ad 11 j), .ref (ad 12 j), .int v_12200, .int v_12202, .int v_12204, .int v_12206, .int v_12208])) := p_ad_10_j
    refine pg_getN S Y ok_X4 5 (by decide) kf3_57 (v := .int v_12206) p_ad_10_j rfl dX3_painOf_34 ?_
    refine lv_imul hx hb dX3_painOf_37 ?_
    refine lv_topi (fun x_12210 ex_12210 => ?_)
    refine lv_bipush (v := 10) hx hb dX3_painOf_38 (by decide) ?_
    refine lv_idiv hx hb dX3_painOf_40 (by decide) ?_
    refine lv_topi (fun x_12211 ex_12211 => ?_)
    exact prI (post := fun r L1 f1 => SH (spC rs fc tc w q) nnC G ad L1 f1) S Y rfl (by decide) (by decide) hA1 I dX3_painOf_41
  · rw [er_12197]
    have e9 : 0 + t_12198 = t_12198 := Nat.zero_add _
    rw [e9]
    show W _ _ _ _ _ _ _ _ _ _ _ _ _ _ _ (F0 _ _ _ (.ref (ad 30 t_12198) :: _))
    refine lv_astore_n (lv' := [(3, .ref (ad 30 t_12198)), (0, .ref (ad 3 0)), (1, .ref (ad 10 j)), (2, .int i2)]) hx hb dX3_painOf_14 rfl hl (by decide) rfl (fun ls hl => ?_)
    refine lv_aload_n hx hb dX3_painOf_15 rfl (lv_at hl 0 rfl) ?_
    refine lv_ifnull hx hb dX3_painOf_16 ?_
    refine lv_aload_n hx hb dX3_painOf_19 rfl (lv_at hl 0 rfl) ?_
    refine lv_iconst (v := 1) hx hb dX3_painOf_20 (by decide) ?_
    refine cVp (As := [.int 1]) (rest := []) S Y (x_X7_hasLaw (l := l) (j := t_12198) I hW hT hQ (show t_12198 < 8 from by omega)) cw_X7_hasLaw km3_31 (I.opo (k := 30) (j := t_12198) (show t_12198 < 8 from by omega) rfl).choose_spec.1 ok_X7.1 rfl rfl ⟨Nat.le_of_ble_eq_true rfl, Nat.le_of_ble_eq_true rfl⟩ hl.1 rfl (Nat.le_of_ble_eq_true rfl) ⟨Nat.le_of_ble_eq_true rfl, Nat.le_of_ble_eq_true rfl⟩ dX3_painOf_21 (fun r_12212 H locs er_12212 Y => ?_)
    refine lv_if_ne (tgt := 42) hx hb dX3_painOf_24 (by decide) (fun c_12213 => ?_) (fun c_12213 => ?_)
    · have B_12214 : bn 1 1 r_12212 := bn_w (bn_nel c_12213 er_12212 (show bn 0 0 (0 : Int32) from bn_k (by decide))) (by decide)
      refine lv_iconst (v := 0) hx hb dX3_painOf_42 (by decide) ?_
      refine lv_bipush (v := 99) hx hb dX3_painOf_43 (by decide) ?_
      refine lv_aload_n hx hb dX3_painOf_45 rfl (lv_at hl 1 rfl) ?_
      refine lv_aload_n hx hb dX3_painOf_46 rfl (lv_at hl 0 rfl) ?_
      refine lv_iconst (v := 1) hx hb dX3_painOf_47 (by decide) ?_
      refine lv_aload_n hx hb dX3_painOf_48 rfl (lv_at hl 2 rfl) ?_
      refine lv_aload_n hx hb dX3_painOf_49 rfl (lv_at hl 2 rfl) ?_
      refine lv_iload_n hx hb dX3_painOf_50 rfl (lv_at hl 3 rfl) ?_
      refine lv_iconst (v := 1) hx hb dX3_painOf_51 (by decide) ?_
      refine cVp (As := [.int i2, .int 1]) (rest := [.ref (ad 10 j), .int 1, .ref (ad 30 t_12198), .ref (ad 3 0), .int 99, .int 0]) S Y (x_X4_get (l := l) (j := j) I hW hT hQ hj) cw_X4_get km3_19 (I.opo (k := 10) (j := j) hj rfl).choose_spec.1 ok_X4.1 rfl rfl ⟨Nat.le_of_ble_eq_true rfl, Nat.le_of_ble_eq_true rfl⟩ hl.1 rfl (Nat.le_of_ble_eq_true rfl) ⟨Nat.le_of_ble_eq_true rfl, Nat.le_of_ble_eq_true rfl⟩ dX3_painOf_52 (fun r_12216 H locs er_12216 Y => ?_)
      refine lv_iload_n hx hb dX3_painOf_55 rfl (lv_at hl 3 rfl) ?_
      refine cVi (As := [.ref (ad 30 t_12198), .int 1, .ref (ad 10 j), .int r_12216, .int i2]) (rest := [.int 99, .int 0]) S Y (x_X3_work (l := l) (i := t_12198) (j := j) I hW hT hQ (show t_12198 < 8 from by omega) hj) cw_X3_work km3_41 p_ad_3_0 ok_X3.1 rfl rfl ⟨Nat.le_of_ble_eq_true rfl, Nat.le_of_ble_eq_true rfl⟩ hl.1 rfl (Nat.le_of_ble_eq_true rfl) ⟨Nat.le_of_ble_eq_true rfl, Nat.le_of_ble_eq_true rfl⟩ dX3_painOf_56 (fun r_12219 L_12217 f_12218 H locs I Y => ?_)
      refine va_mmin hx hb (S.ml.trans hl.1.symm) S.ow (S.w km3_45) (S.w kMs_min) (S.w kMi) (S.w kMc_min) (Nat.le_of_ble_eq_true rfl) (Nat.le_of_ble_eq_true rfl) (by decide) (by decide) dX3_painOf_59 ?_
      refine lv_topi (fun x_12220 ex_12220 => ?_)
      refine va_mmax hx hb (S.ml.trans hl.1.symm) S.ow (S.w km3_50) (S.w kMs_max) (S.w kMi) (S.w kMc_max) (Nat.le_of_ble_eq_true rfl) (Nat.le_of_ble_eq_true rfl) (by decide) (by decide) dX3_painOf_62 ?_
      refine lv_topi (fun x_12221 ex_12221 => ?_)
      exact prI (post := fun r L1 f1 => SH (spC rs fc tc w q) nnC G ad L1 f1) S Y rfl (by decide) (by decide) hA1 I dX3_painOf_65
    · have B_12215 : bn 0 0 r_12212 := bn_w (bn_eq c_12213 (show bn 0 0 (0 : Int32) from bn_k (by decide))) (by decide)
      refine lv_aload_n hx hb dX3_painOf_27 rfl (lv_at hl 2 rfl) ?_
      refine lv_iload_n hx hb dX3_painOf_28 rfl (lv_at hl 3 rfl) ?_
      refine lv_iconst (v := 3) hx hb dX3_painOf_29 (by decide) ?_
      refine cVp (As := [.int i2, .int 3]) (rest := []) S Y (x_X4_get (l := l) (j := j) I hW hT hQ hj) cw_X4_get km3_19 (I.opo (k := 10) (j := j) hj rfl).choose_spec.1 ok_X4.1 rfl rfl ⟨Nat.le_of_ble_eq_true rfl, Nat.le_of_ble_eq_true rfl⟩ hl.1 rfl (Nat.le_of_ble_eq_true rfl) ⟨Nat.le_of_ble_eq_true rfl, Nat.le_of_ble_eq_true rfl⟩ dX3_painOf_30 (fun r_12222 H locs er_12222 Y => ?_)
      refine lv_aload_n hx hb dX3_painOf_33 rfl (lv_at hl 2 rfl) ?_
      obtain ⟨v_12223, v_12225, v_12227, v_12229, v_12231, p_ad_10_j, b_12224, b_12226, b_12228, b_12230, b_12232⟩ := opnC_10 (j := j) I hj
      have p_ad_10_j : pt L f (ad 10 j) (.inr (4, [.ref (ad 11 j), .ref (ad 12 j), .int v_12223, .int v_12225, .int v_12227, .int v_12229, .int v_12231])) := p_ad_10_j
      refine pg_getN S Y ok_X4 5 (by decide) kf3_57 (v := .int v_12229) p_ad_10_j rfl dX3_painOf_34 ?_
      refine lv_imul hx hb dX3_painOf_37 ?_
      refine lv_topi (fun x_12233 ex_12233 => ?_)
      refine lv_bipush (v := 10) hx hb dX3_painOf_38 (by decide) ?_
      refine lv_idiv hx hb dX3_painOf_40 (by decide) ?_
      refine lv_topi (fun x_12234 ex_12234 => ?_)
      exact prI (post := fun r L1 f1 => SH (spC rs fc tc w q) nnC G ad L1 f1) S Y rfl (by decide) (by decide) hA1 I dX3_painOf_41
set_option maxHeartbeats 4000000 in
set_option maxRecDepth 100000 in
theorem x_X3_riskOf {l : Launch} {G : GG}  {L : List Nat} {f : HF} {ad : Nat → Nat → Nat} {rs : FS} {fc : Int × Int} {tc w : Nat → Int × Int} {q : Nat → (Nat → Int32) → Prop} {j : Nat} {i2 : Int32} (I : SH (spC rs fc tc w q) nnC G ad L f) (hW : WBp w 8) (hT : WBp tc 4) (hQ : QIp q) (hj : j < 63) : PMi l yX3_riskOf cX3_riskOf 5 .int 3 0 0 G [.ref (ad 3 0), .ref (ad 10 j), .int i2] L f (fun r L1 f1 => SH (spC rs fc tc w q) nnC G ad L1 f1) := by
  refine PMi.of (post := fun r L1 f1 => SH (spC rs fc tc w q) nnC G ad L1 f1) (own := RX3) (by decide) rfl (Nat.le_of_ble_eq_true rfl) (fun sz p e s m args below meth c A ls hA1 hname S Y hl => ?_)
  have hx := S.hx
  have hb := S.hb
  have hl : lv_has ls 5 [(0, .ref (ad 3 0)), (1, .ref (ad 10 j)), (2, .int i2)] := hl
  refine lv_aload_n hx hb dX3_riskOf_0 rfl (lv_at hl 0 rfl) ?_
  obtain ⟨v_12305, p_ad_3_0, b_12306⟩ := opnC_3 (j := 0) I (by decide)
  have p_ad_3_0 : pt L f (ad 3 0) (.inr (3, [.ref (ad 1 0), .ref (ad 54 0), .int v_12305])) := p_ad_3_0
  refine pg_get S Y ok_X3 0 (by decide) kf3_15 (v := .ref (ad 1 0)) p_ad_3_0 rfl dX3_riskOf_1 ?_
  refine lv_aload_n hx hb dX3_riskOf_4 rfl (lv_at hl 0 rfl) ?_
  refine pg_get S Y ok_X3 0 (by decide) kf3_15 (v := .ref (ad 1 0)) p_ad_3_0 rfl dX3_riskOf_5 ?_
  obtain ⟨v_12307, v_12309, v_12311, v_12313, v_12315, p_ad_1_0, b_12308, b_12310, b_12312, b_12314, b_12316⟩ := opnC_1 (j := 0) I (by decide)
  have p_ad_1_0 : pt L f (ad 1 0) (.inr (10, [.ref (ad 40 0), .ref (ad 41 0), .ref (ad 42 0), .ref (ad 10 0), .ref (ad 43 0), .ref (ad 20 0), .ref (ad 20 1), .ref (ad 20 2), .ref (ad 20 3), .ref (ad 20 4), .int v_12307, .int v_12309, .int v_12311, .int v_12313, .int v_12315])) := p_ad_1_0
  refine pg_getN S Y ok_X10 12 (by decide) kf3_53 (v := .int v_12311) p_ad_1_0 rfl dX3_riskOf_8 ?_
  refine cVw (As := [.int v_12311]) (rest := []) S Y (x_X10_script (l := l) I hW hT hQ) cw_X10_script km3_25 p_ad_1_0 ok_X10.1 rfl rfl ⟨Nat.le_of_ble_eq_true rfl, Nat.le_of_ble_eq_true rfl⟩ hl.1 rfl (Nat.le_of_ble_eq_true rfl) ⟨Nat.le_of_ble_eq_true rfl, Nat.le_of_ble_eq_true rfl⟩ dX3_riskOf_11 (fun r_12317 H locs er_12317 Y => ?_)
  rcases er_12317 with er_12317 | ⟨t_12318, ht_12318, er_12317⟩
  · rw [er_12317]
    show W _ _ _ _ _ _ _ _ _ _ _ _ _ _ _ (F0 _ _ _ (.null :: _))
    refine lv_astore_nN (lv' := [(3, .null), (0, .ref (ad 3 0)), (1, .ref (ad 10 j)), (2, .int i2)]) hx hb dX3_riskOf_14 rfl hl (by decide) rfl (fun ls hl => ?_)
    refine lv_aload_nN hx hb dX3_riskOf_15 rfl (lv_at hl 0 rfl) ?_
    refine lv_ifnullN (tgt := 27) hx hb dX3_riskOf_16 (by decide) ?_
    refine lv_aload_n hx hb dX3_riskOf_27 rfl (lv_at hl 2 rfl) ?_
    refine lv_iload_n hx hb dX3_riskOf_28 rfl (lv_at hl 3 rfl) ?_
    refine cVp (As := [.int i2]) (rest := []) S Y (x_X4_marks (l := l) (j := j) I hW hT hQ hj) cw_X4_marks km3_60 (I.opo (k := 10) (j := j) hj rfl).choose_spec.1 ok_X4.1 rfl rfl ⟨Nat.le_of_ble_eq_true rfl, Nat.le_of_ble_eq_true rfl⟩ hl.1 rfl (Nat.le_of_ble_eq_true rfl) ⟨Nat.le_of_ble_eq_true rfl, Nat.le_of_ble_eq_true rfl⟩ dX3_riskOf_29 (fun r_12319 H locs er_12319 Y => ?_)
    refine lv_bipush (v := 10) hx hb dX3_riskOf_32 (by decide) ?_
    refine lv_imul hx hb dX3_riskOf_34 ?_
    refine lv_topi (fun x_12320 ex_12320 => ?_)
    refine lv_aload_n hx hb dX3_riskOf_35 rfl (lv_at hl 1 rfl) ?_
    refine pg_get S Y ok_X3 0 (by decide) kf3_15 (v := .ref (ad 1 0)) p_ad_3_0 rfl dX3_riskOf_36 ?_
    refine lv_iload_n hx hb dX3_riskOf_39 rfl (lv_at hl 3 rfl) ?_
    refine cVp (As := [.int i2]) (rest := [.int x_12320]) S Y (x_X10_toughOf (l := l) I hW hT hQ) cw_X10_toughOf km3_37 p_ad_1_0 ok_X10.1 rfl rfl ⟨Nat.le_of_ble_eq_true rfl, Nat.le_of_ble_eq_true rfl⟩ hl.1 rfl (Nat.le_of_ble_eq_true rfl) ⟨Nat.le_of_ble_eq_true rfl, Nat.le_of_ble_eq_true rfl⟩ dX3_riskOf_40 (fun r_12321 H locs er_12321 Y => ?_)
    refine lv_isub hx hb dX3_riskOf_43 ?_
    refine lv_topi (fun x_12322 ex_12322 => ?_)
    refine lv_goto (tgt := 56) hx hb dX3_riskOf_44 (by decide) ?_
    refine lv_istore (lv' := [(4, .int x_12322), (3, .null), (0, .ref (ad 3 0)), (1, .ref (ad 10 j)), (2, .int i2)]) hx hb dX3_riskOf_56 hl (by decide) rfl (fun ls hl => ?_)
    refine lv_iconst (v := 0) hx hb dX3_riskOf_58 (by decide) ?_
    refine lv_sipush (v := 9999) hx hb dX3_riskOf_59 (by decide) ?_
    refine lv_iload hx hb dX3_riskOf_62 (lv_at hl 0 rfl) ?_
    refine va_mmin hx hb (S.ml.trans hl.1.symm) S.ow (S.w km3_45) (S.w kMs_min) (S.w kMi) (S.w kMc_min) (Nat.le_of_ble_eq_true rfl) (Nat.le_of_ble_eq_true rfl) (by decide) (by decide) dX3_riskOf_64 ?_
    refine lv_topi (fun x_12323 ex_12323 => ?_)
    refine va_mmax hx hb (S.ml.trans hl.1.symm) S.ow (S.w km3_50) (S.w kMs_max) (S.w kMi) (S.w kMc_max) (Nat.le_of_ble_eq_true rfl) (Nat.le_of_ble_eq_true rfl) (by decide) (by decide) dX3_riskOf_67 ?_
    refine lv_topi (fun x_12324 ex_12324 => ?_)
    exact prI (post := fun r L1 f1 => SH (spC rs fc tc w q) nnC G ad L1 f1) S Y rfl (by decide) (by decide) hA1 I dX3_riskOf_70
  · rw [er_12317]
    have e9 : 0 + t_12318 = t_12318 := Nat.zero_add _
    rw [e9]
    show W _ _ _ _ _ _ _ _ _ _ _ _ _ _ _ (F0 _ _ _ (.ref (ad 30 t_12318) :: _))
    refine lv_astore_n (lv' := [(3, .ref (ad 30 t_12318)), (0, .ref (ad 3 0)), (1, .ref (ad 10 j)), (2, .int i2)]) hx hb dX3_riskOf_14 rfl hl (by decide) rfl (fun ls hl => ?_)
    refine lv_aload_n hx hb dX3_riskOf_15 rfl (lv_at hl 0 rfl) ?_
    refine lv_ifnull hx hb dX3_riskOf_16 ?_
    refine lv_aload_n hx hb dX3_riskOf_19 rfl (lv_at hl 0 rfl) ?_
    refine lv_iconst (v := 2) hx hb dX3_riskOf_20 (by decide) ?_
    refine cVp (As := [.int 2]) (rest := []) S Y (x_X7_hasLaw (l := l) (j := t_12318) I hW hT hQ (show t_12318 < 8 from by omega)) cw_X7_hasLaw km3_31 (I.opo (k := 30) (j := t_12318) (show t_12318 < 8 from by omega) rfl).choose_spec.1 ok_X7.1 rfl rfl ⟨Nat.le_of_ble_eq_true rfl, Nat.le_of_ble_eq_true rfl⟩ hl.1 rfl (Nat.le_of_ble_eq_true rfl) ⟨Nat.le_of_ble_eq_true rfl, Nat.le_of_ble_eq_true rfl⟩ dX3_riskOf_21 (fun r_12325 H locs er_12325 Y => ?_)
    refine lv_if_ne (tgt := 47) hx hb dX3_riskOf_24 (by decide) (fun c_12326 => ?_) (fun c_12326 => ?_)
    · have B_12327 : bn 1 1 r_12325 := bn_w (bn_nel c_12326 er_12325 (show bn 0 0 (0 : Int32) from bn_k (by decide))) (by decide)
      refine lv_aload_n hx hb dX3_riskOf_47 rfl (lv_at hl 1 rfl) ?_
      refine lv_aload_n hx hb dX3_riskOf_48 rfl (lv_at hl 0 rfl) ?_
      refine lv_iconst (v := 2) hx hb dX3_riskOf_49 (by decide) ?_
      refine lv_aload_n hx hb dX3_riskOf_50 rfl (lv_at hl 2 rfl) ?_
      refine lv_iload_n hx hb dX3_riskOf_51 rfl (lv_at hl 3 rfl) ?_
      refine lv_iconst (v := (-1)) hx hb dX3_riskOf_52 (by decide) ?_
      refine cVi (As := [.ref (ad 30 t_12318), .int 2, .ref (ad 10 j), .int i2, .int (-1)]) (rest := []) S Y (x_X3_work (l := l) (i := t_12318) (j := j) I hW hT hQ (show t_12318 < 8 from by omega) hj) cw_X3_work km3_41 p_ad_3_0 ok_X3.1 rfl rfl ⟨Nat.le_of_ble_eq_true rfl, Nat.le_of_ble_eq_true rfl⟩ hl.1 rfl (Nat.le_of_ble_eq_true rfl) ⟨Nat.le_of_ble_eq_true rfl, Nat.le_of_ble_eq_true rfl⟩ dX3_riskOf_53 (fun r_12331 L_12329 f_12330 H locs I Y => ?_)
      refine lv_istore (lv' := [(4, .int r_12331), (3, .ref (ad 30 t_12318)), (0, .ref (ad 3 0)), (1, .ref (ad 10 j)), (2, .int i2)]) hx hb dX3_riskOf_56 hl (by decide) rfl (fun ls hl => ?_)
      refine lv_iconst (v := 0) hx hb dX3_riskOf_58 (by decide) ?_
      refine lv_sipush (v := 9999) hx hb dX3_riskOf_59 (by decide) ?_
      refine lv_iload hx hb dX3_riskOf_62 (lv_at hl 0 rfl) ?_
      refine va_mmin hx hb (S.ml.trans hl.1.symm) S.ow (S.w km3_45) (S.w kMs_min) (S.w kMi) (S.w kMc_min) (Nat.le_of_ble_eq_true rfl) (Nat.le_of_ble_eq_true rfl) (by decide) (by decide) dX3_riskOf_64 ?_
      refine lv_topi (fun x_12332 ex_12332 => ?_)
      refine va_mmax hx hb (S.ml.trans hl.1.symm) S.ow (S.w km3_50) (S.w kMs_max) (S.w kMi) (S.w kMc_max) (Nat.le_of_ble_eq_true rfl) (Nat.le_of_ble_eq_true rfl) (by decide) (by decide) dX3_riskOf_67 ?_
      refine lv_topi (fun x_12333 ex_12333 => ?_)
      exact prI (post := fun r L1 f1 => SH (spC rs fc tc w q) nnC G ad L1 f1) S Y rfl (by decide) (by decide) hA1 I dX3_riskOf_70
    · have B_12328 : bn 0 0 r_12325 := bn_w (bn_eq c_12326 (show bn 0 0 (0 : Int32) from bn_k (by decide))) (by decide)
      refine lv_aload_n hx hb dX3_riskOf_27 rfl (lv_at hl 2 rfl) ?_
      refine lv_iload_n hx hb dX3_riskOf_28 rfl (lv_at hl 3 rfl) ?_
      refine cVp (As := [.int i2]) (rest := []) S Y (x_X4_marks (l := l) (j := j) I hW hT hQ hj) cw_X4_marks km3_60 (I.opo (k := 10) (j := j) hj rfl).choose_spec.1 ok_X4.1 rfl rfl ⟨Nat.le_of_ble_eq_true rfl, Nat.le_of_ble_eq_true rfl⟩ hl.1 rfl (Nat.le_of_ble_eq_true rfl) ⟨Nat.le_of_ble_eq_true rfl, Nat.le_of_ble_eq_true rfl⟩ dX3_riskOf_29 (fun r_12334 H locs er_12334 Y => ?_)
      refine lv_bipush (v := 10) hx hb dX3_riskOf_32 (by decide) ?_
      refine lv_imul hx hb dX3_riskOf_34 ?_
      refine lv_topi (fun x_12335 ex_12335 => ?_)
      refine lv_aload_n hx hb dX3_riskOf_35 rfl (lv_at hl 1 rfl) ?_
      refine pg_get S Y ok_X3 0 (by decide) kf3_15 (v := .ref (ad 1 0)) p_ad_3_0 rfl dX3_riskOf_36 ?_
      refine lv_iload_n hx hb dX3_riskOf_39 rfl (lv_at hl 3 rfl) ?_
      refine cVp (As := [.int i2]) (rest := [.int x_12335]) S Y (x_X10_toughOf (l := l) I hW hT hQ) cw_X10_toughOf km3_37 p_ad_1_0 ok_X10.1 rfl rfl ⟨Nat.le_of_ble_eq_true rfl, Nat.le_of_ble_eq_true rfl⟩ hl.1 rfl (Nat.le_of_ble_eq_true rfl) ⟨Nat.le_of_ble_eq_true rfl, Nat.le_of_ble_eq_true rfl⟩ dX3_riskOf_40 (fun r_12336 H locs er_12336 Y => ?_)
      refine lv_isub hx hb dX3_riskOf_43 ?_
      refine lv_topi (fun x_12337 ex_12337 => ?_)
      refine lv_goto (tgt := 56) hx hb dX3_riskOf_44 (by decide) ?_
      refine lv_istore (lv' := [(4, .int x_12337), (3, .ref (ad 30 t_12318)), (0, .ref (ad 3 0)), (1, .ref (ad 10 j)), (2, .int i2)]) hx hb dX3_riskOf_56 hl (by decide) rfl (fun ls hl => ?_)
      refine lv_iconst (v := 0) hx hb dX3_riskOf_58 (by decide) ?_
      refine lv_sipush (v := 9999) hx hb dX3_riskOf_59 (by decide) ?_
      refine lv_iload hx hb dX3_riskOf_62 (lv_at hl 0 rfl) ?_
      refine va_mmin hx hb (S.ml.trans hl.1.symm) S.ow (S.w km3_45) (S.w kMs_min) (S.w kMi) (S.w kMc_min) (Nat.le_of_ble_eq_true rfl) (Nat.le_of_ble_eq_true rfl) (by decide) (by decide) dX3_riskOf_64 ?_
      refine lv_topi (fun x_12338 ex_12338 => ?_)
      refine va_mmax hx hb (S.ml.trans hl.1.symm) S.ow (S.w km3_50) (S.w kMs_max) (S.w kMi) (S.w kMc_max) (Nat.le_of_ble_eq_true rfl) (Nat.le_of_ble_eq_true rfl) (by decide) (by decide) dX3_riskOf_67 ?_
      refine lv_topi (fun x_12339 ex_12339 => ?_)
      exact prI (post := fun r L1 f1 => SH (spC rs fc tc w q) nnC G ad L1 f1) S Y rfl (by decide) (by decide) hA1 I dX3_riskOf_70
set_option maxHeartbeats 4000000 in
set_option maxRecDepth 100000 in
theorem x_X3_acheOf {l : Launch} {G : GG}  {L : List Nat} {f : HF} {ad : Nat → Nat → Nat} {rs : FS} {fc : Int × Int} {tc w : Nat → Int × Int} {q : Nat → (Nat → Int32) → Prop} {j : Nat} {i2 : Int32} (I : SH (spC rs fc tc w q) nnC G ad L f) (hW : WBp w 8) (hT : WBp tc 4) (hQ : QIp q) (hj : j < 63) : PMi l yX3_acheOf cX3_acheOf 5 .int 4 0 0 G [.ref (ad 3 0), .ref (ad 10 j), .int i2] L f (fun r L1 f1 => SH (spC rs fc tc w q) nnC G ad L1 f1) := by
  refine PMi.of (post := fun r L1 f1 => SH (spC rs fc tc w q) nnC G ad L1 f1) (own := RX3) (by decide) rfl (Nat.le_of_ble_eq_true rfl) (fun sz p e s m args below meth c A ls hA1 hname S Y hl => ?_)
  have hx := S.hx
  have hb := S.hb
  have hl : lv_has ls 5 [(0, .ref (ad 3 0)), (1, .ref (ad 10 j)), (2, .int i2)] := hl
  have J_5 : ∀ (n5 : Nat) (y5_3 y5_4 : Int32) (L_5 : List Nat) (f_5 : HF) (H : Heap) (locs : List Loc) (ls : Array Slot), (SH (spC rs fc tc w q) nnC G ad L_5 f_5) → (bn 0 14 y5_4) → (((14 : Int) - y5_4.toInt).toNat = n5) → (DY G A s [] L_5 f_5 H locs) → (lv_has ls 5 [(0, .ref (ad 3 0)), (1, .ref (ad 10 j)), (2, .int i2), (3, .int y5_3), (4, .int y5_4)]) → W p l e (rmD 4 0 0) s m args below meth c H locs (0) (0) (MQ below (va_Qi (fun r (u : List Nat × HF) => (fun r L1 f1 => SH (spC rs fc tc w q) nnC G ad L1 f1) r u.1 u.2) (fun u t => pOut G (va_A (va_pl L f) sz) u.1 u.2 t) (va_A (va_pl L f) sz)) args s 0 0 A) (F0 m 5 ls []) := by
    intro n5
    induction n5 using Nat.strongRecOn with
    | _ n5 ih5 =>
      intro y5_3 y5_4 L_5 f_5 H locs ls I b_y5_4 hm5 Y hl
      refine lv_iload hx hb dX3_acheOf_5 (lv_at hl 4 rfl) ?_
      refine lv_aload_n hx hb dX3_acheOf_7 rfl (lv_at hl 1 rfl) ?_
      obtain ⟨v_12718, v_12720, v_12722, v_12724, v_12726, p_ad_10_j, b_12719, b_12721, b_12723, b_12725, b_12727⟩ := opnC_10 (j := j) I hj
      have p_ad_10_j : pt L_5 f_5 (ad 10 j) (.inr (4, [.ref (ad 11 j), .ref (ad 12 j), .int v_12718, .int v_12720, .int v_12722, .int v_12724, .int v_12726])) := p_ad_10_j
      refine pg_getN S Y ok_X4 2 (by decide) kf3_63 (v := .int v_12718) p_ad_10_j rfl dX3_acheOf_8 ?_
      refine lv_icmp_ge (tgt := 51) hx hb dX3_acheOf_11 (by decide) (fun c_12728 => ?_) (fun c_12728 => ?_)
      · refine lv_iload_n hx hb dX3_acheOf_51 rfl (lv_at hl 3 rfl) ?_
        exact prI (post := fun r L1 f1 => SH (spC rs fc tc w q) nnC G ad L1 f1) S Y rfl (by decide) (by decide) hA1 I dX3_acheOf_52
      · have B_12729 : bn 1 14 v_12718 := bn_w (bn_gtl c_12728 b_12719 b_y5_4) (by decide)
        have B_12730 : bn 0 13 y5_4 := bn_w (bn_gtr c_12728 b_12719 b_y5_4) (by decide)
        refine lv_aload_n hx hb dX3_acheOf_14 rfl (lv_at hl 1 rfl) ?_
        refine lv_iload hx hb dX3_acheOf_15 (lv_at hl 4 rfl) ?_
        refine lv_iload_n hx hb dX3_acheOf_17 rfl (lv_at hl 2 rfl) ?_
        refine cVp (As := [.int y5_4, .int i2]) (rest := []) S Y (x_X4_legibleOn (l := l) (j := j) I hW hT hQ hj) cw_X4_legibleOn km3_66 p_ad_10_j ok_X4.1 rfl rfl ⟨Nat.le_of_ble_eq_true rfl, Nat.le_of_ble_eq_true rfl⟩ hl.1 rfl (Nat.le_of_ble_eq_true rfl) ⟨Nat.le_of_ble_eq_true rfl, Nat.le_of_ble_eq_true rfl⟩ dX3_acheOf_18 (fun r_12731 H locs er_12731 Y => ?_)
        refine lv_if_eq (tgt := 45) hx hb dX3_acheOf_21 (by decide) (fun c_12732 => ?_) (fun c_12732 => ?_)
        · have B_12733 : bn 0 0 r_12731 := bn_w (bn_eq c_12732 (show bn 0 0 (0 : Int32) from bn_k (by decide))) (by decide)
          obtain ⟨x_12735, ex_12735⟩ : ∃ z : Int32, z = y5_4 + 1 := ⟨_, rfl⟩
          refine lv_iinc (v := x_12735) (lv' := [(4, .int x_12735), (0, .ref (ad 3 0)), (1, .ref (ad 10 j)), (2, .int i2), (3, .int y5_3)]) hx hb dX3_acheOf_45 hl (k := 4) rfl (by rw [ex_12735]; rfl) (by decide) rfl (fun ls hl => ?_)
          refine lv_goto (tgt := 5) hx hb dX3_acheOf_48 (by decide) ?_
          exact ih5 _ (by rw [← hm5]; exact ms_up (m := 1) ex_12735 (show bn 1 1 (1 : Int32) from bn_k (by decide)) B_12730 (bn_w (bn_eq ex_12735 (bn_add B_12730 (show bn 1 1 (1 : Int32) from bn_k (by decide)) (by decide))) (by decide) : bn 0 14 x_12735) (by decide)) y5_3 x_12735 _ _  _ _ _ I (bn_w (bn_eq ex_12735 (bn_add B_12730 (show bn 1 1 (1 : Int32) from bn_k (by decide)) (by decide))) (by decide)) rfl Y (lv_sub hl [1, 2, 3, 4, 0] rfl)
        · have B_12734 : bn 1 1 r_12731 := bn_w (bn_nel c_12732 er_12731 (show bn 0 0 (0 : Int32) from bn_k (by decide))) (by decide)
          refine lv_aload_n hx hb dX3_acheOf_24 rfl (lv_at hl 1 rfl) ?_
          refine lv_iload hx hb dX3_acheOf_25 (lv_at hl 4 rfl) ?_
          refine lv_iconst (v := 4) hx hb dX3_acheOf_27 (by decide) ?_
          refine cVp (As := [.int y5_4, .int 4]) (rest := []) S Y (x_X4_get (l := l) (j := j) I hW hT hQ hj) cw_X4_get km3_19 p_ad_10_j ok_X4.1 rfl rfl ⟨Nat.le_of_ble_eq_true rfl, Nat.le_of_ble_eq_true rfl⟩ hl.1 rfl (Nat.le_of_ble_eq_true rfl) ⟨Nat.le_of_ble_eq_true rfl, Nat.le_of_ble_eq_true rfl⟩ dX3_acheOf_28 (fun r_12736 H locs er_12736 Y => ?_)
          refine lv_iconst (v := 1) hx hb dX3_acheOf_31 (by decide) ?_
          refine lv_icmp_ne (tgt := 45) hx hb dX3_acheOf_32 (by decide) (fun c_12737 => ?_) (fun c_12737 => ?_)
          · obtain ⟨x_12739, ex_12739⟩ : ∃ z : Int32, z = y5_4 + 1 := ⟨_, rfl⟩
            refine lv_iinc (v := x_12739) (lv' := [(4, .int x_12739), (0, .ref (ad 3 0)), (1, .ref (ad 10 j)), (2, .int i2), (3, .int y5_3)]) hx hb dX3_acheOf_45 hl (k := 4) rfl (by rw [ex_12739]; rfl) (by decide) rfl (fun ls hl => ?_)
            refine lv_goto (tgt := 5) hx hb dX3_acheOf_48 (by decide) ?_
            exact ih5 _ (by rw [← hm5]; exact ms_up (m := 1) ex_12739 (show bn 1 1 (1 : Int32) from bn_k (by decide)) B_12730 (bn_w (bn_eq ex_12739 (bn_add B_12730 (show bn 1 1 (1 : Int32) from bn_k (by decide)) (by decide))) (by decide) : bn 0 14 x_12739) (by decide)) y5_3 x_12739 _ _  _ _ _ I (bn_w (bn_eq ex_12739 (bn_add B_12730 (show bn 1 1 (1 : Int32) from bn_k (by decide)) (by decide))) (by decide)) rfl Y (lv_sub hl [1, 2, 3, 4, 0] rfl)
          · have B_12738 : bn 1 1 r_12736 := bn_w (bn_eq c_12737 (show bn 1 1 (1 : Int32) from bn_k (by decide))) (by decide)
            refine lv_iload_n hx hb dX3_acheOf_35 rfl (lv_at hl 3 rfl) ?_
            refine lv_aload_n hx hb dX3_acheOf_36 rfl (lv_at hl 0 rfl) ?_
            refine lv_aload_n hx hb dX3_acheOf_37 rfl (lv_at hl 1 rfl) ?_
            refine lv_iload hx hb dX3_acheOf_38 (lv_at hl 4 rfl) ?_
            refine cVi (As := [.ref (ad 10 j), .int y5_4]) (rest := [.int y5_3]) S Y (x_X3_painOf (l := l) (j := j) I hW hT hQ hj) cw_X3_painOf km3_70 (I.opo (k := 3) (j := 0) (by decide) rfl).choose_spec.1 ok_X3.1 rfl rfl ⟨Nat.le_of_ble_eq_true rfl, Nat.le_of_ble_eq_true rfl⟩ hl.1 rfl (Nat.le_of_ble_eq_true rfl) ⟨Nat.le_of_ble_eq_true rfl, Nat.le_of_ble_eq_true rfl⟩ dX3_acheOf_40 (fun r_12742 L_12740 f_12741 H locs I Y => ?_)
            refine lv_iadd hx hb dX3_acheOf_43 ?_
            refine lv_topi (fun x_12743 ex_12743 => ?_)
            refine lv_istore_n (lv' := [(3, .int x_12743), (0, .ref (ad 3 0)), (1, .ref (ad 10 j)), (2, .int i2), (4, .int y5_4)]) hx hb dX3_acheOf_44 rfl hl (by decide) rfl (fun ls hl => ?_)
            obtain ⟨x_12744, ex_12744⟩ : ∃ z : Int32, z = y5_4 + 1 := ⟨_, rfl⟩
            refine lv_iinc (v := x_12744) (lv' := [(4, .int x_12744), (3, .int x_12743), (0, .ref (ad 3 0)), (1, .ref (ad 10 j)), (2, .int i2)]) hx hb dX3_acheOf_45 hl (k := 4) rfl (by rw [ex_12744]; rfl) (by decide) rfl (fun ls hl => ?_)
            refine lv_goto (tgt := 5) hx hb dX3_acheOf_48 (by decide) ?_
            exact ih5 _ (by rw [← hm5]; exact ms_up (m := 1) ex_12744 (show bn 1 1 (1 : Int32) from bn_k (by decide)) B_12730 (bn_w (bn_eq ex_12744 (bn_add B_12730 (show bn 1 1 (1 : Int32) from bn_k (by decide)) (by decide))) (by decide) : bn 0 14 x_12744) (by decide)) x_12743 x_12744 _ _  _ _ _ I (bn_w (bn_eq ex_12744 (bn_add B_12730 (show bn 1 1 (1 : Int32) from bn_k (by decide)) (by decide))) (by decide)) rfl Y (lv_sub hl [2, 3, 4, 1, 0] rfl)
  refine lv_iconst (v := 0) hx hb dX3_acheOf_0 (by decide) ?_
  refine lv_istore_n (lv' := [(3, .int 0), (0, .ref (ad 3 0)), (1, .ref (ad 10 j)), (2, .int i2)]) hx hb dX3_acheOf_1 rfl hl (by decide) rfl (fun ls hl => ?_)
  refine lv_iconst (v := 0) hx hb dX3_acheOf_2 (by decide) ?_
  refine lv_istore (lv' := [(4, .int 0), (3, .int 0), (0, .ref (ad 3 0)), (1, .ref (ad 10 j)), (2, .int i2)]) hx hb dX3_acheOf_3 hl (by decide) rfl (fun ls hl => ?_)
  exact J_5 _ 0 0 _ _  _ _ _ I (bn_w (show bn 0 0 (0 : Int32) from bn_k (by decide)) (by decide)) rfl Y (lv_sub hl [2, 3, 4, 1, 0] rfl)
set_option maxHeartbeats 4000000 in
set_option maxRecDepth 100000 in
theorem x_X3_explains {l : Launch} {G : GG}  {L : List Nat} {f : HF} {ad : Nat → Nat → Nat} {rs : FS} {fc : Int × Int} {tc w : Nat → Int × Int} {q : Nat → (Nat → Int32) → Prop} {i1 : Int32} (I : SH (spC rs fc tc w q) nnC G ad L f) (hW : WBp w 8) (hT : WBp tc 4) (hQ : QIp q) : PMi l yX3_explains cX3_explains 4 .boolean 4 0 0 G [.ref (ad 3 0), .int i1] L f (fun r L1 f1 => bn 0 1 r ∧ SH (spC rs fc tc w q) nnC G ad L1 f1) := by
  refine PMi.of (post := fun r L1 f1 => bn 0 1 r ∧ SH (spC rs fc tc w q) nnC G ad L1 f1) (own := RX3) (by decide) rfl (Nat.le_of_ble_eq_true rfl) (fun sz p e s m args below meth c A ls hA1 hname S Y hl => ?_)
  have hx := S.hx
  have hb := S.hb
  have hl : lv_has ls 4 [(0, .ref (ad 3 0)), (1, .int i1)] := hl
  have J_2 : ∀ (n2 : Nat) (y2_2 : Int32) (L_2 : List Nat) (f_2 : HF) (H : Heap) (locs : List Loc) (ls : Array Slot), (SH (spC rs fc tc w q) nnC G ad L_2 f_2) → (bn 0 8 y2_2) → (((8 : Int) - y2_2.toInt).toNat = n2) → (DY G A s [] L_2 f_2 H locs) → (lv_has ls 4 [(0, .ref (ad 3 0)), (1, .int i1), (2, .int y2_2)]) → W p l e (rmD 4 0 0) s m args below meth c H locs (0) (0) (MQ below (va_Qi (fun r (u : List Nat × HF) => (fun r L1 f1 => bn 0 1 r ∧ SH (spC rs fc tc w q) nnC G ad L1 f1) r u.1 u.2) (fun u t => pOut G (va_A (va_pl L f) sz) u.1 u.2 t) (va_A (va_pl L f) sz)) args s 0 0 A) (F0 m 2 ls []) := by
    intro n2
    induction n2 using Nat.strongRecOn with
    | _ n2 ih2 =>
      intro y2_2 L_2 f_2 H locs ls I b_y2_2 hm2 Y hl
      refine lv_iload_n hx hb dX3_explains_2 rfl (lv_at hl 2 rfl) ?_
      refine lv_aload_n hx hb dX3_explains_3 rfl (lv_at hl 0 rfl) ?_
      obtain ⟨v_13175, p_ad_3_0, b_13176⟩ := opnC_3 (j := 0) I (by decide)
      have p_ad_3_0 : pt L_2 f_2 (ad 3 0) (.inr (3, [.ref (ad 1 0), .ref (ad 54 0), .int v_13175])) := p_ad_3_0
      refine pg_get S Y ok_X3 0 (by decide) kf3_15 (v := .ref (ad 1 0)) p_ad_3_0 rfl dX3_explains_4 ?_
      obtain ⟨v_13177, v_13179, v_13181, v_13183, v_13185, p_ad_1_0, b_13178, b_13180, b_13182, b_13184, b_13186⟩ := opnC_1 (j := 0) I (by decide)
      have p_ad_1_0 : pt L_2 f_2 (ad 1 0) (.inr (10, [.ref (ad 40 0), .ref (ad 41 0), .ref (ad 42 0), .ref (ad 10 0), .ref (ad 43 0), .ref (ad 20 0), .ref (ad 20 1), .ref (ad 20 2), .ref (ad 20 3), .ref (ad 20 4), .int v_13177, .int v_13179, .int v_13181, .int v_13183, .int v_13185])) := p_ad_1_0
      refine pg_getN S Y ok_X10 9 (by decide) kf3_74 (v := .ref (ad 20 4)) p_ad_1_0 rfl dX3_explains_7 ?_
      obtain ⟨v_13187, v_13189, p_ad_20_4, b_13188, b_13190⟩ := opnC_20 (j := 4) I (by decide)
      have p_ad_20_4 : pt L_2 f_2 (ad 20 4) (.inr (9, [.ref (ad 21 4), .int v_13187, .int v_13189])) := p_ad_20_4
      refine pg_getN S Y ok_X9 2 (by decide) kf3_78 (v := .int v_13189) p_ad_20_4 rfl dX3_explains_10 ?_
      refine lv_icmp_ge (tgt := 79) hx hb dX3_explains_13 (by decide) (fun c_13191 => ?_) (fun c_13191 => ?_)
      · refine lv_iconst (v := 1) hx hb dX3_explains_79 (by decide) ?_
        exact prI (post := fun r L1 f1 => bn 0 1 r ∧ SH (spC rs fc tc w q) nnC G ad L1 f1) S Y rfl (by decide) (by decide) hA1 ⟨bn_w (show bn 1 1 (1 : Int32) from bn_k (by decide)) (by decide), I⟩ dX3_explains_80
      · have B_13192 : bn 1 8 v_13189 := bn_w (bn_gtl c_13191 (bn_w (a' := 0) (b' := 8) b_13190 (hW 4)) b_y2_2) (by decide)
        have B_13193 : bn 0 7 y2_2 := bn_w (bn_gtr c_13191 (bn_w (a' := 0) (b' := 8) b_13190 (hW 4)) b_y2_2) (by decide)
        refine lv_aload_n hx hb dX3_explains_16 rfl (lv_at hl 0 rfl) ?_
        refine pg_get S Y ok_X3 0 (by decide) kf3_15 (v := .ref (ad 1 0)) p_ad_3_0 rfl dX3_explains_17 ?_
        refine pg_getN S Y ok_X10 9 (by decide) kf3_74 (v := .ref (ad 20 4)) p_ad_1_0 rfl dX3_explains_20 ?_
        refine lv_iload_n hx hb dX3_explains_23 rfl (lv_at hl 2 rfl) ?_
        refine lv_iconst (v := 0) hx hb dX3_explains_24 (by decide) ?_
        refine cVp (As := [.int y2_2, .int 0]) (rest := []) S Y (x_X9_get (l := l) (j := 4) I hW hT hQ (by decide)) cw_X9_get km3_83 p_ad_20_4 ok_X9.1 rfl rfl ⟨Nat.le_of_ble_eq_true rfl, Nat.le_of_ble_eq_true rfl⟩ hl.1 rfl (Nat.le_of_ble_eq_true rfl) ⟨Nat.le_of_ble_eq_true rfl, Nat.le_of_ble_eq_true rfl⟩ dX3_explains_25 (fun r_13194 H locs er_13194 Y => ?_)
        refine lv_istore_n (lv' := [(3, .int r_13194), (0, .ref (ad 3 0)), (1, .int i1), (2, .int y2_2)]) hx hb dX3_explains_28 rfl hl (by decide) rfl (fun ls hl => ?_)
        refine lv_aload_n hx hb dX3_explains_29 rfl (lv_at hl 1 rfl) ?_
        refine pg_get S Y ok_X3 0 (by decide) kf3_15 (v := .ref (ad 1 0)) p_ad_3_0 rfl dX3_explains_30 ?_
        refine pg_getN S Y ok_X10 3 (by decide) kf3_84 (v := .ref (ad 10 0)) p_ad_1_0 rfl dX3_explains_33 ?_
        refine lv_iload_n hx hb dX3_explains_36 rfl (lv_at hl 0 rfl) ?_
        refine cVp (As := [.int r_13194]) (rest := []) S Y (x_X4_has (l := l) (j := 0) I hW hT hQ (by decide)) cw_X4_has km3_88 (I.opo (k := 10) (j := 0) (by decide) rfl).choose_spec.1 ok_X4.1 rfl rfl ⟨Nat.le_of_ble_eq_true rfl, Nat.le_of_ble_eq_true rfl⟩ hl.1 rfl (Nat.le_of_ble_eq_true rfl) ⟨Nat.le_of_ble_eq_true rfl, Nat.le_of_ble_eq_true rfl⟩ dX3_explains_37 (fun r_13195 H locs er_13195 Y => ?_)
        refine lv_if_eq (tgt := 73) hx hb dX3_explains_40 (by decide) (fun c_13196 => ?_) (fun c_13196 => ?_)
        · have B_13197 : bn 0 0 r_13195 := bn_w (bn_eq c_13196 (show bn 0 0 (0 : Int32) from bn_k (by decide))) (by decide)
          obtain ⟨x_13199, ex_13199⟩ : ∃ z : Int32, z = y2_2 + 1 := ⟨_, rfl⟩
          refine lv_iinc (v := x_13199) (lv' := [(2, .int x_13199), (3, .int r_13194), (0, .ref (ad 3 0)), (1, .int i1)]) hx hb dX3_explains_73 hl (k := 3) rfl (by rw [ex_13199]; rfl) (by decide) rfl (fun ls hl => ?_)
          refine lv_goto (tgt := 2) hx hb dX3_explains_76 (by decide) ?_
          exact ih2 _ (by rw [← hm2]; exact ms_up (m := 1) ex_13199 (show bn 1 1 (1 : Int32) from bn_k (by decide)) B_13193 (bn_w (bn_eq ex_13199 (bn_add B_13193 (show bn 1 1 (1 : Int32) from bn_k (by decide)) (by decide))) (by decide) : bn 0 8 x_13199) (by decide)) x_13199 _ _  _ _ _ I (bn_w (bn_eq ex_13199 (bn_add B_13193 (show bn 1 1 (1 : Int32) from bn_k (by decide)) (by decide))) (by decide)) rfl Y (lv_sub hl [2, 3, 0] rfl)
        · have B_13198 : bn 1 1 r_13195 := bn_w (bn_nel c_13196 er_13195 (show bn 0 0 (0 : Int32) from bn_k (by decide))) (by decide)
          refine lv_aload_n hx hb dX3_explains_43 rfl (lv_at hl 1 rfl) ?_
          refine lv_iload_n hx hb dX3_explains_44 rfl (lv_at hl 2 rfl) ?_
          refine lv_aload_n hx hb dX3_explains_45 rfl (lv_at hl 1 rfl) ?_
          refine pg_get S Y ok_X3 0 (by decide) kf3_15 (v := .ref (ad 1 0)) p_ad_3_0 rfl dX3_explains_46 ?_
          refine pg_getN S Y ok_X10 3 (by decide) kf3_84 (v := .ref (ad 10 0)) p_ad_1_0 rfl dX3_explains_49 ?_
          refine lv_iload_n hx hb dX3_explains_52 rfl (lv_at hl 0 rfl) ?_
          refine cVi (As := [.int i1, .ref (ad 10 0), .int r_13194]) (rest := []) S Y (x_X3_wearOf (l := l) (j := 0) I hW hT hQ (by decide)) cw_X3_wearOf km3_91 p_ad_3_0 ok_X3.1 rfl rfl ⟨Nat.le_of_ble_eq_true rfl, Nat.le_of_ble_eq_true rfl⟩ hl.1 rfl (Nat.le_of_ble_eq_true rfl) ⟨Nat.le_of_ble_eq_true rfl, Nat.le_of_ble_eq_true rfl⟩ dX3_explains_53 (fun r_13202 L_13200 f_13201 H locs I Y => ?_)
          refine lv_aload_n hx hb dX3_explains_56 rfl (lv_at hl 1 rfl) ?_
          obtain ⟨v_13203, p_ad_3_0, b_13204⟩ := opnC_3 (j := 0) I (by decide)
          have p_ad_3_0 : pt L_13200 f_13201 (ad 3 0) (.inr (3, [.ref (ad 1 0), .ref (ad 54 0), .int v_13203])) := p_ad_3_0
          refine pg_get S Y ok_X3 0 (by decide) kf3_15 (v := .ref (ad 1 0)) p_ad_3_0 rfl dX3_explains_57 ?_
          obtain ⟨v_13205, v_13207, v_13209, v_13211, v_13213, p_ad_1_0, b_13206, b_13208, b_13210, b_13212, b_13214⟩ := opnC_1 (j := 0) I (by decide)
          have p_ad_1_0 : pt L_13200 f_13201 (ad 1 0) (.inr (10, [.ref (ad 40 0), .ref (ad 41 0), .ref (ad 42 0), .ref (ad 10 0), .ref (ad 43 0), .ref (ad 20 0), .ref (ad 20 1), .ref (ad 20 2), .ref (ad 20 3), .ref (ad 20 4), .int v_13205, .int v_13207, .int v_13209, .int v_13211, .int v_13213])) := p_ad_1_0
          refine pg_getN S Y ok_X10 9 (by decide) kf3_74 (v := .ref (ad 20 4)) p_ad_1_0 rfl dX3_explains_60 ?_
          refine lv_iload_n hx hb dX3_explains_63 rfl (lv_at hl 3 rfl) ?_
          refine lv_iconst (v := 1) hx hb dX3_explains_64 (by decide) ?_
          refine cVp (As := [.int y2_2, .int 1]) (rest := [.int r_13202]) S Y (x_X9_get (l := l) (j := 4) I hW hT hQ (by decide)) cw_X9_get km3_83 (I.opo (k := 20) (j := 4) (by decide) rfl).choose_spec.1 ok_X9.1 rfl rfl ⟨Nat.le_of_ble_eq_true rfl, Nat.le_of_ble_eq_true rfl⟩ hl.1 rfl (Nat.le_of_ble_eq_true rfl) ⟨Nat.le_of_ble_eq_true rfl, Nat.le_of_ble_eq_true rfl⟩ dX3_explains_65 (fun r_13215 H locs er_13215 Y => ?_)
          refine lv_icmp_eq (tgt := 73) hx hb dX3_explains_68 (by decide) (fun c_13216 => ?_) (fun c_13216 => ?_)
          · obtain ⟨x_13217, ex_13217⟩ : ∃ z : Int32, z = y2_2 + 1 := ⟨_, rfl⟩
            refine lv_iinc (v := x_13217) (lv' := [(2, .int x_13217), (3, .int r_13194), (0, .ref (ad 3 0)), (1, .int i1)]) hx hb dX3_explains_73 hl (k := 3) rfl (by rw [ex_13217]; rfl) (by decide) rfl (fun ls hl => ?_)
            refine lv_goto (tgt := 2) hx hb dX3_explains_76 (by decide) ?_
            exact ih2 _ (by rw [← hm2]; exact ms_up (m := 1) ex_13217 (show bn 1 1 (1 : Int32) from bn_k (by decide)) B_13193 (bn_w (bn_eq ex_13217 (bn_add B_13193 (show bn 1 1 (1 : Int32) from bn_k (by decide)) (by decide))) (by decide) : bn 0 8 x_13217) (by decide)) x_13217 _ _  _ _ _ I (bn_w (bn_eq ex_13217 (bn_add B_13193 (show bn 1 1 (1 : Int32) from bn_k (by decide)) (by decide))) (by decide)) rfl Y (lv_sub hl [2, 3, 0] rfl)
          · refine lv_iconst (v := 0) hx hb dX3_explains_71 (by decide) ?_
            exact prI (post := fun r L1 f1 => bn 0 1 r ∧ SH (spC rs fc tc w q) nnC G ad L1 f1) S Y rfl (by decide) (by decide) hA1 ⟨bn_w (show bn 0 0 (0 : Int32) from bn_k (by decide)) (by decide), I⟩ dX3_explains_72
  refine lv_iconst (v := 0) hx hb dX3_explains_0 (by decide) ?_
  refine lv_istore_n (lv' := [(2, .int 0), (0, .ref (ad 3 0)), (1, .int i1)]) hx hb dX3_explains_1 rfl hl (by decide) rfl (fun ls hl => ?_)
  exact J_2 _ 0 _ _  _ _ _ I (bn_w (show bn 0 0 (0 : Int32) from bn_k (by decide)) (by decide)) rfl Y (lv_sub hl [1, 2, 0] rfl)
