theorem dX3_combine_0 : decode cX3_combine 0 = .ok (.iload_n 1, 1) := by decide +kernel
theorem dX3_combine_1 : decode cX3_combine 1 = .ok (.iconst 5, 1) := by decide +kernel
theorem dX3_combine_2 : decode cX3_combine 2 = .ok (.if_icmp .ne 16, 3) := by decide +kernel
theorem dX3_combine_18 : decode cX3_combine 18 = .ok (.iload_n 1, 1) := by decide +kernel
theorem dX3_combine_19 : decode cX3_combine 19 = .ok (.bipush 6, 2) := by decide +kernel
theorem dX3_combine_21 : decode cX3_combine 21 = .ok (.if_icmp .ne 17, 3) := by decide +kernel
theorem dX3_combine_38 : decode cX3_combine 38 = .ok (.iload_n 1, 1) := by decide +kernel
theorem dX3_combine_39 : decode cX3_combine 39 = .ok (.bipush 7, 2) := by decide +kernel
theorem dX3_combine_41 : decode cX3_combine 41 = .ok (.if_icmp .ne 44, 3) := by decide +kernel
theorem dX3_combine_85 : decode cX3_combine 85 = .ok (.aload_n 0, 1) := by decide +kernel
theorem dX3_combine_86 : decode cX3_combine 86 = .ok (.invokevirtual 118, 3) := by decide +kernel
theorem cw_X3_pop : CWv yX3_pop cX3_pop 1 (some .int) 0 := ⟨⟨⟨List.mem_of_getElem? (i := 131) (by decide +kernel), by decide +kernel⟩, ⟨List.mem_of_getElem? (i := 995) (by decide +kernel), by decide +kernel⟩, by decide +kernel⟩, ⟨List.mem_of_getElem? (i := 994) (by decide +kernel), by decide +kernel⟩, ⟨List.mem_of_getElem? (i := 31) (by decide +kernel), by decide +kernel⟩⟩
theorem km3_118 : inW (Cond.methodLink RX3 118 yX3_pop) := ⟨List.mem_of_getElem? (i := 992) (by decide +kernel), by decide +kernel⟩
theorem dX3_combine_89 : decode cX3_combine 89 = .ok (.i2l, 1) := by decide +kernel
theorem dX3_combine_90 : decode cX3_combine 90 = .ok (.lstore_n 3, 1) := by decide +kernel
theorem dX3_combine_91 : decode cX3_combine 91 = .ok (.aload_n 0, 1) := by decide +kernel
theorem dX3_combine_92 : decode cX3_combine 92 = .ok (.invokevirtual 118, 3) := by decide +kernel
theorem dX3_combine_95 : decode cX3_combine 95 = .ok (.i2l, 1) := by decide +kernel
theorem dX3_combine_96 : decode cX3_combine 96 = .ok (.lstore 5, 2) := by decide +kernel
theorem dX3_combine_98 : decode cX3_combine 98 = .ok (.aload_n 0, 1) := by decide +kernel
theorem dX3_combine_99 : decode cX3_combine 99 = .ok (.iload_n 1, 1) := by decide +kernel
theorem dX3_combine_100 : decode cX3_combine 100 = .ok (.lload 5, 2) := by decide +kernel
theorem dX3_combine_102 : decode cX3_combine 102 = .ok (.lload_n 3, 1) := by decide +kernel
theorem dX3_combine_103 : decode cX3_combine 103 = .ok (.invokestatic 136, 3) := by decide +kernel
theorem cw_X3_joined : CWs yX3_joined cX3_joined 5 (some .long) 3 := ⟨⟨⟨List.mem_of_getElem? (i := 131) (by decide +kernel), by decide +kernel⟩, ⟨List.mem_of_getElem? (i := 1010) (by decide +kernel), by decide +kernel⟩, by decide +kernel⟩, ⟨List.mem_of_getElem? (i := 1009) (by decide +kernel), by decide +kernel⟩⟩
theorem km3_136 : inW (Cond.methodLink RX3 136 yX3_joined) := ⟨List.mem_of_getElem? (i := 1008) (by decide +kernel), by decide +kernel⟩
theorem dX3_combine_106 : decode cX3_combine 106 = .ok (.invokevirtual 110, 3) := by decide +kernel
theorem cw_X3_push : CWv yX3_push cX3_push 5 none 1 := ⟨⟨⟨List.mem_of_getElem? (i := 131) (by decide +kernel), by decide +kernel⟩, ⟨List.mem_of_getElem? (i := 981) (by decide +kernel), by decide +kernel⟩, by decide +kernel⟩, ⟨List.mem_of_getElem? (i := 980) (by decide +kernel), by decide +kernel⟩, ⟨List.mem_of_getElem? (i := 29) (by decide +kernel), by decide +kernel⟩⟩
theorem km3_110 : inW (Cond.methodLink RX3 110 yX3_push) := ⟨List.mem_of_getElem? (i := 978) (by decide +kernel), by decide +kernel⟩
theorem dX3_combine_109 : decode cX3_combine 109 = .ok (.return_, 1) := by decide +kernel
theorem dX3_combine_44 : decode cX3_combine 44 = .ok (.iconst 0, 1) := by decide +kernel
theorem dX3_combine_45 : decode cX3_combine 45 = .ok (.istore_n 3, 1) := by decide +kernel
theorem dX3_combine_46 : decode cX3_combine 46 = .ok (.iconst 0, 1) := by decide +kernel
theorem dX3_combine_47 : decode cX3_combine 47 = .ok (.istore 4, 2) := by decide +kernel
theorem dX3_combine_24 : decode cX3_combine 24 = .ok (.aload_n 0, 1) := by decide +kernel
theorem dX3_combine_25 : decode cX3_combine 25 = .ok (.iconst 1, 1) := by decide +kernel
theorem dX3_combine_26 : decode cX3_combine 26 = .ok (.aload_n 0, 1) := by decide +kernel
theorem dX3_combine_27 : decode cX3_combine 27 = .ok (.invokevirtual 118, 3) := by decide +kernel
theorem dX3_combine_30 : decode cX3_combine 30 = .ok (.isub, 1) := by decide +kernel
theorem dX3_combine_31 : decode cX3_combine 31 = .ok (.i2l, 1) := by decide +kernel
theorem dX3_combine_32 : decode cX3_combine 32 = .ok (.invokevirtual 110, 3) := by decide +kernel
theorem dX3_combine_35 : decode cX3_combine 35 = .ok (.goto 74, 3) := by decide +kernel
theorem dX3_combine_5 : decode cX3_combine 5 = .ok (.aload_n 0, 1) := by decide +kernel
theorem dX3_combine_6 : decode cX3_combine 6 = .ok (.aload_n 0, 1) := by decide +kernel
theorem dX3_combine_7 : decode cX3_combine 7 = .ok (.invokevirtual 118, 3) := by decide +kernel
theorem dX3_combine_10 : decode cX3_combine 10 = .ok (.ineg, 1) := by decide +kernel
theorem dX3_combine_11 : decode cX3_combine 11 = .ok (.i2l, 1) := by decide +kernel
theorem dX3_combine_12 : decode cX3_combine 12 = .ok (.invokevirtual 110, 3) := by decide +kernel
theorem dX3_combine_15 : decode cX3_combine 15 = .ok (.goto 94, 3) := by decide +kernel
theorem dX3_combine_49 : decode cX3_combine 49 = .ok (.iload 4, 2) := by decide +kernel
theorem dX3_combine_51 : decode cX3_combine 51 = .ok (.iload_n 2, 1) := by decide +kernel
theorem dX3_combine_52 : decode cX3_combine 52 = .ok (.if_icmp .ge 16, 3) := by decide +kernel
theorem dX3_combine_68 : decode cX3_combine 68 = .ok (.aload_n 0, 1) := by decide +kernel
theorem dX3_combine_69 : decode cX3_combine 69 = .ok (.iload_n 3, 1) := by decide +kernel
theorem dX3_combine_70 : decode cX3_combine 70 = .ok (.iconst 1, 1) := by decide +kernel
theorem dX3_combine_71 : decode cX3_combine 71 = .ok (.if_icmp .ne 7, 3) := by decide +kernel
theorem dX3_combine_78 : decode cX3_combine 78 = .ok (.lconst 0, 1) := by decide +kernel
theorem dX3_combine_79 : decode cX3_combine 79 = .ok (.invokevirtual 110, 3) := by decide +kernel
theorem dX3_combine_82 : decode cX3_combine 82 = .ok (.goto 27, 3) := by decide +kernel
theorem dX3_combine_55 : decode cX3_combine 55 = .ok (.iload_n 3, 1) := by decide +kernel
theorem dX3_combine_56 : decode cX3_combine 56 = .ok (.aload_n 0, 1) := by decide +kernel
theorem dX3_combine_57 : decode cX3_combine 57 = .ok (.invokevirtual 118, 3) := by decide +kernel
theorem dX3_combine_60 : decode cX3_combine 60 = .ok (.iadd, 1) := by decide +kernel
theorem dX3_combine_61 : decode cX3_combine 61 = .ok (.istore_n 3, 1) := by decide +kernel
theorem dX3_combine_62 : decode cX3_combine 62 = .ok (.iinc 4 1, 3) := by decide +kernel
theorem dX3_combine_65 : decode cX3_combine 65 = .ok (.goto (-16), 3) := by decide +kernel
theorem dX3_combine_74 : decode cX3_combine 74 = .ok (.lconst 1, 1) := by decide +kernel
theorem dX3_combine_75 : decode cX3_combine 75 = .ok (.goto 4, 3) := by decide +kernel
theorem dX3_work_0 : decode cX3_work 0 = .ok (.aload_n 1, 1) := by decide +kernel
theorem dX3_work_1 : decode cX3_work 1 = .ok (.iload_n 2, 1) := by decide +kernel
theorem dX3_work_2 : decode cX3_work 2 = .ok (.invokevirtual 95, 3) := by decide +kernel
theorem cw_X7_lawStart : CWv yX7_lawStart cX7_lawStart 2 (some .int) 1 := ⟨⟨⟨List.mem_of_getElem? (i := 129) (by decide +kernel), by decide +kernel⟩, ⟨List.mem_of_getElem? (i := 965) (by decide +kernel), by decide +kernel⟩, by decide +kernel⟩, ⟨List.mem_of_getElem? (i := 963) (by decide +kernel), by decide +kernel⟩, ⟨List.mem_of_getElem? (i := 964) (by decide +kernel), by decide +kernel⟩⟩
theorem km3_95 : inW (Cond.methodLink RX3 95 yX7_lawStart) := ⟨List.mem_of_getElem? (i := 962) (by decide +kernel), by decide +kernel⟩
theorem dX3_work_5 : decode cX3_work 5 = .ok (.istore 6, 2) := by decide +kernel
theorem dX3_work_7 : decode cX3_work 7 = .ok (.aload_n 1, 1) := by decide +kernel
theorem dX3_work_8 : decode cX3_work 8 = .ok (.iload_n 2, 1) := by decide +kernel
theorem dX3_work_9 : decode cX3_work 9 = .ok (.invokevirtual 98, 3) := by decide +kernel
theorem cw_X7_lawEnd : CWv yX7_lawEnd cX7_lawEnd 2 (some .int) 1 := ⟨⟨⟨List.mem_of_getElem? (i := 129) (by decide +kernel), by decide +kernel⟩, ⟨List.mem_of_getElem? (i := 969) (by decide +kernel), by decide +kernel⟩, by decide +kernel⟩, ⟨List.mem_of_getElem? (i := 967) (by decide +kernel), by decide +kernel⟩, ⟨List.mem_of_getElem? (i := 968) (by decide +kernel), by decide +kernel⟩⟩
theorem km3_98 : inW (Cond.methodLink RX3 98 yX7_lawEnd) := ⟨List.mem_of_getElem? (i := 966) (by decide +kernel), by decide +kernel⟩
theorem dX3_work_12 : decode cX3_work 12 = .ok (.istore 7, 2) := by decide +kernel
theorem dX3_work_14 : decode cX3_work 14 = .ok (.aload_n 0, 1) := by decide +kernel
theorem dX3_work_15 : decode cX3_work 15 = .ok (.iconst 0, 1) := by decide +kernel
theorem dX3_work_16 : decode cX3_work 16 = .ok (.putfield 101, 3) := by decide +kernel
theorem dX3_work_19 : decode cX3_work 19 = .ok (.iconst 0, 1) := by decide +kernel
theorem dX3_work_20 : decode cX3_work 20 = .ok (.istore 8, 2) := by decide +kernel
theorem dX3_work_22 : decode cX3_work 22 = .ok (.iload 8, 2) := by decide +kernel
theorem dX3_work_24 : decode cX3_work 24 = .ok (.sipush 300, 3) := by decide +kernel
theorem dX3_work_27 : decode cX3_work 27 = .ok (.if_icmp .ge 137, 3) := by decide +kernel
theorem dX3_work_30 : decode cX3_work 30 = .ok (.iload 6, 2) := by decide +kernel
theorem dX3_work_32 : decode cX3_work 32 = .ok (.iload 7, 2) := by decide +kernel
theorem dX3_work_34 : decode cX3_work 34 = .ok (.if_icmp .ge 130, 3) := by decide +kernel
theorem dX3_work_164 : decode cX3_work 164 = .ok (.aload_n 0, 1) := by decide +kernel
theorem dX3_work_165 : decode cX3_work 165 = .ok (.invokevirtual 118, 3) := by decide +kernel
theorem dX3_work_168 : decode cX3_work 168 = .ok (.ireturn, 1) := by decide +kernel
theorem dX3_work_37 : decode cX3_work 37 = .ok (.aload_n 1, 1) := by decide +kernel
theorem dX3_work_38 : decode cX3_work 38 = .ok (.iload 6, 2) := by decide +kernel
theorem dX3_work_40 : decode cX3_work 40 = .ok (.invokevirtual 104, 3) := by decide +kernel
theorem cw_X7_doing : CWv yX7_doing cX7_doing 2 (some .int) 1 := ⟨⟨⟨List.mem_of_getElem? (i := 129) (by decide +kernel), by decide +kernel⟩, ⟨List.mem_of_getElem? (i := 973) (by decide +kernel), by decide +kernel⟩, by decide +kernel⟩, ⟨List.mem_of_getElem? (i := 971) (by decide +kernel), by decide +kernel⟩, ⟨List.mem_of_getElem? (i := 972) (by decide +kernel), by decide +kernel⟩⟩
theorem km3_104 : inW (Cond.methodLink RX3 104 yX7_doing) := ⟨List.mem_of_getElem? (i := 970) (by decide +kernel), by decide +kernel⟩
theorem dX3_work_43 : decode cX3_work 43 = .ok (.istore 9, 2) := by decide +kernel
theorem dX3_work_45 : decode cX3_work 45 = .ok (.aload_n 1, 1) := by decide +kernel
theorem dX3_work_46 : decode cX3_work 46 = .ok (.iload 6, 2) := by decide +kernel
theorem dX3_work_48 : decode cX3_work 48 = .ok (.invokevirtual 107, 3) := by decide +kernel
theorem cw_X7_number : CWv yX7_number cX7_number 2 (some .int) 1 := ⟨⟨⟨List.mem_of_getElem? (i := 129) (by decide +kernel), by decide +kernel⟩, ⟨List.mem_of_getElem? (i := 977) (by decide +kernel), by decide +kernel⟩, by decide +kernel⟩, ⟨List.mem_of_getElem? (i := 975) (by decide +kernel), by decide +kernel⟩, ⟨List.mem_of_getElem? (i := 976) (by decide +kernel), by decide +kernel⟩⟩
theorem km3_107 : inW (Cond.methodLink RX3 107 yX7_number) := ⟨List.mem_of_getElem? (i := 974) (by decide +kernel), by decide +kernel⟩
theorem dX3_work_51 : decode cX3_work 51 = .ok (.istore 10, 2) := by decide +kernel
theorem dX3_work_53 : decode cX3_work 53 = .ok (.iinc 6 1, 3) := by decide +kernel
theorem dX3_work_56 : decode cX3_work 56 = .ok (.iload 9, 2) := by decide +kernel
theorem dX3_work_58 : decode cX3_work 58 = .ok (.ifCond .ne 13, 3) := by decide +kernel
theorem dX3_work_71 : decode cX3_work 71 = .ok (.iload 9, 2) := by decide +kernel
theorem dX3_work_73 : decode cX3_work 73 = .ok (.iconst 1, 1) := by decide +kernel
theorem dX3_work_74 : decode cX3_work 74 = .ok (.if_icmp .ne 22, 3) := by decide +kernel
theorem dX3_work_96 : decode cX3_work 96 = .ok (.iload 9, 2) := by decide +kernel
theorem dX3_work_98 : decode cX3_work 98 = .ok (.iconst 2, 1) := by decide +kernel
theorem dX3_work_99 : decode cX3_work 99 = .ok (.if_icmp .ne 19, 3) := by decide +kernel
theorem dX3_work_118 : decode cX3_work 118 = .ok (.iload 9, 2) := by decide +kernel
theorem dX3_work_120 : decode cX3_work 120 = .ok (.iconst 3, 1) := by decide +kernel
theorem dX3_work_121 : decode cX3_work 121 = .ok (.if_icmp .eq 16, 3) := by decide +kernel
theorem dX3_work_137 : decode cX3_work 137 = .ok (.iload 10, 2) := by decide +kernel
theorem dX3_work_139 : decode cX3_work 139 = .ok (.istore 6, 2) := by decide +kernel
theorem dX3_work_141 : decode cX3_work 141 = .ok (.goto 17, 3) := by decide +kernel
theorem dX3_work_158 : decode cX3_work 158 = .ok (.iinc 8 1, 3) := by decide +kernel
theorem dX3_work_161 : decode cX3_work 161 = .ok (.goto (-139), 3) := by decide +kernel
theorem dX3_work_124 : decode cX3_work 124 = .ok (.iload 9, 2) := by decide +kernel
theorem dX3_work_126 : decode cX3_work 126 = .ok (.iconst 4, 1) := by decide +kernel
theorem dX3_work_127 : decode cX3_work 127 = .ok (.if_icmp .ne 17, 3) := by decide +kernel
theorem dX3_work_144 : decode cX3_work 144 = .ok (.iload 9, 2) := by decide +kernel
theorem dX3_work_146 : decode cX3_work 146 = .ok (.iconst 5, 1) := by decide +kernel
theorem dX3_work_147 : decode cX3_work 147 = .ok (.if_icmp .lt 11, 3) := by decide +kernel
theorem dX3_work_150 : decode cX3_work 150 = .ok (.aload_n 0, 1) := by decide +kernel
theorem dX3_work_151 : decode cX3_work 151 = .ok (.iload 9, 2) := by decide +kernel
theorem dX3_work_153 : decode cX3_work 153 = .ok (.iload 10, 2) := by decide +kernel
theorem dX3_work_155 : decode cX3_work 155 = .ok (.invokevirtual 122, 3) := by decide +kernel
theorem cw_X3_combine : CWv yX3_combine cX3_combine 7 none 2 := ⟨⟨⟨List.mem_of_getElem? (i := 131) (by decide +kernel), by decide +kernel⟩, ⟨List.mem_of_getElem? (i := 1007) (by decide +kernel), by decide +kernel⟩, by decide +kernel⟩, ⟨List.mem_of_getElem? (i := 1006) (by decide +kernel), by decide +kernel⟩, ⟨List.mem_of_getElem? (i := 32) (by decide +kernel), by decide +kernel⟩⟩
theorem km3_122 : inW (Cond.methodLink RX3 122 yX3_combine) := ⟨List.mem_of_getElem? (i := 1004) (by decide +kernel), by decide +kernel⟩
theorem dX3_work_130 : decode cX3_work 130 = .ok (.aload_n 0, 1) := by decide +kernel
theorem dX3_work_131 : decode cX3_work 131 = .ok (.invokevirtual 118, 3) := by decide +kernel
theorem dX3_work_134 : decode cX3_work 134 = .ok (.ifCond .ne 10, 3) := by decide +kernel
theorem dX3_work_102 : decode cX3_work 102 = .ok (.aload_n 0, 1) := by decide +kernel
theorem dX3_work_103 : decode cX3_work 103 = .ok (.aload_n 3, 1) := by decide +kernel
theorem dX3_work_104 : decode cX3_work 104 = .ok (.aload_n 0, 1) := by decide +kernel
theorem dX3_work_105 : decode cX3_work 105 = .ok (.invokevirtual 118, 3) := by decide +kernel
theorem dX3_work_108 : decode cX3_work 108 = .ok (.invokevirtual 60, 3) := by decide +kernel
theorem cw_X4_marks : CWv yX4_marks cX4_marks 4 (some .int) 1 := ⟨⟨⟨List.mem_of_getElem? (i := 125) (by decide +kernel), by decide +kernel⟩, ⟨List.mem_of_getElem? (i := 999) (by decide +kernel), by decide +kernel⟩, by decide +kernel⟩, ⟨List.mem_of_getElem? (i := 997) (by decide +kernel), by decide +kernel⟩, ⟨List.mem_of_getElem? (i := 998) (by decide +kernel), by decide +kernel⟩⟩
theorem km3_60 : inW (Cond.methodLink RX3 60 yX4_marks) := ⟨List.mem_of_getElem? (i := 996) (by decide +kernel), by decide +kernel⟩
theorem dX3_work_111 : decode cX3_work 111 = .ok (.i2l, 1) := by decide +kernel
theorem dX3_work_112 : decode cX3_work 112 = .ok (.invokevirtual 110, 3) := by decide +kernel
theorem dX3_work_115 : decode cX3_work 115 = .ok (.goto 43, 3) := by decide +kernel
theorem dX3_work_77 : decode cX3_work 77 = .ok (.aload_n 0, 1) := by decide +kernel
theorem dX3_work_78 : decode cX3_work 78 = .ok (.aload_n 0, 1) := by decide +kernel
theorem dX3_work_79 : decode cX3_work 79 = .ok (.iload 10, 2) := by decide +kernel
theorem dX3_work_81 : decode cX3_work 81 = .ok (.aload_n 3, 1) := by decide +kernel
theorem dX3_work_82 : decode cX3_work 82 = .ok (.iload 4, 2) := by decide +kernel
theorem dX3_work_84 : decode cX3_work 84 = .ok (.iload 5, 2) := by decide +kernel
theorem dX3_work_86 : decode cX3_work 86 = .ok (.invokevirtual 114, 3) := by decide +kernel
theorem cw_X3_named : CWv yX3_named cX3_named 5 (some .int) 4 := ⟨⟨⟨List.mem_of_getElem? (i := 131) (by decide +kernel), by decide +kernel⟩, ⟨List.mem_of_getElem? (i := 987) (by decide +kernel), by decide +kernel⟩, by decide +kernel⟩, ⟨List.mem_of_getElem? (i := 986) (by decide +kernel), by decide +kernel⟩, ⟨List.mem_of_getElem? (i := 30) (by decide +kernel), by decide +kernel⟩⟩
theorem km3_114 : inW (Cond.methodLink RX3 114 yX3_named) := ⟨List.mem_of_getElem? (i := 984) (by decide +kernel), by decide +kernel⟩
theorem dX3_work_89 : decode cX3_work 89 = .ok (.i2l, 1) := by decide +kernel
theorem dX3_work_90 : decode cX3_work 90 = .ok (.invokevirtual 110, 3) := by decide +kernel
theorem dX3_work_93 : decode cX3_work 93 = .ok (.goto 65, 3) := by decide +kernel
theorem dX3_work_61 : decode cX3_work 61 = .ok (.aload_n 0, 1) := by decide +kernel
theorem dX3_work_62 : decode cX3_work 62 = .ok (.iload 10, 2) := by decide +kernel
theorem dX3_work_64 : decode cX3_work 64 = .ok (.i2l, 1) := by decide +kernel
theorem dX3_work_65 : decode cX3_work 65 = .ok (.invokevirtual 110, 3) := by decide +kernel
theorem dX3_work_68 : decode cX3_work 68 = .ok (.goto 90, 3) := by decide +kernel
theorem dX3_wearOf_0 : decode cX3_wearOf 0 = .ok (.aload_n 2, 1) := by decide +kernel
theorem dX3_wearOf_1 : decode cX3_wearOf 1 = .ok (.iload_n 3, 1) := by decide +kernel
theorem dX3_wearOf_2 : decode cX3_wearOf 2 = .ok (.iconst 1, 1) := by decide +kernel
theorem dX3_wearOf_3 : decode cX3_wearOf 3 = .ok (.invokevirtual 19, 3) := by decide +kernel
theorem dX3_wearOf_6 : decode cX3_wearOf 6 = .ok (.istore 4, 2) := by decide +kernel
theorem dX3_wearOf_8 : decode cX3_wearOf 8 = .ok (.aload_n 0, 1) := by decide +kernel
theorem dX3_wearOf_9 : decode cX3_wearOf 9 = .ok (.getfield 15, 3) := by decide +kernel
theorem dX3_wearOf_12 : decode cX3_wearOf 12 = .ok (.iload_n 1, 1) := by decide +kernel
theorem dX3_wearOf_13 : decode cX3_wearOf 13 = .ok (.invokevirtual 25, 3) := by decide +kernel
theorem km3_25 : inW (Cond.methodLink RX3 25 yX10_script) := ⟨List.mem_of_getElem? (i := 952) (by decide +kernel), by decide +kernel⟩
theorem dX3_wearOf_16 : decode cX3_wearOf 16 = .ok (.astore 5, 2) := by decide +kernel
theorem dX3_wearOf_18 : decode cX3_wearOf 18 = .ok (.aload 5, 2) := by decide +kernel
theorem dX3_wearOf_20 : decode cX3_wearOf 20 = .ok (.ifnull 12, 3) := by decide +kernel
theorem dX3_wearOf_32 : decode cX3_wearOf 32 = .ok (.bipush 10, 2) := by decide +kernel
theorem dX3_wearOf_34 : decode cX3_wearOf 34 = .ok (.aload_n 0, 1) := by decide +kernel
theorem dX3_wearOf_35 : decode cX3_wearOf 35 = .ok (.getfield 15, 3) := by decide +kernel
theorem dX3_wearOf_38 : decode cX3_wearOf 38 = .ok (.iload 4, 2) := by decide +kernel
theorem dX3_wearOf_40 : decode cX3_wearOf 40 = .ok (.invokevirtual 37, 3) := by decide +kernel
theorem dX3_wearOf_43 : decode cX3_wearOf 43 = .ok (.isub, 1) := by decide +kernel
theorem dX3_wearOf_44 : decode cX3_wearOf 44 = .ok (.ireturn, 1) := by decide +kernel
theorem dX3_wearOf_23 : decode cX3_wearOf 23 = .ok (.aload 5, 2) := by decide +kernel
theorem dX3_wearOf_25 : decode cX3_wearOf 25 = .ok (.iconst 0, 1) := by decide +kernel
theorem dX3_wearOf_26 : decode cX3_wearOf 26 = .ok (.invokevirtual 31, 3) := by decide +kernel
theorem cw_X7_hasLaw : CWv yX7_hasLaw cX7_hasLaw 2 (some .boolean) 1 := ⟨⟨⟨List.mem_of_getElem? (i := 129) (by decide +kernel), by decide +kernel⟩, ⟨List.mem_of_getElem? (i := 745) (by decide +kernel), by decide +kernel⟩, by decide +kernel⟩, ⟨List.mem_of_getElem? (i := 743) (by decide +kernel), by decide +kernel⟩, ⟨List.mem_of_getElem? (i := 744) (by decide +kernel), by decide +kernel⟩⟩
theorem km3_31 : inW (Cond.methodLink RX3 31 yX7_hasLaw) := ⟨List.mem_of_getElem? (i := 953) (by decide +kernel), by decide +kernel⟩
theorem dX3_wearOf_29 : decode cX3_wearOf 29 = .ok (.ifCond .ne 16, 3) := by decide +kernel
theorem dX3_wearOf_45 : decode cX3_wearOf 45 = .ok (.iconst 0, 1) := by decide +kernel
theorem dX3_wearOf_46 : decode cX3_wearOf 46 = .ok (.bipush 99, 2) := by decide +kernel
theorem dX3_wearOf_48 : decode cX3_wearOf 48 = .ok (.aload_n 0, 1) := by decide +kernel
theorem dX3_wearOf_49 : decode cX3_wearOf 49 = .ok (.aload 5, 2) := by decide +kernel
theorem dX3_wearOf_51 : decode cX3_wearOf 51 = .ok (.iconst 0, 1) := by decide +kernel
theorem dX3_wearOf_52 : decode cX3_wearOf 52 = .ok (.aload_n 2, 1) := by decide +kernel
theorem dX3_wearOf_53 : decode cX3_wearOf 53 = .ok (.iload 4, 2) := by decide +kernel
theorem dX3_wearOf_55 : decode cX3_wearOf 55 = .ok (.iload_n 3, 1) := by decide +kernel
theorem dX3_wearOf_56 : decode cX3_wearOf 56 = .ok (.invokevirtual 41, 3) := by decide +kernel
theorem cw_X3_work : CWv yX3_work cX3_work 11 (some .int) 5 := ⟨⟨⟨List.mem_of_getElem? (i := 131) (by decide +kernel), by decide +kernel⟩, ⟨List.mem_of_getElem? (i := 961) (by decide +kernel), by decide +kernel⟩, by decide +kernel⟩, ⟨List.mem_of_getElem? (i := 960) (by decide +kernel), by decide +kernel⟩, ⟨List.mem_of_getElem? (i := 28) (by decide +kernel), by decide +kernel⟩⟩
theorem km3_41 : inW (Cond.methodLink RX3 41 yX3_work) := ⟨List.mem_of_getElem? (i := 958) (by decide +kernel), by decide +kernel⟩
theorem dX3_wearOf_59 : decode cX3_wearOf 59 = .ok (.invokestatic 45, 3) := by decide +kernel
theorem km3_45 : inW (Cond.methodLink RX3 45 Lib.Math.min.name) := ⟨List.mem_of_getElem? (i := 1011) (by decide +kernel), by decide +kernel⟩
theorem dX3_wearOf_62 : decode cX3_wearOf 62 = .ok (.invokestatic 50, 3) := by decide +kernel
theorem km3_50 : inW (Cond.methodLink RX3 50 Lib.Math.max.name) := ⟨List.mem_of_getElem? (i := 1012) (by decide +kernel), by decide +kernel⟩
theorem kMs_max : inW (Cond.static Lib.Math.max.name) := ⟨List.mem_of_getElem? (i := 689) (by decide +kernel), by decide +kernel⟩
theorem kMc_max : inW (Cond.code Lib.Math.max.name Lib.Math.max.code 2 (some .int)) := ⟨List.mem_of_getElem? (i := 690) (by decide +kernel), by decide +kernel⟩
theorem dX3_wearOf_65 : decode cX3_wearOf 65 = .ok (.ireturn, 1) := by decide +kernel
theorem dX3_painOf_0 : decode cX3_painOf 0 = .ok (.aload_n 0, 1) := by decide +kernel
theorem dX3_painOf_1 : decode cX3_painOf 1 = .ok (.getfield 15, 3) := by decide +kernel
theorem dX3_painOf_4 : decode cX3_painOf 4 = .ok (.aload_n 0, 1) := by decide +kernel
theorem dX3_painOf_5 : decode cX3_painOf 5 = .ok (.getfield 15, 3) := by decide +kernel
theorem dX3_painOf_8 : decode cX3_painOf 8 = .ok (.getfield 53, 3) := by decide +kernel
theorem kf3_53 : inW (Cond.fieldLinkNest RX3 53 "KneeOaths$World" "ruling" "I" "KneeOaths") := ⟨List.mem_of_getElem? (i := 296) (by decide +kernel), by decide +kernel⟩
theorem dX3_painOf_11 : decode cX3_painOf 11 = .ok (.invokevirtual 25, 3) := by decide +kernel
theorem dX3_painOf_14 : decode cX3_painOf 14 = .ok (.astore_n 3, 1) := by decide +kernel
theorem dX3_painOf_15 : decode cX3_painOf 15 = .ok (.aload_n 3, 1) := by decide +kernel
theorem dX3_painOf_16 : decode cX3_painOf 16 = .ok (.ifnull 11, 3) := by decide +kernel
theorem dX3_painOf_27 : decode cX3_painOf 27 = .ok (.aload_n 1, 1) := by decide +kernel
theorem dX3_painOf_28 : decode cX3_painOf 28 = .ok (.iload_n 2, 1) := by decide +kernel
theorem dX3_painOf_29 : decode cX3_painOf 29 = .ok (.iconst 3, 1) := by decide +kernel
theorem dX3_painOf_30 : decode cX3_painOf 30 = .ok (.invokevirtual 19, 3) := by decide +kernel
theorem dX3_painOf_33 : decode cX3_painOf 33 = .ok (.aload_n 1, 1) := by decide +kernel
theorem dX3_painOf_34 : decode cX3_painOf 34 = .ok (.getfield 57, 3) := by decide +kernel
theorem dX3_painOf_37 : decode cX3_painOf 37 = .ok (.imul, 1) := by decide +kernel
theorem dX3_painOf_38 : decode cX3_painOf 38 = .ok (.bipush 10, 2) := by decide +kernel
theorem dX3_painOf_40 : decode cX3_painOf 40 = .ok (.idiv, 1) := by decide +kernel
theorem dX3_painOf_41 : decode cX3_painOf 41 = .ok (.ireturn, 1) := by decide +kernel
theorem dX3_painOf_19 : decode cX3_painOf 19 = .ok (.aload_n 3, 1) := by decide +kernel
theorem dX3_painOf_20 : decode cX3_painOf 20 = .ok (.iconst 1, 1) := by decide +kernel
theorem dX3_painOf_21 : decode cX3_painOf 21 = .ok (.invokevirtual 31, 3) := by decide +kernel
theorem dX3_painOf_24 : decode cX3_painOf 24 = .ok (.ifCond .ne 18, 3) := by decide +kernel
theorem dX3_painOf_42 : decode cX3_painOf 42 = .ok (.iconst 0, 1) := by decide +kernel
theorem dX3_painOf_43 : decode cX3_painOf 43 = .ok (.bipush 99, 2) := by decide +kernel
theorem dX3_painOf_45 : decode cX3_painOf 45 = .ok (.aload_n 0, 1) := by decide +kernel
theorem dX3_painOf_46 : decode cX3_painOf 46 = .ok (.aload_n 3, 1) := by decide +kernel
theorem dX3_painOf_47 : decode cX3_painOf 47 = .ok (.iconst 1, 1) := by decide +kernel
theorem dX3_painOf_48 : decode cX3_painOf 48 = .ok (.aload_n 1, 1) := by decide +kernel
theorem dX3_painOf_49 : decode cX3_painOf 49 = .ok (.aload_n 1, 1) := by decide +kernel
theorem dX3_painOf_50 : decode cX3_painOf 50 = .ok (.iload_n 2, 1) := by decide +kernel
theorem dX3_painOf_51 : decode cX3_painOf 51 = .ok (.iconst 1, 1) := by decide +kernel
theorem dX3_painOf_52 : decode cX3_painOf 52 = .ok (.invokevirtual 19, 3) := by decide +kernel
theorem dX3_painOf_55 : decode cX3_painOf 55 = .ok (.iload_n 2, 1) := by decide +kernel
theorem dX3_painOf_56 : decode cX3_painOf 56 = .ok (.invokevirtual 41, 3) := by decide +kernel
theorem dX3_painOf_59 : decode cX3_painOf 59 = .ok (.invokestatic 45, 3) := by decide +kernel
theorem dX3_painOf_62 : decode cX3_painOf 62 = .ok (.invokestatic 50, 3) := by decide +kernel
theorem dX3_painOf_65 : decode cX3_painOf 65 = .ok (.ireturn, 1) := by decide +kernel
theorem dX3_riskOf_0 : decode cX3_riskOf 0 = .ok (.aload_n 0, 1) := by decide +kernel
theorem dX3_riskOf_1 : decode cX3_riskOf 1 = .ok (.getfield 15, 3) := by decide +kernel
theorem dX3_riskOf_4 : decode cX3_riskOf 4 = .ok (.aload_n 0, 1) := by decide +kernel
theorem dX3_riskOf_5 : decode cX3_riskOf 5 = .ok (.getfield 15, 3) := by decide +kernel
theorem dX3_riskOf_8 : decode cX3_riskOf 8 = .ok (.getfield 53, 3) := by decide +kernel
theorem dX3_riskOf_11 : decode cX3_riskOf 11 = .ok (.invokevirtual 25, 3) := by decide +kernel
theorem dX3_riskOf_14 : decode cX3_riskOf 14 = .ok (.astore_n 3, 1) := by decide +kernel
theorem dX3_riskOf_15 : decode cX3_riskOf 15 = .ok (.aload_n 3, 1) := by decide +kernel
theorem dX3_riskOf_16 : decode cX3_riskOf 16 = .ok (.ifnull 11, 3) := by decide +kernel
theorem dX3_riskOf_27 : decode cX3_riskOf 27 = .ok (.aload_n 1, 1) := by decide +kernel
theorem dX3_riskOf_28 : decode cX3_riskOf 28 = .ok (.iload_n 2, 1) := by decide +kernel
theorem dX3_riskOf_29 : decode cX3_riskOf 29 = .ok (.invokevirtual 60, 3) := by decide +kernel
theorem dX3_riskOf_32 : decode cX3_riskOf 32 = .ok (.bipush 10, 2) := by decide +kernel
theorem dX3_riskOf_34 : decode cX3_riskOf 34 = .ok (.imul, 1) := by decide +kernel
theorem dX3_riskOf_35 : decode cX3_riskOf 35 = .ok (.aload_n 0, 1) := by decide +kernel
theorem dX3_riskOf_36 : decode cX3_riskOf 36 = .ok (.getfield 15, 3) := by decide +kernel
theorem dX3_riskOf_39 : decode cX3_riskOf 39 = .ok (.iload_n 2, 1) := by decide +kernel
theorem dX3_riskOf_40 : decode cX3_riskOf 40 = .ok (.invokevirtual 37, 3) := by decide +kernel
theorem dX3_riskOf_43 : decode cX3_riskOf 43 = .ok (.isub, 1) := by decide +kernel
theorem dX3_riskOf_44 : decode cX3_riskOf 44 = .ok (.goto 12, 3) := by decide +kernel
theorem dX3_riskOf_56 : decode cX3_riskOf 56 = .ok (.istore 4, 2) := by decide +kernel
theorem dX3_riskOf_58 : decode cX3_riskOf 58 = .ok (.iconst 0, 1) := by decide +kernel
theorem dX3_riskOf_59 : decode cX3_riskOf 59 = .ok (.sipush 9999, 3) := by decide +kernel
theorem dX3_riskOf_62 : decode cX3_riskOf 62 = .ok (.iload 4, 2) := by decide +kernel
theorem dX3_riskOf_64 : decode cX3_riskOf 64 = .ok (.invokestatic 45, 3) := by decide +kernel
theorem dX3_riskOf_67 : decode cX3_riskOf 67 = .ok (.invokestatic 50, 3) := by decide +kernel
theorem dX3_riskOf_70 : decode cX3_riskOf 70 = .ok (.ireturn, 1) := by decide +kernel
theorem dX3_riskOf_19 : decode cX3_riskOf 19 = .ok (.aload_n 3, 1) := by decide +kernel
theorem dX3_riskOf_20 : decode cX3_riskOf 20 = .ok (.iconst 2, 1) := by decide +kernel
theorem dX3_riskOf_21 : decode cX3_riskOf 21 = .ok (.invokevirtual 31, 3) := by decide +kernel
theorem dX3_riskOf_24 : decode cX3_riskOf 24 = .ok (.ifCond .ne 23, 3) := by decide +kernel
theorem dX3_riskOf_47 : decode cX3_riskOf 47 = .ok (.aload_n 0, 1) := by decide +kernel
theorem dX3_riskOf_48 : decode cX3_riskOf 48 = .ok (.aload_n 3, 1) := by decide +kernel
theorem dX3_riskOf_49 : decode cX3_riskOf 49 = .ok (.iconst 2, 1) := by decide +kernel
theorem dX3_riskOf_50 : decode cX3_riskOf 50 = .ok (.aload_n 1, 1) := by decide +kernel
theorem dX3_riskOf_51 : decode cX3_riskOf 51 = .ok (.iload_n 2, 1) := by decide +kernel
theorem dX3_riskOf_52 : decode cX3_riskOf 52 = .ok (.iconst (-1), 1) := by decide +kernel
theorem dX3_riskOf_53 : decode cX3_riskOf 53 = .ok (.invokevirtual 41, 3) := by decide +kernel
theorem dX3_acheOf_0 : decode cX3_acheOf 0 = .ok (.iconst 0, 1) := by decide +kernel
theorem dX3_acheOf_1 : decode cX3_acheOf 1 = .ok (.istore_n 3, 1) := by decide +kernel
theorem dX3_acheOf_2 : decode cX3_acheOf 2 = .ok (.iconst 0, 1) := by decide +kernel
theorem dX3_acheOf_3 : decode cX3_acheOf 3 = .ok (.istore 4, 2) := by decide +kernel
theorem dX3_acheOf_5 : decode cX3_acheOf 5 = .ok (.iload 4, 2) := by decide +kernel
theorem dX3_acheOf_7 : decode cX3_acheOf 7 = .ok (.aload_n 1, 1) := by decide +kernel
theorem dX3_acheOf_8 : decode cX3_acheOf 8 = .ok (.getfield 63, 3) := by decide +kernel
theorem kf3_63 : inW (Cond.fieldLinkNest RX3 63 "KneeOaths$Ledger" "oathCount" "I" "KneeOaths") := ⟨List.mem_of_getElem? (i := 166) (by decide +kernel), by decide +kernel⟩
theorem dX3_acheOf_11 : decode cX3_acheOf 11 = .ok (.if_icmp .ge 40, 3) := by decide +kernel
theorem dX3_acheOf_51 : decode cX3_acheOf 51 = .ok (.iload_n 3, 1) := by decide +kernel
theorem dX3_acheOf_52 : decode cX3_acheOf 52 = .ok (.ireturn, 1) := by decide +kernel
theorem dX3_acheOf_14 : decode cX3_acheOf 14 = .ok (.aload_n 1, 1) := by decide +kernel
theorem dX3_acheOf_15 : decode cX3_acheOf 15 = .ok (.iload 4, 2) := by decide +kernel
theorem dX3_acheOf_17 : decode cX3_acheOf 17 = .ok (.iload_n 2, 1) := by decide +kernel
theorem dX3_acheOf_18 : decode cX3_acheOf 18 = .ok (.invokevirtual 66, 3) := by decide +kernel
theorem km3_66 : inW (Cond.methodLink RX3 66 yX4_legibleOn) := ⟨List.mem_of_getElem? (i := 1076) (by decide +kernel), by decide +kernel⟩
theorem dX3_acheOf_21 : decode cX3_acheOf 21 = .ok (.ifCond .eq 24, 3) := by decide +kernel
theorem dX3_acheOf_45 : decode cX3_acheOf 45 = .ok (.iinc 4 1, 3) := by decide +kernel
theorem dX3_acheOf_48 : decode cX3_acheOf 48 = .ok (.goto (-43), 3) := by decide +kernel
theorem dX3_acheOf_24 : decode cX3_acheOf 24 = .ok (.aload_n 1, 1) := by decide +kernel
theorem dX3_acheOf_25 : decode cX3_acheOf 25 = .ok (.iload 4, 2) := by decide +kernel
theorem dX3_acheOf_27 : decode cX3_acheOf 27 = .ok (.iconst 4, 1) := by decide +kernel
theorem dX3_acheOf_28 : decode cX3_acheOf 28 = .ok (.invokevirtual 19, 3) := by decide +kernel
theorem dX3_acheOf_31 : decode cX3_acheOf 31 = .ok (.iconst 1, 1) := by decide +kernel
theorem dX3_acheOf_32 : decode cX3_acheOf 32 = .ok (.if_icmp .ne 13, 3) := by decide +kernel
theorem dX3_acheOf_35 : decode cX3_acheOf 35 = .ok (.iload_n 3, 1) := by decide +kernel
theorem dX3_acheOf_36 : decode cX3_acheOf 36 = .ok (.aload_n 0, 1) := by decide +kernel
theorem dX3_acheOf_37 : decode cX3_acheOf 37 = .ok (.aload_n 1, 1) := by decide +kernel
theorem dX3_acheOf_38 : decode cX3_acheOf 38 = .ok (.iload 4, 2) := by decide +kernel
theorem dX3_acheOf_40 : decode cX3_acheOf 40 = .ok (.invokevirtual 70, 3) := by decide +kernel
theorem cw_X3_painOf : CWv yX3_painOf cX3_painOf 4 (some .int) 2 := ⟨⟨⟨List.mem_of_getElem? (i := 131) (by decide +kernel), by decide +kernel⟩, ⟨List.mem_of_getElem? (i := 1080) (by decide +kernel), by decide +kernel⟩, by decide +kernel⟩, ⟨List.mem_of_getElem? (i := 1078) (by decide +kernel), by decide +kernel⟩, ⟨List.mem_of_getElem? (i := 1079) (by decide +kernel), by decide +kernel⟩⟩
theorem km3_70 : inW (Cond.methodLink RX3 70 yX3_painOf) := ⟨List.mem_of_getElem? (i := 1077) (by decide +kernel), by decide +kernel⟩
theorem dX3_acheOf_43 : decode cX3_acheOf 43 = .ok (.iadd, 1) := by decide +kernel
theorem dX3_acheOf_44 : decode cX3_acheOf 44 = .ok (.istore_n 3, 1) := by decide +kernel
theorem dX3_explains_0 : decode cX3_explains 0 = .ok (.iconst 0, 1) := by decide +kernel
theorem dX3_explains_1 : decode cX3_explains 1 = .ok (.istore_n 2, 1) := by decide +kernel
theorem dX3_explains_2 : decode cX3_explains 2 = .ok (.iload_n 2, 1) := by decide +kernel
theorem dX3_explains_3 : decode cX3_explains 3 = .ok (.aload_n 0, 1) := by decide +kernel
theorem dX3_explains_4 : decode cX3_explains 4 = .ok (.getfield 15, 3) := by decide +kernel
theorem dX3_explains_7 : decode cX3_explains 7 = .ok (.getfield 74, 3) := by decide +kernel
theorem kf3_74 : inW (Cond.fieldLinkNest RX3 74 "KneeOaths$World" "wearings" "LKneeOaths$Told;" "KneeOaths") := ⟨List.mem_of_getElem? (i := 286) (by decide +kernel), by decide +kernel⟩
theorem dX3_explains_10 : decode cX3_explains 10 = .ok (.getfield 78, 3) := by decide +kernel
theorem kf3_78 : inW (Cond.fieldLinkNest RX3 78 "KneeOaths$Told" "count" "I" "KneeOaths") := ⟨List.mem_of_getElem? (i := 223) (by decide +kernel), by decide +kernel⟩
theorem dX3_explains_13 : decode cX3_explains 13 = .ok (.if_icmp .ge 66, 3) := by decide +kernel
theorem dX3_explains_79 : decode cX3_explains 79 = .ok (.iconst 1, 1) := by decide +kernel
theorem dX3_explains_80 : decode cX3_explains 80 = .ok (.ireturn, 1) := by decide +kernel
theorem dX3_explains_16 : decode cX3_explains 16 = .ok (.aload_n 0, 1) := by decide +kernel
theorem dX3_explains_17 : decode cX3_explains 17 = .ok (.getfield 15, 3) := by decide +kernel
theorem dX3_explains_20 : decode cX3_explains 20 = .ok (.getfield 74, 3) := by decide +kernel
theorem dX3_explains_23 : decode cX3_explains 23 = .ok (.iload_n 2, 1) := by decide +kernel
theorem dX3_explains_24 : decode cX3_explains 24 = .ok (.iconst 0, 1) := by decide +kernel
theorem dX3_explains_25 : decode cX3_explains 25 = .ok (.invokevirtual 83, 3) := by decide +kernel
theorem cw_X9_get : CWv yX9_get cX9_get 3 (some .int) 2 := ⟨⟨⟨List.mem_of_getElem? (i := 127) (by decide +kernel), by decide +kernel⟩, ⟨List.mem_of_getElem? (i := 1244) (by decide +kernel), by decide +kernel⟩, by decide +kernel⟩, ⟨List.mem_of_getElem? (i := 1242) (by decide +kernel), by decide +kernel⟩, ⟨List.mem_of_getElem? (i := 1243) (by decide +kernel), by decide +kernel⟩⟩
theorem km3_83 : inW (Cond.methodLink RX3 83 yX9_get) := ⟨List.mem_of_getElem? (i := 1422) (by decide +kernel), by decide +kernel⟩
theorem dX3_explains_28 : decode cX3_explains 28 = .ok (.istore_n 3, 1) := by decide +kernel
theorem dX3_explains_29 : decode cX3_explains 29 = .ok (.aload_n 0, 1) := by decide +kernel
theorem dX3_explains_30 : decode cX3_explains 30 = .ok (.getfield 15, 3) := by decide +kernel
theorem dX3_explains_33 : decode cX3_explains 33 = .ok (.getfield 84, 3) := by decide +kernel
theorem kf3_84 : inW (Cond.fieldLinkNest RX3 84 "KneeOaths$World" "now" "LKneeOaths$Ledger;" "KneeOaths") := ⟨List.mem_of_getElem? (i := 270) (by decide +kernel), by decide +kernel⟩
theorem dX3_explains_36 : decode cX3_explains 36 = .ok (.iload_n 3, 1) := by decide +kernel
theorem dX3_explains_37 : decode cX3_explains 37 = .ok (.invokevirtual 88, 3) := by decide +kernel
theorem km3_88 : inW (Cond.methodLink RX3 88 yX4_has) := ⟨List.mem_of_getElem? (i := 1423) (by decide +kernel), by decide +kernel⟩
theorem dX3_explains_40 : decode cX3_explains 40 = .ok (.ifCond .eq 33, 3) := by decide +kernel
theorem dX3_explains_73 : decode cX3_explains 73 = .ok (.iinc 2 1, 3) := by decide +kernel
theorem dX3_explains_76 : decode cX3_explains 76 = .ok (.goto (-74), 3) := by decide +kernel
theorem dX3_explains_43 : decode cX3_explains 43 = .ok (.aload_n 0, 1) := by decide +kernel
theorem dX3_explains_44 : decode cX3_explains 44 = .ok (.iload_n 1, 1) := by decide +kernel
theorem dX3_explains_45 : decode cX3_explains 45 = .ok (.aload_n 0, 1) := by decide +kernel
theorem dX3_explains_46 : decode cX3_explains 46 = .ok (.getfield 15, 3) := by decide +kernel
theorem dX3_explains_49 : decode cX3_explains 49 = .ok (.getfield 84, 3) := by decide +kernel
theorem dX3_explains_52 : decode cX3_explains 52 = .ok (.iload_n 3, 1) := by decide +kernel
theorem dX3_explains_53 : decode cX3_explains 53 = .ok (.invokevirtual 91, 3) := by decide +kernel
theorem cw_X3_wearOf : CWv yX3_wearOf cX3_wearOf 6 (some .int) 3 := ⟨⟨⟨List.mem_of_getElem? (i := 131) (by decide +kernel), by decide +kernel⟩, ⟨List.mem_of_getElem? (i := 950) (by decide +kernel), by decide +kernel⟩, by decide +kernel⟩, ⟨List.mem_of_getElem? (i := 948) (by decide +kernel), by decide +kernel⟩, ⟨List.mem_of_getElem? (i := 949) (by decide +kernel), by decide +kernel⟩⟩
theorem km3_91 : inW (Cond.methodLink RX3 91 yX3_wearOf) := ⟨List.mem_of_getElem? (i := 1424) (by decide +kernel), by decide +kernel⟩
theorem dX3_explains_56 : decode cX3_explains 56 = .ok (.aload_n 0, 1) := by decide +kernel
theorem dX3_explains_57 : decode cX3_explains 57 = .ok (.getfield 15, 3) := by decide +kernel
theorem dX3_explains_60 : decode cX3_explains 60 = .ok (.getfield 74, 3) := by decide +kernel
theorem dX3_explains_63 : decode cX3_explains 63 = .ok (.iload_n 2, 1) := by decide +kernel
theorem dX3_explains_64 : decode cX3_explains 64 = .ok (.iconst 1, 1) := by decide +kernel
theorem dX3_explains_65 : decode cX3_explains 65 = .ok (.invokevirtual 83, 3) := by decide +kernel
theorem dX3_explains_68 : decode cX3_explains 68 = .ok (.if_icmp .eq 5, 3) := by decide +kernel
theorem dX3_explains_71 : decode cX3_explains 71 = .ok (.iconst 0, 1) := by decide +kernel
theorem dX3_explains_72 : decode cX3_explains 72 = .ok (.ireturn, 1) := by decide +kernel
set_option maxHeartbeats 4000000 in
set_option maxRecDepth 100000 in
theorem x_X3_combine {l : Launch} {G : GG}  {L : List Nat} {f : HF} {ad : Nat → Nat → Nat} {rs : RS} {fc : Int × Int} {tc w : Nat → Int × Int} {q : Nat → (Nat → Int32) → Prop} {i1 i2 : Int32} (I : SH (spC rs fc tc w q) nnC G ad L f) (hW : WBp w 8) (hT : WBp tc 4) (hQ : QIp q) : PMv l yX3_combine cX3_combine 7 1 0 0 G [.ref (ad 3 0), .int i1, .int i2] L f (fun L1 f1 => SH (spC rs fc tc w q) nnC G ad L1 f1) := by
  refine PMv.of (post := fun L1 f1 => SH (spC rs fc tc w q) nnC G ad L1 f1) (own := RX3) (by decide) rfl (Nat.le_of_ble_eq_true rfl) (fun sz p e s m args below meth c A ls hA1 hname S Y hl => ?_)
  have hx := S.hx
  have hb := S.hb
  have hl : lv_has ls 7 [(0, .ref (ad 3 0)), (1, .int i1), (2, .int i2)] := hl
  have J_49 : ∀ (n49 : Nat) (y49_3 y49_4 : Int32) (L_49 : List Nat) (f_49 : HF) (H : Heap) (locs : List Loc) (ls : Array Slot), (SH (spC rs fc tc w q) nnC G ad L_49 f_49) → (bn 0 2147483647 y49_4) → (bn 7 7 i1) → (((2147483647 : Int) - y49_4.toInt).toNat = n49) → (DY G A s [] L_49 f_49 H locs) → (lv_has ls 7 [(0, .ref (ad 3 0)), (1, .int i1), (2, .int i2), (3, .int y49_3), (4, .int y49_4)]) → W p l e (rmD 1 0 0) s m args below meth c H locs (0) (0) (MQ below (va_Qv (fun (u : List Nat × HF) => (fun L1 f1 => SH (spC rs fc tc w q) nnC G ad L1 f1) u.1 u.2) (fun u t => pOut G (va_A (va_pl L f) sz) u.1 u.2 t) (va_A (va_pl L f) sz)) args s 0 0 A) (F0 m 49 ls []) := by
    intro n49
    induction n49 using Nat.strongRecOn with
    | _ n49 ih49 =>
      intro y49_3 y49_4 L_49 f_49 H locs ls I b_y49_4 b49_i1 hm49 Y hl
      refine lv_iload hx hb dX3_combine_49 (lv_at hl 4 rfl) ?_
      refine lv_iload_n hx hb dX3_combine_51 rfl (lv_at hl 2 rfl) ?_
      refine lv_icmp_ge (tgt := 68) hx hb dX3_combine_52 (by decide) (fun c_10072 => ?_) (fun c_10072 => ?_)
      · refine lv_aload_n hx hb dX3_combine_68 rfl (lv_at hl 0 rfl) ?_
        refine lv_iload_n hx hb dX3_combine_69 rfl (lv_at hl 3 rfl) ?_
        refine lv_iconst (v := 1) hx hb dX3_combine_70 (by decide) ?_
        refine lv_icmp_ne (tgt := 78) hx hb dX3_combine_71 (by decide) (fun c_10075 => ?_) (fun c_10075 => ?_)
        · refine lv_lconst (v := 0) hx hb dX3_combine_78 (by decide) ?_
          refine cVv (As := [.long 0]) (rest := []) S Y (x_X3_push (l := l) I hW hT hQ) cw_X3_push km3_110 (I.opo (k := 3) (j := 0) (by decide) rfl).choose_spec.1 ok_X3.1 rfl rfl ⟨Nat.le_of_ble_eq_true rfl, Nat.le_of_ble_eq_true rfl⟩ hl.1 rfl (Nat.le_of_ble_eq_true rfl) ⟨Nat.le_of_ble_eq_true rfl, Nat.le_of_ble_eq_true rfl⟩ dX3_combine_79 (fun L_10077 f_10078 H locs I Y => ?_)
          refine lv_goto (tgt := 109) hx hb dX3_combine_82 (by decide) ?_
          exact prV (post := fun L1 f1 => SH (spC rs fc tc w q) nnC G ad L1 f1) S Y (by decide) (by decide) hA1 I dX3_combine_109
        · have B_10076 : bn 1 1 y49_3 := bn_w (bn_eq c_10075 (show bn 1 1 (1 : Int32) from bn_k (by decide))) (by decide)
          refine lv_lconst (v := 1) hx hb dX3_combine_74 (by decide) ?_
          refine lv_goto (tgt := 79) hx hb dX3_combine_75 (by decide) ?_
          refine cVv (As := [.long 1]) (rest := []) S Y (x_X3_push (l := l) I hW hT hQ) cw_X3_push km3_110 (I.opo (k := 3) (j := 0) (by decide) rfl).choose_spec.1 ok_X3.1 rfl rfl ⟨Nat.le_of_ble_eq_true rfl, Nat.le_of_ble_eq_true rfl⟩ hl.1 rfl (Nat.le_of_ble_eq_true rfl) ⟨Nat.le_of_ble_eq_true rfl, Nat.le_of_ble_eq_true rfl⟩ dX3_combine_79 (fun L_10079 f_10080 H locs I Y => ?_)
          refine lv_goto (tgt := 109) hx hb dX3_combine_82 (by decide) ?_
          exact prV (post := fun L1 f1 => SH (spC rs fc tc w q) nnC G ad L1 f1) S Y (by decide) (by decide) hA1 I dX3_combine_109
      · have B_10073 : bn 1 2147483647 i2 := bn_w (bn_gtl c_10072 (bn_any i2) b_y49_4) (by decide)
        have B_10074 : bn 0 2147483646 y49_4 := bn_w (bn_gtr c_10072 (bn_any i2) b_y49_4) (by decide)
        refine lv_iload_n hx hb dX3_combine_55 rfl (lv_at hl 3 rfl) ?_
        refine lv_aload_n hx hb dX3_combine_56 rfl (lv_at hl 0 rfl) ?_
        refine cVi (As := []) (rest := [.int y49_3]) S Y (x_X3_pop (l := l) I hW hT hQ) cw_X3_pop km3_118 (I.opo (k := 3) (j := 0) (by decide) rfl).choose_spec.1 ok_X3.1 rfl rfl ⟨Nat.le_of_ble_eq_true rfl, Nat.le_of_ble_eq_true rfl⟩ hl.1 rfl (Nat.le_of_ble_eq_true rfl) ⟨Nat.le_of_ble_eq_true rfl, Nat.le_of_ble_eq_true rfl⟩ dX3_combine_57 (fun r_10083 L_10081 f_10082 H locs I Y => ?_)
        refine lv_iadd hx hb dX3_combine_60 ?_
        refine lv_topi (fun x_10084 ex_10084 => ?_)
        refine lv_istore_n (lv' := [(3, .int x_10084), (0, .ref (ad 3 0)), (1, .int i1), (2, .int i2), (4, .int y49_4)]) hx hb dX3_combine_61 rfl hl (by decide) rfl (fun ls hl => ?_)
        obtain ⟨x_10085, ex_10085⟩ : ∃ z : Int32, z = y49_4 + 1 := ⟨_, rfl⟩
        refine lv_iinc (v := x_10085) (lv' := [(4, .int x_10085), (3, .int x_10084), (0, .ref (ad 3 0)), (1, .int i1), (2, .int i2)]) hx hb dX3_combine_62 hl (k := 4) rfl (by rw [ex_10085]; rfl) (by decide) rfl (fun ls hl => ?_)
        refine lv_goto (tgt := 49) hx hb dX3_combine_65 (by decide) ?_
        exact ih49 _ (by rw [← hm49]; exact ms_up (m := 1) ex_10085 (show bn 1 1 (1 : Int32) from bn_k (by decide)) B_10074 (bn_w (bn_eq ex_10085 (bn_add B_10074 (show bn 1 1 (1 : Int32) from bn_k (by decide)) (by decide))) (by decide) : bn 0 2147483647 x_10085) (by decide)) x_10084 x_10085 _ _  _ _ _ I (bn_w (bn_eq ex_10085 (bn_add B_10074 (show bn 1 1 (1 : Int32) from bn_k (by decide)) (by decide))) (by decide)) (bn_w b49_i1 (by decide)) rfl Y (lv_sub hl [2, 3, 4, 1, 0] rfl)
  refine lv_iload_n hx hb dX3_combine_0 rfl (lv_at hl 1 rfl) ?_
  refine lv_iconst (v := 5) hx hb dX3_combine_1 (by decide) ?_
  refine lv_icmp_ne (tgt := 18) hx hb dX3_combine_2 (by decide) (fun c_10086 => ?_) (fun c_10086 => ?_)
  · refine lv_iload_n hx hb dX3_combine_18 rfl (lv_at hl 1 rfl) ?_
    refine lv_bipush (v := 6) hx hb dX3_combine_19 (by decide) ?_
    refine lv_icmp_ne (tgt := 38) hx hb dX3_combine_21 (by decide) (fun c_10088 => ?_) (fun c_10088 => ?_)
    · refine lv_iload_n hx hb dX3_combine_38 rfl (lv_at hl 1 rfl) ?_
      refine lv_bipush (v := 7) hx hb dX3_combine_39 (by decide) ?_
      refine lv_icmp_ne (tgt := 85) hx hb dX3_combine_41 (by decide) (fun c_10090 => ?_) (fun c_10090 => ?_)
      · refine lv_aload_n hx hb dX3_combine_85 rfl (lv_at hl 0 rfl) ?_
        refine cVi (As := []) (rest := []) S Y (x_X3_pop (l := l) I hW hT hQ) cw_X3_pop km3_118 (I.opo (k := 3) (j := 0) (by decide) rfl).choose_spec.1 ok_X3.1 rfl rfl ⟨Nat.le_of_ble_eq_true rfl, Nat.le_of_ble_eq_true rfl⟩ hl.1 rfl (Nat.le_of_ble_eq_true rfl) ⟨Nat.le_of_ble_eq_true rfl, Nat.le_of_ble_eq_true rfl⟩ dX3_combine_86 (fun r_10094 L_10092 f_10093 H locs I Y => ?_)
        refine lv_i2l hx hb dX3_combine_89 rfl ?_
        refine lv_topl (fun x_10095 ex_10095 => ?_)
        refine lv_lstore_n (lv' := [(3, .long x_10095), (0, .ref (ad 3 0)), (1, .int i1), (2, .int i2)]) hx hb dX3_combine_90 rfl hl (by decide) rfl (fun ls hl => ?_)
        refine lv_aload_n hx hb dX3_combine_91 rfl (lv_at hl 1 rfl) ?_
        refine cVi (As := []) (rest := []) S Y (x_X3_pop (l := l) I hW hT hQ) cw_X3_pop km3_118 (I.opo (k := 3) (j := 0) (by decide) rfl).choose_spec.1 ok_X3.1 rfl rfl ⟨Nat.le_of_ble_eq_true rfl, Nat.le_of_ble_eq_true rfl⟩ hl.1 rfl (Nat.le_of_ble_eq_true rfl) ⟨Nat.le_of_ble_eq_true rfl, Nat.le_of_ble_eq_true rfl⟩ dX3_combine_92 (fun r_10098 L_10096 f_10097 H locs I Y => ?_)
        refine lv_i2l hx hb dX3_combine_95 rfl ?_
        refine lv_topl (fun x_10099 ex_10099 => ?_)
        refine lv_lstore (lv' := [(5, .long x_10099), (3, .long x_10095), (0, .ref (ad 3 0)), (1, .int i1), (2, .int i2)]) hx hb dX3_combine_96 hl (by decide) rfl (fun ls hl => ?_)
        refine lv_aload_n hx hb dX3_combine_98 rfl (lv_at hl 2 rfl) ?_
        refine lv_iload_n hx hb dX3_combine_99 rfl (lv_at hl 3 rfl) ?_
        refine lv_lload hx hb dX3_combine_100 (lv_at hl 0 rfl) ?_
        refine lv_lload_n hx hb dX3_combine_102 rfl (lv_at hl 1 rfl) ?_
        refine cSlp (As := [.int i1, .long x_10099, .long x_10095]) (rest := [.ref (ad 3 0)]) S Y (x_X3_joined (l := l) ) cw_X3_joined km3_136 rfl ⟨Nat.le_of_ble_eq_true rfl, Nat.le_of_ble_eq_true rfl⟩ hl.1 rfl (Nat.le_of_ble_eq_true rfl) ⟨Nat.le_of_ble_eq_true rfl, Nat.le_of_ble_eq_true rfl⟩ dX3_combine_103 (fun r_10100 H locs er_10100 Y => ?_)
        refine cVv (As := [.long r_10100]) (rest := []) S Y (x_X3_push (l := l) I hW hT hQ) cw_X3_push km3_110 (I.opo (k := 3) (j := 0) (by decide) rfl).choose_spec.1 ok_X3.1 rfl rfl ⟨Nat.le_of_ble_eq_true rfl, Nat.le_of_ble_eq_true rfl⟩ hl.1 rfl (Nat.le_of_ble_eq_true rfl) ⟨Nat.le_of_ble_eq_true rfl, Nat.le_of_ble_eq_true rfl⟩ dX3_combine_106 (fun L_10101 f_10102 H locs I Y => ?_)
        exact prV (post := fun L1 f1 => SH (spC rs fc tc w q) nnC G ad L1 f1) S Y (by decide) (by decide) hA1 I dX3_combine_109
      · have B_10091 : bn 7 7 i1 := bn_w (bn_eq c_10090 (show bn 7 7 (7 : Int32) from bn_k (by decide))) (by decide)
        refine lv_iconst (v := 0) hx hb dX3_combine_44 (by decide) ?_
        refine lv_istore_n (lv' := [(3, .int 0), (0, .ref (ad 3 0)), (1, .int i1), (2, .int i2)]) hx hb dX3_combine_45 rfl hl (by decide) rfl (fun ls hl => ?_)
        refine lv_iconst (v := 0) hx hb dX3_combine_46 (by decide) ?_
        refine lv_istore (lv' := [(4, .int 0), (3, .int 0), (0, .ref (ad 3 0)), (1, .int i1), (2, .int i2)]) hx hb dX3_combine_47 hl (by decide) rfl (fun ls hl => ?_)
        exact J_49 _ 0 0 _ _  _ _ _ I (bn_w (show bn 0 0 (0 : Int32) from bn_k (by decide)) (by decide)) (bn_w B_10091 (by decide)) rfl Y (lv_sub hl [2, 3, 4, 1, 0] rfl)
    · have B_10089 : bn 6 6 i1 := bn_w (bn_eq c_10088 (show bn 6 6 (6 : Int32) from bn_k (by decide))) (by decide)
      refine lv_aload_n hx hb dX3_combine_24 rfl (lv_at hl 0 rfl) ?_
      refine lv_iconst (v := 1) hx hb dX3_combine_25 (by decide) ?_
      refine lv_aload_n hx hb dX3_combine_26 rfl (lv_at hl 0 rfl) ?_
      refine cVi (As := []) (rest := [.int 1, .ref (ad 3 0)]) S Y (x_X3_pop (l := l) I hW hT hQ) cw_X3_pop km3_118 (I.opo (k := 3) (j := 0) (by decide) rfl).choose_spec.1 ok_X3.1 rfl rfl ⟨Nat.le_of_ble_eq_true rfl, Nat.le_of_ble_eq_true rfl⟩ hl.1 rfl (Nat.le_of_ble_eq_true rfl) ⟨Nat.le_of_ble_eq_true rfl, Nat.le_of_ble_eq_true rfl⟩ dX3_combine_27 (fun r_10105 L_10103 f_10104 H locs I Y => ?_)
      refine lv_isub hx hb dX3_combine_30 ?_
      refine lv_topi (fun x_10106 ex_10106 => ?_)
      refine lv_i2l hx hb dX3_combine_31 rfl ?_
      refine lv_topl (fun x_10107 ex_10107 => ?_)
      refine cVv (As := [.long x_10107]) (rest := []) S Y (x_X3_push (l := l) I hW hT hQ) cw_X3_push km3_110 (I.opo (k := 3) (j := 0) (by decide) rfl).choose_spec.1 ok_X3.1 rfl rfl ⟨Nat.le_of_ble_eq_true rfl, Nat.le_of_ble_eq_true rfl⟩ hl.1 rfl (Nat.le_of_ble_eq_true rfl) ⟨Nat.le_of_ble_eq_true rfl, Nat.le_of_ble_eq_true rfl⟩ dX3_combine_32 (fun L_10108 f_10109 H locs I Y => ?_)
      refine lv_goto (tgt := 109) hx hb dX3_combine_35 (by decide) ?_
      exact prV (post := fun L1 f1 => SH (spC rs fc tc w q) nnC G ad L1 f1) S Y (by decide) (by decide) hA1 I dX3_combine_109
  · have B_10087 : bn 5 5 i1 := bn_w (bn_eq c_10086 (show bn 5 5 (5 : Int32) from bn_k (by decide))) (by decide)
    refine lv_aload_n hx hb dX3_combine_5 rfl (lv_at hl 0 rfl) ?_
    refine lv_aload_n hx hb dX3_combine_6 rfl (lv_at hl 0 rfl) ?_
    refine cVi (As := []) (rest := [.ref (ad 3 0)]) S Y (x_X3_pop (l := l) I hW hT hQ) cw_X3_pop km3_118 (I.opo (k := 3) (j := 0) (by decide) rfl).choose_spec.1 ok_X3.1 rfl rfl ⟨Nat.le_of_ble_eq_true rfl, Nat.le_of_ble_eq_true rfl⟩ hl.1 rfl (Nat.le_of_ble_eq_true rfl) ⟨Nat.le_of_ble_eq_true rfl, Nat.le_of_ble_eq_true rfl⟩ dX3_combine_7 (fun r_10112 L_10110 f_10111 H locs I Y => ?_)
    refine lv_ineg hx hb dX3_combine_10 ?_
    refine lv_topi (fun x_10113 ex_10113 => ?_)
    refine lv_i2l hx hb dX3_combine_11 rfl ?_
    refine lv_topl (fun x_10114 ex_10114 => ?_)
    refine cVv (As := [.long x_10114]) (rest := []) S Y (x_X3_push (l := l) I hW hT hQ) cw_X3_push km3_110 (I.opo (k := 3) (j := 0) (by decide) rfl).choose_spec.1 ok_X3.1 rfl rfl ⟨Nat.le_of_ble_eq_true rfl, Nat.le_of_ble_eq_true rfl⟩ hl.1 rfl (Nat.le_of_ble_eq_true rfl) ⟨Nat.le_of_ble_eq_true rfl, Nat.le_of_ble_eq_true rfl⟩ dX3_combine_12 (fun L_10115 f_10116 H locs I Y => ?_)
    refine lv_goto (tgt := 109) hx hb dX3_combine_15 (by decide) ?_
    exact prV (post := fun L1 f1 => SH (spC rs fc tc w q) nnC G ad L1 f1) S Y (by decide) (by decide) hA1 I dX3_combine_109
set_option maxHeartbeats 4000000 in
set_option maxRecDepth 100000 in
theorem x_X3_work {l : Launch} {G : GG}  {L : List Nat} {f : HF} {ad : Nat → Nat → Nat} {rs : RS} {fc : Int × Int} {tc w : Nat → Int × Int} {q : Nat → (Nat → Int32) → Prop} {i j : Nat} {i1 i2 i3 : Int32} (I : SH (spC rs fc tc w q) nnC G ad L f) (hW : WBp w 8) (hT : WBp tc 4) (hQ : QIp q) (hi : i < 8) (hj : j < 63) : PMi l yX3_work cX3_work 11 .int 2 0 0 G [.ref (ad 3 0), .ref (ad 30 i), .int i1, .ref (ad 10 j), .int i2, .int i3] L f (fun r L1 f1 => SH (spC rs fc tc w q) nnC G ad L1 f1) := by
  refine PMi.of (post := fun r L1 f1 => SH (spC rs fc tc w q) nnC G ad L1 f1) (own := RX3) (by decide) rfl (Nat.le_of_ble_eq_true rfl) (fun sz p e s m args below meth c A ls hA1 hname S Y hl => ?_)
  have hx := S.hx
  have hb := S.hb
  have hl : lv_has ls 11 [(0, .ref (ad 3 0)), (1, .ref (ad 30 i)), (2, .int i1), (3, .ref (ad 10 j)), (4, .int i2), (5, .int i3)] := hl
  have J_22 : ∀ (n22 : Nat) (y22_6 y22_7 y22_8 : Int32) (L_22 : List Nat) (f_22 : HF) (H : Heap) (locs : List Loc) (ls : Array Slot), (SH (spC rs fc tc w q) nnC G ad L_22 f_22) → (bn 0 300 y22_8) → (((300 : Int) - y22_8.toInt).toNat = n22) → (DY G A s [] L_22 f_22 H locs) → (lv_has ls 11 [(0, .ref (ad 3 0)), (1, .ref (ad 30 i)), (2, .int i1), (3, .ref (ad 10 j)), (4, .int i2), (5, .int i3), (6, .int y22_6), (7, .int y22_7), (8, .int y22_8)]) → W p l e (rmD 2 0 0) s m args below meth c H locs (0) (0) (MQ below (va_Qi (fun r (u : List Nat × HF) => (fun r L1 f1 => SH (spC rs fc tc w q) nnC G ad L1 f1) r u.1 u.2) (fun u t => pOut G (va_A (va_pl L f) sz) u.1 u.2 t) (va_A (va_pl L f) sz)) args s 0 0 A) (F0 m 22 ls []) := by
    intro n22
    induction n22 using Nat.strongRecOn with
    | _ n22 ih22 =>
      intro y22_6 y22_7 y22_8 L_22 f_22 H locs ls I b_y22_8 hm22 Y hl
      refine lv_iload hx hb dX3_work_22 (lv_at hl 8 rfl) ?_
      refine lv_sipush (v := 300) hx hb dX3_work_24 (by decide) ?_
      refine lv_icmp_ge (tgt := 164) hx hb dX3_work_27 (by decide) (fun c_12128 => ?_) (fun c_12128 => ?_)
      · have B_12129 : bn 300 300 y22_8 := bn_w (bn_ler c_12128 (show bn 300 300 (300 : Int32) from bn_k (by decide)) b_y22_8) (by decide)
        refine lv_aload_n hx hb dX3_work_164 rfl (lv_at hl 0 rfl) ?_
        refine cVi (As := []) (rest := []) S Y (x_X3_pop (l := l) I hW hT hQ) cw_X3_pop km3_118 (I.opo (k := 3) (j := 0) (by decide) rfl).choose_spec.1 ok_X3.1 rfl rfl ⟨Nat.le_of_ble_eq_true rfl, Nat.le_of_ble_eq_true rfl⟩ hl.1 rfl (Nat.le_of_ble_eq_true rfl) ⟨Nat.le_of_ble_eq_true rfl, Nat.le_of_ble_eq_true rfl⟩ dX3_work_165 (fun r_12133 L_12131 f_12132 H locs I Y => ?_)
        exact prI (post := fun r L1 f1 => SH (spC rs fc tc w q) nnC G ad L1 f1) S Y rfl (by decide) (by decide) hA1 I dX3_work_168
      · have B_12130 : bn 0 299 y22_8 := bn_w (bn_gtr c_12128 (show bn 300 300 (300 : Int32) from bn_k (by decide)) b_y22_8) (by decide)
        refine lv_iload hx hb dX3_work_30 (lv_at hl 6 rfl) ?_
        refine lv_iload hx hb dX3_work_32 (lv_at hl 7 rfl) ?_
        refine lv_icmp_ge (tgt := 164) hx hb dX3_work_34 (by decide) (fun c_12134 => ?_) (fun c_12134 => ?_)
        · refine lv_aload_n hx hb dX3_work_164 rfl (lv_at hl 0 rfl) ?_
          refine cVi (As := []) (rest := []) S Y (x_X3_pop (l := l) I hW hT hQ) cw_X3_pop km3_118 (I.opo (k := 3) (j := 0) (by decide) rfl).choose_spec.1 ok_X3.1 rfl rfl ⟨Nat.le_of_ble_eq_true rfl, Nat.le_of_ble_eq_true rfl⟩ hl.1 rfl (Nat.le_of_ble_eq_true rfl) ⟨Nat.le_of_ble_eq_true rfl, Nat.le_of_ble_eq_true rfl⟩ dX3_work_165 (fun r_12139 L_12137 f_12138 H locs I Y => ?_)
          exact prI (post := fun r L1 f1 => SH (spC rs fc tc w q) nnC G ad L1 f1) S Y rfl (by decide) (by decide) hA1 I dX3_work_168
        · have B_12135 : bn (-2147483647) 2147483647 y22_7 := bn_w (bn_gtl c_12134 (bn_any y22_7) (bn_any y22_6)) (by decide)
          have B_12136 : bn (-2147483648) 2147483646 y22_6 := bn_w (bn_gtr c_12134 (bn_any y22_7) (bn_any y22_6)) (by decide)
          refine lv_aload_n hx hb dX3_work_37 rfl (lv_at hl 1 rfl) ?_
          refine lv_iload hx hb dX3_work_38 (lv_at hl 6 rfl) ?_
          refine cVp (As := [.int y22_6]) (rest := []) S Y (x_X7_doing (l := l) (j := i) I hW hT hQ hi) cw_X7_doing km3_104 (I.opo (k := 30) (j := i) hi rfl).choose_spec.1 ok_X7.1 rfl rfl ⟨Nat.le_of_ble_eq_true rfl, Nat.le_of_ble_eq_true rfl⟩ hl.1 rfl (Nat.le_of_ble_eq_true rfl) ⟨Nat.le_of_ble_eq_true rfl, Nat.le_of_ble_eq_true rfl⟩ dX3_work_40 (fun r_12140 H locs er_12140 Y => ?_)
          refine lv_istore (lv' := [(9, .int r_12140), (0, .ref (ad 3 0)), (1, .ref (ad 30 i)), (2, .int i1), (3, .ref (ad 10 j)), (4, .int i2), (5, .int i3), (6, .int y22_6), (7, .int y22_7), (8, .int y22_8)]) hx hb dX3_work_43 hl (by decide) rfl (fun ls hl => ?_)
          refine lv_aload_n hx hb dX3_work_45 rfl (lv_at hl 2 rfl) ?_
          refine lv_iload hx hb dX3_work_46 (lv_at hl 7 rfl) ?_
          refine cVp (As := [.int y22_6]) (rest := []) S Y (x_X7_number (l := l) (j := i) I hW hT hQ hi) cw_X7_number km3_107 (I.opo (k := 30) (j := i) hi rfl).choose_spec.1 ok_X7.1 rfl rfl ⟨Nat.le_of_ble_eq_true rfl, Nat.le_of_ble_eq_true rfl⟩ hl.1 rfl (Nat.le_of_ble_eq_true rfl) ⟨Nat.le_of_ble_eq_true rfl, Nat.le_of_ble_eq_true rfl⟩ dX3_work_48 (fun r_12141 H locs er_12141 Y => ?_)
          refine lv_istore (lv' := [(10, .int r_12141), (9, .int r_12140), (0, .ref (ad 3 0)), (1, .ref (ad 30 i)), (2, .int i1), (3, .ref (ad 10 j)), (4, .int i2), (5, .int i3), (6, .int y22_6), (7, .int y22_7), (8, .int y22_8)]) hx hb dX3_work_51 hl (by decide) rfl (fun ls hl => ?_)
          obtain ⟨x_12142, ex_12142⟩ : ∃ z : Int32, z = y22_6 + 1 := ⟨_, rfl⟩
          refine lv_iinc (v := x_12142) (lv' := [(6, .int x_12142), (10, .int r_12141), (9, .int r_12140), (0, .ref (ad 3 0)), (1, .ref (ad 30 i)), (2, .int i1), (3, .ref (ad 10 j)), (4, .int i2), (5, .int i3), (7, .int y22_7), (8, .int y22_8)]) hx hb dX3_work_53 hl (k := 8) rfl (by rw [ex_12142]; rfl) (by decide) rfl (fun ls hl => ?_)
          refine lv_iload hx hb dX3_work_56 (lv_at hl 2 rfl) ?_
          refine lv_if_ne (tgt := 71) hx hb dX3_work_58 (by decide) (fun c_12143 => ?_) (fun c_12143 => ?_)
          · refine lv_iload hx hb dX3_work_71 (lv_at hl 2 rfl) ?_
            refine lv_iconst (v := 1) hx hb dX3_work_73 (by decide) ?_
            refine lv_icmp_ne (tgt := 96) hx hb dX3_work_74 (by decide) (fun c_12145 => ?_) (fun c_12145 => ?_)
            · refine lv_iload hx hb dX3_work_96 (lv_at hl 2 rfl) ?_
              refine lv_iconst (v := 2) hx hb dX3_work_98 (by decide) ?_
              refine lv_icmp_ne (tgt := 118) hx hb dX3_work_99 (by decide) (fun c_12147 => ?_) (fun c_12147 => ?_)
              · refine lv_iload hx hb dX3_work_118 (lv_at hl 2 rfl) ?_
                refine lv_iconst (v := 3) hx hb dX3_work_120 (by decide) ?_
                refine lv_icmp_eq (tgt := 137) hx hb dX3_work_121 (by decide) (fun c_12149 => ?_) (fun c_12149 => ?_)
                · have B_12150 : bn 3 3 r_12140 := bn_w (bn_eq c_12149 (show bn 3 3 (3 : Int32) from bn_k (by decide))) (by decide)
                  refine lv_iload hx hb dX3_work_137 (lv_at hl 1 rfl) ?_
                  refine lv_istore (lv' := [(6, .int r_12141), (10, .int r_12141), (9, .int r_12140), (0, .ref (ad 3 0)), (1, .ref (ad 30 i)), (2, .int i1), (3, .ref (ad 10 j)), (4, .int i2), (5, .int i3), (7, .int y22_7), (8, .int y22_8)]) hx hb dX3_work_139 hl (by decide) rfl (fun ls hl => ?_)
                  refine lv_goto (tgt := 158) hx hb dX3_work_141 (by decide) ?_
                  obtain ⟨x_12151, ex_12151⟩ : ∃ z : Int32, z = y22_8 + 1 := ⟨_, rfl⟩
                  refine lv_iinc (v := x_12151) (lv' := [(8, .int x_12151), (6, .int r_12141), (10, .int r_12141), (9, .int r_12140), (0, .ref (ad 3 0)), (1, .ref (ad 30 i)), (2, .int i1), (3, .ref (ad 10 j)), (4, .int i2), (5, .int i3), (7, .int y22_7)]) hx hb dX3_work_158 hl (k := 10) rfl (by rw [ex_12151]; rfl) (by decide) rfl (fun ls hl => ?_)
                  refine lv_goto (tgt := 22) hx hb dX3_work_161 (by decide) ?_
                  exact ih22 _ (by rw [← hm22]; exact ms_up (m := 1) ex_12151 (show bn 1 1 (1 : Int32) from bn_k (by decide)) B_12130 (bn_w (bn_eq ex_12151 (bn_add B_12130 (show bn 1 1 (1 : Int32) from bn_k (by decide)) (by decide))) (by decide) : bn 0 300 x_12151) (by decide)) r_12141 y22_7 x_12151 _ _  _ _ _ I (bn_w (bn_eq ex_12151 (bn_add B_12130 (show bn 1 1 (1 : Int32) from bn_k (by decide)) (by decide))) (by decide)) rfl Y (lv_sub hl [4, 5, 6, 7, 8, 9, 1, 10, 0] rfl)
                · refine lv_iload hx hb dX3_work_124 (lv_at hl 2 rfl) ?_
                  refine lv_iconst (v := 4) hx hb dX3_work_126 (by decide) ?_
                  refine lv_icmp_ne (tgt := 144) hx hb dX3_work_127 (by decide) (fun c_12152 => ?_) (fun c_12152 => ?_)
                  · refine lv_iload hx hb dX3_work_144 (lv_at hl 2 rfl) ?_
                    refine lv_iconst (v := 5) hx hb dX3_work_146 (by decide) ?_
                    refine lv_icmp_lt (tgt := 158) hx hb dX3_work_147 (by decide) (fun c_12154 => ?_) (fun c_12154 => ?_)
                    · have B_12155 : bn (-2147483648) 4 r_12140 := bn_w (bn_ltl c_12154 (bn_any r_12140) (show bn 5 5 (5 : Int32) from bn_k (by decide))) (by decide)
                      obtain ⟨x_12157, ex_12157⟩ : ∃ z : Int32, z = y22_8 + 1 := ⟨_, rfl⟩
                      refine lv_iinc (v := x_12157) (lv' := [(8, .int x_12157), (6, .int x_12142), (10, .int r_12141), (9, .int r_12140), (0, .ref (ad 3 0)), (1, .ref (ad 30 i)), (2, .int i1), (3, .ref (ad 10 j)), (4, .int i2), (5, .int i3), (7, .int y22_7)]) hx hb dX3_work_158 hl (k := 10) rfl (by rw [ex_12157]; rfl) (by decide) rfl (fun ls hl => ?_)
                      refine lv_goto (tgt := 22) hx hb dX3_work_161 (by decide) ?_
                      exact ih22 _ (by rw [← hm22]; exact ms_up (m := 1) ex_12157 (show bn 1 1 (1 : Int32) from bn_k (by decide)) B_12130 (bn_w (bn_eq ex_12157 (bn_add B_12130 (show bn 1 1 (1 : Int32) from bn_k (by decide)) (by decide))) (by decide) : bn 0 300 x_12157) (by decide)) x_12142 y22_7 x_12157 _ _  _ _ _ I (bn_w (bn_eq ex_12157 (bn_add B_12130 (show bn 1 1 (1 : Int32) from bn_k (by decide)) (by decide))) (by decide)) rfl Y (lv_sub hl [4, 5, 6, 7, 8, 9, 1, 10, 0] rfl)
                    · have B_12156 : bn 5 2147483647 r_12140 := bn_w (bn_gel c_12154 (bn_any r_12140) (show bn 5 5 (5 : Int32) from bn_k (by decide))) (by decide)
                      refine lv_aload_n hx hb dX3_work_150 rfl (lv_at hl 3 rfl) ?_
                      refine lv_iload hx hb dX3_work_151 (lv_at hl 2 rfl) ?_
                      refine lv_iload hx hb dX3_work_153 (lv_at hl 1 rfl) ?_
                      refine cVv (As := [.int r_12140, .int r_12141]) (rest := []) S Y (x_X3_combine (l := l) I hW hT hQ) cw_X3_combine km3_122 (I.opo (k := 3) (j := 0) (by decide) rfl).choose_spec.1 ok_X3.1 rfl rfl ⟨Nat.le_of_ble_eq_true rfl, Nat.le_of_ble_eq_true rfl⟩ hl.1 rfl (Nat.le_of_ble_eq_true rfl) ⟨Nat.le_of_ble_eq_true rfl, Nat.le_of_ble_eq_true rfl⟩ dX3_work_155 (fun L_12158 f_12159 H locs I Y => ?_)
                      obtain ⟨x_12160, ex_12160⟩ : ∃ z : Int32, z = y22_8 + 1 := ⟨_, rfl⟩
                      refine lv_iinc (v := x_12160) (lv' := [(8, .int x_12160), (6, .int x_12142), (10, .int r_12141), (9, .int r_12140), (0, .ref (ad 3 0)), (1, .ref (ad 30 i)), (2, .int i1), (3, .ref (ad 10 j)), (4, .int i2), (5, .int i3), (7, .int y22_7)]) hx hb dX3_work_158 hl (k := 10) rfl (by rw [ex_12160]; rfl) (by decide) rfl (fun ls hl => ?_)
                      refine lv_goto (tgt := 22) hx hb dX3_work_161 (by decide) ?_
                      exact ih22 _ (by rw [← hm22]; exact ms_up (m := 1) ex_12160 (show bn 1 1 (1 : Int32) from bn_k (by decide)) B_12130 (bn_w (bn_eq ex_12160 (bn_add B_12130 (show bn 1 1 (1 : Int32) from bn_k (by decide)) (by decide))) (by decide) : bn 0 300 x_12160) (by decide)) x_12142 y22_7 x_12160 _ _  _ _ _ I (bn_w (bn_eq ex_12160 (bn_add B_12130 (show bn 1 1 (1 : Int32) from bn_k (by decide)) (by decide))) (by decide)) rfl Y (lv_sub hl [4, 5, 6, 7, 8, 9, 1, 10, 0] rfl)
                  · have B_12153 : bn 4 4 r_12140 := bn_w (bn_eq c_12152 (show bn 4 4 (4 : Int32) from bn_k (by decide))) (by decide)
                    refine lv_aload_n hx hb dX3_work_130 rfl (lv_at hl 3 rfl) ?_
                    refine cVi (As := []) (rest := []) S Y (x_X3_pop (l := l) I hW hT hQ) cw_X3_pop km3_118 (I.opo (k := 3) (j := 0) (by decide) rfl).choose_spec.1 ok_X3.1 rfl rfl ⟨Nat.le_of_ble_eq_true rfl, Nat.le_of_ble_eq_true rfl⟩ hl.1 rfl (Nat.le_of_ble_eq_true rfl) ⟨Nat.le_of_ble_eq_true rfl, Nat.le_of_ble_eq_true rfl⟩ dX3_work_131 (fun r_12163 L_12161 f_12162 H locs I Y => ?_)
                    refine lv_if_ne (tgt := 144) hx hb dX3_work_134 (by decide) (fun c_12164 => ?_) (fun c_12164 => ?_)
                    · refine lv_iload hx hb dX3_work_144 (lv_at hl 2 rfl) ?_
                      refine lv_iconst (v := 5) hx hb dX3_work_146 (by decide) ?_
                      refine lv_icmp_lt (tgt := 158) hx hb dX3_work_147 (by decide) (fun _ => ?_) (fun h => absurd (bd_lt B_12153 (show bn 5 5 (5 : Int32) from bn_k (by decide)) (by decide)) h)
                      obtain ⟨x_12166, ex_12166⟩ : ∃ z : Int32, z = y22_8 + 1 := ⟨_, rfl⟩
                      refine lv_iinc (v := x_12166) (lv' := [(8, .int x_12166), (6, .int x_12142), (10, .int r_12141), (9, .int r_12140), (0, .ref (ad 3 0)), (1, .ref (ad 30 i)), (2, .int i1), (3, .ref (ad 10 j)), (4, .int i2), (5, .int i3), (7, .int y22_7)]) hx hb dX3_work_158 hl (k := 10) rfl (by rw [ex_12166]; rfl) (by decide) rfl (fun ls hl => ?_)
                      refine lv_goto (tgt := 22) hx hb dX3_work_161 (by decide) ?_
                      exact ih22 _ (by rw [← hm22]; exact ms_up (m := 1) ex_12166 (show bn 1 1 (1 : Int32) from bn_k (by decide)) B_12130 (bn_w (bn_eq ex_12166 (bn_add B_12130 (show bn 1 1 (1 : Int32) from bn_k (by decide)) (by decide))) (by decide) : bn 0 300 x_12166) (by decide)) x_12142 y22_7 x_12166 _ _  _ _ _ I (bn_w (bn_eq ex_12166 (bn_add B_12130 (show bn 1 1 (1 : Int32) from bn_k (by decide)) (by decide))) (by decide)) rfl Y (lv_sub hl [4, 5, 6, 7, 8, 9, 1, 10, 0] rfl)
                    · have B_12165 : bn 0 0 r_12163 := bn_w (bn_eq c_12164 (show bn 0 0 (0 : Int32) from bn_k (by decide))) (by decide)
                      refine lv_iload hx hb dX3_work_137 (lv_at hl 1 rfl) ?_
                      refine lv_istore (lv' := [(6, .int r_12141), (10, .int r_12141), (9, .int r_12140), (0, .ref (ad 3 0)), (1, .ref (ad 30 i)), (2, .int i1), (3, .ref (ad 10 j)), (4, .int i2), (5, .int i3), (7, .int y22_7), (8, .int y22_8)]) hx hb dX3_work_139 hl (by decide) rfl (fun ls hl => ?_)
                      refine lv_goto (tgt := 158) hx hb dX3_work_141 (by decide) ?_
                      obtain ⟨x_12167, ex_12167⟩ : ∃ z : Int32, z = y22_8 + 1 := ⟨_, rfl⟩
                      refine lv_iinc (v := x_12167) (lv' := [(8, .int x_12167), (6, .int r_12141), (10, .int r_12141), (9, .int r_12140), (0, .ref (ad 3 0)), (1, .ref (ad 30 i)), (2, .int i1), (3, .ref (ad 10 j)), (4, .int i2), (5, .int i3), (7, .int y22_7)]) hx hb dX3_work_158 hl (k := 10) rfl (by rw [ex_12167]; rfl) (by decide) rfl (fun ls hl => ?_)
                      refine lv_goto (tgt := 22) hx hb dX3_work_161 (by decide) ?_
                      exact ih22 _ (by rw [← hm22]; exact ms_up (m := 1) ex_12167 (show bn 1 1 (1 : Int32) from bn_k (by decide)) B_12130 (bn_w (bn_eq ex_12167 (bn_add B_12130 (show bn 1 1 (1 : Int32) from bn_k (by decide)) (by decide))) (by decide) : bn 0 300 x_12167) (by decide)) r_12141 y22_7 x_12167 _ _  _ _ _ I (bn_w (bn_eq ex_12167 (bn_add B_12130 (show bn 1 1 (1 : Int32) from bn_k (by decide)) (by decide))) (by decide)) rfl Y (lv_sub hl [4, 5, 6, 7, 8, 9, 1, 10, 0] rfl)
              · have B_12148 : bn 2 2 r_12140 := bn_w (bn_eq c_12147 (show bn 2 2 (2 : Int32) from bn_k (by decide))) (by decide)
                refine lv_aload_n hx hb dX3_work_102 rfl (lv_at hl 3 rfl) ?_
                refine lv_aload_n hx hb dX3_work_103 rfl (lv_at hl 6 rfl) ?_
                refine lv_aload_n hx hb dX3_work_104 rfl (lv_at hl 3 rfl) ?_
                refine cVi (As := []) (rest := [.ref (ad 10 j), .ref (ad 3 0)]) S Y (x_X3_pop (l := l) I hW hT hQ) cw_X3_pop km3_118 (I.opo (k := 3) (j := 0) (by decide) rfl).choose_spec.1 ok_X3.1 rfl rfl ⟨Nat.le_of_ble_eq_true rfl, Nat.le_of_ble_eq_true rfl⟩ hl.1 rfl (Nat.le_of_ble_eq_true rfl) ⟨Nat.le_of_ble_eq_true rfl, Nat.le_of_ble_eq_true rfl⟩ dX3_work_105 (fun r_12170 L_12168 f_12169 H locs I Y => ?_)
                refine cVp (As := [.int r_12170]) (rest := [.ref (ad 3 0)]) S Y (x_X4_marks (l := l) (j := j) I hW hT hQ hj) cw_X4_marks km3_60 (I.opo (k := 10) (j := j) hj rfl).choose_spec.1 ok_X4.1 rfl rfl ⟨Nat.le_of_ble_eq_true rfl, Nat.le_of_ble_eq_true rfl⟩ hl.1 rfl (Nat.le_of_ble_eq_true rfl) ⟨Nat.le_of_ble_eq_true rfl, Nat.le_of_ble_eq_true rfl⟩ dX3_work_108 (fun r_12171 H locs er_12171 Y => ?_)
                refine lv_i2l hx hb dX3_work_111 rfl ?_
                refine lv_topl (fun x_12172 ex_12172 => ?_)
                refine cVv (As := [.long x_12172]) (rest := []) S Y (x_X3_push (l := l) I hW hT hQ) cw_X3_push km3_110 (I.opo (k := 3) (j := 0) (by decide) rfl).choose_spec.1 ok_X3.1 rfl rfl ⟨Nat.le_of_ble_eq_true rfl, Nat.le_of_ble_eq_true rfl⟩ hl.1 rfl (Nat.le_of_ble_eq_true rfl) ⟨Nat.le_of_ble_eq_true rfl, Nat.le_of_ble_eq_true rfl⟩ dX3_work_112 (fun L_12173 f_12174 H locs I Y => ?_)
                refine lv_goto (tgt := 158) hx hb dX3_work_115 (by decide) ?_
                obtain ⟨x_12175, ex_12175⟩ : ∃ z : Int32, z = y22_8 + 1 := ⟨_, rfl⟩
                refine lv_iinc (v := x_12175) (lv' := [(8, .int x_12175), (6, .int x_12142), (10, .int r_12141), (9, .int r_12140), (0, .ref (ad 3 0)), (1, .ref (ad 30 i)), (2, .int i1), (3, .ref (ad 10 j)), (4, .int i2), (5, .int i3), (7, .int y22_7)]) hx hb dX3_work_158 hl (k := 10) rfl (by rw [ex_12175]; rfl) (by decide) rfl (fun ls hl => ?_)
                refine lv_goto (tgt := 22) hx hb dX3_work_161 (by decide) ?_
                exact ih22 _ (by rw [← hm22]; exact ms_up (m := 1) ex_12175 (show bn 1 1 (1 : Int32) from bn_k (by decide)) B_12130 (bn_w (bn_eq ex_12175 (bn_add B_12130 (show bn 1 1 (1 : Int32) from bn_k (by decide)) (by decide))) (by decide) : bn 0 300 x_12175) (by decide)) x_12142 y22_7 x_12175 _ _  _ _ _ I (bn_w (bn_eq ex_12175 (bn_add B_12130 (show bn 1 1 (1 : Int32) from bn_k (by decide)) (by decide))) (by decide)) rfl Y (lv_sub hl [4, 5, 6, 7, 8, 9, 1, 10, 0] rfl)
            · have B_12146 : bn 1 1 r_12140 := bn_w (bn_eq c_12145 (show bn 1 1 (1 : Int32) from bn_k (by decide))) (by decide)
              refine lv_aload_n hx hb dX3_work_77 rfl (lv_at hl 3 rfl) ?_
              refine lv_aload_n hx hb dX3_work_78 rfl (lv_at hl 3 rfl) ?_
              refine lv_iload hx hb dX3_work_79 (lv_at hl 1 rfl) ?_
              refine lv_aload_n hx hb dX3_work_81 rfl (lv_at hl 6 rfl) ?_
              refine lv_iload hx hb dX3_work_82 (lv_at hl 7 rfl) ?_
              refine lv_iload hx hb dX3_work_84 (lv_at hl 8 rfl) ?_
              refine cVp (As := [.int r_12141, .ref (ad 10 j), .int i2, .int i3]) (rest := [.ref (ad 3 0)]) S Y (x_X3_named (l := l) (j := j) I hW hT hQ hj) cw_X3_named km3_114 (I.opo (k := 3) (j := 0) (by decide) rfl).choose_spec.1 ok_X3.1 rfl rfl ⟨Nat.le_of_ble_eq_true rfl, Nat.le_of_ble_eq_true rfl⟩ hl.1 rfl (Nat.le_of_ble_eq_true rfl) ⟨Nat.le_of_ble_eq_true rfl, Nat.le_of_ble_eq_true rfl⟩ dX3_work_86 (fun r_12176 H locs er_12176 Y => ?_)
              refine lv_i2l hx hb dX3_work_89 rfl ?_
              refine lv_topl (fun x_12177 ex_12177 => ?_)
              refine cVv (As := [.long x_12177]) (rest := []) S Y (x_X3_push (l := l) I hW hT hQ) cw_X3_push km3_110 (I.opo (k := 3) (j := 0) (by decide) rfl).choose_spec.1 ok_X3.1 rfl rfl ⟨Nat.le_of_ble_eq_true rfl, Nat.le_of_ble_eq_true rfl⟩ hl.1 rfl (Nat.le_of_ble_eq_true rfl) ⟨Nat.le_of_ble_eq_true rfl, Nat.le_of_ble_eq_true rfl⟩ dX3_work_90 (fun L_12178 f_12179 H locs I Y => ?_)
              refine lv_goto (tgt := 158) hx hb dX3_work_93 (by decide) ?_
              obtain ⟨x_12180, ex_12180⟩ : ∃ z : Int32, z = y22_8 + 1 := ⟨_, rfl⟩
              refine lv_iinc (v := x_12180) (lv' := [(8, .int x_12180), (6, .int x_12142), (10, .int r_12141), (9, .int r_12140), (0, .ref (ad 3 0)), (1, .ref (ad 30 i)), (2, .int i1), (3, .ref (ad 10 j)), (4, .int i2), (5, .int i3), (7, .int y22_7)]) hx hb dX3_work_158 hl (k := 10) rfl (by rw [ex_12180]; rfl) (by decide) rfl (fun ls hl => ?_)
              refine lv_goto (tgt := 22) hx hb dX3_work_161 (by decide) ?_
              exact ih22 _ (by rw [← hm22]; exact ms_up (m := 1) ex_12180 (show bn 1 1 (1 : Int32) from bn_k (by decide)) B_12130 (bn_w (bn_eq ex_12180 (bn_add B_12130 (show bn 1 1 (1 : Int32) from bn_k (by decide)) (by decide))) (by decide) : bn 0 300 x_12180) (by decide)) x_12142 y22_7 x_12180 _ _  _ _ _ I (bn_w (bn_eq ex_12180 (bn_add B_12130 (show bn 1 1 (1 : Int32) from bn_k (by decide)) (by decide))) (by decide)) rfl Y (lv_sub hl [4, 5, 6, 7, 8, 9, 1, 10, 0] rfl)
          · have B_12144 : bn 0 0 r_12140 := bn_w (bn_eq c_12143 (show bn 0 0 (0 : Int32) from bn_k (by decide))) (by decide)
            refine lv_aload_n hx hb dX3_work_61 rfl (lv_at hl 3 rfl) ?_
            refine lv_iload hx hb dX3_work_62 (lv_at hl 1 rfl) ?_
            refine lv_i2l hx hb dX3_work_64 rfl ?_
            refine lv_topl (fun x_12181 ex_12181 => ?_)
            refine cVv (As := [.long x_12181]) (rest := []) S Y (x_X3_push (l := l) I hW hT hQ) cw_X3_push km3_110 (I.opo (k := 3) (j := 0) (by decide) rfl).choose_spec.1 ok_X3.1 rfl rfl ⟨Nat.le_of_ble_eq_true rfl, Nat.le_of_ble_eq_true rfl⟩ hl.1 rfl (Nat.le_of_ble_eq_true rfl) ⟨Nat.le_of_ble_eq_true rfl, Nat.le_of_ble_eq_true rfl⟩ dX3_work_65 (fun L_12182 f_12183 H locs I Y => ?_)
            refine lv_goto (tgt := 158) hx hb dX3_work_68 (by decide) ?_
            obtain ⟨x_12184, ex_12184⟩ : ∃ z : Int32, z = y22_8 + 1 := ⟨_, rfl⟩
            refine lv_iinc (v := x_12184) (lv' := [(8, .int x_12184), (6, .int x_12142), (10, .int r_12141), (9, .int r_12140), (0, .ref (ad 3 0)), (1, .ref (ad 30 i)), (2, .int i1), (3, .ref (ad 10 j)), (4, .int i2), (5, .int i3), (7, .int y22_7)]) hx hb dX3_work_158 hl (k := 10) rfl (by rw [ex_12184]; rfl) (by decide) rfl (fun ls hl => ?_)
            refine lv_goto (tgt := 22) hx hb dX3_work_161 (by decide) ?_
            exact ih22 _ (by rw [← hm22]; exact ms_up (m := 1) ex_12184 (show bn 1 1 (1 : Int32) from bn_k (by decide)) B_12130 (bn_w (bn_eq ex_12184 (bn_add B_12130 (show bn 1 1 (1 : Int32) from bn_k (by decide)) (by decide))) (by decide) : bn 0 300 x_12184) (by decide)) x_12142 y22_7 x_12184 _ _  _ _ _ I (bn_w (bn_eq ex_12184 (bn_add B_12130 (show bn 1 1 (1 : Int32) from bn_k (by decide)) (by decide))) (by decide)) rfl Y (lv_sub hl [4, 5, 6, 7, 8, 9, 1, 10, 0] rfl)
  refine lv_aload_n hx hb dX3_work_0 rfl (lv_at hl 1 rfl) ?_
  refine lv_iload_n hx hb dX3_work_1 rfl (lv_at hl 2 rfl) ?_
  refine cVp (As := [.int i1]) (rest := []) S Y (x_X7_lawStart (l := l) (j := i) I hW hT hQ hi) cw_X7_lawStart km3_95 (I.opo (k := 30) (j := i) hi rfl).choose_spec.1 ok_X7.1 rfl rfl ⟨Nat.le_of_ble_eq_true rfl, Nat.le_of_ble_eq_true rfl⟩ hl.1 rfl (Nat.le_of_ble_eq_true rfl) ⟨Nat.le_of_ble_eq_true rfl, Nat.le_of_ble_eq_true rfl⟩ dX3_work_2 (fun r_12185 H locs er_12185 Y => ?_)
  refine lv_istore (lv' := [(6, .int r_12185), (0, .ref (ad 3 0)), (1, .ref (ad 30 i)), (2, .int i1), (3, .ref (ad 10 j)), (4, .int i2), (5, .int i3)]) hx hb dX3_work_5 hl (by decide) rfl (fun ls hl => ?_)
  refine lv_aload_n hx hb dX3_work_7 rfl (lv_at hl 2 rfl) ?_
  refine lv_iload_n hx hb dX3_work_8 rfl (lv_at hl 3 rfl) ?_
  refine cVp (As := [.int i1]) (rest := []) S Y (x_X7_lawEnd (l := l) (j := i) I hW hT hQ hi) cw_X7_lawEnd km3_98 (I.opo (k := 30) (j := i) hi rfl).choose_spec.1 ok_X7.1 rfl rfl ⟨Nat.le_of_ble_eq_true rfl, Nat.le_of_ble_eq_true rfl⟩ hl.1 rfl (Nat.le_of_ble_eq_true rfl) ⟨Nat.le_of_ble_eq_true rfl, Nat.le_of_ble_eq_true rfl⟩ dX3_work_9 (fun r_12186 H locs er_12186 Y => ?_)
  refine lv_istore (lv' := [(7, .int r_12186), (6, .int r_12185), (0, .ref (ad 3 0)), (1, .ref (ad 30 i)), (2, .int i1), (3, .ref (ad 10 j)), (4, .int i2), (5, .int i3)]) hx hb dX3_work_12 hl (by decide) rfl (fun ls hl => ?_)
  refine lv_aload_n hx hb dX3_work_14 rfl (lv_at hl 2 rfl) ?_
  refine lv_iconst (v := 0) hx hb dX3_work_15 (by decide) ?_
  obtain ⟨v_12187, p_ad_3_0, b_12188⟩ := opnC_3 (j := 0) I (by decide)
  have p_ad_3_0 : pt L f (ad 3 0) (.inr (3, [.ref (ad 1 0), .ref (ad 54 0), .int v_12187])) := p_ad_3_0
  refine pg_put S Y ok_X3 2 (by decide) kf3_101 rfl (fs' := [.ref (ad 1 0), .ref (ad 54 0), .int 0]) (v := .int 0) p_ad_3_0 rfl rfl rfl (Nat.le_of_ble_eq_true rfl) dX3_work_16 (fun f_12189 H locs ef_12189 Y => ?_)
  have p_ad_3_0 := p_ad_3_0.me ef_12189
  have I := I.up (k := 3) (j := 0) (by decide) ef_12189 (okE_o (okFs_c okV_r (okFs_c okV_r (okFs_c (okV_i (bn_w (show bn 0 0 (0 : Int32) from bn_k (by decide)) (by decide))) okFs_n))))
  refine lv_iconst (v := 0) hx hb dX3_work_19 (by decide) ?_
  refine lv_istore (lv' := [(8, .int 0), (7, .int r_12186), (6, .int r_12185), (0, .ref (ad 3 0)), (1, .ref (ad 30 i)), (2, .int i1), (3, .ref (ad 10 j)), (4, .int i2), (5, .int i3)]) hx hb dX3_work_20 hl (by decide) rfl (fun ls hl => ?_)
  exact J_22 _ r_12185 r_12186 0 _ _  _ _ _ I (bn_w (show bn 0 0 (0 : Int32) from bn_k (by decide)) (by decide)) rfl Y (lv_sub hl [3, 4, 5, 6, 7, 8, 2, 1, 0] rfl)
set_option maxHeartbeats 4000000 in
set_option maxRecDepth 100000 in
theorem x_X3_wearOf {l : Launch} {G : GG}  {L : List Nat} {f : HF} {ad : Nat → Nat → Nat} {rs : RS} {fc : Int × Int} {tc w : Nat → Int × Int} {q : Nat → (Nat → Int32) → Prop} {j : Nat} {i1 i2 : Int32} (I : SH (spC rs fc tc w q) nnC G ad L f) (hW : WBp w 8) (hT : WBp tc 4) (hQ : QIp q) (hj : j < 63) : PMi l yX3_wearOf cX3_wearOf 6 .int 3 0 0 G [.ref (ad 3 0), .int i1, .ref (ad 10 j), .int i2] L f (fun r L1 f1 => SH (spC rs fc tc w q) nnC G ad L1 f1) := by
  refine PMi.of (post := fun r L1 f1 => SH (spC rs fc tc w q) nnC G ad L1 f1) (own := RX3) (by decide) rfl (Nat.le_of_ble_eq_true rfl) (fun sz p e s m args below meth c A ls hA1 hname S Y hl => ?_)
  have hx := S.hx
  have hb := S.hb
  have hl : lv_has ls 6 [(0, .ref (ad 3 0)), (1, .int i1), (2, .ref (ad 10 j)), (3, .int i2)] := hl
  refine lv_aload_n hx hb dX3_wearOf_0 rfl (lv_at hl 2 rfl) ?_
  refine lv_iload_n hx hb dX3_wearOf_1 rfl (lv_at hl 3 rfl) ?_
  refine lv_iconst (v := 1) hx hb dX3_wearOf_2 (by decide) ?_
  refine cVp (As := [.int i2, .int 1]) (rest := []) S Y (x_X4_get (l := l) (j := j) I hW hT hQ hj) cw_X4_get km3_19 (I.opo (k := 10) (j := j) hj rfl).choose_spec.1 ok_X4.1 rfl rfl ⟨Nat.le_of_ble_eq_true rfl, Nat.le_of_ble_eq_true rfl⟩ hl.1 rfl (Nat.le_of_ble_eq_true rfl) ⟨Nat.le_of_ble_eq_true rfl, Nat.le_of_ble_eq_true rfl⟩ dX3_wearOf_3 (fun r_12226 H locs er_12226 Y => ?_)
  refine lv_istore (lv' := [(4, .int r_12226), (0, .ref (ad 3 0)), (1, .int i1), (2, .ref (ad 10 j)), (3, .int i2)]) hx hb dX3_wearOf_6 hl (by decide) rfl (fun ls hl => ?_)
  refine lv_aload_n hx hb dX3_wearOf_8 rfl (lv_at hl 1 rfl) ?_
  obtain ⟨v_12227, p_ad_3_0, b_12228⟩ := opnC_3 (j := 0) I (by decide)
  have p_ad_3_0 : pt L f (ad 3 0) (.inr (3, [.ref (ad 1 0), .ref (ad 54 0), .int v_12227])) := p_ad_3_0
  refine pg_get S Y ok_X3 0 (by decide) kf3_15 (v := .ref (ad 1 0)) p_ad_3_0 rfl dX3_wearOf_9 ?_
  refine lv_iload_n hx hb dX3_wearOf_12 rfl (lv_at hl 2 rfl) ?_
  refine cVw (As := [.int i1]) (rest := []) S Y (x_X10_script (l := l) I hW hT hQ) cw_X10_script km3_25 (I.opo (k := 1) (j := 0) (by decide) rfl).choose_spec.1 ok_X10.1 rfl rfl ⟨Nat.le_of_ble_eq_true rfl, Nat.le_of_ble_eq_true rfl⟩ hl.1 rfl (Nat.le_of_ble_eq_true rfl) ⟨Nat.le_of_ble_eq_true rfl, Nat.le_of_ble_eq_true rfl⟩ dX3_wearOf_13 (fun r_12229 H locs er_12229 Y => ?_)
  rcases er_12229 with er_12229 | ⟨t_12230, ht_12230, er_12229⟩
  · rw [er_12229]
    show W _ _ _ _ _ _ _ _ _ _ _ _ _ _ _ (F0 _ _ _ (.null :: _))
    refine lv_astoreN (lv' := [(5, .null), (4, .int r_12226), (0, .ref (ad 3 0)), (1, .int i1), (2, .ref (ad 10 j)), (3, .int i2)]) hx hb dX3_wearOf_16 hl (by decide) rfl (fun ls hl => ?_)
    refine lv_aloadN hx hb dX3_wearOf_18 (lv_at hl 0 rfl) ?_
    refine lv_ifnullN (tgt := 32) hx hb dX3_wearOf_20 (by decide) ?_
    refine lv_bipush (v := 10) hx hb dX3_wearOf_32 (by decide) ?_
    refine lv_aload_n hx hb dX3_wearOf_34 rfl (lv_at hl 2 rfl) ?_
    refine pg_get S Y ok_X3 0 (by decide) kf3_15 (v := .ref (ad 1 0)) p_ad_3_0 rfl dX3_wearOf_35 ?_
    refine lv_iload hx hb dX3_wearOf_38 (lv_at hl 1 rfl) ?_
    refine cVp (As := [.int r_12226]) (rest := [.int 10]) S Y (x_X10_toughOf (l := l) I hW hT hQ) cw_X10_toughOf km3_37 (I.opo (k := 1) (j := 0) (by decide) rfl).choose_spec.1 ok_X10.1 rfl rfl ⟨Nat.le_of_ble_eq_true rfl, Nat.le_of_ble_eq_true rfl⟩ hl.1 rfl (Nat.le_of_ble_eq_true rfl) ⟨Nat.le_of_ble_eq_true rfl, Nat.le_of_ble_eq_true rfl⟩ dX3_wearOf_40 (fun r_12231 H locs er_12231 Y => ?_)
    refine lv_isub hx hb dX3_wearOf_43 ?_
    refine lv_topi (fun x_12232 ex_12232 => ?_)
    exact prI (post := fun r L1 f1 => SH (spC rs fc tc w q) nnC G ad L1 f1) S Y rfl (by decide) (by decide) hA1 I dX3_wearOf_44
  · rw [er_12229]
    have e9 : 0 + t_12230 = t_12230 := Nat.zero_add _
    rw [e9]
    show W _ _ _ _ _ _ _ _ _ _ _ _ _ _ _ (F0 _ _ _ (.ref (ad 30 t_12230) :: _))
    refine lv_astore (lv' := [(5, .ref (ad 30 t_12230)), (4, .int r_12226), (0, .ref (ad 3 0)), (1, .int i1), (2, .ref (ad 10 j)), (3, .int i2)]) hx hb dX3_wearOf_16 hl (by decide) rfl (fun ls hl => ?_)
    refine lv_aload hx hb dX3_wearOf_18 (lv_at hl 0 rfl) ?_
    refine lv_ifnull hx hb dX3_wearOf_20 ?_
    refine lv_aload hx hb dX3_wearOf_23 (lv_at hl 0 rfl) ?_
    refine lv_iconst (v := 0) hx hb dX3_wearOf_25 (by decide) ?_
    refine cVp (As := [.int 0]) (rest := []) S Y (x_X7_hasLaw (l := l) (j := t_12230) I hW hT hQ (show t_12230 < 8 from by omega)) cw_X7_hasLaw km3_31 (I.opo (k := 30) (j := t_12230) (show t_12230 < 8 from by omega) rfl).choose_spec.1 ok_X7.1 rfl rfl ⟨Nat.le_of_ble_eq_true rfl, Nat.le_of_ble_eq_true rfl⟩ hl.1 rfl (Nat.le_of_ble_eq_true rfl) ⟨Nat.le_of_ble_eq_true rfl, Nat.le_of_ble_eq_true rfl⟩ dX3_wearOf_26 (fun r_12233 H locs er_12233 Y => ?_)
    refine lv_if_ne (tgt := 45) hx hb dX3_wearOf_29 (by decide) (fun c_12234 => ?_) (fun c_12234 => ?_)
    · have B_12235 : bn 1 1 r_12233 := bn_w (bn_nel c_12234 er_12233 (show bn 0 0 (0 : Int32) from bn_k (by decide))) (by decide)
      refine lv_iconst (v := 0) hx hb dX3_wearOf_45 (by decide) ?_
      refine lv_bipush (v := 99) hx hb dX3_wearOf_46 (by decide) ?_
      refine lv_aload_n hx hb dX3_wearOf_48 rfl (lv_at hl 2 rfl) ?_
      refine lv_aload hx hb dX3_wearOf_49 (lv_at hl 0 rfl) ?_
      refine lv_iconst (v := 0) hx hb dX3_wearOf_51 (by decide) ?_
      refine lv_aload_n hx hb dX3_wearOf_52 rfl (lv_at hl 4 rfl) ?_
      refine lv_iload hx hb dX3_wearOf_53 (lv_at hl 1 rfl) ?_
      refine lv_iload_n hx hb dX3_wearOf_55 rfl (lv_at hl 5 rfl) ?_
      refine cVi (As := [.ref (ad 30 t_12230), .int 0, .ref (ad 10 j), .int r_12226, .int i2]) (rest := [.int 99, .int 0]) S Y (x_X3_work (l := l) (i := t_12230) (j := j) I hW hT hQ (show t_12230 < 8 from by omega) hj) cw_X3_work km3_41 p_ad_3_0 ok_X3.1 rfl rfl ⟨Nat.le_of_ble_eq_true rfl, Nat.le_of_ble_eq_true rfl⟩ hl.1 rfl (Nat.le_of_ble_eq_true rfl) ⟨Nat.le_of_ble_eq_true rfl, Nat.le_of_ble_eq_true rfl⟩ dX3_wearOf_56 (fun r_12239 L_12237 f_12238 H locs I Y => ?_)
      refine va_mmin hx hb (S.ml.trans hl.1.symm) S.ow (S.w km3_45) (S.w kMs_min) (S.w kMi) (S.w kMc_min) (Nat.le_of_ble_eq_true rfl) (Nat.le_of_ble_eq_true rfl) (by decide) (by decide) dX3_wearOf_59 ?_
      refine lv_topi (fun x_12240 ex_12240 => ?_)
      refine va_mmax hx hb (S.ml.trans hl.1.symm) S.ow (S.w km3_50) (S.w kMs_max) (S.w kMi) (S.w kMc_max) (Nat.le_of_ble_eq_true rfl) (Nat.le_of_ble_eq_true rfl) (by decide) (by decide) dX3_wearOf_62 ?_
      refine lv_topi (fun x_12241 ex_12241 => ?_)
      exact prI (post := fun r L1 f1 => SH (spC rs fc tc w q) nnC G ad L1 f1) S Y rfl (by decide) (by decide) hA1 I dX3_wearOf_65
    · have B_12236 : bn 0 0 r_12233 := bn_w (bn_eq c_12234 (show bn 0 0 (0 : Int32) from bn_k (by decide))) (by decide)
      refine lv_bipush (v := 10) hx hb dX3_wearOf_32 (by decide) ?_
      refine lv_aload_n hx hb dX3_wearOf_34 rfl (lv_at hl 2 rfl) ?_
      refine pg_get S Y ok_X3 0 (by decide) kf3_15 (v := .ref (ad 1 0)) p_ad_3_0 rfl dX3_wearOf_35 ?_
      refine lv_iload hx hb dX3_wearOf_38 (lv_at hl 1 rfl) ?_
      refine cVp (As := [.int r_12226]) (rest := [.int 10]) S Y (x_X10_toughOf (l := l) I hW hT hQ) cw_X10_toughOf km3_37 (I.opo (k := 1) (j := 0) (by decide) rfl).choose_spec.1 ok_X10.1 rfl rfl ⟨Nat.le_of_ble_eq_true rfl, Nat.le_of_ble_eq_true rfl⟩ hl.1 rfl (Nat.le_of_ble_eq_true rfl) ⟨Nat.le_of_ble_eq_true rfl, Nat.le_of_ble_eq_true rfl⟩ dX3_wearOf_40 (fun r_12242 H locs er_12242 Y => ?_)
      refine lv_isub hx hb dX3_wearOf_43 ?_
      refine lv_topi (fun x_12243 ex_12243 => ?_)
      exact prI (post := fun r L1 f1 => SH (spC rs fc tc w q) nnC G ad L1 f1) S Y rfl (by decide) (by decide) hA1 I dX3_wearOf_44
set_option maxHeartbeats 4000000 in
set_option maxRecDepth 100000 in
theorem x_X3_painOf {l : Launch} {G : GG}  {L : List Nat} {f : HF} {ad : Nat → Nat → Nat} {rs : RS} {fc : Int × Int} {tc w : Nat → Int × Int} {q : Nat → (Nat → Int32) → Prop} {j : Nat} {i2 : Int32} (I : SH (spC rs fc tc w q) nnC G ad L f) (hW : WBp w 8) (hT : WBp tc 4) (hQ : QIp q) (hj : j < 63) : PMi l yX3_painOf cX3_painOf 4 .int 3 0 0 G [.ref (ad 3 0), .ref (ad 10 j), .int i2] L f (fun r L1 f1 => SH (spC rs fc tc w q) nnC G ad L1 f1) := by
  refine PMi.of (post := fun r L1 f1 => SH (spC rs fc tc w q) nnC G ad L1 f1) (own := RX3) (by decide) rfl (Nat.le_of_ble_eq_true rfl) (fun sz p e s m args below meth c A ls hA1 hname S Y hl => ?_)
  have hx := S.hx
  have hb := S.hb
  have hl : lv_has ls 4 [(0, .ref (ad 3 0)), (1, .ref (ad 10 j)), (2, .int i2)] := hl
  refine lv_aload_n hx hb dX3_painOf_0 rfl (lv_at hl 0 rfl) ?_
  obtain ⟨v_12344, p_ad_3_0, b_12345⟩ := opnC_3 (j := 0) I (by decide)
  have p_ad_3_0 : pt L f (ad 3 0) (.inr (3, [.ref (ad 1 0), .ref (ad 54 0), .int v_12344])) := p_ad_3_0
  refine pg_get S Y ok_X3 0 (by decide) kf3_15 (v := .ref (ad 1 0)) p_ad_3_0 rfl dX3_painOf_1 ?_
  refine lv_aload_n hx hb dX3_painOf_4 rfl (lv_at hl 0 rfl) ?_
  refine pg_get S Y ok_X3 0 (by decide) kf3_15 (v := .ref (ad 1 0)) p_ad_3_0 rfl dX3_painOf_5 ?_
  obtain ⟨v_12346, v_12348, v_12350, v_12352, v_12354, p_ad_1_0, b_12347, b_12349, b_12351, b_12353, b_12355⟩ := opnC_1 (j := 0) I (by decide)
  have p_ad_1_0 : pt L f (ad 1 0) (.inr (10, [.ref (ad 40 0), .ref (ad 41 0), .ref (ad 42 0), .ref (ad 10 0), .ref (ad 43 0), .ref (ad 20 0), .ref (ad 20 1), .ref (ad 20 2), .ref (ad 20 3), .ref (ad 20 4), .int v_12346, .int v_12348, .int v_12350, .int v_12352, .int v_12354])) := p_ad_1_0
  refine pg_getN S Y ok_X10 12 (by decide) kf3_53 (v := .int v_12350) p_ad_1_0 rfl dX3_painOf_8 ?_
  refine cVw (As := [.int v_12350]) (rest := []) S Y (x_X10_script (l := l) I hW hT hQ) cw_X10_script km3_25 p_ad_1_0 ok_X10.1 rfl rfl ⟨Nat.le_of_ble_eq_true rfl, Nat.le_of_ble_eq_true rfl⟩ hl.1 rfl (Nat.le_of_ble_eq_true rfl) ⟨Nat.le_of_ble_eq_true rfl, Nat.le_of_ble_eq_true rfl⟩ dX3_painOf_11 (fun r_12356 H locs er_12356 Y => ?_)
  rcases er_12356 with er_12356 | ⟨t_12357, ht_12357, er_12356⟩
  · rw [er_12356]
    show W _ _ _ _ _ _ _ _ _ _ _ _ _ _ _ (F0 _ _ _ (.null :: _))
    refine lv_astore_nN (lv' := [(3, .null), (0, .ref (ad 3 0)), (1, .ref (ad 10 j)), (2, .int i2)]) hx hb dX3_painOf_14 rfl hl (by decide) rfl (fun ls hl => ?_)
    refine lv_aload_nN hx hb dX3_painOf_15 rfl (lv_at hl 0 rfl) ?_
    refine lv_ifnullN (tgt := 27) hx hb dX3_painOf_16 (by decide) ?_
    refine lv_aload_n hx hb dX3_painOf_27 rfl (lv_at hl 2 rfl) ?_
    refine lv_iload_n hx hb dX3_painOf_28 rfl (lv_at hl 3 rfl) ?_
    refine lv_iconst (v := 3) hx hb dX3_painOf_29 (by decide) ?_
    refine cVp (As := [.int i2, .int 3]) (rest := []) S Y (x_X4_get (l := l) (j := j) I hW hT hQ hj) cw_X4_get km3_19 (I.opo (k := 10) (j := j) hj rfl).choose_spec.1 ok_X4.1 rfl rfl ⟨Nat.le_of_ble_eq_true rfl, Nat.le_of_ble_eq_true rfl⟩ hl.1 rfl (Nat.le_of_ble_eq_true rfl) ⟨Nat.le_of_ble_eq_true rfl, Nat.le_of_ble_eq_true rfl⟩ dX3_painOf_30 (fun r_12358 H locs er_12358 Y => ?_)
    refine lv_aload_n hx hb dX3_painOf_33 rfl (lv_at hl 2 rfl) ?_
    obtain ⟨v_12359, v_12361, v_12363, v_12365, v_12367, p_ad_10_j, b_12360, b_12362, b_12364, b_12366, b_12368⟩ := opnC_10 (j := j) I hj
    have p_ad_10_j : pt L f (ad 10 j) (.inr (4, [.ref (ad 11 j), .ref (ad 12 j), .int v_12359, .int v_12361, .int v_12363, .int v_12365, .int v_12367])) := p_ad_10_j
    refine pg_getN S Y ok_X4 5 (by decide) kf3_57 (v := .int v_12365) p_ad_10_j rfl dX3_painOf_34 ?_
    refine lv_imul hx hb dX3_painOf_37 ?_
    refine lv_topi (fun x_12369 ex_12369 => ?_)
    refine lv_bipush (v := 10) hx hb dX3_painOf_38 (by decide) ?_
    refine lv_idiv hx hb dX3_painOf_40 (by decide) ?_
    refine lv_topi (fun x_12370 ex_12370 => ?_)
    exact prI (post := fun r L1 f1 => SH (spC rs fc tc w q) nnC G ad L1 f1) S Y rfl (by decide) (by decide) hA1 I dX3_painOf_41
  · rw [er_12356]
    have e9 : 0 + t_12357 = t_12357 := Nat.zero_add _
    rw [e9]
    show W _ _ _ _ _ _ _ _ _ _ _ _ _ _ _ (F0 _ _ _ (.ref (ad 30 t_12357) :: _))
    refine lv_astore_n (lv' := [(3, .ref (ad 30 t_12357)), (0, .ref (ad 3 0)), (1, .ref (ad 10 j)), (2, .int i2)]) hx hb dX3_painOf_14 rfl hl (by decide) rfl (fun ls hl => ?_)
    refine lv_aload_n hx hb dX3_painOf_15 rfl (lv_at hl 0 rfl) ?_
    refine lv_ifnull hx hb dX3_painOf_16 ?_
    refine lv_aload_n hx hb dX3_painOf_19 rfl (lv_at hl 0 rfl) ?_
    refine lv_iconst (v := 1) hx hb dX3_painOf_20 (by decide) ?_
    refine cVp (As := [.int 1]) (rest := []) S Y (x_X7_hasLaw (l := l) (j := t_12357) I hW hT hQ (show t_12357 < 8 from by omega)) cw_X7_hasLaw km3_31 (I.opo (k := 30) (j := t_12357) (show t_12357 < 8 from by omega) rfl).choose_spec.1 ok_X7.1 rfl rfl ⟨Nat.le_of_ble_eq_true rfl, Nat.le_of_ble_eq_true rfl⟩ hl.1 rfl (Nat.le_of_ble_eq_true rfl) ⟨Nat.le_of_ble_eq_true rfl, Nat.le_of_ble_eq_true rfl⟩ dX3_painOf_21 (fun r_12371 H locs er_12371 Y => ?_)
    refine lv_if_ne (tgt := 42) hx hb dX3_painOf_24 (by decide) (fun c_12372 => ?_) (fun c_12372 => ?_)
    · have B_12373 : bn 1 1 r_12371 := bn_w (bn_nel c_12372 er_12371 (show bn 0 0 (0 : Int32) from bn_k (by decide))) (by decide)
      refine lv_iconst (v := 0) hx hb dX3_painOf_42 (by decide) ?_
      refine lv_bipush (v := 99) hx hb dX3_painOf_43 (by decide) ?_
      refine lv_aload_n hx hb dX3_painOf_45 rfl (lv_at hl 1 rfl) ?_
      refine lv_aload_n hx hb dX3_painOf_46 rfl (lv_at hl 0 rfl) ?_
      refine lv_iconst (v := 1) hx hb dX3_painOf_47 (by decide) ?_
      refine lv_aload_n hx hb dX3_painOf_48 rfl (lv_at hl 2 rfl) ?_
      refine lv_aload_n hx hb dX3_painOf_49 rfl (lv_at hl 2 rfl) ?_
      refine lv_iload_n hx hb dX3_painOf_50 rfl (lv_at hl 3 rfl) ?_
      refine lv_iconst (v := 1) hx hb dX3_painOf_51 (by decide) ?_
      refine cVp (As := [.int i2, .int 1]) (rest := [.ref (ad 10 j), .int 1, .ref (ad 30 t_12357), .ref (ad 3 0), .int 99, .int 0]) S Y (x_X4_get (l := l) (j := j) I hW hT hQ hj) cw_X4_get km3_19 (I.opo (k := 10) (j := j) hj rfl).choose_spec.1 ok_X4.1 rfl rfl ⟨Nat.le_of_ble_eq_true rfl, Nat.le_of_ble_eq_true rfl⟩ hl.1 rfl (Nat.le_of_ble_eq_true rfl) ⟨Nat.le_of_ble_eq_true rfl, Nat.le_of_ble_eq_true rfl⟩ dX3_painOf_52 (fun r_12375 H locs er_12375 Y => ?_)
      refine lv_iload_n hx hb dX3_painOf_55 rfl (lv_at hl 3 rfl) ?_
      refine cVi (As := [.ref (ad 30 t_12357), .int 1, .ref (ad 10 j), .int r_12375, .int i2]) (rest := [.int 99, .int 0]) S Y (x_X3_work (l := l) (i := t_12357) (j := j) I hW hT hQ (show t_12357 < 8 from by omega) hj) cw_X3_work km3_41 p_ad_3_0 ok_X3.1 rfl rfl ⟨Nat.le_of_ble_eq_true rfl, Nat.le_of_ble_eq_true rfl⟩ hl.1 rfl (Nat.le_of_ble_eq_true rfl) ⟨Nat.le_of_ble_eq_true rfl, Nat.le_of_ble_eq_true rfl⟩ dX3_painOf_56 (fun r_12378 L_12376 f_12377 H locs I Y => ?_)
      refine va_mmin hx hb (S.ml.trans hl.1.symm) S.ow (S.w km3_45) (S.w kMs_min) (S.w kMi) (S.w kMc_min) (Nat.le_of_ble_eq_true rfl) (Nat.le_of_ble_eq_true rfl) (by decide) (by decide) dX3_painOf_59 ?_
      refine lv_topi (fun x_12379 ex_12379 => ?_)
      refine va_mmax hx hb (S.ml.trans hl.1.symm) S.ow (S.w km3_50) (S.w kMs_max) (S.w kMi) (S.w kMc_max) (Nat.le_of_ble_eq_true rfl) (Nat.le_of_ble_eq_true rfl) (by decide) (by decide) dX3_painOf_62 ?_
      refine lv_topi (fun x_12380 ex_12380 => ?_)
      exact prI (post := fun r L1 f1 => SH (spC rs fc tc w q) nnC G ad L1 f1) S Y rfl (by decide) (by decide) hA1 I dX3_painOf_65
    · have B_12374 : bn 0 0 r_12371 := bn_w (bn_eq c_12372 (show bn 0 0 (0 : Int32) from bn_k (by decide))) (by decide)
      refine lv_aload_n hx hb dX3_painOf_27 rfl (lv_at hl 2 rfl) ?_
      refine lv_iload_n hx hb dX3_painOf_28 rfl (lv_at hl 3 rfl) ?_
      refine lv_iconst (v := 3) hx hb dX3_painOf_29 (by decide) ?_
      refine cVp (As := [.int i2, .int 3]) (rest := []) S Y (x_X4_get (l := l) (j := j) I hW hT hQ hj) cw_X4_get km3_19 (I.opo (k := 10) (j := j) hj rfl).choose_spec.1 ok_X4.1 rfl rfl ⟨Nat.le_of_ble_eq_true rfl, Nat.le_of_ble_eq_true rfl⟩ hl.1 rfl (Nat.le_of_ble_eq_true rfl) ⟨Nat.le_of_ble_eq_true rfl, Nat.le_of_ble_eq_true rfl⟩ dX3_painOf_30 (fun r_12381 H locs er_12381 Y => ?_)
      refine lv_aload_n hx hb dX3_painOf_33 rfl (lv_at hl 2 rfl) ?_
      obtain ⟨v_12382, v_12384, v_12386, v_12388, v_12390, p_ad_10_j, b_12383, b_12385, b_12387, b_12389, b_12391⟩ := opnC_10 (j := j) I hj
      have p_ad_10_j : pt L f (ad 10 j) (.inr (4, [.ref (ad 11 j), .ref (ad 12 j), .int v_12382, .int v_12384, .int v_12386, .int v_12388, .int v_12390])) := p_ad_10_j
      refine pg_getN S Y ok_X4 5 (by decide) kf3_57 (v := .int v_12388) p_ad_10_j rfl dX3_painOf_34 ?_
      refine lv_imul hx hb dX3_painOf_37 ?_
      refine lv_topi (fun x_12392 ex_12392 => ?_)
      refine lv_bipush (v := 10) hx hb dX3_painOf_38 (by decide) ?_
      refine lv_idiv hx hb dX3_painOf_40 (by decide) ?_
      refine lv_topi (fun x_12393 ex_12393 => ?_)
      exact prI (post := fun r L1 f1 => SH (spC rs fc tc w q) nnC G ad L1 f1) S Y rfl (by decide) (by decide) hA1 I dX3_painOf_41
set_option maxHeartbeats 4000000 in
set_option maxRecDepth 100000 in
theorem x_X3_riskOf {l : Launch} {G : GG}  {L : List Nat} {f : HF} {ad : Nat → Nat → Nat} {rs : RS} {fc : Int × Int} {tc w : Nat → Int × Int} {q : Nat → (Nat → Int32) → Prop} {j : Nat} {i2 : Int32} (I : SH (spC rs fc tc w q) nnC G ad L f) (hW : WBp w 8) (hT : WBp tc 4) (hQ : QIp q) (hj : j < 63) : PMi l yX3_riskOf cX3_riskOf 5 .int 3 0 0 G [.ref (ad 3 0), .ref (ad 10 j), .int i2] L f (fun r L1 f1 => SH (spC rs fc tc w q) nnC G ad L1 f1) := by
  refine PMi.of (post := fun r L1 f1 => SH (spC rs fc tc w q) nnC G ad L1 f1) (own := RX3) (by decide) rfl (Nat.le_of_ble_eq_true rfl) (fun sz p e s m args below meth c A ls hA1 hname S Y hl => ?_)
  have hx := S.hx
  have hb := S.hb
  have hl : lv_has ls 5 [(0, .ref (ad 3 0)), (1, .ref (ad 10 j)), (2, .int i2)] := hl
  refine lv_aload_n hx hb dX3_riskOf_0 rfl (lv_at hl 0 rfl) ?_
  obtain ⟨v_12464, p_ad_3_0, b_12465⟩ := opnC_3 (j := 0) I (by decide)
  have p_ad_3_0 : pt L f (ad 3 0) (.inr (3, [.ref (ad 1 0), .ref (ad 54 0), .int v_12464])) := p_ad_3_0
  refine pg_get S Y ok_X3 0 (by decide) kf3_15 (v := .ref (ad 1 0)) p_ad_3_0 rfl dX3_riskOf_1 ?_
  refine lv_aload_n hx hb dX3_riskOf_4 rfl (lv_at hl 0 rfl) ?_
  refine pg_get S Y ok_X3 0 (by decide) kf3_15 (v := .ref (ad 1 0)) p_ad_3_0 rfl dX3_riskOf_5 ?_
  obtain ⟨v_12466, v_12468, v_12470, v_12472, v_12474, p_ad_1_0, b_12467, b_12469, b_12471, b_12473, b_12475⟩ := opnC_1 (j := 0) I (by decide)
  have p_ad_1_0 : pt L f (ad 1 0) (.inr (10, [.ref (ad 40 0), .ref (ad 41 0), .ref (ad 42 0), .ref (ad 10 0), .ref (ad 43 0), .ref (ad 20 0), .ref (ad 20 1), .ref (ad 20 2), .ref (ad 20 3), .ref (ad 20 4), .int v_12466, .int v_12468, .int v_12470, .int v_12472, .int v_12474])) := p_ad_1_0
  refine pg_getN S Y ok_X10 12 (by decide) kf3_53 (v := .int v_12470) p_ad_1_0 rfl dX3_riskOf_8 ?_
  refine cVw (As := [.int v_12470]) (rest := []) S Y (x_X10_script (l := l) I hW hT hQ) cw_X10_script km3_25 p_ad_1_0 ok_X10.1 rfl rfl ⟨Nat.le_of_ble_eq_true rfl, Nat.le_of_ble_eq_true rfl⟩ hl.1 rfl (Nat.le_of_ble_eq_true rfl) ⟨Nat.le_of_ble_eq_true rfl, Nat.le_of_ble_eq_true rfl⟩ dX3_riskOf_11 (fun r_12476 H locs er_12476 Y => ?_)
  rcases er_12476 with er_12476 | ⟨t_12477, ht_12477, er_12476⟩
  · rw [er_12476]
    show W _ _ _ _ _ _ _ _ _ _ _ _ _ _ _ (F0 _ _ _ (.null :: _))
    refine lv_astore_nN (lv' := [(3, .null), (0, .ref (ad 3 0)), (1, .ref (ad 10 j)), (2, .int i2)]) hx hb dX3_riskOf_14 rfl hl (by decide) rfl (fun ls hl => ?_)
    refine lv_aload_nN hx hb dX3_riskOf_15 rfl (lv_at hl 0 rfl) ?_
    refine lv_ifnullN (tgt := 27) hx hb dX3_riskOf_16 (by decide) ?_
    refine lv_aload_n hx hb dX3_riskOf_27 rfl (lv_at hl 2 rfl) ?_
    refine lv_iload_n hx hb dX3_riskOf_28 rfl (lv_at hl 3 rfl) ?_
    refine cVp (As := [.int i2]) (rest := []) S Y (x_X4_marks (l := l) (j := j) I hW hT hQ hj) cw_X4_marks km3_60 (I.opo (k := 10) (j := j) hj rfl).choose_spec.1 ok_X4.1 rfl rfl ⟨Nat.le_of_ble_eq_true rfl, Nat.le_of_ble_eq_true rfl⟩ hl.1 rfl (Nat.le_of_ble_eq_true rfl) ⟨Nat.le_of_ble_eq_true rfl, Nat.le_of_ble_eq_true rfl⟩ dX3_riskOf_29 (fun r_12478 H locs er_12478 Y => ?_)
    refine lv_bipush (v := 10) hx hb dX3_riskOf_32 (by decide) ?_
    refine lv_imul hx hb dX3_riskOf_34 ?_
    refine lv_topi (fun x_12479 ex_12479 => ?_)
    refine lv_aload_n hx hb dX3_riskOf_35 rfl (lv_at hl 1 rfl) ?_
    refine pg_get S Y ok_X3 0 (by decide) kf3_15 (v := .ref (ad 1 0)) p_ad_3_0 rfl dX3_riskOf_36 ?_
    refine lv_iload_n hx hb dX3_riskOf_39 rfl (lv_at hl 3 rfl) ?_
    refine cVp (As := [.int i2]) (rest := [.int x_12479]) S Y (x_X10_toughOf (l := l) I hW hT hQ) cw_X10_toughOf km3_37 p_ad_1_0 ok_X10.1 rfl rfl ⟨Nat.le_of_ble_eq_true rfl, Nat.le_of_ble_eq_true rfl⟩ hl.1 rfl (Nat.le_of_ble_eq_true rfl) ⟨Nat.le_of_ble_eq_true rfl, Nat.le_of_ble_eq_true rfl⟩ dX3_riskOf_40 (fun r_12480 H locs er_12480 Y => ?_)
    refine lv_isub hx hb dX3_riskOf_43 ?_
    refine lv_topi (fun x_12481 ex_12481 => ?_)
    refine lv_goto (tgt := 56) hx hb dX3_riskOf_44 (by decide) ?_
    refine lv_istore (lv' := [(4, .int x_12481), (3, .null), (0, .ref (ad 3 0)), (1, .ref (ad 10 j)), (2, .int i2)]) hx hb dX3_riskOf_56 hl (by decide) rfl (fun ls hl => ?_)
    refine lv_iconst (v := 0) hx hb dX3_riskOf_58 (by decide) ?_
    refine lv_sipush (v := 9999) hx hb dX3_riskOf_59 (by decide) ?_
    refine lv_iload hx hb dX3_riskOf_62 (lv_at hl 0 rfl) ?_
    refine va_mmin hx hb (S.ml.trans hl.1.symm) S.ow (S.w km3_45) (S.w kMs_min) (S.w kMi) (S.w kMc_min) (Nat.le_of_ble_eq_true rfl) (Nat.le_of_ble_eq_true rfl) (by decide) (by decide) dX3_riskOf_64 ?_
    refine lv_topi (fun x_12482 ex_12482 => ?_)
    refine va_mmax hx hb (S.ml.trans hl.1.symm) S.ow (S.w km3_50) (S.w kMs_max) (S.w kMi) (S.w kMc_max) (Nat.le_of_ble_eq_true rfl) (Nat.le_of_ble_eq_true rfl) (by decide) (by decide) dX3_riskOf_67 ?_
    refine lv_topi (fun x_12483 ex_12483 => ?_)
    exact prI (post := fun r L1 f1 => SH (spC rs fc tc w q) nnC G ad L1 f1) S Y rfl (by decide) (by decide) hA1 I dX3_riskOf_70
  · rw [er_12476]
    have e9 : 0 + t_12477 = t_12477 := Nat.zero_add _
    rw [e9]
    show W _ _ _ _ _ _ _ _ _ _ _ _ _ _ _ (F0 _ _ _ (.ref (ad 30 t_12477) :: _))
    refine lv_astore_n (lv' := [(3, .ref (ad 30 t_12477)), (0, .ref (ad 3 0)), (1, .ref (ad 10 j)), (2, .int i2)]) hx hb dX3_riskOf_14 rfl hl (by decide) rfl (fun ls hl => ?_)
    refine lv_aload_n hx hb dX3_riskOf_15 rfl (lv_at hl 0 rfl) ?_
    refine lv_ifnull hx hb dX3_riskOf_16 ?_
    refine lv_aload_n hx hb dX3_riskOf_19 rfl (lv_at hl 0 rfl) ?_
    refine lv_iconst (v := 2) hx hb dX3_riskOf_20 (by decide) ?_
    refine cVp (As := [.int 2]) (rest := []) S Y (x_X7_hasLaw (l := l) (j := t_12477) I hW hT hQ (show t_12477 < 8 from by omega)) cw_X7_hasLaw km3_31 (I.opo (k := 30) (j := t_12477) (show t_12477 < 8 from by omega) rfl).choose_spec.1 ok_X7.1 rfl rfl ⟨Nat.le_of_ble_eq_true rfl, Nat.le_of_ble_eq_true rfl⟩ hl.1 rfl (Nat.le_of_ble_eq_true rfl) ⟨Nat.le_of_ble_eq_true rfl, Nat.le_of_ble_eq_true rfl⟩ dX3_riskOf_21 (fun r_12484 H locs er_12484 Y => ?_)
    refine lv_if_ne (tgt := 47) hx hb dX3_riskOf_24 (by decide) (fun c_12485 => ?_) (fun c_12485 => ?_)
    · have B_12486 : bn 1 1 r_12484 := bn_w (bn_nel c_12485 er_12484 (show bn 0 0 (0 : Int32) from bn_k (by decide))) (by decide)
      refine lv_aload_n hx hb dX3_riskOf_47 rfl (lv_at hl 1 rfl) ?_
      refine lv_aload_n hx hb dX3_riskOf_48 rfl (lv_at hl 0 rfl) ?_
      refine lv_iconst (v := 2) hx hb dX3_riskOf_49 (by decide) ?_
      refine lv_aload_n hx hb dX3_riskOf_50 rfl (lv_at hl 2 rfl) ?_
      refine lv_iload_n hx hb dX3_riskOf_51 rfl (lv_at hl 3 rfl) ?_
      refine lv_iconst (v := (-1)) hx hb dX3_riskOf_52 (by decide) ?_
      refine cVi (As := [.ref (ad 30 t_12477), .int 2, .ref (ad 10 j), .int i2, .int (-1)]) (rest := []) S Y (x_X3_work (l := l) (i := t_12477) (j := j) I hW hT hQ (show t_12477 < 8 from by omega) hj) cw_X3_work km3_41 p_ad_3_0 ok_X3.1 rfl rfl ⟨Nat.le_of_ble_eq_true rfl, Nat.le_of_ble_eq_true rfl⟩ hl.1 rfl (Nat.le_of_ble_eq_true rfl) ⟨Nat.le_of_ble_eq_true rfl, Nat.le_of_ble_eq_true rfl⟩ dX3_riskOf_53 (fun r_12490 L_12488 f_12489 H locs I Y => ?_)
      refine lv_istore (lv' := [(4, .int r_12490), (3, .ref (ad 30 t_12477)), (0, .ref (ad 3 0)), (1, .ref (ad 10 j)), (2, .int i2)]) hx hb dX3_riskOf_56 hl (by decide) rfl (fun ls hl => ?_)
      refine lv_iconst (v := 0) hx hb dX3_riskOf_58 (by decide) ?_
      refine lv_sipush (v := 9999) hx hb dX3_riskOf_59 (by decide) ?_
      refine lv_iload hx hb dX3_riskOf_62 (lv_at hl 0 rfl) ?_
      refine va_mmin hx hb (S.ml.trans hl.1.symm) S.ow (S.w km3_45) (S.w kMs_min) (S.w kMi) (S.w kMc_min) (Nat.le_of_ble_eq_true rfl) (Nat.le_of_ble_eq_true rfl) (by decide) (by decide) dX3_riskOf_64 ?_
      refine lv_topi (fun x_12491 ex_12491 => ?_)
      refine va_mmax hx hb (S.ml.trans hl.1.symm) S.ow (S.w km3_50) (S.w kMs_max) (S.w kMi) (S.w kMc_max) (Nat.le_of_ble_eq_true rfl) (Nat.le_of_ble_eq_true rfl) (by decide) (by decide) dX3_riskOf_67 ?_
      refine lv_topi (fun x_12492 ex_12492 => ?_)
      exact prI (post := fun r L1 f1 => SH (spC rs fc tc w q) nnC G ad L1 f1) S Y rfl (by decide) (by decide) hA1 I dX3_riskOf_70
    · have B_12487 : bn 0 0 r_12484 := bn_w (bn_eq c_12485 (show bn 0 0 (0 : Int32) from bn_k (by decide))) (by decide)
      refine lv_aload_n hx hb dX3_riskOf_27 rfl (lv_at hl 2 rfl) ?_
      refine lv_iload_n hx hb dX3_riskOf_28 rfl (lv_at hl 3 rfl) ?_
      refine cVp (As := [.int i2]) (rest := []) S Y (x_X4_marks (l := l) (j := j) I hW hT hQ hj) cw_X4_marks km3_60 (I.opo (k := 10) (j := j) hj rfl).choose_spec.1 ok_X4.1 rfl rfl ⟨Nat.le_of_ble_eq_true rfl, Nat.le_of_ble_eq_true rfl⟩ hl.1 rfl (Nat.le_of_ble_eq_true rfl) ⟨Nat.le_of_ble_eq_true rfl, Nat.le_of_ble_eq_true rfl⟩ dX3_riskOf_29 (fun r_12493 H locs er_12493 Y => ?_)
      refine lv_bipush (v := 10) hx hb dX3_riskOf_32 (by decide) ?_
      refine lv_imul hx hb dX3_riskOf_34 ?_
      refine lv_topi (fun x_12494 ex_12494 => ?_)
      refine lv_aload_n hx hb dX3_riskOf_35 rfl (lv_at hl 1 rfl) ?_
      refine pg_get S Y ok_X3 0 (by decide) kf3_15 (v := .ref (ad 1 0)) p_ad_3_0 rfl dX3_riskOf_36 ?_
      refine lv_iload_n hx hb dX3_riskOf_39 rfl (lv_at hl 3 rfl) ?_
      refine cVp (As := [.int i2]) (rest := [.int x_12494]) S Y (x_X10_toughOf (l := l) I hW hT hQ) cw_X10_toughOf km3_37 p_ad_1_0 ok_X10.1 rfl rfl ⟨Nat.le_of_ble_eq_true rfl, Nat.le_of_ble_eq_true rfl⟩ hl.1 rfl (Nat.le_of_ble_eq_true rfl) ⟨Nat.le_of_ble_eq_true rfl, Nat.le_of_ble_eq_true rfl⟩ dX3_riskOf_40 (fun r_12495 H locs er_12495 Y => ?_)
      refine lv_isub hx hb dX3_riskOf_43 ?_
      refine lv_topi (fun x_12496 ex_12496 => ?_)
      refine lv_goto (tgt := 56) hx hb dX3_riskOf_44 (by decide) ?_
      refine lv_istore (lv' := [(4, .int x_12496), (3, .ref (ad 30 t_12477)), (0, .ref (ad 3 0)), (1, .ref (ad 10 j)), (2, .int i2)]) hx hb dX3_riskOf_56 hl (by decide) rfl (fun ls hl => ?_)
      refine lv_iconst (v := 0) hx hb dX3_riskOf_58 (by decide) ?_
      refine lv_sipush (v := 9999) hx hb dX3_riskOf_59 (by decide) ?_
      refine lv_iload hx hb dX3_riskOf_62 (lv_at hl 0 rfl) ?_
      refine va_mmin hx hb (S.ml.trans hl.1.symm) S.ow (S.w km3_45) (S.w kMs_min) (S.w kMi) (S.w kMc_min) (Nat.le_of_ble_eq_true rfl) (Nat.le_of_ble_eq_true rfl) (by decide) (by decide) dX3_riskOf_64 ?_
      refine lv_topi (fun x_12497 ex_12497 => ?_)
      refine va_mmax hx hb (S.ml.trans hl.1.symm) S.ow (S.w km3_50) (S.w kMs_max) (S.w kMi) (S.w kMc_max) (Nat.le_of_ble_eq_true rfl) (Nat.le_of_ble_eq_true rfl) (by decide) (by decide) dX3_riskOf_67 ?_
      refine lv_topi (fun x_12498 ex_12498 => ?_)
      exact prI (post := fun r L1 f1 => SH (spC rs fc tc w q) nnC G ad L1 f1) S Y rfl (by decide) (by decide) hA1 I dX3_riskOf_70
set_option maxHeartbeats 4000000 in
set_option maxRecDepth 100000 in
theorem x_X3_acheOf {l : Launch} {G : GG}  {L : List Nat} {f : HF} {ad : Nat → Nat → Nat} {rs : RS} {fc : Int × Int} {tc w : Nat → Int × Int} {q : Nat → (Nat → Int32) → Prop} {j : Nat} {i2 : Int32} (I : SH (spC rs fc tc w q) nnC G ad L f) (hW : WBp w 8) (hT : WBp tc 4) (hQ : QIp q) (hj : j < 63) : PMi l yX3_acheOf cX3_acheOf 5 .int 4 0 0 G [.ref (ad 3 0), .ref (ad 10 j), .int i2] L f (fun r L1 f1 => SH (spC rs fc tc w q) nnC G ad L1 f1) := by
  refine PMi.of (post := fun r L1 f1 => SH (spC rs fc tc w q) nnC G ad L1 f1) (own := RX3) (by decide) rfl (Nat.le_of_ble_eq_true rfl) (fun sz p e s m args below meth c A ls hA1 hname S Y hl => ?_)
  have hx := S.hx
  have hb := S.hb
  have hl : lv_has ls 5 [(0, .ref (ad 3 0)), (1, .ref (ad 10 j)), (2, .int i2)] := hl
  have J_5 : ∀ (n5 : Nat) (y5_3 y5_4 : Int32) (L_5 : List Nat) (f_5 : HF) (H : Heap) (locs : List Loc) (ls : Array Slot), (SH (spC rs fc tc w q) nnC G ad L_5 f_5) → (bn 0 14 y5_4) → (((14 : Int) - y5_4.toInt).toNat = n5) → (DY G A s [] L_5 f_5 H locs) → (lv_has ls 5 [(0, .ref (ad 3 0)), (1, .ref (ad 10 j)), (2, .int i2), (3, .int y5_3), (4, .int y5_4)]) → W p l e (rmD 4 0 0) s m args below meth c H locs (0) (0) (MQ below (va_Qi (fun r (u : List Nat × HF) => (fun r L1 f1 => SH (spC rs fc tc w q) nnC G ad L1 f1) r u.1 u.2) (fun u t => pOut G (va_A (va_pl L f) sz) u.1 u.2 t) (va_A (va_pl L f) sz)) args s 0 0 A) (F0 m 5 ls []) := by
    intro n5
    induction n5 using Nat.strongRecOn with
    | _ n5 ih5 =>
      intro y5_3 y5_4 L_5 f_5 H locs ls I b_y5_4 hm5 Y hl
      refine lv_iload hx hb dX3_acheOf_5 (lv_at hl 4 rfl) ?_
      refine lv_aload_n hx hb dX3_acheOf_7 rfl (lv_at hl 1 rfl) ?_
      obtain ⟨v_12877, v_12879, v_12881, v_12883, v_12885, p_ad_10_j, b_12878, b_12880, b_12882, b_12884, b_12886⟩ := opnC_10 (j := j) I hj
      have p_ad_10_j : pt L_5 f_5 (ad 10 j) (.inr (4, [.ref (ad 11 j), .ref (ad 12 j), .int v_12877, .int v_12879, .int v_12881, .int v_12883, .int v_12885])) := p_ad_10_j
      refine pg_getN S Y ok_X4 2 (by decide) kf3_63 (v := .int v_12877) p_ad_10_j rfl dX3_acheOf_8 ?_
      refine lv_icmp_ge (tgt := 51) hx hb dX3_acheOf_11 (by decide) (fun c_12887 => ?_) (fun c_12887 => ?_)
      · refine lv_iload_n hx hb dX3_acheOf_51 rfl (lv_at hl 3 rfl) ?_
        exact prI (post := fun r L1 f1 => SH (spC rs fc tc w q) nnC G ad L1 f1) S Y rfl (by decide) (by decide) hA1 I dX3_acheOf_52
      · have B_12888 : bn 1 14 v_12877 := bn_w (bn_gtl c_12887 b_12878 b_y5_4) (by decide)
        have B_12889 : bn 0 13 y5_4 := bn_w (bn_gtr c_12887 b_12878 b_y5_4) (by decide)
        refine lv_aload_n hx hb dX3_acheOf_14 rfl (lv_at hl 1 rfl) ?_
        refine lv_iload hx hb dX3_acheOf_15 (lv_at hl 4 rfl) ?_
        refine lv_iload_n hx hb dX3_acheOf_17 rfl (lv_at hl 2 rfl) ?_
        refine cVp (As := [.int y5_4, .int i2]) (rest := []) S Y (x_X4_legibleOn (l := l) (j := j) I hW hT hQ hj) cw_X4_legibleOn km3_66 p_ad_10_j ok_X4.1 rfl rfl ⟨Nat.le_of_ble_eq_true rfl, Nat.le_of_ble_eq_true rfl⟩ hl.1 rfl (Nat.le_of_ble_eq_true rfl) ⟨Nat.le_of_ble_eq_true rfl, Nat.le_of_ble_eq_true rfl⟩ dX3_acheOf_18 (fun r_12890 H locs er_12890 Y => ?_)
        refine lv_if_eq (tgt := 45) hx hb dX3_acheOf_21 (by decide) (fun c_12891 => ?_) (fun c_12891 => ?_)
        · have B_12892 : bn 0 0 r_12890 := bn_w (bn_eq c_12891 (show bn 0 0 (0 : Int32) from bn_k (by decide))) (by decide)
          obtain ⟨x_12894, ex_12894⟩ : ∃ z : Int32, z = y5_4 + 1 := ⟨_, rfl⟩
          refine lv_iinc (v := x_12894) (lv' := [(4, .int x_12894), (0, .ref (ad 3 0)), (1, .ref (ad 10 j)), (2, .int i2), (3, .int y5_3)]) hx hb dX3_acheOf_45 hl (k := 4) rfl (by rw [ex_12894]; rfl) (by decide) rfl (fun ls hl => ?_)
          refine lv_goto (tgt := 5) hx hb dX3_acheOf_48 (by decide) ?_
          exact ih5 _ (by rw [← hm5]; exact ms_up (m := 1) ex_12894 (show bn 1 1 (1 : Int32) from bn_k (by decide)) B_12889 (bn_w (bn_eq ex_12894 (bn_add B_12889 (show bn 1 1 (1 : Int32) from bn_k (by decide)) (by decide))) (by decide) : bn 0 14 x_12894) (by decide)) y5_3 x_12894 _ _  _ _ _ I (bn_w (bn_eq ex_12894 (bn_add B_12889 (show bn 1 1 (1 : Int32) from bn_k (by decide)) (by decide))) (by decide)) rfl Y (lv_sub hl [1, 2, 3, 4, 0] rfl)
        · have B_12893 : bn 1 1 r_12890 := bn_w (bn_nel c_12891 er_12890 (show bn 0 0 (0 : Int32) from bn_k (by decide))) (by decide)
          refine lv_aload_n hx hb dX3_acheOf_24 rfl (lv_at hl 1 rfl) ?_
          refine lv_iload hx hb dX3_acheOf_25 (lv_at hl 4 rfl) ?_
          refine lv_iconst (v := 4) hx hb dX3_acheOf_27 (by decide) ?_
          refine cVp (As := [.int y5_4, .int 4]) (rest := []) S Y (x_X4_get (l := l) (j := j) I hW hT hQ hj) cw_X4_get km3_19 p_ad_10_j ok_X4.1 rfl rfl ⟨Nat.le_of_ble_eq_true rfl, Nat.le_of_ble_eq_true rfl⟩ hl.1 rfl (Nat.le_of_ble_eq_true rfl) ⟨Nat.le_of_ble_eq_true rfl, Nat.le_of_ble_eq_true rfl⟩ dX3_acheOf_28 (fun r_12895 H locs er_12895 Y => ?_)
          refine lv_iconst (v := 1) hx hb dX3_acheOf_31 (by decide) ?_
          refine lv_icmp_ne (tgt := 45) hx hb dX3_acheOf_32 (by decide) (fun c_12896 => ?_) (fun c_12896 => ?_)
          · obtain ⟨x_12898, ex_12898⟩ : ∃ z : Int32, z = y5_4 + 1 := ⟨_, rfl⟩
            refine lv_iinc (v := x_12898) (lv' := [(4, .int x_12898), (0, .ref (ad 3 0)), (1, .ref (ad 10 j)), (2, .int i2), (3, .int y5_3)]) hx hb dX3_acheOf_45 hl (k := 4) rfl (by rw [ex_12898]; rfl) (by decide) rfl (fun ls hl => ?_)
            refine lv_goto (tgt := 5) hx hb dX3_acheOf_48 (by decide) ?_
            exact ih5 _ (by rw [← hm5]; exact ms_up (m := 1) ex_12898 (show bn 1 1 (1 : Int32) from bn_k (by decide)) B_12889 (bn_w (bn_eq ex_12898 (bn_add B_12889 (show bn 1 1 (1 : Int32) from bn_k (by decide)) (by decide))) (by decide) : bn 0 14 x_12898) (by decide)) y5_3 x_12898 _ _  _ _ _ I (bn_w (bn_eq ex_12898 (bn_add B_12889 (show bn 1 1 (1 : Int32) from bn_k (by decide)) (by decide))) (by decide)) rfl Y (lv_sub hl [1, 2, 3, 4, 0] rfl)
          · have B_12897 : bn 1 1 r_12895 := bn_w (bn_eq c_12896 (show bn 1 1 (1 : Int32) from bn_k (by decide))) (by decide)
            refine lv_iload_n hx hb dX3_acheOf_35 rfl (lv_at hl 3 rfl) ?_
            refine lv_aload_n hx hb dX3_acheOf_36 rfl (lv_at hl 0 rfl) ?_
            refine lv_aload_n hx hb dX3_acheOf_37 rfl (lv_at hl 1 rfl) ?_
            refine lv_iload hx hb dX3_acheOf_38 (lv_at hl 4 rfl) ?_
            refine cVi (As := [.ref (ad 10 j), .int y5_4]) (rest := [.int y5_3]) S Y (x_X3_painOf (l := l) (j := j) I hW hT hQ hj) cw_X3_painOf km3_70 (I.opo (k := 3) (j := 0) (by decide) rfl).choose_spec.1 ok_X3.1 rfl rfl ⟨Nat.le_of_ble_eq_true rfl, Nat.le_of_ble_eq_true rfl⟩ hl.1 rfl (Nat.le_of_ble_eq_true rfl) ⟨Nat.le_of_ble_eq_true rfl, Nat.le_of_ble_eq_true rfl⟩ dX3_acheOf_40 (fun r_12901 L_12899 f_12900 H locs I Y => ?_)
            refine lv_iadd hx hb dX3_acheOf_43 ?_
            refine lv_topi (fun x_12902 ex_12902 => ?_)
            refine lv_istore_n (lv' := [(3, .int x_12902), (0, .ref (ad 3 0)), (1, .ref (ad 10 j)), (2, .int i2), (4, .int y5_4)]) hx hb dX3_acheOf_44 rfl hl (by decide) rfl (fun ls hl => ?_)
            obtain ⟨x_12903, ex_12903⟩ : ∃ z : Int32, z = y5_4 + 1 := ⟨_, rfl⟩
            refine lv_iinc (v := x_12903) (lv' := [(4, .int x_12903), (3, .int x_12902), (0, .ref (ad 3 0)), (1, .ref (ad 10 j)), (2, .int i2)]) hx hb dX3_acheOf_45 hl (k := 4) rfl (by rw [ex_12903]; rfl) (by decide) rfl (fun ls hl => ?_)
            refine lv_goto (tgt := 5) hx hb dX3_acheOf_48 (by decide) ?_
            exact ih5 _ (by rw [← hm5]; exact ms_up (m := 1) ex_12903 (show bn 1 1 (1 : Int32) from bn_k (by decide)) B_12889 (bn_w (bn_eq ex_12903 (bn_add B_12889 (show bn 1 1 (1 : Int32) from bn_k (by decide)) (by decide))) (by decide) : bn 0 14 x_12903) (by decide)) x_12902 x_12903 _ _  _ _ _ I (bn_w (bn_eq ex_12903 (bn_add B_12889 (show bn 1 1 (1 : Int32) from bn_k (by decide)) (by decide))) (by decide)) rfl Y (lv_sub hl [2, 3, 4, 1, 0] rfl)
  refine lv_iconst (v := 0) hx hb dX3_acheOf_0 (by decide) ?_
  refine lv_istore_n (lv' := [(3, .int 0), (0, .ref (ad 3 0)), (1, .ref (ad 10 j)), (2, .int i2)]) hx hb dX3_acheOf_1 rfl hl (by decide) rfl (fun ls hl => ?_)
  refine lv_iconst (v := 0) hx hb dX3_acheOf_2 (by decide) ?_
  refine lv_istore (lv' := [(4, .int 0), (3, .int 0), (0, .ref (ad 3 0)), (1, .ref (ad 10 j)), (2, .int i2)]) hx hb dX3_acheOf_3 hl (by decide) rfl (fun ls hl => ?_)
  exact J_5 _ 0 0 _ _  _ _ _ I (bn_w (show bn 0 0 (0 : Int32) from bn_k (by decide)) (by decide)) rfl Y (lv_sub hl [2, 3, 4, 1, 0] rfl)
set_option maxHeartbeats 4000000 in
set_option maxRecDepth 100000 in
theorem x_X3_explains {l : Launch} {G : GG}  {L : List Nat} {f : HF} {ad : Nat → Nat → Nat} {rs : RS} {fc : Int × Int} {tc w : Nat → Int × Int} {q : Nat → (Nat → Int32) → Prop} {i1 : Int32} (I : SH (spC rs fc tc w q) nnC G ad L f) (hW : WBp w 8) (hT : WBp tc 4) (hQ : QIp q) : PMi l yX3_explains cX3_explains 4 .boolean 4 0 0 G [.ref (ad 3 0), .int i1] L f (fun r L1 f1 => bn 0 1 r ∧ SH (spC rs fc tc w q) nnC G ad L1 f1) := by
  refine PMi.of (post := fun r L1 f1 => bn 0 1 r ∧ SH (spC rs fc tc w q) nnC G ad L1 f1) (own := RX3) (by decide) rfl (Nat.le_of_ble_eq_true rfl) (fun sz p e s m args below meth c A ls hA1 hname S Y hl => ?_)
  have hx := S.hx
  have hb := S.hb
  have hl : lv_has ls 4 [(0, .ref (ad 3 0)), (1, .int i1)] := hl
  have J_2 : ∀ (n2 : Nat) (y2_2 : Int32) (L_2 : List Nat) (f_2 : HF) (H : Heap) (locs : List Loc) (ls : Array Slot), (SH (spC rs fc tc w q) nnC G ad L_2 f_2) → (bn 0 8 y2_2) → (((8 : Int) - y2_2.toInt).toNat = n2) → (DY G A s [] L_2 f_2 H locs) → (lv_has ls 4 [(0, .ref (ad 3 0)), (1, .int i1), (2, .int y2_2)]) → W p l e (rmD 4 0 0) s m args below meth c H locs (0) (0) (MQ below (va_Qi (fun r (u : List Nat × HF) => (fun r L1 f1 => bn 0 1 r ∧ SH (spC rs fc tc w q) nnC G ad L1 f1) r u.1 u.2) (fun u t => pOut G (va_A (va_pl L f) sz) u.1 u.2 t) (va_A (va_pl L f) sz)) args s 0 0 A) (F0 m 2 ls []) := by
    intro n2
    induction n2 using Nat.strongRecOn with
    | _ n2 ih2 =>
      intro y2_2 L_2 f_2 H locs ls I b_y2_2 hm2 Y hl
      refine lv_iload_n hx hb dX3_explains_2 rfl (lv_at hl 2 rfl) ?_
      refine lv_aload_n hx hb dX3_explains_3 rfl (lv_at hl 0 rfl) ?_
      obtain ⟨v_13334, p_ad_3_0, b_13335⟩ := opnC_3 (j := 0) I (by decide)
      have p_ad_3_0 : pt L_2 f_2 (ad 3 0) (.inr (3, [.ref (ad 1 0), .ref (ad 54 0), .int v_13334])) := p_ad_3_0
      refine pg_get S Y ok_X3 0 (by decide) kf3_15 (v := .ref (ad 1 0)) p_ad_3_0 rfl dX3_explains_4 ?_
      obtain ⟨v_13336, v_13338, v_13340, v_13342, v_13344, p_ad_1_0, b_13337, b_13339, b_13341, b_13343, b_13345⟩ := opnC_1 (j := 0) I (by decide)
      have p_ad_1_0 : pt L_2 f_2 (ad 1 0) (.inr (10, [.ref (ad 40 0), .ref (ad 41 0), .ref (ad 42 0), .ref (ad 10 0), .ref (ad 43 0), .ref (ad 20 0), .ref (ad 20 1), .ref (ad 20 2), .ref (ad 20 3), .ref (ad 20 4), .int v_13336, .int v_13338, .int v_13340, .int v_13342, .int v_13344])) := p_ad_1_0
      refine pg_getN S Y ok_X10 9 (by decide) kf3_74 (v := .ref (ad 20 4)) p_ad_1_0 rfl dX3_explains_7 ?_
      obtain ⟨v_13346, v_13348, p_ad_20_4, b_13347, b_13349⟩ := opnC_20 (j := 4) I (by decide)
      have p_ad_20_4 : pt L_2 f_2 (ad 20 4) (.inr (9, [.ref (ad 21 4), .int v_13346, .int v_13348])) := p_ad_20_4
      refine pg_getN S Y ok_X9 2 (by decide) kf3_78 (v := .int v_13348) p_ad_20_4 rfl dX3_explains_10 ?_
      refine lv_icmp_ge (tgt := 79) hx hb dX3_explains_13 (by decide) (fun c_13350 => ?_) (fun c_13350 => ?_)
      · refine lv_iconst (v := 1) hx hb dX3_explains_79 (by decide) ?_
        exact prI (post := fun r L1 f1 => bn 0 1 r ∧ SH (spC rs fc tc w q) nnC G ad L1 f1) S Y rfl (by decide) (by decide) hA1 ⟨bn_w (show bn 1 1 (1 : Int32) from bn_k (by decide)) (by decide), I⟩ dX3_explains_80
      · have B_13351 : bn 1 8 v_13348 := bn_w (bn_gtl c_13350 (bn_w (a' := 0) (b' := 8) b_13349 (hW 4)) b_y2_2) (by decide)
        have B_13352 : bn 0 7 y2_2 := bn_w (bn_gtr c_13350 (bn_w (a' := 0) (b' := 8) b_13349 (hW 4)) b_y2_2) (by decide)
        refine lv_aload_n hx hb dX3_explains_16 rfl (lv_at hl 0 rfl) ?_
        refine pg_get S Y ok_X3 0 (by decide) kf3_15 (v := .ref (ad 1 0)) p_ad_3_0 rfl dX3_explains_17 ?_
        refine pg_getN S Y ok_X10 9 (by decide) kf3_74 (v := .ref (ad 20 4)) p_ad_1_0 rfl dX3_explains_20 ?_
        refine lv_iload_n hx hb dX3_explains_23 rfl (lv_at hl 2 rfl) ?_
        refine lv_iconst (v := 0) hx hb dX3_explains_24 (by decide) ?_
        refine cVp (As := [.int y2_2, .int 0]) (rest := []) S Y (x_X9_get (l := l) (j := 4) I hW hT hQ (by decide)) cw_X9_get km3_83 p_ad_20_4 ok_X9.1 rfl rfl ⟨Nat.le_of_ble_eq_true rfl, Nat.le_of_ble_eq_true rfl⟩ hl.1 rfl (Nat.le_of_ble_eq_true rfl) ⟨Nat.le_of_ble_eq_true rfl, Nat.le_of_ble_eq_true rfl⟩ dX3_explains_25 (fun r_13353 H locs er_13353 Y => ?_)
        refine lv_istore_n (lv' := [(3, .int r_13353), (0, .ref (ad 3 0)), (1, .int i1), (2, .int y2_2)]) hx hb dX3_explains_28 rfl hl (by decide) rfl (fun ls hl => ?_)
        refine lv_aload_n hx hb dX3_explains_29 rfl (lv_at hl 1 rfl) ?_
        refine pg_get S Y ok_X3 0 (by decide) kf3_15 (v := .ref (ad 1 0)) p_ad_3_0 rfl dX3_explains_30 ?_
        refine pg_getN S Y ok_X10 3 (by decide) kf3_84 (v := .ref (ad 10 0)) p_ad_1_0 rfl dX3_explains_33 ?_
        refine lv_iload_n hx hb dX3_explains_36 rfl (lv_at hl 0 rfl) ?_
        refine cVp (As := [.int r_13353]) (rest := []) S Y (x_X4_has (l := l) (j := 0) I hW hT hQ (by decide)) cw_X4_has km3_88 (I.opo (k := 10) (j := 0) (by decide) rfl).choose_spec.1 ok_X4.1 rfl rfl ⟨Nat.le_of_ble_eq_true rfl, Nat.le_of_ble_eq_true rfl⟩ hl.1 rfl (Nat.le_of_ble_eq_true rfl) ⟨Nat.le_of_ble_eq_true rfl, Nat.le_of_ble_eq_true rfl⟩ dX3_explains_37 (fun r_13354 H locs er_13354 Y => ?_)
        refine lv_if_eq (tgt := 73) hx hb dX3_explains_40 (by decide) (fun c_13355 => ?_) (fun c_13355 => ?_)
        · have B_13356 : bn 0 0 r_13354 := bn_w (bn_eq c_13355 (show bn 0 0 (0 : Int32) from bn_k (by decide))) (by decide)
          obtain ⟨x_13358, ex_13358⟩ : ∃ z : Int32, z = y2_2 + 1 := ⟨_, rfl⟩
          refine lv_iinc (v := x_13358) (lv' := [(2, .int x_13358), (3, .int r_13353), (0, .ref (ad 3 0)), (1, .int i1)]) hx hb dX3_explains_73 hl (k := 3) rfl (by rw [ex_13358]; rfl) (by decide) rfl (fun ls hl => ?_)
          refine lv_goto (tgt := 2) hx hb dX3_explains_76 (by decide) ?_
          exact ih2 _ (by rw [← hm2]; exact ms_up (m := 1) ex_13358 (show bn 1 1 (1 : Int32) from bn_k (by decide)) B_13352 (bn_w (bn_eq ex_13358 (bn_add B_13352 (show bn 1 1 (1 : Int32) from bn_k (by decide)) (by decide))) (by decide) : bn 0 8 x_13358) (by decide)) x_13358 _ _  _ _ _ I (bn_w (bn_eq ex_13358 (bn_add B_13352 (show bn 1 1 (1 : Int32) from bn_k (by decide)) (by decide))) (by decide)) rfl Y (lv_sub hl [2, 3, 0] rfl)
        · have B_13357 : bn 1 1 r_13354 := bn_w (bn_nel c_13355 er_13354 (show bn 0 0 (0 : Int32) from bn_k (by decide))) (by decide)
          refine lv_aload_n hx hb dX3_explains_43 rfl (lv_at hl 1 rfl) ?_
          refine lv_iload_n hx hb dX3_explains_44 rfl (lv_at hl 2 rfl) ?_
          refine lv_aload_n hx hb dX3_explains_45 rfl (lv_at hl 1 rfl) ?_
          refine pg_get S Y ok_X3 0 (by decide) kf3_15 (v := .ref (ad 1 0)) p_ad_3_0 rfl dX3_explains_46 ?_
          refine pg_getN S Y ok_X10 3 (by decide) kf3_84 (v := .ref (ad 10 0)) p_ad_1_0 rfl dX3_explains_49 ?_
          refine lv_iload_n hx hb dX3_explains_52 rfl (lv_at hl 0 rfl) ?_
          refine cVi (As := [.int i1, .ref (ad 10 0), .int r_13353]) (rest := []) S Y (x_X3_wearOf (l := l) (j := 0) I hW hT hQ (by decide)) cw_X3_wearOf km3_91 p_ad_3_0 ok_X3.1 rfl rfl ⟨Nat.le_of_ble_eq_true rfl, Nat.le_of_ble_eq_true rfl⟩ hl.1 rfl (Nat.le_of_ble_eq_true rfl) ⟨Nat.le_of_ble_eq_true rfl, Nat.le_of_ble_eq_true rfl⟩ dX3_explains_53 (fun r_13361 L_13359 f_13360 H locs I Y => ?_)
          refine lv_aload_n hx hb dX3_explains_56 rfl (lv_at hl 1 rfl) ?_
          obtain ⟨v_13362, p_ad_3_0, b_13363⟩ := opnC_3 (j := 0) I (by decide)
          have p_ad_3_0 : pt L_13359 f_13360 (ad 3 0) (.inr (3, [.ref (ad 1 0), .ref (ad 54 0), .int v_13362])) := p_ad_3_0
          refine pg_get S Y ok_X3 0 (by decide) kf3_15 (v := .ref (ad 1 0)) p_ad_3_0 rfl dX3_explains_57 ?_
          obtain ⟨v_13364, v_13366, v_13368, v_13370, v_13372, p_ad_1_0, b_13365, b_13367, b_13369, b_13371, b_13373⟩ := opnC_1 (j := 0) I (by decide)
          have p_ad_1_0 : pt L_13359 f_13360 (ad 1 0) (.inr (10, [.ref (ad 40 0), .ref (ad 41 0), .ref (ad 42 0), .ref (ad 10 0), .ref (ad 43 0), .ref (ad 20 0), .ref (ad 20 1), .ref (ad 20 2), .ref (ad 20 3), .ref (ad 20 4), .int v_13364, .int v_13366, .int v_13368, .int v_13370, .int v_13372])) := p_ad_1_0
          refine pg_getN S Y ok_X10 9 (by decide) kf3_74 (v := .ref (ad 20 4)) p_ad_1_0 rfl dX3_explains_60 ?_
          refine lv_iload_n hx hb dX3_explains_63 rfl (lv_at hl 3 rfl) ?_
          refine lv_iconst (v := 1) hx hb dX3_explains_64 (by decide) ?_
          refine cVp (As := [.int y2_2, .int 1]) (rest := [.int r_13361]) S Y (x_X9_get (l := l) (j := 4) I hW hT hQ (by decide)) cw_X9_get km3_83 (I.opo (k := 20) (j := 4) (by decide) rfl).choose_spec.1 ok_X9.1 rfl rfl ⟨Nat.le_of_ble_eq_true rfl, Nat.le_of_ble_eq_true rfl⟩ hl.1 rfl (Nat.le_of_ble_eq_true rfl) ⟨Nat.le_of_ble_eq_true rfl, Nat.le_of_ble_eq_true rfl⟩ dX3_explains_65 (fun r_13374 H locs er_13374 Y => ?_)
          refine lv_icmp_eq (tgt := 73) hx hb dX3_explains_68 (by decide) (fun c_13375 => ?_) (fun c_13375 => ?_)
          · obtain ⟨x_13376, ex_13376⟩ : ∃ z : Int32, z = y2_2 + 1 := ⟨_, rfl⟩
            refine lv_iinc (v := x_13376) (lv' := [(2, .int x_13376), (3, .int r_13353), (0, .ref (ad 3 0)), (1, .int i1)]) hx hb dX3_explains_73 hl (k := 3) rfl (by rw [ex_13376]; rfl) (by decide) rfl (fun ls hl => ?_)
            refine lv_goto (tgt := 2) hx hb dX3_explains_76 (by decide) ?_
            exact ih2 _ (by rw [← hm2]; exact ms_up (m := 1) ex_13376 (show bn 1 1 (1 : Int32) from bn_k (by decide)) B_13352 (bn_w (bn_eq ex_13376 (bn_add B_13352 (show bn 1 1 (1 : Int32) from bn_k (by decide)) (by decide))) (by decide) : bn 0 8 x_13376) (by decide)) x_13376 _ _  _ _ _ I (bn_w (bn_eq ex_13376 (bn_add B_13352 (show bn 1 1 (1 : Int32) from bn_k (by decide)) (by decide))) (by decide)) rfl Y (lv_sub hl [2, 3, 0] rfl)
          · refine lv_iconst (v := 0) hx hb dX3_explains_71 (by decide) ?_
            exact prI (post := fun r L1 f1 => bn 0 1 r ∧ SH (spC rs fc tc w q) nnC G ad L1 f1) S Y rfl (by decide) (by decide) hA1 ⟨bn_w (show bn 0 0 (0 : Int32) from bn_k (by decide)) (by decide), I⟩ dX3_explains_72
  refine lv_iconst (v := 0) hx hb dX3_explains_0 (by decide) ?_
  refine lv_istore_n (lv' := [(2, .int 0), (0, .ref (ad 3 0)), (1, .int i1)]) hx hb dX3_explains_1 rfl hl (by decide) rfl (fun ls hl => ?_)
  exact J_2 _ 0 _ _  _ _ _ I (bn_w (show bn 0 0 (0 : Int32) from bn_k (by decide)) (by decide)) rfl Y (lv_sub hl [1, 2, 0] rfl)
