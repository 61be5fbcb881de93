theorem dX12_isRelease_0 : decode cX12_isRelease 0 = .ok (.aload_n 0, 1) := by decide +kernel
theorem dX12_isRelease_1 : decode cX12_isRelease 1 = .ok (.getfield 98, 3) := by decide +kernel
theorem dX12_isRelease_4 : decode cX12_isRelease 4 = .ok (.iconst 2, 1) := by decide +kernel
theorem dX12_isRelease_5 : decode cX12_isRelease 5 = .ok (.if_icmp .ne 124, 3) := by decide +kernel
theorem dX12_isRelease_129 : decode cX12_isRelease 129 = .ok (.iconst 0, 1) := by decide +kernel
theorem dX12_isRelease_130 : decode cX12_isRelease 130 = .ok (.ireturn, 1) := by decide +kernel
theorem dX12_isRelease_8 : decode cX12_isRelease 8 = .ok (.aload_n 0, 1) := by decide +kernel
theorem dX12_isRelease_9 : decode cX12_isRelease 9 = .ok (.getfield 88, 3) := by decide +kernel
theorem dX12_isRelease_12 : decode cX12_isRelease 12 = .ok (.aload_n 0, 1) := by decide +kernel
theorem dX12_isRelease_13 : decode cX12_isRelease 13 = .ok (.getfield 95, 3) := by decide +kernel
theorem dX12_isRelease_16 : decode cX12_isRelease 16 = .ok (.isub, 1) := by decide +kernel
theorem dX12_isRelease_17 : decode cX12_isRelease 17 = .ok (.bipush 7, 2) := by decide +kernel
theorem dX12_isRelease_19 : decode cX12_isRelease 19 = .ok (.if_icmp .ne 110, 3) := by decide +kernel
theorem dX12_isRelease_22 : decode cX12_isRelease 22 = .ok (.aload_n 0, 1) := by decide +kernel
theorem dX12_isRelease_23 : decode cX12_isRelease 23 = .ok (.aload_n 0, 1) := by decide +kernel
theorem dX12_isRelease_24 : decode cX12_isRelease 24 = .ok (.getfield 95, 3) := by decide +kernel
theorem dX12_isRelease_27 : decode cX12_isRelease 27 = .ok (.invokevirtual 91, 3) := by decide +kernel
theorem dX12_isRelease_30 : decode cX12_isRelease 30 = .ok (.aload_n 0, 1) := by decide +kernel
theorem dX12_isRelease_31 : decode cX12_isRelease 31 = .ok (.aload_n 0, 1) := by decide +kernel
theorem dX12_isRelease_32 : decode cX12_isRelease 32 = .ok (.getfield 95, 3) := by decide +kernel
theorem dX12_isRelease_35 : decode cX12_isRelease 35 = .ok (.iconst 1, 1) := by decide +kernel
theorem dX12_isRelease_36 : decode cX12_isRelease 36 = .ok (.iadd, 1) := by decide +kernel
theorem dX12_isRelease_37 : decode cX12_isRelease 37 = .ok (.invokevirtual 91, 3) := by decide +kernel
theorem dX12_isRelease_40 : decode cX12_isRelease 40 = .ok (.aload_n 0, 1) := by decide +kernel
theorem dX12_isRelease_41 : decode cX12_isRelease 41 = .ok (.aload_n 0, 1) := by decide +kernel
theorem dX12_isRelease_42 : decode cX12_isRelease 42 = .ok (.getfield 95, 3) := by decide +kernel
theorem dX12_isRelease_45 : decode cX12_isRelease 45 = .ok (.iconst 2, 1) := by decide +kernel
theorem dX12_isRelease_46 : decode cX12_isRelease 46 = .ok (.iadd, 1) := by decide +kernel
theorem dX12_isRelease_47 : decode cX12_isRelease 47 = .ok (.invokevirtual 91, 3) := by decide +kernel
theorem dX12_isRelease_50 : decode cX12_isRelease 50 = .ok (.aload_n 0, 1) := by decide +kernel
theorem dX12_isRelease_51 : decode cX12_isRelease 51 = .ok (.aload_n 0, 1) := by decide +kernel
theorem dX12_isRelease_52 : decode cX12_isRelease 52 = .ok (.getfield 95, 3) := by decide +kernel
theorem dX12_isRelease_55 : decode cX12_isRelease 55 = .ok (.iconst 3, 1) := by decide +kernel
theorem dX12_isRelease_56 : decode cX12_isRelease 56 = .ok (.iadd, 1) := by decide +kernel
theorem dX12_isRelease_57 : decode cX12_isRelease 57 = .ok (.invokevirtual 91, 3) := by decide +kernel
theorem dX12_isRelease_60 : decode cX12_isRelease 60 = .ok (.invokestatic 128, 3) := by decide +kernel
theorem dX12_isRelease_63 : decode cX12_isRelease 63 = .ok (.bipush 114, 2) := by decide +kernel
theorem dX12_isRelease_65 : decode cX12_isRelease 65 = .ok (.bipush 101, 2) := by decide +kernel
theorem dX12_isRelease_67 : decode cX12_isRelease 67 = .ok (.bipush 108, 2) := by decide +kernel
theorem dX12_isRelease_69 : decode cX12_isRelease 69 = .ok (.bipush 101, 2) := by decide +kernel
theorem dX12_isRelease_71 : decode cX12_isRelease 71 = .ok (.invokestatic 128, 3) := by decide +kernel
theorem dX12_isRelease_74 : decode cX12_isRelease 74 = .ok (.lcmp, 1) := by decide +kernel
theorem dX12_isRelease_75 : decode cX12_isRelease 75 = .ok (.ifCond .ne 54, 3) := by decide +kernel
theorem dX12_isRelease_78 : decode cX12_isRelease 78 = .ok (.aload_n 0, 1) := by decide +kernel
theorem dX12_isRelease_79 : decode cX12_isRelease 79 = .ok (.aload_n 0, 1) := by decide +kernel
theorem dX12_isRelease_80 : decode cX12_isRelease 80 = .ok (.getfield 95, 3) := by decide +kernel
theorem dX12_isRelease_83 : decode cX12_isRelease 83 = .ok (.iconst 4, 1) := by decide +kernel
theorem dX12_isRelease_84 : decode cX12_isRelease 84 = .ok (.iadd, 1) := by decide +kernel
theorem dX12_isRelease_85 : decode cX12_isRelease 85 = .ok (.invokevirtual 91, 3) := by decide +kernel
theorem dX12_isRelease_88 : decode cX12_isRelease 88 = .ok (.aload_n 0, 1) := by decide +kernel
theorem dX12_isRelease_89 : decode cX12_isRelease 89 = .ok (.aload_n 0, 1) := by decide +kernel
theorem dX12_isRelease_90 : decode cX12_isRelease 90 = .ok (.getfield 95, 3) := by decide +kernel
theorem dX12_isRelease_93 : decode cX12_isRelease 93 = .ok (.iconst 5, 1) := by decide +kernel
theorem dX12_isRelease_94 : decode cX12_isRelease 94 = .ok (.iadd, 1) := by decide +kernel
theorem dX12_isRelease_95 : decode cX12_isRelease 95 = .ok (.invokevirtual 91, 3) := by decide +kernel
theorem dX12_isRelease_98 : decode cX12_isRelease 98 = .ok (.aload_n 0, 1) := by decide +kernel
theorem dX12_isRelease_99 : decode cX12_isRelease 99 = .ok (.aload_n 0, 1) := by decide +kernel
theorem dX12_isRelease_100 : decode cX12_isRelease 100 = .ok (.getfield 95, 3) := by decide +kernel
theorem dX12_isRelease_103 : decode cX12_isRelease 103 = .ok (.bipush 6, 2) := by decide +kernel
theorem dX12_isRelease_105 : decode cX12_isRelease 105 = .ok (.iadd, 1) := by decide +kernel
theorem dX12_isRelease_106 : decode cX12_isRelease 106 = .ok (.invokevirtual 91, 3) := by decide +kernel
theorem dX12_isRelease_109 : decode cX12_isRelease 109 = .ok (.invokestatic 124, 3) := by decide +kernel
theorem dX12_isRelease_112 : decode cX12_isRelease 112 = .ok (.bipush 97, 2) := by decide +kernel
theorem dX12_isRelease_114 : decode cX12_isRelease 114 = .ok (.bipush 115, 2) := by decide +kernel
theorem dX12_isRelease_116 : decode cX12_isRelease 116 = .ok (.bipush 101, 2) := by decide +kernel
theorem dX12_isRelease_118 : decode cX12_isRelease 118 = .ok (.invokestatic 124, 3) := by decide +kernel
theorem dX12_isRelease_121 : decode cX12_isRelease 121 = .ok (.lcmp, 1) := by decide +kernel
theorem dX12_isRelease_122 : decode cX12_isRelease 122 = .ok (.ifCond .ne 7, 3) := by decide +kernel
theorem dX12_isRelease_125 : decode cX12_isRelease 125 = .ok (.iconst 1, 1) := by decide +kernel
theorem dX12_isRelease_126 : decode cX12_isRelease 126 = .ok (.goto 4, 3) := by decide +kernel
theorem dX12_sortOf_0 : decode cX12_sortOf 0 = .ok (.aload_n 0, 1) := by decide +kernel
theorem dX12_sortOf_1 : decode cX12_sortOf 1 = .ok (.bipush 119, 2) := by decide +kernel
theorem dX12_sortOf_3 : decode cX12_sortOf 3 = .ok (.bipush 101, 2) := by decide +kernel
theorem dX12_sortOf_5 : decode cX12_sortOf 5 = .ok (.bipush 97, 2) := by decide +kernel
theorem dX12_sortOf_7 : decode cX12_sortOf 7 = .ok (.bipush 114, 2) := by decide +kernel
theorem dX12_sortOf_9 : decode cX12_sortOf 9 = .ok (.bipush 115, 2) := by decide +kernel
theorem dX12_sortOf_11 : decode cX12_sortOf 11 = .ok (.invokestatic 132, 3) := by decide +kernel
theorem dX12_sortOf_14 : decode cX12_sortOf 14 = .ok (.invokevirtual 187, 3) := by decide +kernel
theorem dX12_sortOf_17 : decode cX12_sortOf 17 = .ok (.ifCond .eq 5, 3) := by decide +kernel
theorem dX12_sortOf_22 : decode cX12_sortOf 22 = .ok (.aload_n 0, 1) := by decide +kernel
theorem dX12_sortOf_23 : decode cX12_sortOf 23 = .ok (.bipush 97, 2) := by decide +kernel
theorem dX12_sortOf_25 : decode cX12_sortOf 25 = .ok (.bipush 99, 2) := by decide +kernel
theorem dX12_sortOf_27 : decode cX12_sortOf 27 = .ok (.bipush 104, 2) := by decide +kernel
theorem dX12_sortOf_29 : decode cX12_sortOf 29 = .ok (.bipush 101, 2) := by decide +kernel
theorem dX12_sortOf_31 : decode cX12_sortOf 31 = .ok (.bipush 115, 2) := by decide +kernel
theorem dX12_sortOf_33 : decode cX12_sortOf 33 = .ok (.invokestatic 132, 3) := by decide +kernel
theorem dX12_sortOf_36 : decode cX12_sortOf 36 = .ok (.invokevirtual 187, 3) := by decide +kernel
theorem dX12_sortOf_39 : decode cX12_sortOf 39 = .ok (.ifCond .eq 5, 3) := by decide +kernel
theorem dX12_sortOf_44 : decode cX12_sortOf 44 = .ok (.aload_n 0, 1) := by decide +kernel
theorem dX12_sortOf_45 : decode cX12_sortOf 45 = .ok (.bipush 114, 2) := by decide +kernel
theorem dX12_sortOf_47 : decode cX12_sortOf 47 = .ok (.bipush 105, 2) := by decide +kernel
theorem dX12_sortOf_49 : decode cX12_sortOf 49 = .ok (.bipush 115, 2) := by decide +kernel
theorem dX12_sortOf_51 : decode cX12_sortOf 51 = .ok (.bipush 107, 2) := by decide +kernel
theorem dX12_sortOf_53 : decode cX12_sortOf 53 = .ok (.invokestatic 128, 3) := by decide +kernel
theorem dX12_sortOf_56 : decode cX12_sortOf 56 = .ok (.invokevirtual 187, 3) := by decide +kernel
theorem dX12_sortOf_59 : decode cX12_sortOf 59 = .ok (.ifCond .eq 5, 3) := by decide +kernel
theorem dX12_sortOf_64 : decode cX12_sortOf 64 = .ok (.aload_n 0, 1) := by decide +kernel
theorem dX12_sortOf_65 : decode cX12_sortOf 65 = .ok (.bipush 111, 2) := by decide +kernel
theorem dX12_sortOf_67 : decode cX12_sortOf 67 = .ok (.bipush 110, 2) := by decide +kernel
theorem dX12_sortOf_69 : decode cX12_sortOf 69 = .ok (.bipush 101, 2) := by decide +kernel
theorem dX12_sortOf_71 : decode cX12_sortOf 71 = .ok (.invokestatic 124, 3) := by decide +kernel
theorem dX12_sortOf_74 : decode cX12_sortOf 74 = .ok (.invokevirtual 187, 3) := by decide +kernel
theorem dX12_sortOf_77 : decode cX12_sortOf 77 = .ok (.ifCond .eq 5, 3) := by decide +kernel
theorem dX12_sortOf_82 : decode cX12_sortOf 82 = .ok (.aload_n 0, 1) := by decide +kernel
theorem dX12_sortOf_83 : decode cX12_sortOf 83 = .ok (.bipush 115, 2) := by decide +kernel
theorem dX12_sortOf_85 : decode cX12_sortOf 85 = .ok (.bipush 119, 2) := by decide +kernel
theorem dX12_sortOf_87 : decode cX12_sortOf 87 = .ok (.bipush 101, 2) := by decide +kernel
theorem dX12_sortOf_89 : decode cX12_sortOf 89 = .ok (.bipush 97, 2) := by decide +kernel
theorem dX12_sortOf_91 : decode cX12_sortOf 91 = .ok (.bipush 114, 2) := by decide +kernel
theorem dX12_sortOf_93 : decode cX12_sortOf 93 = .ok (.invokestatic 132, 3) := by decide +kernel
theorem dX12_sortOf_96 : decode cX12_sortOf 96 = .ok (.invokevirtual 187, 3) := by decide +kernel
theorem dX12_sortOf_99 : decode cX12_sortOf 99 = .ok (.ifCond .eq 5, 3) := by decide +kernel
theorem dX12_sortOf_104 : decode cX12_sortOf 104 = .ok (.aload_n 0, 1) := by decide +kernel
theorem dX12_sortOf_105 : decode cX12_sortOf 105 = .ok (.bipush 98, 2) := by decide +kernel
theorem dX12_sortOf_107 : decode cX12_sortOf 107 = .ok (.bipush 114, 2) := by decide +kernel
theorem dX12_sortOf_109 : decode cX12_sortOf 109 = .ok (.bipush 101, 2) := by decide +kernel
theorem dX12_sortOf_111 : decode cX12_sortOf 111 = .ok (.bipush 97, 2) := by decide +kernel
theorem dX12_sortOf_113 : decode cX12_sortOf 113 = .ok (.bipush 107, 2) := by decide +kernel
theorem dX12_sortOf_115 : decode cX12_sortOf 115 = .ok (.invokestatic 132, 3) := by decide +kernel
theorem dX12_sortOf_118 : decode cX12_sortOf 118 = .ok (.invokevirtual 187, 3) := by decide +kernel
theorem dX12_sortOf_121 : decode cX12_sortOf 121 = .ok (.ifCond .eq 6, 3) := by decide +kernel
theorem dX12_sortOf_127 : decode cX12_sortOf 127 = .ok (.aload_n 0, 1) := by decide +kernel
theorem dX12_sortOf_128 : decode cX12_sortOf 128 = .ok (.invokevirtual 235, 3) := by decide +kernel
theorem cw_X12_isRelease : CWv yX12_isRelease cX12_isRelease 1 (some .boolean) 0 := ⟨⟨⟨List.mem_of_getElem? (i := 137) (by decide +kernel), by decide +kernel⟩, ⟨List.mem_of_getElem? (i := 1670) (by decide +kernel), by decide +kernel⟩, by decide +kernel⟩, ⟨List.mem_of_getElem? (i := 1669) (by decide +kernel), by decide +kernel⟩, ⟨List.mem_of_getElem? (i := 55) (by decide +kernel), by decide +kernel⟩⟩
theorem km12_235 : inW (Cond.methodLink RX12 235 yX12_isRelease) := ⟨List.mem_of_getElem? (i := 1667) (by decide +kernel), by decide +kernel⟩
theorem dX12_sortOf_131 : decode cX12_sortOf 131 = .ok (.ifCond .eq 6, 3) := by decide +kernel
theorem dX12_sortOf_137 : decode cX12_sortOf 137 = .ok (.aload_n 0, 1) := by decide +kernel
theorem dX12_sortOf_138 : decode cX12_sortOf 138 = .ok (.bipush 107, 2) := by decide +kernel
theorem dX12_sortOf_140 : decode cX12_sortOf 140 = .ok (.bipush 110, 2) := by decide +kernel
theorem dX12_sortOf_142 : decode cX12_sortOf 142 = .ok (.bipush 101, 2) := by decide +kernel
theorem dX12_sortOf_144 : decode cX12_sortOf 144 = .ok (.bipush 101, 2) := by decide +kernel
theorem dX12_sortOf_146 : decode cX12_sortOf 146 = .ok (.bipush 108, 2) := by decide +kernel
theorem dX12_sortOf_148 : decode cX12_sortOf 148 = .ok (.invokestatic 132, 3) := by decide +kernel
theorem dX12_sortOf_151 : decode cX12_sortOf 151 = .ok (.invokevirtual 187, 3) := by decide +kernel
theorem dX12_sortOf_154 : decode cX12_sortOf 154 = .ok (.ifCond .eq 6, 3) := by decide +kernel
theorem dX12_sortOf_160 : decode cX12_sortOf 160 = .ok (.aload_n 0, 1) := by decide +kernel
theorem dX12_sortOf_161 : decode cX12_sortOf 161 = .ok (.bipush 115, 2) := by decide +kernel
theorem dX12_sortOf_163 : decode cX12_sortOf 163 = .ok (.bipush 107, 2) := by decide +kernel
theorem dX12_sortOf_165 : decode cX12_sortOf 165 = .ok (.bipush 97, 2) := by decide +kernel
theorem dX12_sortOf_167 : decode cX12_sortOf 167 = .ok (.bipush 116, 2) := by decide +kernel
theorem dX12_sortOf_169 : decode cX12_sortOf 169 = .ok (.bipush 101, 2) := by decide +kernel
theorem dX12_sortOf_171 : decode cX12_sortOf 171 = .ok (.invokestatic 132, 3) := by decide +kernel
theorem dX12_sortOf_174 : decode cX12_sortOf 174 = .ok (.invokevirtual 187, 3) := by decide +kernel
theorem dX12_sortOf_177 : decode cX12_sortOf 177 = .ok (.ifCond .eq 8, 3) := by decide +kernel
theorem dX12_sortOf_185 : decode cX12_sortOf 185 = .ok (.aload_n 0, 1) := by decide +kernel
theorem dX12_sortOf_186 : decode cX12_sortOf 186 = .ok (.bipush 100, 2) := by decide +kernel
theorem dX12_sortOf_188 : decode cX12_sortOf 188 = .ok (.bipush 97, 2) := by decide +kernel
theorem dX12_sortOf_190 : decode cX12_sortOf 190 = .ok (.bipush 121, 2) := by decide +kernel
theorem dX12_sortOf_192 : decode cX12_sortOf 192 = .ok (.invokestatic 124, 3) := by decide +kernel
theorem dX12_sortOf_195 : decode cX12_sortOf 195 = .ok (.invokevirtual 187, 3) := by decide +kernel
theorem dX12_sortOf_198 : decode cX12_sortOf 198 = .ok (.ifCond .eq 8, 3) := by decide +kernel
theorem dX12_sortOf_206 : decode cX12_sortOf 206 = .ok (.iconst (-1), 1) := by decide +kernel
theorem dX12_sortOf_207 : decode cX12_sortOf 207 = .ok (.ireturn, 1) := by decide +kernel
theorem dX12_sortOf_201 : decode cX12_sortOf 201 = .ok (.bipush 10, 2) := by decide +kernel
theorem dX12_sortOf_203 : decode cX12_sortOf 203 = .ok (.goto 4, 3) := by decide +kernel
theorem dX12_sortOf_180 : decode cX12_sortOf 180 = .ok (.bipush 9, 2) := by decide +kernel
theorem dX12_sortOf_182 : decode cX12_sortOf 182 = .ok (.goto 25, 3) := by decide +kernel
theorem dX12_sortOf_157 : decode cX12_sortOf 157 = .ok (.bipush 8, 2) := by decide +kernel
theorem dX12_sortOf_159 : decode cX12_sortOf 159 = .ok (.ireturn, 1) := by decide +kernel
theorem dX12_sortOf_134 : decode cX12_sortOf 134 = .ok (.bipush 7, 2) := by decide +kernel
theorem dX12_sortOf_136 : decode cX12_sortOf 136 = .ok (.ireturn, 1) := by decide +kernel
theorem dX12_sortOf_124 : decode cX12_sortOf 124 = .ok (.bipush 6, 2) := by decide +kernel
theorem dX12_sortOf_126 : decode cX12_sortOf 126 = .ok (.ireturn, 1) := by decide +kernel
theorem dX12_sortOf_102 : decode cX12_sortOf 102 = .ok (.iconst 4, 1) := by decide +kernel
theorem dX12_sortOf_103 : decode cX12_sortOf 103 = .ok (.ireturn, 1) := by decide +kernel
theorem dX12_sortOf_80 : decode cX12_sortOf 80 = .ok (.iconst 3, 1) := by decide +kernel
theorem dX12_sortOf_81 : decode cX12_sortOf 81 = .ok (.ireturn, 1) := by decide +kernel
theorem dX12_sortOf_62 : decode cX12_sortOf 62 = .ok (.iconst 2, 1) := by decide +kernel
theorem dX12_sortOf_63 : decode cX12_sortOf 63 = .ok (.ireturn, 1) := by decide +kernel
theorem dX12_sortOf_42 : decode cX12_sortOf 42 = .ok (.iconst 1, 1) := by decide +kernel
theorem dX12_sortOf_43 : decode cX12_sortOf 43 = .ok (.ireturn, 1) := by decide +kernel
theorem dX12_sortOf_20 : decode cX12_sortOf 20 = .ok (.iconst 0, 1) := by decide +kernel
theorem dX12_sortOf_21 : decode cX12_sortOf 21 = .ok (.ireturn, 1) := by decide +kernel
theorem dX12_clause_0 : decode cX12_clause 0 = .ok (.aload_n 0, 1) := by decide +kernel
theorem dX12_clause_1 : decode cX12_clause 1 = .ok (.invokevirtual 238, 3) := by decide +kernel
theorem cw_X12_sortOf : CWv yX12_sortOf cX12_sortOf 1 (some .int) 0 := ⟨⟨⟨List.mem_of_getElem? (i := 137) (by decide +kernel), by decide +kernel⟩, ⟨List.mem_of_getElem? (i := 1650) (by decide +kernel), by decide +kernel⟩, by decide +kernel⟩, ⟨List.mem_of_getElem? (i := 1649) (by decide +kernel), by decide +kernel⟩, ⟨List.mem_of_getElem? (i := 53) (by decide +kernel), by decide +kernel⟩⟩
theorem km12_238 : inW (Cond.methodLink RX12 238 yX12_sortOf) := ⟨List.mem_of_getElem? (i := 1647) (by decide +kernel), by decide +kernel⟩
theorem dX12_clause_4 : decode cX12_clause 4 = .ok (.istore_n 1, 1) := by decide +kernel
theorem dX12_clause_5 : decode cX12_clause 5 = .ok (.iload_n 1, 1) := by decide +kernel
theorem dX12_clause_6 : decode cX12_clause 6 = .ok (.ifCond .ge 5, 3) := by decide +kernel
theorem dX12_clause_11 : decode cX12_clause 11 = .ok (.iload_n 1, 1) := by decide +kernel
theorem dX12_clause_12 : decode cX12_clause 12 = .ok (.iconst 2, 1) := by decide +kernel
theorem dX12_clause_13 : decode cX12_clause 13 = .ok (.if_icmp .gt 16, 3) := by decide +kernel
theorem dX12_clause_29 : decode cX12_clause 29 = .ok (.aload_n 0, 1) := by decide +kernel
theorem dX12_clause_30 : decode cX12_clause 30 = .ok (.getfield 16, 3) := by decide +kernel
theorem dX12_clause_33 : decode cX12_clause 33 = .ok (.aload_n 0, 1) := by decide +kernel
theorem dX12_clause_34 : decode cX12_clause 34 = .ok (.getfield 136, 3) := by decide +kernel
theorem dX12_clause_37 : decode cX12_clause 37 = .ok (.iaload, 1) := by decide +kernel
theorem dX12_clause_38 : decode cX12_clause 38 = .ok (.istore_n 2, 1) := by decide +kernel
theorem dX12_clause_39 : decode cX12_clause 39 = .ok (.iload_n 2, 1) := by decide +kernel
theorem dX12_clause_40 : decode cX12_clause 40 = .ok (.bipush 24, 2) := by decide +kernel
theorem dX12_clause_42 : decode cX12_clause 42 = .ok (.if_icmp .ne 6, 3) := by decide +kernel
theorem dX12_clause_48 : decode cX12_clause 48 = .ok (.iload_n 1, 1) := by decide +kernel
theorem dX12_clause_49 : decode cX12_clause 49 = .ok (.iconst 2, 1) := by decide +kernel
theorem dX12_clause_50 : decode cX12_clause 50 = .ok (.if_icmp .gt 15, 3) := by decide +kernel
theorem dX12_clause_65 : decode cX12_clause 65 = .ok (.aload_n 0, 1) := by decide +kernel
theorem dX12_clause_66 : decode cX12_clause 66 = .ok (.iload_n 1, 1) := by decide +kernel
theorem dX12_clause_67 : decode cX12_clause 67 = .ok (.putfield 175, 3) := by decide +kernel
theorem dX12_clause_70 : decode cX12_clause 70 = .ok (.aload_n 0, 1) := by decide +kernel
theorem dX12_clause_71 : decode cX12_clause 71 = .ok (.invokevirtual 166, 3) := by decide +kernel
theorem dX12_clause_74 : decode cX12_clause 74 = .ok (.aload_n 0, 1) := by decide +kernel
theorem dX12_clause_75 : decode cX12_clause 75 = .ok (.getfield 136, 3) := by decide +kernel
theorem dX12_clause_78 : decode cX12_clause 78 = .ok (.iconst 1, 1) := by decide +kernel
theorem dX12_clause_79 : decode cX12_clause 79 = .ok (.iadd, 1) := by decide +kernel
theorem dX12_clause_80 : decode cX12_clause 80 = .ok (.iconst 5, 1) := by decide +kernel
theorem dX12_clause_81 : decode cX12_clause 81 = .ok (.iload_n 2, 1) := by decide +kernel
theorem dX12_clause_82 : decode cX12_clause 82 = .ok (.imul, 1) := by decide +kernel
theorem dX12_clause_83 : decode cX12_clause 83 = .ok (.iadd, 1) := by decide +kernel
theorem dX12_clause_84 : decode cX12_clause 84 = .ok (.istore_n 3, 1) := by decide +kernel
theorem dX12_clause_85 : decode cX12_clause 85 = .ok (.aload_n 0, 1) := by decide +kernel
theorem dX12_clause_86 : decode cX12_clause 86 = .ok (.getfield 16, 3) := by decide +kernel
theorem dX12_clause_89 : decode cX12_clause 89 = .ok (.iload_n 3, 1) := by decide +kernel
theorem dX12_clause_90 : decode cX12_clause 90 = .ok (.iload_n 1, 1) := by decide +kernel
theorem dX12_clause_91 : decode cX12_clause 91 = .ok (.iastore, 1) := by decide +kernel
theorem dX12_clause_92 : decode cX12_clause 92 = .ok (.aload_n 0, 1) := by decide +kernel
theorem dX12_clause_93 : decode cX12_clause 93 = .ok (.iload_n 1, 1) := by decide +kernel
theorem dX12_clause_94 : decode cX12_clause 94 = .ok (.iload_n 3, 1) := by decide +kernel
theorem dX12_clause_95 : decode cX12_clause 95 = .ok (.invokevirtual 248, 3) := by decide +kernel
theorem cw_X12_body : CWv yX12_body cX12_body 3 (some .int) 2 := ⟨⟨⟨List.mem_of_getElem? (i := 137) (by decide +kernel), by decide +kernel⟩, ⟨List.mem_of_getElem? (i := 1677) (by decide +kernel), by decide +kernel⟩, by decide +kernel⟩, ⟨List.mem_of_getElem? (i := 1676) (by decide +kernel), by decide +kernel⟩, ⟨List.mem_of_getElem? (i := 56) (by decide +kernel), by decide +kernel⟩⟩
theorem km12_248 : inW (Cond.methodLink RX12 248 yX12_body) := ⟨List.mem_of_getElem? (i := 1674) (by decide +kernel), by decide +kernel⟩
theorem dX12_clause_98 : decode cX12_clause 98 = .ok (.istore 4, 2) := by decide +kernel
theorem dX12_clause_100 : decode cX12_clause 100 = .ok (.iload 4, 2) := by decide +kernel
theorem dX12_clause_102 : decode cX12_clause 102 = .ok (.ifCond .eq 6, 3) := by decide +kernel
theorem dX12_clause_108 : decode cX12_clause 108 = .ok (.aload_n 0, 1) := by decide +kernel
theorem dX12_clause_109 : decode cX12_clause 109 = .ok (.getfield 16, 3) := by decide +kernel
theorem dX12_clause_112 : decode cX12_clause 112 = .ok (.aload_n 0, 1) := by decide +kernel
theorem dX12_clause_113 : decode cX12_clause 113 = .ok (.getfield 136, 3) := by decide +kernel
theorem dX12_clause_116 : decode cX12_clause 116 = .ok (.dup2, 1) := by decide +kernel
theorem dX12_clause_117 : decode cX12_clause 117 = .ok (.iaload, 1) := by decide +kernel
theorem dX12_clause_118 : decode cX12_clause 118 = .ok (.iconst 1, 1) := by decide +kernel
theorem dX12_clause_119 : decode cX12_clause 119 = .ok (.iadd, 1) := by decide +kernel
theorem dX12_clause_120 : decode cX12_clause 120 = .ok (.iastore, 1) := by decide +kernel
theorem dX12_clause_121 : decode cX12_clause 121 = .ok (.aload_n 0, 1) := by decide +kernel
theorem dX12_clause_122 : decode cX12_clause 122 = .ok (.getfield 98, 3) := by decide +kernel
theorem dX12_clause_125 : decode cX12_clause 125 = .ok (.bipush 59, 2) := by decide +kernel
theorem dX12_clause_127 : decode cX12_clause 127 = .ok (.if_icmp .eq 5, 3) := by decide +kernel
theorem dX12_clause_132 : decode cX12_clause 132 = .ok (.aload_n 0, 1) := by decide +kernel
theorem dX12_clause_133 : decode cX12_clause 133 = .ok (.invokevirtual 166, 3) := by decide +kernel
theorem dX12_clause_136 : decode cX12_clause 136 = .ok (.iconst 0, 1) := by decide +kernel
theorem dX12_clause_137 : decode cX12_clause 137 = .ok (.ireturn, 1) := by decide +kernel
theorem dX12_clause_130 : decode cX12_clause 130 = .ok (.iconst 1, 1) := by decide +kernel
theorem dX12_clause_131 : decode cX12_clause 131 = .ok (.ireturn, 1) := by decide +kernel
theorem dX12_clause_105 : decode cX12_clause 105 = .ok (.iload 4, 2) := by decide +kernel
theorem dX12_clause_107 : decode cX12_clause 107 = .ok (.ireturn, 1) := by decide +kernel
theorem dX12_clause_45 : decode cX12_clause 45 = .ok (.bipush 6, 2) := by decide +kernel
theorem dX12_clause_47 : decode cX12_clause 47 = .ok (.ireturn, 1) := by decide +kernel
theorem dX12_clause_16 : decode cX12_clause 16 = .ok (.aload_n 0, 1) := by decide +kernel
theorem dX12_clause_17 : decode cX12_clause 17 = .ok (.getfield 241, 3) := by decide +kernel
theorem kf12_241 : inW (Cond.fieldLink RX12 241 "KneeOathsModel" "once" "I") := ⟨List.mem_of_getElem? (i := 1519) (by decide +kernel), by decide +kernel⟩
theorem dX12_clause_20 : decode cX12_clause 20 = .ok (.iload_n 1, 1) := by decide +kernel
theorem dX12_clause_21 : decode cX12_clause 21 = .ok (.invokestatic 244, 3) := by decide +kernel
theorem dX12_clause_24 : decode cX12_clause 24 = .ok (.ifCond .eq 5, 3) := by decide +kernel
theorem dX12_clause_53 : decode cX12_clause 53 = .ok (.aload_n 0, 1) := by decide +kernel
theorem dX12_clause_54 : decode cX12_clause 54 = .ok (.dup, 1) := by decide +kernel
theorem dX12_clause_55 : decode cX12_clause 55 = .ok (.getfield 241, 3) := by decide +kernel
theorem dX12_clause_58 : decode cX12_clause 58 = .ok (.iconst 1, 1) := by decide +kernel
theorem dX12_clause_59 : decode cX12_clause 59 = .ok (.iload_n 1, 1) := by decide +kernel
theorem dX12_clause_60 : decode cX12_clause 60 = .ok (.ishl, 1) := by decide +kernel
theorem dX12_clause_61 : decode cX12_clause 61 = .ok (.ior, 1) := by decide +kernel
theorem dX12_clause_62 : decode cX12_clause 62 = .ok (.putfield 241, 3) := by decide +kernel
theorem dX12_clause_27 : decode cX12_clause 27 = .ok (.iconst 4, 1) := by decide +kernel
theorem dX12_clause_28 : decode cX12_clause 28 = .ok (.ireturn, 1) := by decide +kernel
theorem dX12_clause_9 : decode cX12_clause 9 = .ok (.iconst 1, 1) := by decide +kernel
theorem dX12_clause_10 : decode cX12_clause 10 = .ok (.ireturn, 1) := by decide +kernel
theorem dX12_readText_0 : decode cX12_readText 0 = .ok (.aload_n 0, 1) := by decide +kernel
theorem dX12_readText_1 : decode cX12_readText 1 = .ok (.sipush 729, 3) := by decide +kernel
theorem dX12_readText_4 : decode cX12_readText 4 = .ok (.aload_n 0, 1) := by decide +kernel
theorem dX12_readText_5 : decode cX12_readText 5 = .ok (.getfield 7, 3) := by decide +kernel
theorem dX12_readText_8 : decode cX12_readText 8 = .ok (.iconst 1, 1) := by decide +kernel
theorem dX12_readText_9 : decode cX12_readText 9 = .ok (.iaload, 1) := by decide +kernel
theorem dX12_readText_10 : decode cX12_readText 10 = .ok (.imul, 1) := by decide +kernel
theorem dX12_readText_11 : decode cX12_readText 11 = .ok (.putfield 136, 3) := by decide +kernel
theorem dX12_readText_14 : decode cX12_readText 14 = .ok (.aload_n 0, 1) := by decide +kernel
theorem dX12_readText_15 : decode cX12_readText 15 = .ok (.getfield 16, 3) := by decide +kernel
theorem dX12_readText_18 : decode cX12_readText 18 = .ok (.aload_n 0, 1) := by decide +kernel
theorem dX12_readText_19 : decode cX12_readText 19 = .ok (.getfield 136, 3) := by decide +kernel
theorem dX12_readText_22 : decode cX12_readText 22 = .ok (.iconst 0, 1) := by decide +kernel
theorem dX12_readText_23 : decode cX12_readText 23 = .ok (.iastore, 1) := by decide +kernel
theorem dX12_readText_24 : decode cX12_readText 24 = .ok (.aload_n 0, 1) := by decide +kernel
theorem dX12_readText_25 : decode cX12_readText 25 = .ok (.iconst 0, 1) := by decide +kernel
theorem dX12_readText_26 : decode cX12_readText 26 = .ok (.putfield 139, 3) := by decide +kernel
theorem dX12_readText_29 : decode cX12_readText 29 = .ok (.aload_n 0, 1) := by decide +kernel
theorem dX12_readText_30 : decode cX12_readText 30 = .ok (.iconst 0, 1) := by decide +kernel
theorem dX12_readText_31 : decode cX12_readText 31 = .ok (.putfield 241, 3) := by decide +kernel
theorem dX12_readText_34 : decode cX12_readText 34 = .ok (.aload_n 0, 1) := by decide +kernel
theorem dX12_readText_35 : decode cX12_readText 35 = .ok (.iconst 0, 1) := by decide +kernel
theorem dX12_readText_36 : decode cX12_readText 36 = .ok (.putfield 88, 3) := by decide +kernel
theorem dX12_readText_39 : decode cX12_readText 39 = .ok (.aload_n 0, 1) := by decide +kernel
theorem dX12_readText_40 : decode cX12_readText 40 = .ok (.invokevirtual 166, 3) := by decide +kernel
theorem dX12_readText_43 : decode cX12_readText 43 = .ok (.aload_n 0, 1) := by decide +kernel
theorem dX12_readText_44 : decode cX12_readText 44 = .ok (.getfield 98, 3) := by decide +kernel
theorem dX12_readText_47 : decode cX12_readText 47 = .ok (.ifCond .eq 17, 3) := by decide +kernel
theorem dX12_readText_64 : decode cX12_readText 64 = .ok (.iconst 0, 1) := by decide +kernel
theorem dX12_readText_65 : decode cX12_readText 65 = .ok (.ireturn, 1) := by decide +kernel
theorem dX12_readText_50 : decode cX12_readText 50 = .ok (.aload_n 0, 1) := by decide +kernel
theorem dX12_readText_51 : decode cX12_readText 51 = .ok (.invokevirtual 251, 3) := by decide +kernel
theorem cw_X12_clause : CWv yX12_clause cX12_clause 5 (some .int) 0 := ⟨⟨⟨List.mem_of_getElem? (i := 137) (by decide +kernel), by decide +kernel⟩, ⟨List.mem_of_getElem? (i := 1646) (by decide +kernel), by decide +kernel⟩, by decide +kernel⟩, ⟨List.mem_of_getElem? (i := 1645) (by decide +kernel), by decide +kernel⟩, ⟨List.mem_of_getElem? (i := 52) (by decide +kernel), by decide +kernel⟩⟩
theorem km12_251 : inW (Cond.methodLink RX12 251 yX12_clause) := ⟨List.mem_of_getElem? (i := 1643) (by decide +kernel), by decide +kernel⟩
theorem dX12_readText_54 : decode cX12_readText 54 = .ok (.istore_n 1, 1) := by decide +kernel
theorem dX12_readText_55 : decode cX12_readText 55 = .ok (.iload_n 1, 1) := by decide +kernel
theorem dX12_readText_56 : decode cX12_readText 56 = .ok (.ifCond .eq 5, 3) := by decide +kernel
theorem dX12_readText_61 : decode cX12_readText 61 = .ok (.goto (-18), 3) := by decide +kernel
theorem dX12_readText_59 : decode cX12_readText 59 = .ok (.iload_n 1, 1) := by decide +kernel
theorem dX12_readText_60 : decode cX12_readText 60 = .ok (.ireturn, 1) := by decide +kernel
theorem dX12_text_0 : decode cX12_text 0 = .ok (.aload_n 0, 1) := by decide +kernel
theorem dX12_text_1 : decode cX12_text 1 = .ok (.getfield 7, 3) := by decide +kernel
theorem dX12_text_4 : decode cX12_text 4 = .ok (.iconst 1, 1) := by decide +kernel
theorem dX12_text_5 : decode cX12_text 5 = .ok (.iaload, 1) := by decide +kernel
theorem dX12_text_6 : decode cX12_text 6 = .ok (.iconst 4, 1) := by decide +kernel
theorem dX12_text_7 : decode cX12_text 7 = .ok (.if_icmp .ne 5, 3) := by decide +kernel
theorem dX12_text_12 : decode cX12_text 12 = .ok (.aload_n 0, 1) := by decide +kernel
theorem dX12_text_13 : decode cX12_text 13 = .ok (.aload_n 0, 1) := by decide +kernel
theorem dX12_text_14 : decode cX12_text 14 = .ok (.invokevirtual 254, 3) := by decide +kernel
theorem cw_X12_readText : CWv yX12_readText cX12_readText 2 (some .int) 0 := ⟨⟨⟨List.mem_of_getElem? (i := 137) (by decide +kernel), by decide +kernel⟩, ⟨List.mem_of_getElem? (i := 1623) (by decide +kernel), by decide +kernel⟩, by decide +kernel⟩, ⟨List.mem_of_getElem? (i := 1622) (by decide +kernel), by decide +kernel⟩, ⟨List.mem_of_getElem? (i := 49) (by decide +kernel), by decide +kernel⟩⟩
theorem km12_254 : inW (Cond.methodLink RX12 254 yX12_readText) := ⟨List.mem_of_getElem? (i := 1620) (by decide +kernel), by decide +kernel⟩
theorem dX12_text_17 : decode cX12_text 17 = .ok (.putfield 22, 3) := by decide +kernel
theorem dX12_text_20 : decode cX12_text 20 = .ok (.aload_n 0, 1) := by decide +kernel
theorem dX12_text_21 : decode cX12_text 21 = .ok (.aload_n 0, 1) := by decide +kernel
theorem dX12_text_22 : decode cX12_text 22 = .ok (.getfield 22, 3) := by decide +kernel
theorem dX12_text_25 : decode cX12_text 25 = .ok (.ifCond .ne 7, 3) := by decide +kernel
theorem dX12_text_32 : decode cX12_text 32 = .ok (.aload_n 0, 1) := by decide +kernel
theorem dX12_text_33 : decode cX12_text 33 = .ok (.getfield 95, 3) := by decide +kernel
theorem dX12_text_36 : decode cX12_text 36 = .ok (.putfield 26, 3) := by decide +kernel
theorem dX12_text_39 : decode cX12_text 39 = .ok (.aload_n 0, 1) := by decide +kernel
theorem dX12_text_40 : decode cX12_text 40 = .ok (.iconst 0, 1) := by decide +kernel
theorem dX12_text_41 : decode cX12_text 41 = .ok (.putfield 81, 3) := by decide +kernel
theorem dX12_text_44 : decode cX12_text 44 = .ok (.aload_n 0, 1) := by decide +kernel
theorem dX12_text_45 : decode cX12_text 45 = .ok (.getfield 22, 3) := by decide +kernel
theorem dX12_text_48 : decode cX12_text 48 = .ok (.ifCond .eq 5, 3) := by decide +kernel
theorem dX12_text_51 : decode cX12_text 51 = .ok (.iconst (-1), 1) := by decide +kernel
theorem dX12_text_52 : decode cX12_text 52 = .ok (.ireturn, 1) := by decide +kernel
theorem dX12_text_28 : decode cX12_text 28 = .ok (.iconst (-1), 1) := by decide +kernel
theorem dX12_text_29 : decode cX12_text 29 = .ok (.goto 7, 3) := by decide +kernel
theorem dX12_text_53 : decode cX12_text 53 = .ok (.aload_n 0, 1) := by decide +kernel
theorem dX12_text_54 : decode cX12_text 54 = .ok (.getfield 7, 3) := by decide +kernel
theorem dX12_text_57 : decode cX12_text 57 = .ok (.iconst 1, 1) := by decide +kernel
theorem dX12_text_58 : decode cX12_text 58 = .ok (.dup2, 1) := by decide +kernel
theorem dX12_text_59 : decode cX12_text 59 = .ok (.iaload, 1) := by decide +kernel
theorem dX12_text_60 : decode cX12_text 60 = .ok (.iconst 1, 1) := by decide +kernel
theorem dX12_text_61 : decode cX12_text 61 = .ok (.iadd, 1) := by decide +kernel
theorem dX12_text_62 : decode cX12_text 62 = .ok (.iastore, 1) := by decide +kernel
theorem dX12_text_63 : decode cX12_text 63 = .ok (.aload_n 0, 1) := by decide +kernel
theorem dX12_text_64 : decode cX12_text 64 = .ok (.getfield 7, 3) := by decide +kernel
theorem dX12_text_67 : decode cX12_text 67 = .ok (.iconst 1, 1) := by decide +kernel
theorem dX12_text_68 : decode cX12_text 68 = .ok (.iaload, 1) := by decide +kernel
theorem dX12_text_69 : decode cX12_text 69 = .ok (.iconst 1, 1) := by decide +kernel
theorem dX12_text_70 : decode cX12_text 70 = .ok (.isub, 1) := by decide +kernel
theorem dX12_text_71 : decode cX12_text 71 = .ok (.ireturn, 1) := by decide +kernel
theorem dX12_text_10 : decode cX12_text 10 = .ok (.iconst (-1), 1) := by decide +kernel
theorem dX12_text_11 : decode cX12_text 11 = .ok (.ireturn, 1) := by decide +kernel
set_option maxHeartbeats 4000000 in
set_option maxRecDepth 100000 in
theorem x_X12_isRelease {l : Launch} {G : GG}  {L : List Nat} {f : HF} {ad : Nat → Nat → Nat} {pa : (Nat → Int32) → Prop} {PA : (Nat → Int32) → Prop} {PI : (Nat → Int32) → Prop} {PX : (Nat → Int32) → Prop} {td fa fp at9 ps9 tk nu t0 wr so pd op9 cg iw on9 is9 se : Int32} {wd : Int64} {gt : Nat → Int32} (I : SH (spM PA PI PX pa) nnM G ad L f) (p_ad_0_0 : pt L f (ad 0 0) (.inr (12, [.ref (ad 1 0), .ref (ad 2 0), .ref (ad 3 0), .ref (ad 4 0), .int td, .int fa, .int fp, .int at9, .int ps9, .int tk, .int nu, .long wd, .int t0, .int wr, .int so, .ref (ad 5 0), .ref (ad 6 0), .int pd, .int op9, .int cg, .int iw, .int on9, .ref (ad 7 0), .ref (ad 8 0), .ref (ad 9 0), .int is9, .ref (ad 10 0), .ref (ad 11 0), .ref (ad 12 0), .ref (ad 13 0), .int se, .ref (ad 14 0)]))) (p_ad_4_0 : pt L f (ad 4 0) (.inl (G.2 0, 300, .inl gt))) : PMp l yX12_isRelease cX12_isRelease 1 .boolean 3 0 0 G [.ref (ad 0 0)] L f (fun r => (bn 0 1 r ∧ (¬ r = 0 → tk = 2))) := by
  refine PMi.of (post := fun r L1 f1 => ((bn 0 1 r ∧ (¬ r = 0 → tk = 2))) ∧ L1 = L ∧ f1 = f) (own := RX12) (by decide) rfl (Nat.le_of_ble_eq_true rfl) (fun sz p e s m args below meth c A ls hA1 hname S Y hl => ?_)
  have hx := S.hx
  have hb := S.hb
  have hl : lv_has ls 1 [(0, .ref (ad 0 0))] := hl
  obtain ⟨bfe_4, bfe_7, bfe_8, bfe_12, bfe_13, bfe_17, bfe_18, bfe_19, bfe_20, bfe_25⟩ := obM I p_ad_0_0
  refine lv_aload_n hx hb dX12_isRelease_0 rfl (lv_at hl 0 rfl) ?_
  refine pg_get S Y ok_X12 9 (by decide) kf12_98 (v := .int tk) p_ad_0_0 rfl dX12_isRelease_1 ?_
  refine lv_iconst (v := 2) hx hb dX12_isRelease_4 (by decide) ?_
  refine lv_icmp_ne (tgt := 129) hx hb dX12_isRelease_5 (by decide) (fun c_89461 => ?_) (fun c_89461 => ?_)
  · refine lv_iconst (v := 0) hx hb dX12_isRelease_129 (by decide) ?_
    exact prI (post := fun r L1 f1 => ((bn 0 1 r ∧ (¬ r = 0 → tk = 2))) ∧ L1 = L ∧ f1 = f) S Y rfl (by decide) (by decide) hA1 ⟨⟨bn_k (by decide), fun h => absurd rfl h⟩, rfl, rfl⟩ dX12_isRelease_130
  · have B_89462 : bn 2 2 tk := bn_w (bn_eq c_89461 (show bn 2 2 (2 : Int32) from bn_k (by decide))) (by decide)
    refine lv_aload_n hx hb dX12_isRelease_8 rfl (lv_at hl 0 rfl) ?_
    refine pg_get S Y ok_X12 7 (by decide) kf12_88 (v := .int at9) p_ad_0_0 rfl dX12_isRelease_9 ?_
    refine lv_aload_n hx hb dX12_isRelease_12 rfl (lv_at hl 0 rfl) ?_
    refine pg_get S Y ok_X12 8 (by decide) kf12_95 (v := .int ps9) p_ad_0_0 rfl dX12_isRelease_13 ?_
    refine lv_isub hx hb dX12_isRelease_16 ?_
    refine lv_topi (fun x_89463 ex_89463 => ?_)
    refine lv_bipush (v := 7) hx hb dX12_isRelease_17 (by decide) ?_
    refine lv_icmp_ne (tgt := 129) hx hb dX12_isRelease_19 (by decide) (fun c_89464 => ?_) (fun c_89464 => ?_)
    · refine lv_iconst (v := 0) hx hb dX12_isRelease_129 (by decide) ?_
      exact prI (post := fun r L1 f1 => ((bn 0 1 r ∧ (¬ r = 0 → tk = 2))) ∧ L1 = L ∧ f1 = f) S Y rfl (by decide) (by decide) hA1 ⟨⟨bn_k (by decide), fun h => absurd rfl h⟩, rfl, rfl⟩ dX12_isRelease_130
    · have B_89465 : bn 7 7 x_89463 := bn_w (bn_eq c_89464 (show bn 7 7 (7 : Int32) from bn_k (by decide))) (by decide)
      refine lv_aload_n hx hb dX12_isRelease_22 rfl (lv_at hl 0 rfl) ?_
      refine lv_aload_n hx hb dX12_isRelease_23 rfl (lv_at hl 0 rfl) ?_
      refine pg_get S Y ok_X12 8 (by decide) kf12_95 (v := .int ps9) p_ad_0_0 rfl dX12_isRelease_24 ?_
      refine cVp (As := [.int ps9]) (rest := []) S Y (x_X12_byteAt (l := l) I p_ad_0_0 p_ad_4_0 (bn_w bfe_8 (by decide))) cw_X12_byteAt km12_91 p_ad_0_0 ok_X12.1 rfl rfl ⟨Nat.le_of_ble_eq_true rfl, Nat.le_of_ble_eq_true rfl⟩ hl.1 rfl (Nat.le_of_ble_eq_true rfl) ⟨Nat.le_of_ble_eq_true rfl, Nat.le_of_ble_eq_true rfl⟩ dX12_isRelease_27 (fun r_89466 H locs er_89466 Y => ?_)
      refine lv_aload_n hx hb dX12_isRelease_30 rfl (lv_at hl 0 rfl) ?_
      refine lv_aload_n hx hb dX12_isRelease_31 rfl (lv_at hl 0 rfl) ?_
      refine pg_get S Y ok_X12 8 (by decide) kf12_95 (v := .int ps9) p_ad_0_0 rfl dX12_isRelease_32 ?_
      refine lv_iconst (v := 1) hx hb dX12_isRelease_35 (by decide) ?_
      refine lv_iadd hx hb dX12_isRelease_36 ?_
      refine lv_topi (fun x_89467 ex_89467 => ?_)
      refine cVp (As := [.int x_89467]) (rest := [.int r_89466]) S Y (x_X12_byteAt (l := l) I p_ad_0_0 p_ad_4_0 (bn_w (bn_eq ex_89467 (bn_add bfe_8 (show bn 1 1 (1 : Int32) from bn_k (by decide)) (by decide))) (by decide))) cw_X12_byteAt km12_91 p_ad_0_0 ok_X12.1 rfl rfl ⟨Nat.le_of_ble_eq_true rfl, Nat.le_of_ble_eq_true rfl⟩ hl.1 rfl (Nat.le_of_ble_eq_true rfl) ⟨Nat.le_of_ble_eq_true rfl, Nat.le_of_ble_eq_true rfl⟩ dX12_isRelease_37 (fun r_89468 H locs er_89468 Y => ?_)
      refine lv_aload_n hx hb dX12_isRelease_40 rfl (lv_at hl 0 rfl) ?_
      refine lv_aload_n hx hb dX12_isRelease_41 rfl (lv_at hl 0 rfl) ?_
      refine pg_get S Y ok_X12 8 (by decide) kf12_95 (v := .int ps9) p_ad_0_0 rfl dX12_isRelease_42 ?_
      refine lv_iconst (v := 2) hx hb dX12_isRelease_45 (by decide) ?_
      refine lv_iadd hx hb dX12_isRelease_46 ?_
      refine lv_topi (fun x_89469 ex_89469 => ?_)
      refine cVp (As := [.int x_89469]) (rest := [.int r_89468, .int r_89466]) S Y (x_X12_byteAt (l := l) I p_ad_0_0 p_ad_4_0 (bn_w (bn_eq ex_89469 (bn_add bfe_8 (show bn 2 2 (2 : Int32) from bn_k (by decide)) (by decide))) (by decide))) cw_X12_byteAt km12_91 p_ad_0_0 ok_X12.1 rfl rfl ⟨Nat.le_of_ble_eq_true rfl, Nat.le_of_ble_eq_true rfl⟩ hl.1 rfl (Nat.le_of_ble_eq_true rfl) ⟨Nat.le_of_ble_eq_true rfl, Nat.le_of_ble_eq_true rfl⟩ dX12_isRelease_47 (fun r_89470 H locs er_89470 Y => ?_)
      refine lv_aload_n hx hb dX12_isRelease_50 rfl (lv_at hl 0 rfl) ?_
      refine lv_aload_n hx hb dX12_isRelease_51 rfl (lv_at hl 0 rfl) ?_
      refine pg_get S Y ok_X12 8 (by decide) kf12_95 (v := .int ps9) p_ad_0_0 rfl dX12_isRelease_52 ?_
      refine lv_iconst (v := 3) hx hb dX12_isRelease_55 (by decide) ?_
      refine lv_iadd hx hb dX12_isRelease_56 ?_
      refine lv_topi (fun x_89471 ex_89471 => ?_)
      refine cVp (As := [.int x_89471]) (rest := [.int r_89470, .int r_89468, .int r_89466]) S Y (x_X12_byteAt (l := l) I p_ad_0_0 p_ad_4_0 (bn_w (bn_eq ex_89471 (bn_add bfe_8 (show bn 3 3 (3 : Int32) from bn_k (by decide)) (by decide))) (by decide))) cw_X12_byteAt km12_91 p_ad_0_0 ok_X12.1 rfl rfl ⟨Nat.le_of_ble_eq_true rfl, Nat.le_of_ble_eq_true rfl⟩ hl.1 rfl (Nat.le_of_ble_eq_true rfl) ⟨Nat.le_of_ble_eq_true rfl, Nat.le_of_ble_eq_true rfl⟩ dX12_isRelease_57 (fun r_89472 H locs er_89472 Y => ?_)
      refine cSlp (As := [.int r_89466, .int r_89468, .int r_89470, .int r_89472]) (rest := []) S Y (x_X12_w4 (l := l) ) cw_X12_w4 km12_128 rfl ⟨Nat.le_of_ble_eq_true rfl, Nat.le_of_ble_eq_true rfl⟩ hl.1 rfl (Nat.le_of_ble_eq_true rfl) ⟨Nat.le_of_ble_eq_true rfl, Nat.le_of_ble_eq_true rfl⟩ dX12_isRelease_60 (fun r_89473 H locs er_89473 Y => ?_)
      refine lv_bipush (v := 114) hx hb dX12_isRelease_63 (by decide) ?_
      refine lv_bipush (v := 101) hx hb dX12_isRelease_65 (by decide) ?_
      refine lv_bipush (v := 108) hx hb dX12_isRelease_67 (by decide) ?_
      refine lv_bipush (v := 101) hx hb dX12_isRelease_69 (by decide) ?_
      refine cSlp (As := [.int 114, .int 101, .int 108, .int 101]) (rest := [.long r_89473]) S Y (x_X12_w4 (l := l) ) cw_X12_w4 km12_128 rfl ⟨Nat.le_of_ble_eq_true rfl, Nat.le_of_ble_eq_true rfl⟩ hl.1 rfl (Nat.le_of_ble_eq_true rfl) ⟨Nat.le_of_ble_eq_true rfl, Nat.le_of_ble_eq_true rfl⟩ dX12_isRelease_71 (fun r_89474 H locs er_89474 Y => ?_)
      refine W.lcmp hx hb dX12_isRelease_74 ?_
      refine lv_topi (fun x_89475 ex_89475 => ?_)
      refine lv_if_ne (tgt := 129) hx hb dX12_isRelease_75 (by decide) (fun c_89476 => ?_) (fun c_89476 => ?_)
      · refine lv_iconst (v := 0) hx hb dX12_isRelease_129 (by decide) ?_
        exact prI (post := fun r L1 f1 => ((bn 0 1 r ∧ (¬ r = 0 → tk = 2))) ∧ L1 = L ∧ f1 = f) S Y rfl (by decide) (by decide) hA1 ⟨⟨bn_k (by decide), fun h => absurd rfl h⟩, rfl, rfl⟩ dX12_isRelease_130
      · have B_89477 : bn 0 0 x_89475 := bn_w (bn_eq c_89476 (show bn 0 0 (0 : Int32) from bn_k (by decide))) (by decide)
        refine lv_aload_n hx hb dX12_isRelease_78 rfl (lv_at hl 0 rfl) ?_
        refine lv_aload_n hx hb dX12_isRelease_79 rfl (lv_at hl 0 rfl) ?_
        refine pg_get S Y ok_X12 8 (by decide) kf12_95 (v := .int ps9) p_ad_0_0 rfl dX12_isRelease_80 ?_
        refine lv_iconst (v := 4) hx hb dX12_isRelease_83 (by decide) ?_
        refine lv_iadd hx hb dX12_isRelease_84 ?_
        refine lv_topi (fun x_89478 ex_89478 => ?_)
        refine cVp (As := [.int x_89478]) (rest := []) S Y (x_X12_byteAt (l := l) I p_ad_0_0 p_ad_4_0 (bn_w (bn_eq ex_89478 (bn_add bfe_8 (show bn 4 4 (4 : Int32) from bn_k (by decide)) (by decide))) (by decide))) cw_X12_byteAt km12_91 p_ad_0_0 ok_X12.1 rfl rfl ⟨Nat.le_of_ble_eq_true rfl, Nat.le_of_ble_eq_true rfl⟩ hl.1 rfl (Nat.le_of_ble_eq_true rfl) ⟨Nat.le_of_ble_eq_true rfl, Nat.le_of_ble_eq_true rfl⟩ dX12_isRelease_85 (fun r_89479 H locs er_89479 Y => ?_)
        refine lv_aload_n hx hb dX12_isRelease_88 rfl (lv_at hl 0 rfl) ?_
        refine lv_aload_n hx hb dX12_isRelease_89 rfl (lv_at hl 0 rfl) ?_
        refine pg_get S Y ok_X12 8 (by decide) kf12_95 (v := .int ps9) p_ad_0_0 rfl dX12_isRelease_90 ?_
        refine lv_iconst (v := 5) hx hb dX12_isRelease_93 (by decide) ?_
        refine lv_iadd hx hb dX12_isRelease_94 ?_
        refine lv_topi (fun x_89480 ex_89480 => ?_)
        refine cVp (As := [.int x_89480]) (rest := [.int r_89479]) S Y (x_X12_byteAt (l := l) I p_ad_0_0 p_ad_4_0 (bn_w (bn_eq ex_89480 (bn_add bfe_8 (show bn 5 5 (5 : Int32) from bn_k (by decide)) (by decide))) (by decide))) cw_X12_byteAt km12_91 p_ad_0_0 ok_X12.1 rfl rfl ⟨Nat.le_of_ble_eq_true rfl, Nat.le_of_ble_eq_true rfl⟩ hl.1 rfl (Nat.le_of_ble_eq_true rfl) ⟨Nat.le_of_ble_eq_true rfl, Nat.le_of_ble_eq_true rfl⟩ dX12_isRelease_95 (fun r_89481 H locs er_89481 Y => ?_)
        refine lv_aload_n hx hb dX12_isRelease_98 rfl (lv_at hl 0 rfl) ?_
        refine lv_aload_n hx hb dX12_isRelease_99 rfl (lv_at hl 0 rfl) ?_
        refine pg_get S Y ok_X12 8 (by decide) kf12_95 (v := .int ps9) p_ad_0_0 rfl dX12_isRelease_100 ?_
        refine lv_bipush (v := 6) hx hb dX12_isRelease_103 (by decide) ?_
        refine lv_iadd hx hb dX12_isRelease_105 ?_
        refine lv_topi (fun x_89482 ex_89482 => ?_)
        refine cVp (As := [.int x_89482]) (rest := [.int r_89481, .int r_89479]) S Y (x_X12_byteAt (l := l) I p_ad_0_0 p_ad_4_0 (bn_w (bn_eq ex_89482 (bn_add bfe_8 (show bn 6 6 (6 : Int32) from bn_k (by decide)) (by decide))) (by decide))) cw_X12_byteAt km12_91 p_ad_0_0 ok_X12.1 rfl rfl ⟨Nat.le_of_ble_eq_true rfl, Nat.le_of_ble_eq_true rfl⟩ hl.1 rfl (Nat.le_of_ble_eq_true rfl) ⟨Nat.le_of_ble_eq_true rfl, Nat.le_of_ble_eq_true rfl⟩ dX12_isRelease_106 (fun r_89483 H locs er_89483 Y => ?_)
        refine cSlp (As := [.int r_89479, .int r_89481, .int r_89483]) (rest := []) S Y (x_X12_w3 (l := l) ) cw_X12_w3 km12_124 rfl ⟨Nat.le_of_ble_eq_true rfl, Nat.le_of_ble_eq_true rfl⟩ hl.1 rfl (Nat.le_of_ble_eq_true rfl) ⟨Nat.le_of_ble_eq_true rfl, Nat.le_of_ble_eq_true rfl⟩ dX12_isRelease_109 (fun r_89484 H locs er_89484 Y => ?_)
        refine lv_bipush (v := 97) hx hb dX12_isRelease_112 (by decide) ?_
        refine lv_bipush (v := 115) hx hb dX12_isRelease_114 (by decide) ?_
        refine lv_bipush (v := 101) hx hb dX12_isRelease_116 (by decide) ?_
        refine cSlp (As := [.int 97, .int 115, .int 101]) (rest := [.long r_89484]) S Y (x_X12_w3 (l := l) ) cw_X12_w3 km12_124 rfl ⟨Nat.le_of_ble_eq_true rfl, Nat.le_of_ble_eq_true rfl⟩ hl.1 rfl (Nat.le_of_ble_eq_true rfl) ⟨Nat.le_of_ble_eq_true rfl, Nat.le_of_ble_eq_true rfl⟩ dX12_isRelease_118 (fun r_89485 H locs er_89485 Y => ?_)
        refine W.lcmp hx hb dX12_isRelease_121 ?_
        refine lv_topi (fun x_89486 ex_89486 => ?_)
        refine lv_if_ne (tgt := 129) hx hb dX12_isRelease_122 (by decide) (fun c_89487 => ?_) (fun c_89487 => ?_)
        · refine lv_iconst (v := 0) hx hb dX12_isRelease_129 (by decide) ?_
          exact prI (post := fun r L1 f1 => ((bn 0 1 r ∧ (¬ r = 0 → tk = 2))) ∧ L1 = L ∧ f1 = f) S Y rfl (by decide) (by decide) hA1 ⟨⟨bn_k (by decide), fun h => absurd rfl h⟩, rfl, rfl⟩ dX12_isRelease_130
        · have B_89488 : bn 0 0 x_89486 := bn_w (bn_eq c_89487 (show bn 0 0 (0 : Int32) from bn_k (by decide))) (by decide)
          refine lv_iconst (v := 1) hx hb dX12_isRelease_125 (by decide) ?_
          refine lv_goto (tgt := 130) hx hb dX12_isRelease_126 (by decide) ?_
          exact prI (post := fun r L1 f1 => ((bn 0 1 r ∧ (¬ r = 0 → tk = 2))) ∧ L1 = L ∧ f1 = f) S Y rfl (by decide) (by decide) hA1 ⟨⟨bn_k (by decide), fun _ => c_89461⟩, rfl, rfl⟩ dX12_isRelease_130
set_option maxHeartbeats 4000000 in
set_option maxRecDepth 100000 in
theorem x_X12_sortOf {l : Launch} {G : GG}  {L : List Nat} {f : HF} {ad : Nat → Nat → Nat} {pa : (Nat → Int32) → Prop} {PA : (Nat → Int32) → Prop} {PI : (Nat → Int32) → Prop} {PX : (Nat → Int32) → Prop} {td fa fp at9 ps9 tk nu t0 wr so pd op9 cg iw on9 is9 se : Int32} {wd : Int64} {gt : Nat → Int32} (I : SH (spM PA PI PX pa) nnM G ad L f) (p_ad_0_0 : pt L f (ad 0 0) (.inr (12, [.ref (ad 1 0), .ref (ad 2 0), .ref (ad 3 0), .ref (ad 4 0), .int td, .int fa, .int fp, .int at9, .int ps9, .int tk, .int nu, .long wd, .int t0, .int wr, .int so, .ref (ad 5 0), .ref (ad 6 0), .int pd, .int op9, .int cg, .int iw, .int on9, .ref (ad 7 0), .ref (ad 8 0), .ref (ad 9 0), .int is9, .ref (ad 10 0), .ref (ad 11 0), .ref (ad 12 0), .ref (ad 13 0), .int se, .ref (ad 14 0)]))) (p_ad_4_0 : pt L f (ad 4 0) (.inl (G.2 0, 300, .inl gt))) : PMp l yX12_sortOf cX12_sortOf 1 .int 4 0 0 G [.ref (ad 0 0)] L f (fun r => (bn (-1) 10 r ∧ (¬ r = -1 → tk = 2))) := by
  refine PMi.of (post := fun r L1 f1 => ((bn (-1) 10 r ∧ (¬ r = -1 → tk = 2))) ∧ L1 = L ∧ f1 = f) (own := RX12) (by decide) rfl (Nat.le_of_ble_eq_true rfl) (fun sz p e s m args below meth c A ls hA1 hname S Y hl => ?_)
  have hx := S.hx
  have hb := S.hb
  have hl : lv_has ls 1 [(0, .ref (ad 0 0))] := hl
  obtain ⟨bfe_4, bfe_7, bfe_8, bfe_12, bfe_13, bfe_17, bfe_18, bfe_19, bfe_20, bfe_25⟩ := obM I p_ad_0_0
  refine lv_aload_n hx hb dX12_sortOf_0 rfl (lv_at hl 0 rfl) ?_
  refine lv_bipush (v := 119) hx hb dX12_sortOf_1 (by decide) ?_
  refine lv_bipush (v := 101) hx hb dX12_sortOf_3 (by decide) ?_
  refine lv_bipush (v := 97) hx hb dX12_sortOf_5 (by decide) ?_
  refine lv_bipush (v := 114) hx hb dX12_sortOf_7 (by decide) ?_
  refine lv_bipush (v := 115) hx hb dX12_sortOf_9 (by decide) ?_
  refine cSlp (As := [.int 119, .int 101, .int 97, .int 114, .int 115]) (rest := [.ref (ad 0 0)]) S Y (x_X12_w5 (l := l) ) cw_X12_w5 km12_132 rfl ⟨Nat.le_of_ble_eq_true rfl, Nat.le_of_ble_eq_true rfl⟩ hl.1 rfl (Nat.le_of_ble_eq_true rfl) ⟨Nat.le_of_ble_eq_true rfl, Nat.le_of_ble_eq_true rfl⟩ dX12_sortOf_11 (fun r_89587 H locs er_89587 Y => ?_)
  refine cVp (As := [.long r_89587]) (rest := []) S Y (x_X12_isWord (l := l) I p_ad_0_0) cw_X12_isWord km12_187 p_ad_0_0 ok_X12.1 rfl rfl ⟨Nat.le_of_ble_eq_true rfl, Nat.le_of_ble_eq_true rfl⟩ hl.1 rfl (Nat.le_of_ble_eq_true rfl) ⟨Nat.le_of_ble_eq_true rfl, Nat.le_of_ble_eq_true rfl⟩ dX12_sortOf_14 (fun r_89588 H locs er_89588 Y => ?_)
  refine lv_if_eq (tgt := 22) hx hb dX12_sortOf_17 (by decide) (fun c_89589 => ?_) (fun c_89589 => ?_)
  · have B_89590 : bn 0 0 r_89588 := bn_w (bn_eq c_89589 (show bn 0 0 (0 : Int32) from bn_k (by decide))) (by decide)
    refine lv_aload_n hx hb dX12_sortOf_22 rfl (lv_at hl 0 rfl) ?_
    refine lv_bipush (v := 97) hx hb dX12_sortOf_23 (by decide) ?_
    refine lv_bipush (v := 99) hx hb dX12_sortOf_25 (by decide) ?_
    refine lv_bipush (v := 104) hx hb dX12_sortOf_27 (by decide) ?_
    refine lv_bipush (v := 101) hx hb dX12_sortOf_29 (by decide) ?_
    refine lv_bipush (v := 115) hx hb dX12_sortOf_31 (by decide) ?_
    refine cSlp (As := [.int 97, .int 99, .int 104, .int 101, .int 115]) (rest := [.ref (ad 0 0)]) S Y (x_X12_w5 (l := l) ) cw_X12_w5 km12_132 rfl ⟨Nat.le_of_ble_eq_true rfl, Nat.le_of_ble_eq_true rfl⟩ hl.1 rfl (Nat.le_of_ble_eq_true rfl) ⟨Nat.le_of_ble_eq_true rfl, Nat.le_of_ble_eq_true rfl⟩ dX12_sortOf_33 (fun r_89592 H locs er_89592 Y => ?_)
    refine cVp (As := [.long r_89592]) (rest := []) S Y (x_X12_isWord (l := l) I p_ad_0_0) cw_X12_isWord km12_187 p_ad_0_0 ok_X12.1 rfl rfl ⟨Nat.le_of_ble_eq_true rfl, Nat.le_of_ble_eq_true rfl⟩ hl.1 rfl (Nat.le_of_ble_eq_true rfl) ⟨Nat.le_of_ble_eq_true rfl, Nat.le_of_ble_eq_true rfl⟩ dX12_sortOf_36 (fun r_89593 H locs er_89593 Y => ?_)
    refine lv_if_eq (tgt := 44) hx hb dX12_sortOf_39 (by decide) (fun c_89594 => ?_) (fun c_89594 => ?_)
    · have B_89595 : bn 0 0 r_89593 := bn_w (bn_eq c_89594 (show bn 0 0 (0 : Int32) from bn_k (by decide))) (by decide)
      refine lv_aload_n hx hb dX12_sortOf_44 rfl (lv_at hl 0 rfl) ?_
      refine lv_bipush (v := 114) hx hb dX12_sortOf_45 (by decide) ?_
      refine lv_bipush (v := 105) hx hb dX12_sortOf_47 (by decide) ?_
      refine lv_bipush (v := 115) hx hb dX12_sortOf_49 (by decide) ?_
      refine lv_bipush (v := 107) hx hb dX12_sortOf_51 (by decide) ?_
      refine cSlp (As := [.int 114, .int 105, .int 115, .int 107]) (rest := [.ref (ad 0 0)]) S Y (x_X12_w4 (l := l) ) cw_X12_w4 km12_128 rfl ⟨Nat.le_of_ble_eq_true rfl, Nat.le_of_ble_eq_true rfl⟩ hl.1 rfl (Nat.le_of_ble_eq_true rfl) ⟨Nat.le_of_ble_eq_true rfl, Nat.le_of_ble_eq_true rfl⟩ dX12_sortOf_53 (fun r_89597 H locs er_89597 Y => ?_)
      refine cVp (As := [.long r_89597]) (rest := []) S Y (x_X12_isWord (l := l) I p_ad_0_0) cw_X12_isWord km12_187 p_ad_0_0 ok_X12.1 rfl rfl ⟨Nat.le_of_ble_eq_true rfl, Nat.le_of_ble_eq_true rfl⟩ hl.1 rfl (Nat.le_of_ble_eq_true rfl) ⟨Nat.le_of_ble_eq_true rfl, Nat.le_of_ble_eq_true rfl⟩ dX12_sortOf_56 (fun r_89598 H locs er_89598 Y => ?_)
      refine lv_if_eq (tgt := 64) hx hb dX12_sortOf_59 (by decide) (fun c_89599 => ?_) (fun c_89599 => ?_)
      · have B_89600 : bn 0 0 r_89598 := bn_w (bn_eq c_89599 (show bn 0 0 (0 : Int32) from bn_k (by decide))) (by decide)
        refine lv_aload_n hx hb dX12_sortOf_64 rfl (lv_at hl 0 rfl) ?_
        refine lv_bipush (v := 111) hx hb dX12_sortOf_65 (by decide) ?_
        refine lv_bipush (v := 110) hx hb dX12_sortOf_67 (by decide) ?_
        refine lv_bipush (v := 101) hx hb dX12_sortOf_69 (by decide) ?_
        refine cSlp (As := [.int 111, .int 110, .int 101]) (rest := [.ref (ad 0 0)]) S Y (x_X12_w3 (l := l) ) cw_X12_w3 km12_124 rfl ⟨Nat.le_of_ble_eq_true rfl, Nat.le_of_ble_eq_true rfl⟩ hl.1 rfl (Nat.le_of_ble_eq_true rfl) ⟨Nat.le_of_ble_eq_true rfl, Nat.le_of_ble_eq_true rfl⟩ dX12_sortOf_71 (fun r_89602 H locs er_89602 Y => ?_)
        refine cVp (As := [.long r_89602]) (rest := []) S Y (x_X12_isWord (l := l) I p_ad_0_0) cw_X12_isWord km12_187 p_ad_0_0 ok_X12.1 rfl rfl ⟨Nat.le_of_ble_eq_true rfl, Nat.le_of_ble_eq_true rfl⟩ hl.1 rfl (Nat.le_of_ble_eq_true rfl) ⟨Nat.le_of_ble_eq_true rfl, Nat.le_of_ble_eq_true rfl⟩ dX12_sortOf_74 (fun r_89603 H locs er_89603 Y => ?_)
        refine lv_if_eq (tgt := 82) hx hb dX12_sortOf_77 (by decide) (fun c_89604 => ?_) (fun c_89604 => ?_)
        · have B_89605 : bn 0 0 r_89603 := bn_w (bn_eq c_89604 (show bn 0 0 (0 : Int32) from bn_k (by decide))) (by decide)
          refine lv_aload_n hx hb dX12_sortOf_82 rfl (lv_at hl 0 rfl) ?_
          refine lv_bipush (v := 115) hx hb dX12_sortOf_83 (by decide) ?_
          refine lv_bipush (v := 119) hx hb dX12_sortOf_85 (by decide) ?_
          refine lv_bipush (v := 101) hx hb dX12_sortOf_87 (by decide) ?_
          refine lv_bipush (v := 97) hx hb dX12_sortOf_89 (by decide) ?_
          refine lv_bipush (v := 114) hx hb dX12_sortOf_91 (by decide) ?_
          refine cSlp (As := [.int 115, .int 119, .int 101, .int 97, .int 114]) (rest := [.ref (ad 0 0)]) S Y (x_X12_w5 (l := l) ) cw_X12_w5 km12_132 rfl ⟨Nat.le_of_ble_eq_true rfl, Nat.le_of_ble_eq_true rfl⟩ hl.1 rfl (Nat.le_of_ble_eq_true rfl) ⟨Nat.le_of_ble_eq_true rfl, Nat.le_of_ble_eq_true rfl⟩ dX12_sortOf_93 (fun r_89607 H locs er_89607 Y => ?_)
          refine cVp (As := [.long r_89607]) (rest := []) S Y (x_X12_isWord (l := l) I p_ad_0_0) cw_X12_isWord km12_187 p_ad_0_0 ok_X12.1 rfl rfl ⟨Nat.le_of_ble_eq_true rfl, Nat.le_of_ble_eq_true rfl⟩ hl.1 rfl (Nat.le_of_ble_eq_true rfl) ⟨Nat.le_of_ble_eq_true rfl, Nat.le_of_ble_eq_true rfl⟩ dX12_sortOf_96 (fun r_89608 H locs er_89608 Y => ?_)
          refine lv_if_eq (tgt := 104) hx hb dX12_sortOf_99 (by decide) (fun c_89609 => ?_) (fun c_89609 => ?_)
          · have B_89610 : bn 0 0 r_89608 := bn_w (bn_eq c_89609 (show bn 0 0 (0 : Int32) from bn_k (by decide))) (by decide)
            refine lv_aload_n hx hb dX12_sortOf_104 rfl (lv_at hl 0 rfl) ?_
            refine lv_bipush (v := 98) hx hb dX12_sortOf_105 (by decide) ?_
            refine lv_bipush (v := 114) hx hb dX12_sortOf_107 (by decide) ?_
            refine lv_bipush (v := 101) hx hb dX12_sortOf_109 (by decide) ?_
            refine lv_bipush (v := 97) hx hb dX12_sortOf_111 (by decide) ?_
            refine lv_bipush (v := 107) hx hb dX12_sortOf_113 (by decide) ?_
            refine cSlp (As := [.int 98, .int 114, .int 101, .int 97, .int 107]) (rest := [.ref (ad 0 0)]) S Y (x_X12_w5 (l := l) ) cw_X12_w5 km12_132 rfl ⟨Nat.le_of_ble_eq_true rfl, Nat.le_of_ble_eq_true rfl⟩ hl.1 rfl (Nat.le_of_ble_eq_true rfl) ⟨Nat.le_of_ble_eq_true rfl, Nat.le_of_ble_eq_true rfl⟩ dX12_sortOf_115 (fun r_89612 H locs er_89612 Y => ?_)
            refine cVp (As := [.long r_89612]) (rest := []) S Y (x_X12_isWord (l := l) I p_ad_0_0) cw_X12_isWord km12_187 p_ad_0_0 ok_X12.1 rfl rfl ⟨Nat.le_of_ble_eq_true rfl, Nat.le_of_ble_eq_true rfl⟩ hl.1 rfl (Nat.le_of_ble_eq_true rfl) ⟨Nat.le_of_ble_eq_true rfl, Nat.le_of_ble_eq_true rfl⟩ dX12_sortOf_118 (fun r_89613 H locs er_89613 Y => ?_)
            refine lv_if_eq (tgt := 127) hx hb dX12_sortOf_121 (by decide) (fun c_89614 => ?_) (fun c_89614 => ?_)
            · have B_89615 : bn 0 0 r_89613 := bn_w (bn_eq c_89614 (show bn 0 0 (0 : Int32) from bn_k (by decide))) (by decide)
              refine lv_aload_n hx hb dX12_sortOf_127 rfl (lv_at hl 0 rfl) ?_
              refine cVp (As := []) (rest := []) S Y (x_X12_isRelease (l := l) I p_ad_0_0 p_ad_4_0) cw_X12_isRelease km12_235 p_ad_0_0 ok_X12.1 rfl rfl ⟨Nat.le_of_ble_eq_true rfl, Nat.le_of_ble_eq_true rfl⟩ hl.1 rfl (Nat.le_of_ble_eq_true rfl) ⟨Nat.le_of_ble_eq_true rfl, Nat.le_of_ble_eq_true rfl⟩ dX12_sortOf_128 (fun r_89617 H locs er_89617 Y => ?_)
              refine lv_if_eq (tgt := 137) hx hb dX12_sortOf_131 (by decide) (fun c_89618 => ?_) (fun c_89618 => ?_)
              · have B_89619 : bn 0 0 r_89617 := bn_w (bn_eq c_89618 (show bn 0 0 (0 : Int32) from bn_k (by decide))) (by decide)
                refine lv_aload_n hx hb dX12_sortOf_137 rfl (lv_at hl 0 rfl) ?_
                refine lv_bipush (v := 107) hx hb dX12_sortOf_138 (by decide) ?_
                refine lv_bipush (v := 110) hx hb dX12_sortOf_140 (by decide) ?_
                refine lv_bipush (v := 101) hx hb dX12_sortOf_142 (by decide) ?_
                refine lv_bipush (v := 101) hx hb dX12_sortOf_144 (by decide) ?_
                refine lv_bipush (v := 108) hx hb dX12_sortOf_146 (by decide) ?_
                refine cSlp (As := [.int 107, .int 110, .int 101, .int 101, .int 108]) (rest := [.ref (ad 0 0)]) S Y (x_X12_w5 (l := l) ) cw_X12_w5 km12_132 rfl ⟨Nat.le_of_ble_eq_true rfl, Nat.le_of_ble_eq_true rfl⟩ hl.1 rfl (Nat.le_of_ble_eq_true rfl) ⟨Nat.le_of_ble_eq_true rfl, Nat.le_of_ble_eq_true rfl⟩ dX12_sortOf_148 (fun r_89621 H locs er_89621 Y => ?_)
                refine cVp (As := [.long r_89621]) (rest := []) S Y (x_X12_isWord (l := l) I p_ad_0_0) cw_X12_isWord km12_187 p_ad_0_0 ok_X12.1 rfl rfl ⟨Nat.le_of_ble_eq_true rfl, Nat.le_of_ble_eq_true rfl⟩ hl.1 rfl (Nat.le_of_ble_eq_true rfl) ⟨Nat.le_of_ble_eq_true rfl, Nat.le_of_ble_eq_true rfl⟩ dX12_sortOf_151 (fun r_89622 H locs er_89622 Y => ?_)
                refine lv_if_eq (tgt := 160) hx hb dX12_sortOf_154 (by decide) (fun c_89623 => ?_) (fun c_89623 => ?_)
                · have B_89624 : bn 0 0 r_89622 := bn_w (bn_eq c_89623 (show bn 0 0 (0 : Int32) from bn_k (by decide))) (by decide)
                  refine lv_aload_n hx hb dX12_sortOf_160 rfl (lv_at hl 0 rfl) ?_
                  refine lv_bipush (v := 115) hx hb dX12_sortOf_161 (by decide) ?_
                  refine lv_bipush (v := 107) hx hb dX12_sortOf_163 (by decide) ?_
                  refine lv_bipush (v := 97) hx hb dX12_sortOf_165 (by decide) ?_
                  refine lv_bipush (v := 116) hx hb dX12_sortOf_167 (by decide) ?_
                  refine lv_bipush (v := 101) hx hb dX12_sortOf_169 (by decide) ?_
                  refine cSlp (As := [.int 115, .int 107, .int 97, .int 116, .int 101]) (rest := [.ref (ad 0 0)]) S Y (x_X12_w5 (l := l) ) cw_X12_w5 km12_132 rfl ⟨Nat.le_of_ble_eq_true rfl, Nat.le_of_ble_eq_true rfl⟩ hl.1 rfl (Nat.le_of_ble_eq_true rfl) ⟨Nat.le_of_ble_eq_true rfl, Nat.le_of_ble_eq_true rfl⟩ dX12_sortOf_171 (fun r_89626 H locs er_89626 Y => ?_)
                  refine cVp (As := [.long r_89626]) (rest := []) S Y (x_X12_isWord (l := l) I p_ad_0_0) cw_X12_isWord km12_187 p_ad_0_0 ok_X12.1 rfl rfl ⟨Nat.le_of_ble_eq_true rfl, Nat.le_of_ble_eq_true rfl⟩ hl.1 rfl (Nat.le_of_ble_eq_true rfl) ⟨Nat.le_of_ble_eq_true rfl, Nat.le_of_ble_eq_true rfl⟩ dX12_sortOf_174 (fun r_89627 H locs er_89627 Y => ?_)
                  refine lv_if_eq (tgt := 185) hx hb dX12_sortOf_177 (by decide) (fun c_89628 => ?_) (fun c_89628 => ?_)
                  · have B_89629 : bn 0 0 r_89627 := bn_w (bn_eq c_89628 (show bn 0 0 (0 : Int32) from bn_k (by decide))) (by decide)
                    refine lv_aload_n hx hb dX12_sortOf_185 rfl (lv_at hl 0 rfl) ?_
                    refine lv_bipush (v := 100) hx hb dX12_sortOf_186 (by decide) ?_
                    refine lv_bipush (v := 97) hx hb dX12_sortOf_188 (by decide) ?_
                    refine lv_bipush (v := 121) hx hb dX12_sortOf_190 (by decide) ?_
                    refine cSlp (As := [.int 100, .int 97, .int 121]) (rest := [.ref (ad 0 0)]) S Y (x_X12_w3 (l := l) ) cw_X12_w3 km12_124 rfl ⟨Nat.le_of_ble_eq_true rfl, Nat.le_of_ble_eq_true rfl⟩ hl.1 rfl (Nat.le_of_ble_eq_true rfl) ⟨Nat.le_of_ble_eq_true rfl, Nat.le_of_ble_eq_true rfl⟩ dX12_sortOf_192 (fun r_89631 H locs er_89631 Y => ?_)
                    refine cVp (As := [.long r_89631]) (rest := []) S Y (x_X12_isWord (l := l) I p_ad_0_0) cw_X12_isWord km12_187 p_ad_0_0 ok_X12.1 rfl rfl ⟨Nat.le_of_ble_eq_true rfl, Nat.le_of_ble_eq_true rfl⟩ hl.1 rfl (Nat.le_of_ble_eq_true rfl) ⟨Nat.le_of_ble_eq_true rfl, Nat.le_of_ble_eq_true rfl⟩ dX12_sortOf_195 (fun r_89632 H locs er_89632 Y => ?_)
                    refine lv_if_eq (tgt := 206) hx hb dX12_sortOf_198 (by decide) (fun c_89633 => ?_) (fun c_89633 => ?_)
                    · have B_89634 : bn 0 0 r_89632 := bn_w (bn_eq c_89633 (show bn 0 0 (0 : Int32) from bn_k (by decide))) (by decide)
                      refine lv_iconst (v := (-1)) hx hb dX12_sortOf_206 (by decide) ?_
                      exact prI (post := fun r L1 f1 => ((bn (-1) 10 r ∧ (¬ r = -1 → tk = 2))) ∧ L1 = L ∧ f1 = f) S Y rfl (by decide) (by decide) hA1 ⟨⟨bn_k (by decide), fun h => absurd rfl h⟩, rfl, rfl⟩ dX12_sortOf_207
                    · have B_89635 : bn 1 1 r_89632 := bn_w (bn_nel c_89633 er_89632.1 (show bn 0 0 (0 : Int32) from bn_k (by decide))) (by decide)
                      refine lv_bipush (v := 10) hx hb dX12_sortOf_201 (by decide) ?_
                      refine lv_goto (tgt := 207) hx hb dX12_sortOf_203 (by decide) ?_
                      exact prI (post := fun r L1 f1 => ((bn (-1) 10 r ∧ (¬ r = -1 → tk = 2))) ∧ L1 = L ∧ f1 = f) S Y rfl (by decide) (by decide) hA1 ⟨⟨bn_k (by decide), fun _ => (er_89632.2 c_89633)⟩, rfl, rfl⟩ dX12_sortOf_207
                  · have B_89630 : bn 1 1 r_89627 := bn_w (bn_nel c_89628 er_89627.1 (show bn 0 0 (0 : Int32) from bn_k (by decide))) (by decide)
                    refine lv_bipush (v := 9) hx hb dX12_sortOf_180 (by decide) ?_
                    refine lv_goto (tgt := 207) hx hb dX12_sortOf_182 (by decide) ?_
                    exact prI (post := fun r L1 f1 => ((bn (-1) 10 r ∧ (¬ r = -1 → tk = 2))) ∧ L1 = L ∧ f1 = f) S Y rfl (by decide) (by decide) hA1 ⟨⟨bn_k (by decide), fun _ => (er_89627.2 c_89628)⟩, rfl, rfl⟩ dX12_sortOf_207
                · have B_89625 : bn 1 1 r_89622 := bn_w (bn_nel c_89623 er_89622.1 (show bn 0 0 (0 : Int32) from bn_k (by decide))) (by decide)
                  refine lv_bipush (v := 8) hx hb dX12_sortOf_157 (by decide) ?_
                  exact prI (post := fun r L1 f1 => ((bn (-1) 10 r ∧ (¬ r = -1 → tk = 2))) ∧ L1 = L ∧ f1 = f) S Y rfl (by decide) (by decide) hA1 ⟨⟨bn_k (by decide), fun _ => (er_89622.2 c_89623)⟩, rfl, rfl⟩ dX12_sortOf_159
              · have B_89620 : bn 1 1 r_89617 := bn_w (bn_nel c_89618 er_89617.1 (show bn 0 0 (0 : Int32) from bn_k (by decide))) (by decide)
                refine lv_bipush (v := 7) hx hb dX12_sortOf_134 (by decide) ?_
                exact prI (post := fun r L1 f1 => ((bn (-1) 10 r ∧ (¬ r = -1 → tk = 2))) ∧ L1 = L ∧ f1 = f) S Y rfl (by decide) (by decide) hA1 ⟨⟨bn_k (by decide), fun _ => (er_89617.2 c_89618)⟩, rfl, rfl⟩ dX12_sortOf_136
            · have B_89616 : bn 1 1 r_89613 := bn_w (bn_nel c_89614 er_89613.1 (show bn 0 0 (0 : Int32) from bn_k (by decide))) (by decide)
              refine lv_bipush (v := 6) hx hb dX12_sortOf_124 (by decide) ?_
              exact prI (post := fun r L1 f1 => ((bn (-1) 10 r ∧ (¬ r = -1 → tk = 2))) ∧ L1 = L ∧ f1 = f) S Y rfl (by decide) (by decide) hA1 ⟨⟨bn_k (by decide), fun _ => (er_89613.2 c_89614)⟩, rfl, rfl⟩ dX12_sortOf_126
          · have B_89611 : bn 1 1 r_89608 := bn_w (bn_nel c_89609 er_89608.1 (show bn 0 0 (0 : Int32) from bn_k (by decide))) (by decide)
            refine lv_iconst (v := 4) hx hb dX12_sortOf_102 (by decide) ?_
            exact prI (post := fun r L1 f1 => ((bn (-1) 10 r ∧ (¬ r = -1 → tk = 2))) ∧ L1 = L ∧ f1 = f) S Y rfl (by decide) (by decide) hA1 ⟨⟨bn_k (by decide), fun _ => (er_89608.2 c_89609)⟩, rfl, rfl⟩ dX12_sortOf_103
        · have B_89606 : bn 1 1 r_89603 := bn_w (bn_nel c_89604 er_89603.1 (show bn 0 0 (0 : Int32) from bn_k (by decide))) (by decide)
          refine lv_iconst (v := 3) hx hb dX12_sortOf_80 (by decide) ?_
          exact prI (post := fun r L1 f1 => ((bn (-1) 10 r ∧ (¬ r = -1 → tk = 2))) ∧ L1 = L ∧ f1 = f) S Y rfl (by decide) (by decide) hA1 ⟨⟨bn_k (by decide), fun _ => (er_89603.2 c_89604)⟩, rfl, rfl⟩ dX12_sortOf_81
      · have B_89601 : bn 1 1 r_89598 := bn_w (bn_nel c_89599 er_89598.1 (show bn 0 0 (0 : Int32) from bn_k (by decide))) (by decide)
        refine lv_iconst (v := 2) hx hb dX12_sortOf_62 (by decide) ?_
        exact prI (post := fun r L1 f1 => ((bn (-1) 10 r ∧ (¬ r = -1 → tk = 2))) ∧ L1 = L ∧ f1 = f) S Y rfl (by decide) (by decide) hA1 ⟨⟨bn_k (by decide), fun _ => (er_89598.2 c_89599)⟩, rfl, rfl⟩ dX12_sortOf_63
    · have B_89596 : bn 1 1 r_89593 := bn_w (bn_nel c_89594 er_89593.1 (show bn 0 0 (0 : Int32) from bn_k (by decide))) (by decide)
      refine lv_iconst (v := 1) hx hb dX12_sortOf_42 (by decide) ?_
      exact prI (post := fun r L1 f1 => ((bn (-1) 10 r ∧ (¬ r = -1 → tk = 2))) ∧ L1 = L ∧ f1 = f) S Y rfl (by decide) (by decide) hA1 ⟨⟨bn_k (by decide), fun _ => (er_89593.2 c_89594)⟩, rfl, rfl⟩ dX12_sortOf_43
  · have B_89591 : bn 1 1 r_89588 := bn_w (bn_nel c_89589 er_89588.1 (show bn 0 0 (0 : Int32) from bn_k (by decide))) (by decide)
    refine lv_iconst (v := 0) hx hb dX12_sortOf_20 (by decide) ?_
    exact prI (post := fun r L1 f1 => ((bn (-1) 10 r ∧ (¬ r = -1 → tk = 2))) ∧ L1 = L ∧ f1 = f) S Y rfl (by decide) (by decide) hA1 ⟨⟨bn_k (by decide), fun _ => (er_89588.2 c_89589)⟩, rfl, rfl⟩ dX12_sortOf_21
set_option maxHeartbeats 4000000 in
set_option maxRecDepth 100000 in
theorem x_X12_clause {l : Launch} {G : GG}  {L : List Nat} {f : HF} {ad : Nat → Nat → Nat} {pa : (Nat → Int32) → Prop} {PA : (Nat → Int32) → Prop} {PI : (Nat → Int32) → Prop} {td fa fp at9 ps9 tk nu t0 wr so pd op9 cg iw on9 is9 se : Int32} {wd : Int64} (I : SH (spM PA PI (TZ t0 wr) pa) nnM G ad L f) (p_ad_0_0 : pt L f (ad 0 0) (.inr (12, [.ref (ad 1 0), .ref (ad 2 0), .ref (ad 3 0), .ref (ad 4 0), .int td, .int fa, .int fp, .int at9, .int ps9, .int tk, .int nu, .long wd, .int t0, .int wr, .int so, .ref (ad 5 0), .ref (ad 6 0), .int pd, .int op9, .int cg, .int iw, .int on9, .ref (ad 7 0), .ref (ad 8 0), .ref (ad 9 0), .int is9, .ref (ad 10 0), .ref (ad 11 0), .ref (ad 12 0), .ref (ad 13 0), .int se, .ref (ad 14 0)]))) (hroom : wr.toInt ≤ ps9.toInt) (hT : TK at9 ps9 tk) (ht0 : TT t0) : PMi l yX12_clause cX12_clause 5 .int 9 0 0 G [.ref (ad 0 0)] L f (fun r L1 f1 => ∃ at92 : Int32, ∃ ps92 : Int32, ∃ tk2 : Int32, ∃ nu2 : Int32, ∃ wd2 : Int64, ∃ wr2 : Int32, ∃ so2 : Int32, ∃ pd2 : Int32, ∃ op92 : Int32, ∃ cg2 : Int32, ∃ iw2 : Int32, ∃ on92 : Int32, bn 0 7 r ∧ SH (spM PA PI (TC r t0 wr2) pa) nnM G ad L1 f1 ∧ pt L1 f1 (ad 0 0) (.inr (12, [.ref (ad 1 0), .ref (ad 2 0), .ref (ad 3 0), .ref (ad 4 0), .int td, .int fa, .int fp, .int at92, .int ps92, .int tk2, .int nu2, .long wd2, .int t0, .int wr2, .int so2, .ref (ad 5 0), .ref (ad 6 0), .int pd2, .int op92, .int cg2, .int iw2, .int on92, .ref (ad 7 0), .ref (ad 8 0), .ref (ad 9 0), .int is9, .ref (ad 10 0), .ref (ad 11 0), .ref (ad 12 0), .ref (ad 13 0), .int se, .ref (ad 14 0)])) ∧ TK at92 ps92 tk2 ∧ (r.toInt = 0 → ps9.toInt + 1 ≤ ps92.toInt) ∧ (r.toInt = 0 → wr2.toInt ≤ ps92.toInt)) := by
  refine PMi.of (post := fun r L1 f1 => ∃ at92 : Int32, ∃ ps92 : Int32, ∃ tk2 : Int32, ∃ nu2 : Int32, ∃ wd2 : Int64, ∃ wr2 : Int32, ∃ so2 : Int32, ∃ pd2 : Int32, ∃ op92 : Int32, ∃ cg2 : Int32, ∃ iw2 : Int32, ∃ on92 : Int32, bn 0 7 r ∧ SH (spM PA PI (TC r t0 wr2) pa) nnM G ad L1 f1 ∧ pt L1 f1 (ad 0 0) (.inr (12, [.ref (ad 1 0), .ref (ad 2 0), .ref (ad 3 0), .ref (ad 4 0), .int td, .int fa, .int fp, .int at92, .int ps92, .int tk2, .int nu2, .long wd2, .int t0, .int wr2, .int so2, .ref (ad 5 0), .ref (ad 6 0), .int pd2, .int op92, .int cg2, .int iw2, .int on92, .ref (ad 7 0), .ref (ad 8 0), .ref (ad 9 0), .int is9, .ref (ad 10 0), .ref (ad 11 0), .ref (ad 12 0), .ref (ad 13 0), .int se, .ref (ad 14 0)])) ∧ TK at92 ps92 tk2 ∧ (r.toInt = 0 → ps9.toInt + 1 ≤ ps92.toInt) ∧ (r.toInt = 0 → wr2.toInt ≤ ps92.toInt)) (own := RX12) (by decide) rfl (Nat.le_of_ble_eq_true rfl) (fun sz p e s m args below meth c A ls hA1 hname S Y hl => ?_)
  have hx := S.hx
  have hb := S.hb
  have hl : lv_has ls 5 [(0, .ref (ad 0 0))] := hl
  obtain ⟨bfe_4, bfe_7, bfe_8, bfe_12, bfe_13, bfe_17, bfe_18, bfe_19, bfe_20, bfe_25⟩ := obM I p_ad_0_0
  refine lv_aload_n hx hb dX12_clause_0 rfl (lv_at hl 0 rfl) ?_
  obtain ⟨g_90024, p_ad_4_0, o_90025⟩ := I.opi (k := 4) (j := 0) (by decide) rfl
  have p_ad_4_0 : pt L f (ad 4 0) (.inl (G.2 0, 300, .inl g_90024)) := p_ad_4_0
  refine cVp (As := []) (rest := []) S Y (x_X12_sortOf (l := l) I p_ad_0_0 p_ad_4_0) cw_X12_sortOf km12_238 p_ad_0_0 ok_X12.1 rfl rfl ⟨Nat.le_of_ble_eq_true rfl, Nat.le_of_ble_eq_true rfl⟩ hl.1 rfl (Nat.le_of_ble_eq_true rfl) ⟨Nat.le_of_ble_eq_true rfl, Nat.le_of_ble_eq_true rfl⟩ dX12_clause_1 (fun r_90026 H locs er_90026 Y => ?_)
  refine lv_istore_n (lv' := [(1, .int r_90026), (0, .ref (ad 0 0))]) hx hb dX12_clause_4 rfl hl (by decide) rfl (fun ls hl => ?_)
  refine lv_iload_n hx hb dX12_clause_5 rfl (lv_at hl 0 rfl) ?_
  refine lv_if_ge (tgt := 11) hx hb dX12_clause_6 (by decide) (fun c_90027 => ?_) (fun c_90027 => ?_)
  · have B_90028 : bn 0 10 r_90026 := bn_w (bn_ler c_90027 (show bn 0 0 (0 : Int32) from bn_k (by decide)) er_90026.1) (by decide)
    have htk : ¬ tk = 0 := (show ¬ tk = 0 from by rw [er_90026.2 (ge_nm (bn_w B_90028 (by decide)))]; decide)
    refine lv_iload_n hx hb dX12_clause_11 rfl (lv_at hl 0 rfl) ?_
    refine lv_iconst (v := 2) hx hb dX12_clause_12 (by decide) ?_
    refine lv_icmp_gt (tgt := 29) hx hb dX12_clause_13 (by decide) (fun c_90030 => ?_) (fun c_90030 => ?_)
    · have B_90031 : bn 3 10 r_90026 := bn_w (bn_ltr c_90030 (show bn 2 2 (2 : Int32) from bn_k (by decide)) B_90028) (by decide)
      refine lv_aload_n hx hb dX12_clause_29 rfl (lv_at hl 1 rfl) ?_
      refine pg_get S Y ok_X12 2 (by decide) kf12_16 (v := .ref (ad 3 0)) p_ad_0_0 rfl dX12_clause_30 ?_
      refine lv_aload_n hx hb dX12_clause_33 rfl (lv_at hl 1 rfl) ?_
      refine pg_get S Y ok_X12 12 (by decide) kf12_136 (v := .int t0) p_ad_0_0 rfl dX12_clause_34 ?_
      obtain ⟨g_90033, p_ad_3_0, o_90034⟩ := I.opi (k := 3) (j := 0) (by decide) rfl
      have p_ad_3_0 : pt L f (ad 3 0) (.inl (G.2 0, 2916, .inl g_90033)) := p_ad_3_0
      obtain ⟨v_90035, ev_90035⟩ : ∃ z, z = g_90033 (t0 : Int32).toNatClampNeg := ⟨_, rfl⟩
      refine pg_iald S Y (v := v_90035) p_ad_3_0 (vp_bn bfe_12 (by decide)) ev_90035.symm dX12_clause_37 ?_
      have hZ := o_90034
      have en0 := ev_90035
      have B_90036 : bn 0 24 v_90035 := TZ_n hZ ht0 ev_90035
      refine lv_istore_n (lv' := [(2, .int v_90035), (1, .int r_90026), (0, .ref (ad 0 0))]) hx hb dX12_clause_38 rfl hl (by decide) rfl (fun ls hl => ?_)
      refine lv_iload_n hx hb dX12_clause_39 rfl (lv_at hl 0 rfl) ?_
      refine lv_bipush (v := 24) hx hb dX12_clause_40 (by decide) ?_
      refine lv_icmp_ne (tgt := 48) hx hb dX12_clause_42 (by decide) (fun c_90037 => ?_) (fun c_90037 => ?_)
      · have B_90038 : bn 0 23 v_90035 := bn_w (bn_neu c_90037 B_90036 (show bn 24 24 (24 : Int32) from bn_k (by decide))) (by decide)
        refine lv_iload_n hx hb dX12_clause_48 rfl (lv_at hl 1 rfl) ?_
        refine lv_iconst (v := 2) hx hb dX12_clause_49 (by decide) ?_
        refine lv_icmp_gt (tgt := 65) hx hb dX12_clause_50 (by decide) (fun _ => ?_) (fun h => absurd c_90030 h)
        refine lv_aload_n hx hb dX12_clause_65 rfl (lv_at hl 2 rfl) ?_
        refine lv_iload_n hx hb dX12_clause_66 rfl (lv_at hl 1 rfl) ?_
        refine pg_put S Y ok_X12 14 (by decide) kf12_175 rfl (fs' := [.ref (ad 1 0), .ref (ad 2 0), .ref (ad 3 0), .ref (ad 4 0), .int td, .int fa, .int fp, .int at9, .int ps9, .int tk, .int nu, .long wd, .int t0, .int wr, .int r_90026, .ref (ad 5 0), .ref (ad 6 0), .int pd, .int op9, .int cg, .int iw, .int on9, .ref (ad 7 0), .ref (ad 8 0), .ref (ad 9 0), .int is9, .ref (ad 10 0), .ref (ad 11 0), .ref (ad 12 0), .ref (ad 13 0), .int se, .ref (ad 14 0)]) (v := .int r_90026) p_ad_0_0 rfl rfl rfl (Nat.le_of_ble_eq_true rfl) dX12_clause_67 (fun f_90040 H locs ef_90040 Y => ?_)
        have p_ad_4_0 := p_ad_4_0.up ef_90040 (I.ne (k := 4) (j := 0) (k' := 0) (j' := 0) (by decide) (by decide) (Or.inl (by decide)))
        have p_ad_3_0 := p_ad_3_0.up ef_90040 (I.ne (k := 3) (j := 0) (k' := 0) (j' := 0) (by decide) (by decide) (Or.inl (by decide)))
        have p_ad_0_0 := p_ad_0_0.me ef_90040
        have I := I.up (k := 0) (j := 0) (by decide) ef_90040 (okE_o (okFs_c okV_r (okFs_c okV_r (okFs_c okV_r (okFs_c okV_r (okFs_c (okV_i bfe_4) (okFs_c (okV_i (bn_any _)) (okFs_c (okV_i (bn_any _)) (okFs_c (okV_i bfe_7) (okFs_c (okV_i bfe_8) (okFs_c (okV_i (bn_any _)) (okFs_c (okV_i (bn_any _)) (okFs_c okV_l (okFs_c (okV_i bfe_12) (okFs_c (okV_i bfe_13) (okFs_c (okV_i (bn_w B_90031 (by decide))) (okFs_c okV_r (okFs_c okV_r (okFs_c (okV_i bfe_17) (okFs_c (okV_i bfe_18) (okFs_c (okV_i bfe_19) (okFs_c (okV_i bfe_20) (okFs_c (okV_i (bn_any _)) (okFs_c okV_r (okFs_c okV_r (okFs_c okV_r (okFs_c (okV_i bfe_25) (okFs_c okV_r (okFs_c okV_r (okFs_c okV_r (okFs_c okV_r (okFs_c (okV_i (bn_any _)) (okFs_c okV_r okFs_n)))))))))))))))))))))))))))))))))
        refine lv_aload_n hx hb dX12_clause_70 rfl (lv_at hl 2 rfl) ?_
        have o_90041 : (EQ g_90033) g_90033 := rfl
        have I := I.castS (sp' := spM PA PI (EQ g_90033) pa) (k := 3) (j := 0) (by decide) p_ad_3_0 (okE_a (g := g_90033) o_90041) pXC
        obtain ⟨g_90042, p_ad_5_0, o_90043⟩ := I.opi (k := 5) (j := 0) (by decide) rfl
        have p_ad_5_0 : pt L f_90040 (ad 5 0) (.inl (G.2 0, 160, .inl g_90042)) := p_ad_5_0
        obtain ⟨g_90044, p_ad_6_0, o_90045⟩ := I.opi (k := 6) (j := 0) (by decide) rfl
        have p_ad_6_0 : pt L f_90040 (ad 6 0) (.inl (G.2 0, 9, .inl g_90044)) := p_ad_6_0
        refine cVv (As := []) (rest := []) S Y (x_X12_nextToken (l := l) I p_ad_0_0 p_ad_4_0 p_ad_5_0 p_ad_6_0) cw_X12_nextToken km12_166 p_ad_0_0 ok_X12.1 rfl rfl ⟨Nat.le_of_ble_eq_true rfl, Nat.le_of_ble_eq_true rfl⟩ hl.1 rfl (Nat.le_of_ble_eq_true rfl) ⟨Nat.le_of_ble_eq_true rfl, Nat.le_of_ble_eq_true rfl⟩ dX12_clause_71 (fun L_90046 f_90047 H locs hr_90048 Y => ?_)
        obtain ⟨v_90049, v_90050, v_90051, v_90052, v_90053, I, p_ad_0_0, p_ad_4_0, p_ad_5_0, p_ad_6_0, eT_90054, eP_90055⟩ := hr_90048
        obtain ⟨bfc90055_4, bfc90055_7, bfc90055_8, bfc90055_12, bfc90055_13, bfc90055_17, bfc90055_18, bfc90055_19, bfc90055_20, bfc90055_25⟩ := obM I p_ad_0_0
        refine lv_aload_n hx hb dX12_clause_74 rfl (lv_at hl 2 rfl) ?_
        refine pg_get S Y ok_X12 12 (by decide) kf12_136 (v := .int t0) p_ad_0_0 rfl dX12_clause_75 ?_
        refine lv_iconst (v := 1) hx hb dX12_clause_78 (by decide) ?_
        refine lv_iadd hx hb dX12_clause_79 ?_
        refine lv_topi (fun x_90057 ex_90057 => ?_)
        refine lv_iconst (v := 5) hx hb dX12_clause_80 (by decide) ?_
        refine lv_iload_n hx hb dX12_clause_81 rfl (lv_at hl 0 rfl) ?_
        refine lv_imul hx hb dX12_clause_82 ?_
        refine lv_topi (fun x_90058 ex_90058 => ?_)
        refine lv_iadd hx hb dX12_clause_83 ?_
        refine lv_topi (fun x_90059 ex_90059 => ?_)
        refine lv_istore_n (lv' := [(3, .int x_90059), (2, .int v_90035), (1, .int r_90026), (0, .ref (ad 0 0))]) hx hb dX12_clause_84 rfl hl (by decide) rfl (fun ls hl => ?_)
        refine lv_aload_n hx hb dX12_clause_85 rfl (lv_at hl 3 rfl) ?_
        refine pg_get S Y ok_X12 2 (by decide) kf12_16 (v := .ref (ad 3 0)) p_ad_0_0 rfl dX12_clause_86 ?_
        refine lv_iload_n hx hb dX12_clause_89 rfl (lv_at hl 0 rfl) ?_
        refine lv_iload_n hx hb dX12_clause_90 rfl (lv_at hl 2 rfl) ?_
        obtain ⟨g_90060, p_ad_3_0, o_90061⟩ := I.opi (k := 3) (j := 0) (by decide) rfl
        have p_ad_3_0 : pt L_90046 f_90047 (ad 3 0) (.inl (G.2 0, 2916, .inl g_90060)) := p_ad_3_0
        refine pg_iast S Y p_ad_3_0 (vp_bn (bn_eq ex_90059 (bn_add (bn_eq ex_90057 (bn_add bfc90055_12 (show bn 1 1 (1 : Int32) from bn_k (by decide)) (by decide))) (bn_eq ex_90058 (bn_mul (show bn 5 5 (5 : Int32) from bn_k (by decide)) B_90038 (by decide))) (by decide))) (by decide)) dX12_clause_91 (fun f_90063 H locs ef_90063 Y => ?_)
        obtain ⟨g_90062, eg_90062⟩ : ∃ z, z = upd (g_90060) (x_90059 : Int32).toNatClampNeg r_90026 := ⟨_, rfl⟩
        rw [← eg_90062] at ef_90063
        have p_ad_0_0 := p_ad_0_0.up ef_90063 (I.ne (k := 0) (j := 0) (k' := 3) (j' := 0) (by decide) (by decide) (Or.inl (by decide)))
        have p_ad_4_0 := p_ad_4_0.up ef_90063 (I.ne (k := 4) (j := 0) (k' := 3) (j' := 0) (by decide) (by decide) (Or.inl (by decide)))
        have p_ad_5_0 := p_ad_5_0.up ef_90063 (I.ne (k := 5) (j := 0) (k' := 3) (j' := 0) (by decide) (by decide) (Or.inl (by decide)))
        have p_ad_6_0 := p_ad_6_0.up ef_90063 (I.ne (k := 6) (j := 0) (k' := 3) (j' := 0) (by decide) (by decide) (Or.inl (by decide)))
        have p_ad_3_0 := p_ad_3_0.me ef_90063
        have o_90064 : (EQ g_90062) g_90062 := rfl
        have I := I.upS (sp' := spM PA PI (EQ g_90062) pa) (k := 3) (j := 0) (by decide) ef_90063 (okE_a (g := g_90062) o_90064) pXC
        have eg1 : g_90062 = upd g_90033 (x_90059 : Int32).toNatClampNeg r_90026 := by rw [eg_90062, show g_90060 = g_90033 from o_90061]
        refine lv_aload_n hx hb dX12_clause_92 rfl (lv_at hl 3 rfl) ?_
        refine lv_iload_n hx hb dX12_clause_93 rfl (lv_at hl 2 rfl) ?_
        refine lv_iload_n hx hb dX12_clause_94 rfl (lv_at hl 0 rfl) ?_
        refine cVi (As := [.int r_90026, .int x_90059]) (rest := []) S Y (x_X12_body (l := l) I p_ad_0_0 (bn_w B_90031 (by decide)) (bn_w (bn_eq ex_90059 (bn_add (bn_eq ex_90057 (bn_add bfc90055_12 (show bn 1 1 (1 : Int32) from bn_k (by decide)) (by decide))) (bn_eq ex_90058 (bn_mul (show bn 5 5 (5 : Int32) from bn_k (by decide)) B_90038 (by decide))) (by decide))) (by decide)) (show g_90062 x_90059.toInt.toNat = r_90026 from by rw [eg1, ← tnc, pk_us]) rfl (by have z9 := (la_add ex_90059 (la_add ex_90057 (rfl : t0.toInt = t0.toInt) (show (1 : Int32).toInt = 1 from rfl) bfc90055_12 (show bn 1 1 (1 : Int32) from bn_k (by decide)) (by decide)) (la_mul ex_90058 (show (5 : Int32).toInt = 5 from rfl) (rfl : v_90035.toInt = v_90035.toInt) (show bn 5 5 (5 : Int32) from bn_k (by decide)) B_90038 (by decide)) (bn_eq ex_90057 (bn_add bfc90055_12 (show bn 1 1 (1 : Int32) from bn_k (by decide)) (by decide))) (bn_eq ex_90058 (bn_mul (show bn 5 5 (5 : Int32) from bn_k (by decide)) B_90038 (by decide))) (by decide)); have z8 := (B_90038).2; omega) (by have c0 := hT.1; have c1 := hroom; have c2 := eT_90054.1; have c3 := eP_90055; omega) eT_90054) cw_X12_body km12_248 p_ad_0_0 ok_X12.1 rfl rfl ⟨Nat.le_of_ble_eq_true rfl, Nat.le_of_ble_eq_true rfl⟩ hl.1 rfl (Nat.le_of_ble_eq_true rfl) ⟨Nat.le_of_ble_eq_true rfl, Nat.le_of_ble_eq_true rfl⟩ dX12_clause_95 (fun r_90067 L_90065 f_90066 H locs hr_90067 Y => ?_)
        obtain ⟨v_90068, v_90069, v_90070, v_90071, v_90072, v_90073, v_90074, v_90075, v_90076, v_90077, er_90067, I, p_ad_0_0, eT_90078, eQ_90079, eW_90080⟩ := hr_90067
        obtain ⟨bfc90080_4, bfc90080_7, bfc90080_8, bfc90080_12, bfc90080_13, bfc90080_17, bfc90080_18, bfc90080_19, bfc90080_20, bfc90080_25⟩ := obM I p_ad_0_0
        refine lv_istore (lv' := [(4, .int r_90067), (3, .int x_90059), (2, .int v_90035), (1, .int r_90026), (0, .ref (ad 0 0))]) hx hb dX12_clause_98 hl (by decide) rfl (fun ls hl => ?_)
        refine lv_iload hx hb dX12_clause_100 (lv_at hl 0 rfl) ?_
        refine lv_if_eq (tgt := 108) hx hb dX12_clause_102 (by decide) (fun c_90082 => ?_) (fun c_90082 => ?_)
        · have B_90083 : bn 0 0 r_90067 := bn_w (bn_eq c_90082 (show bn 0 0 (0 : Int32) from bn_k (by decide))) (by decide)
          refine lv_aload_n hx hb dX12_clause_108 rfl (lv_at hl 4 rfl) ?_
          refine pg_get S Y ok_X12 2 (by decide) kf12_16 (v := .ref (ad 3 0)) p_ad_0_0 rfl dX12_clause_109 ?_
          refine lv_aload_n hx hb dX12_clause_112 rfl (lv_at hl 4 rfl) ?_
          refine pg_get S Y ok_X12 12 (by decide) kf12_136 (v := .int t0) p_ad_0_0 rfl dX12_clause_113 ?_
          refine lv_dup2_11 hx hb dX12_clause_116 rfl rfl ?_
          obtain ⟨g_90085, p_ad_3_0, o_90086⟩ := I.opi (k := 3) (j := 0) (by decide) rfl
          have p_ad_3_0 : pt L_90065 f_90066 (ad 3 0) (.inl (G.2 0, 2916, .inl g_90085)) := p_ad_3_0
          obtain ⟨v_90087, ev_90087⟩ : ∃ z, z = g_90085 (t0 : Int32).toNatClampNeg := ⟨_, rfl⟩
          refine pg_iald S Y (v := v_90087) p_ad_3_0 (vp_bn bfc90080_12 (by decide)) ev_90087.symm dX12_clause_117 ?_
          refine lv_iconst (v := 1) hx hb dX12_clause_118 (by decide) ?_
          refine lv_iadd hx hb dX12_clause_119 ?_
          refine lv_topi (fun x_90088 ex_90088 => ?_)
          refine pg_iast S Y p_ad_3_0 (vp_bn bfc90080_12 (by decide)) dX12_clause_120 (fun f_90090 H locs ef_90090 Y => ?_)
          obtain ⟨g_90089, eg_90089⟩ : ∃ z, z = upd (g_90085) (t0 : Int32).toNatClampNeg x_90088 := ⟨_, rfl⟩
          rw [← eg_90089] at ef_90090
          have p_ad_0_0 := p_ad_0_0.up ef_90090 (I.ne (k := 0) (j := 0) (k' := 3) (j' := 0) (by decide) (by decide) (Or.inl (by decide)))
          have p_ad_3_0 := p_ad_3_0.me ef_90090
          have o_90091 : (TZ t0 v_90073) g_90089 := (TZ_up hZ ht0 bfe_13.1 en0 (bn_w B_90038 (by decide)) eg1 (by have z9 := (la_add ex_90059 (la_add ex_90057 (rfl : t0.toInt = t0.toInt) (show (1 : Int32).toInt = 1 from rfl) bfc90080_12 (show bn 1 1 (1 : Int32) from bn_k (by decide)) (by decide)) (la_mul ex_90058 (show (5 : Int32).toInt = 5 from rfl) (rfl : v_90035.toInt = v_90035.toInt) (show bn 5 5 (5 : Int32) from bn_k (by decide)) B_90038 (by decide)) (bn_eq ex_90057 (bn_add bfc90055_12 (show bn 1 1 (1 : Int32) from bn_k (by decide)) (by decide))) (bn_eq ex_90058 (bn_mul (show bn 5 5 (5 : Int32) from bn_k (by decide)) B_90038 (by decide))) (by decide)); omega) o_90086 c_90082 ev_90087 ex_90088 eg_90089)
          have I := I.upS (sp' := spM PA PI (TZ t0 v_90073) pa) (k := 3) (j := 0) (by decide) ef_90090 (okE_a (g := g_90089) o_90091) pXC
          refine lv_aload_n hx hb dX12_clause_121 rfl (lv_at hl 4 rfl) ?_
          refine pg_get S Y ok_X12 9 (by decide) kf12_98 (v := .int v_90070) p_ad_0_0 rfl dX12_clause_122 ?_
          refine lv_bipush (v := 59) hx hb dX12_clause_125 (by decide) ?_
          refine lv_icmp_eq (tgt := 132) hx hb dX12_clause_127 (by decide) (fun c_90092 => ?_) (fun c_90092 => ?_)
          · have B_90093 : bn 59 59 v_90070 := bn_w (bn_eq c_90092 (show bn 59 59 (59 : Int32) from bn_k (by decide))) (by decide)
            refine lv_aload_n hx hb dX12_clause_132 rfl (lv_at hl 4 rfl) ?_
            obtain ⟨g_90094, p_ad_4_0, o_90095⟩ := I.opi (k := 4) (j := 0) (by decide) rfl
            have p_ad_4_0 : pt L_90065 f_90090 (ad 4 0) (.inl (G.2 0, 300, .inl g_90094)) := p_ad_4_0
            obtain ⟨g_90096, p_ad_5_0, o_90097⟩ := I.opi (k := 5) (j := 0) (by decide) rfl
            have p_ad_5_0 : pt L_90065 f_90090 (ad 5 0) (.inl (G.2 0, 160, .inl g_90096)) := p_ad_5_0
            obtain ⟨g_90098, p_ad_6_0, o_90099⟩ := I.opi (k := 6) (j := 0) (by decide) rfl
            have p_ad_6_0 : pt L_90065 f_90090 (ad 6 0) (.inl (G.2 0, 9, .inl g_90098)) := p_ad_6_0
            refine cVv (As := []) (rest := []) S Y (x_X12_nextToken (l := l) I p_ad_0_0 p_ad_4_0 p_ad_5_0 p_ad_6_0) cw_X12_nextToken km12_166 p_ad_0_0 ok_X12.1 rfl rfl ⟨Nat.le_of_ble_eq_true rfl, Nat.le_of_ble_eq_true rfl⟩ hl.1 rfl (Nat.le_of_ble_eq_true rfl) ⟨Nat.le_of_ble_eq_true rfl, Nat.le_of_ble_eq_true rfl⟩ dX12_clause_133 (fun L_90100 f_90101 H locs hr_90102 Y => ?_)
            obtain ⟨v_90103, v_90104, v_90105, v_90106, v_90107, I, p_ad_0_0, p_ad_4_0, p_ad_5_0, p_ad_6_0, eT_90108, eP_90109⟩ := hr_90102
            obtain ⟨bfc90109_4, bfc90109_7, bfc90109_8, bfc90109_12, bfc90109_13, bfc90109_17, bfc90109_18, bfc90109_19, bfc90109_20, bfc90109_25⟩ := obM I p_ad_0_0
            obtain ⟨g_90111, p_ad_3_0, o_90112⟩ := I.opi (k := 3) (j := 0) (by decide) rfl
            have p_ad_3_0 : pt L_90100 f_90101 (ad 3 0) (.inl (G.2 0, 2916, .inl g_90111)) := p_ad_3_0
            have o_90113 : (TC 0 t0 v_90073) g_90111 := (TC_ok o_90112)
            have I := I.castS (sp' := spM PA PI (TC 0 t0 v_90073) pa) (k := 3) (j := 0) (by decide) p_ad_3_0 (okE_a (g := g_90111) o_90113) pXC
            refine lv_iconst (v := 0) hx hb dX12_clause_136 (by decide) ?_
            exact prI (post := fun r L1 f1 => ∃ at92 : Int32, ∃ ps92 : Int32, ∃ tk2 : Int32, ∃ nu2 : Int32, ∃ wd2 : Int64, ∃ wr2 : Int32, ∃ so2 : Int32, ∃ pd2 : Int32, ∃ op92 : Int32, ∃ cg2 : Int32, ∃ iw2 : Int32, ∃ on92 : Int32, bn 0 7 r ∧ SH (spM PA PI (TC r t0 wr2) pa) nnM G ad L1 f1 ∧ pt L1 f1 (ad 0 0) (.inr (12, [.ref (ad 1 0), .ref (ad 2 0), .ref (ad 3 0), .ref (ad 4 0), .int td, .int fa, .int fp, .int at92, .int ps92, .int tk2, .int nu2, .long wd2, .int t0, .int wr2, .int so2, .ref (ad 5 0), .ref (ad 6 0), .int pd2, .int op92, .int cg2, .int iw2, .int on92, .ref (ad 7 0), .ref (ad 8 0), .ref (ad 9 0), .int is9, .ref (ad 10 0), .ref (ad 11 0), .ref (ad 12 0), .ref (ad 13 0), .int se, .ref (ad 14 0)])) ∧ TK at92 ps92 tk2 ∧ (r.toInt = 0 → ps9.toInt + 1 ≤ ps92.toInt) ∧ (r.toInt = 0 → wr2.toInt ≤ ps92.toInt)) S Y rfl (by decide) (by decide) hA1 ⟨v_90103, v_90104, v_90105, v_90106, v_90107, v_90073, r_90026, v_90074, v_90075, v_90076, v_90077, on9, bn_w (show bn 0 0 (0 : Int32) from bn_k (by decide)) (by decide), I, p_ad_0_0, eT_90108, (fun _ => by have c0 := hT.2 htk; have c1 := eT_90054.1; have c2 := eP_90055; have c3 := eT_90108.1; have c4 := eP_90109; have c5 := eT_90078.1; have c6 := eQ_90079 (show r_90067.toInt = 0 from by rw [c_90082]; rfl); have c7 := eW_90080 (show r_90067.toInt = 0 from by rw [c_90082]; rfl); omega), (fun _ => by have c0 := hT.2 htk; have c1 := eT_90054.1; have c2 := eP_90055; have c3 := eT_90108.1; have c4 := eP_90109; have c5 := eT_90078.1; have c6 := eQ_90079 (show r_90067.toInt = 0 from by rw [c_90082]; rfl); have c7 := eW_90080 (show r_90067.toInt = 0 from by rw [c_90082]; rfl); omega)⟩ dX12_clause_137
          · have o_90114 : (TC 1 t0 v_90073) g_90089 := (TC_no o_90091 (by decide))
            have I := I.castS (sp' := spM PA PI (TC 1 t0 v_90073) pa) (k := 3) (j := 0) (by decide) p_ad_3_0 (okE_a (g := g_90089) o_90114) pXC
            refine lv_iconst (v := 1) hx hb dX12_clause_130 (by decide) ?_
            exact prI (post := fun r L1 f1 => ∃ at92 : Int32, ∃ ps92 : Int32, ∃ tk2 : Int32, ∃ nu2 : Int32, ∃ wd2 : Int64, ∃ wr2 : Int32, ∃ so2 : Int32, ∃ pd2 : Int32, ∃ op92 : Int32, ∃ cg2 : Int32, ∃ iw2 : Int32, ∃ on92 : Int32, bn 0 7 r ∧ SH (spM PA PI (TC r t0 wr2) pa) nnM G ad L1 f1 ∧ pt L1 f1 (ad 0 0) (.inr (12, [.ref (ad 1 0), .ref (ad 2 0), .ref (ad 3 0), .ref (ad 4 0), .int td, .int fa, .int fp, .int at92, .int ps92, .int tk2, .int nu2, .long wd2, .int t0, .int wr2, .int so2, .ref (ad 5 0), .ref (ad 6 0), .int pd2, .int op92, .int cg2, .int iw2, .int on92, .ref (ad 7 0), .ref (ad 8 0), .ref (ad 9 0), .int is9, .ref (ad 10 0), .ref (ad 11 0), .ref (ad 12 0), .ref (ad 13 0), .int se, .ref (ad 14 0)])) ∧ TK at92 ps92 tk2 ∧ (r.toInt = 0 → ps9.toInt + 1 ≤ ps92.toInt) ∧ (r.toInt = 0 → wr2.toInt ≤ ps92.toInt)) S Y rfl (by decide) (by decide) hA1 ⟨v_90068, v_90069, v_90070, v_90071, v_90072, v_90073, r_90026, v_90074, v_90075, v_90076, v_90077, on9, bn_w (show bn 1 1 (1 : Int32) from bn_k (by decide)) (by decide), I, p_ad_0_0, eT_90078, (fun h => absurd h (by decide)), (fun h => absurd h (by decide))⟩ dX12_clause_131
        · have B_90084 : bn 1 7 r_90067 := bn_w (bn_nel c_90082 er_90067 (show bn 0 0 (0 : Int32) from bn_k (by decide))) (by decide)
          refine lv_iload hx hb dX12_clause_105 (lv_at hl 0 rfl) ?_
          obtain ⟨g_90115, p_ad_3_0, o_90116⟩ := I.opi (k := 3) (j := 0) (by decide) rfl
          have p_ad_3_0 : pt L_90065 f_90066 (ad 3 0) (.inl (G.2 0, 2916, .inl g_90115)) := p_ad_3_0
          have o_90117 : (TC r_90067 t0 v_90073) g_90115 := (TZ_bd hZ ht0 bfe_13.1 en0 (bn_w B_90038 (by decide)) eg1 (by have z9 := (la_add ex_90059 (la_add ex_90057 (rfl : t0.toInt = t0.toInt) (show (1 : Int32).toInt = 1 from rfl) bfc90080_12 (show bn 1 1 (1 : Int32) from bn_k (by decide)) (by decide)) (la_mul ex_90058 (show (5 : Int32).toInt = 5 from rfl) (rfl : v_90035.toInt = v_90035.toInt) (show bn 5 5 (5 : Int32) from bn_k (by decide)) B_90038 (by decide)) (bn_eq ex_90057 (bn_add bfc90055_12 (show bn 1 1 (1 : Int32) from bn_k (by decide)) (by decide))) (bn_eq ex_90058 (bn_mul (show bn 5 5 (5 : Int32) from bn_k (by decide)) B_90038 (by decide))) (by decide)); omega) o_90116 c_90082)
          have I := I.castS (sp' := spM PA PI (TC r_90067 t0 v_90073) pa) (k := 3) (j := 0) (by decide) p_ad_3_0 (okE_a (g := g_90115) o_90117) pXC
          exact prI (post := fun r L1 f1 => ∃ at92 : Int32, ∃ ps92 : Int32, ∃ tk2 : Int32, ∃ nu2 : Int32, ∃ wd2 : Int64, ∃ wr2 : Int32, ∃ so2 : Int32, ∃ pd2 : Int32, ∃ op92 : Int32, ∃ cg2 : Int32, ∃ iw2 : Int32, ∃ on92 : Int32, bn 0 7 r ∧ SH (spM PA PI (TC r t0 wr2) pa) nnM G ad L1 f1 ∧ pt L1 f1 (ad 0 0) (.inr (12, [.ref (ad 1 0), .ref (ad 2 0), .ref (ad 3 0), .ref (ad 4 0), .int td, .int fa, .int fp, .int at92, .int ps92, .int tk2, .int nu2, .long wd2, .int t0, .int wr2, .int so2, .ref (ad 5 0), .ref (ad 6 0), .int pd2, .int op92, .int cg2, .int iw2, .int on92, .ref (ad 7 0), .ref (ad 8 0), .ref (ad 9 0), .int is9, .ref (ad 10 0), .ref (ad 11 0), .ref (ad 12 0), .ref (ad 13 0), .int se, .ref (ad 14 0)])) ∧ TK at92 ps92 tk2 ∧ (r.toInt = 0 → ps9.toInt + 1 ≤ ps92.toInt) ∧ (r.toInt = 0 → wr2.toInt ≤ ps92.toInt)) S Y rfl (by decide) (by decide) hA1 ⟨v_90068, v_90069, v_90070, v_90071, v_90072, v_90073, r_90026, v_90074, v_90075, v_90076, v_90077, on9, bn_w B_90084 (by decide), I, p_ad_0_0, eT_90078, (fun h => absurd (Int32.toInt_inj.mp (h.trans rfl)) c_90082), (fun h => absurd (Int32.toInt_inj.mp (h.trans rfl)) c_90082)⟩ dX12_clause_107
      · have B_90039 : bn 24 24 v_90035 := bn_w (bn_eq c_90037 (show bn 24 24 (24 : Int32) from bn_k (by decide))) (by decide)
        have o_90118 : (TC 6 t0 wr) g_90033 := (TC_no o_90034 (by decide))
        have I := I.castS (sp' := spM PA PI (TC 6 t0 wr) pa) (k := 3) (j := 0) (by decide) p_ad_3_0 (okE_a (g := g_90033) o_90118) pXC
        refine lv_bipush (v := 6) hx hb dX12_clause_45 (by decide) ?_
        exact prI (post := fun r L1 f1 => ∃ at92 : Int32, ∃ ps92 : Int32, ∃ tk2 : Int32, ∃ nu2 : Int32, ∃ wd2 : Int64, ∃ wr2 : Int32, ∃ so2 : Int32, ∃ pd2 : Int32, ∃ op92 : Int32, ∃ cg2 : Int32, ∃ iw2 : Int32, ∃ on92 : Int32, bn 0 7 r ∧ SH (spM PA PI (TC r t0 wr2) pa) nnM G ad L1 f1 ∧ pt L1 f1 (ad 0 0) (.inr (12, [.ref (ad 1 0), .ref (ad 2 0), .ref (ad 3 0), .ref (ad 4 0), .int td, .int fa, .int fp, .int at92, .int ps92, .int tk2, .int nu2, .long wd2, .int t0, .int wr2, .int so2, .ref (ad 5 0), .ref (ad 6 0), .int pd2, .int op92, .int cg2, .int iw2, .int on92, .ref (ad 7 0), .ref (ad 8 0), .ref (ad 9 0), .int is9, .ref (ad 10 0), .ref (ad 11 0), .ref (ad 12 0), .ref (ad 13 0), .int se, .ref (ad 14 0)])) ∧ TK at92 ps92 tk2 ∧ (r.toInt = 0 → ps9.toInt + 1 ≤ ps92.toInt) ∧ (r.toInt = 0 → wr2.toInt ≤ ps92.toInt)) S Y rfl (by decide) (by decide) hA1 ⟨at9, ps9, tk, nu, wd, wr, so, pd, op9, cg, iw, on9, bn_w (show bn 6 6 (6 : Int32) from bn_k (by decide)) (by decide), I, p_ad_0_0, hT, (fun h => absurd h (by decide)), (fun h => absurd h (by decide))⟩ dX12_clause_47
    · have B_90032 : bn 0 2 r_90026 := bn_w (bn_ger c_90030 (show bn 2 2 (2 : Int32) from bn_k (by decide)) B_90028) (by decide)
      refine lv_aload_n hx hb dX12_clause_16 rfl (lv_at hl 1 rfl) ?_
      refine pg_get S Y ok_X12 21 (by decide) kf12_241 (v := .int on9) p_ad_0_0 rfl dX12_clause_17 ?_
      refine lv_iload_n hx hb dX12_clause_20 rfl (lv_at hl 0 rfl) ?_
      refine cSp (As := [.int on9, .int r_90026]) (rest := []) S Y (x_X12_has (l := l) ) cw_X12_has km12_244 rfl ⟨Nat.le_of_ble_eq_true rfl, Nat.le_of_ble_eq_true rfl⟩ hl.1 rfl (Nat.le_of_ble_eq_true rfl) ⟨Nat.le_of_ble_eq_true rfl, Nat.le_of_ble_eq_true rfl⟩ dX12_clause_21 (fun r_90119 H locs er_90119 Y => ?_)
      refine lv_if_eq (tgt := 29) hx hb dX12_clause_24 (by decide) (fun c_90120 => ?_) (fun c_90120 => ?_)
      · have B_90121 : bn 0 0 r_90119 := bn_w (bn_eq c_90120 (show bn 0 0 (0 : Int32) from bn_k (by decide))) (by decide)
        refine lv_aload_n hx hb dX12_clause_29 rfl (lv_at hl 1 rfl) ?_
        refine pg_get S Y ok_X12 2 (by decide) kf12_16 (v := .ref (ad 3 0)) p_ad_0_0 rfl dX12_clause_30 ?_
        refine lv_aload_n hx hb dX12_clause_33 rfl (lv_at hl 1 rfl) ?_
        refine pg_get S Y ok_X12 12 (by decide) kf12_136 (v := .int t0) p_ad_0_0 rfl dX12_clause_34 ?_
        obtain ⟨g_90123, p_ad_3_0, o_90124⟩ := I.opi (k := 3) (j := 0) (by decide) rfl
        have p_ad_3_0 : pt L f (ad 3 0) (.inl (G.2 0, 2916, .inl g_90123)) := p_ad_3_0
        obtain ⟨v_90125, ev_90125⟩ : ∃ z, z = g_90123 (t0 : Int32).toNatClampNeg := ⟨_, rfl⟩
        refine pg_iald S Y (v := v_90125) p_ad_3_0 (vp_bn bfe_12 (by decide)) ev_90125.symm dX12_clause_37 ?_
        have hZ := o_90124
        have en0 := ev_90125
        have B_90126 : bn 0 24 v_90125 := TZ_n hZ ht0 ev_90125
        refine lv_istore_n (lv' := [(2, .int v_90125), (1, .int r_90026), (0, .ref (ad 0 0))]) hx hb dX12_clause_38 rfl hl (by decide) rfl (fun ls hl => ?_)
        refine lv_iload_n hx hb dX12_clause_39 rfl (lv_at hl 0 rfl) ?_
        refine lv_bipush (v := 24) hx hb dX12_clause_40 (by decide) ?_
        refine lv_icmp_ne (tgt := 48) hx hb dX12_clause_42 (by decide) (fun c_90127 => ?_) (fun c_90127 => ?_)
        · have B_90128 : bn 0 23 v_90125 := bn_w (bn_neu c_90127 B_90126 (show bn 24 24 (24 : Int32) from bn_k (by decide))) (by decide)
          refine lv_iload_n hx hb dX12_clause_48 rfl (lv_at hl 1 rfl) ?_
          refine lv_iconst (v := 2) hx hb dX12_clause_49 (by decide) ?_
          refine lv_icmp_gt (tgt := 65) hx hb dX12_clause_50 (by decide) (fun h => absurd h c_90030) (fun _ => ?_)
          refine lv_aload_n hx hb dX12_clause_53 rfl (lv_at hl 2 rfl) ?_
          refine lv_dup hx hb dX12_clause_54 rfl ?_
          refine pg_get S Y ok_X12 21 (by decide) kf12_241 (v := .int on9) p_ad_0_0 rfl dX12_clause_55 ?_
          refine lv_iconst (v := 1) hx hb dX12_clause_58 (by decide) ?_
          refine lv_iload_n hx hb dX12_clause_59 rfl (lv_at hl 1 rfl) ?_
          refine lv_ishl hx hb dX12_clause_60 ?_
          refine lv_topi (fun x_90130 ex_90130 => ?_)
          refine lv_ior hx hb dX12_clause_61 ?_
          refine lv_topi (fun x_90131 ex_90131 => ?_)
          refine pg_put S Y ok_X12 21 (by decide) kf12_241 rfl (fs' := [.ref (ad 1 0), .ref (ad 2 0), .ref (ad 3 0), .ref (ad 4 0), .int td, .int fa, .int fp, .int at9, .int ps9, .int tk, .int nu, .long wd, .int t0, .int wr, .int so, .ref (ad 5 0), .ref (ad 6 0), .int pd, .int op9, .int cg, .int iw, .int x_90131, .ref (ad 7 0), .ref (ad 8 0), .ref (ad 9 0), .int is9, .ref (ad 10 0), .ref (ad 11 0), .ref (ad 12 0), .ref (ad 13 0), .int se, .ref (ad 14 0)]) (v := .int x_90131) p_ad_0_0 rfl rfl rfl (Nat.le_of_ble_eq_true rfl) dX12_clause_62 (fun f_90132 H locs ef_90132 Y => ?_)
          have p_ad_4_0 := p_ad_4_0.up ef_90132 (I.ne (k := 4) (j := 0) (k' := 0) (j' := 0) (by decide) (by decide) (Or.inl (by decide)))
          have p_ad_3_0 := p_ad_3_0.up ef_90132 (I.ne (k := 3) (j := 0) (k' := 0) (j' := 0) (by decide) (by decide) (Or.inl (by decide)))
          have p_ad_0_0 := p_ad_0_0.me ef_90132
          have I := I.up (k := 0) (j := 0) (by decide) ef_90132 (okE_o (okFs_c okV_r (okFs_c okV_r (okFs_c okV_r (okFs_c okV_r (okFs_c (okV_i bfe_4) (okFs_c (okV_i (bn_any _)) (okFs_c (okV_i (bn_any _)) (okFs_c (okV_i bfe_7) (okFs_c (okV_i bfe_8) (okFs_c (okV_i (bn_any _)) (okFs_c (okV_i (bn_any _)) (okFs_c okV_l (okFs_c (okV_i bfe_12) (okFs_c (okV_i bfe_13) (okFs_c (okV_i (bn_any _)) (okFs_c okV_r (okFs_c okV_r (okFs_c (okV_i bfe_17) (okFs_c (okV_i bfe_18) (okFs_c (okV_i bfe_19) (okFs_c (okV_i bfe_20) (okFs_c (okV_i (bn_w (bn_any x_90131) (by decide))) (okFs_c okV_r (okFs_c okV_r (okFs_c okV_r (okFs_c (okV_i bfe_25) (okFs_c okV_r (okFs_c okV_r (okFs_c okV_r (okFs_c okV_r (okFs_c (okV_i (bn_any _)) (okFs_c okV_r okFs_n)))))))))))))))))))))))))))))))))
          refine lv_aload_n hx hb dX12_clause_65 rfl (lv_at hl 2 rfl) ?_
          refine lv_iload_n hx hb dX12_clause_66 rfl (lv_at hl 1 rfl) ?_
          refine pg_put S Y ok_X12 14 (by decide) kf12_175 rfl (fs' := [.ref (ad 1 0), .ref (ad 2 0), .ref (ad 3 0), .ref (ad 4 0), .int td, .int fa, .int fp, .int at9, .int ps9, .int tk, .int nu, .long wd, .int t0, .int wr, .int r_90026, .ref (ad 5 0), .ref (ad 6 0), .int pd, .int op9, .int cg, .int iw, .int x_90131, .ref (ad 7 0), .ref (ad 8 0), .ref (ad 9 0), .int is9, .ref (ad 10 0), .ref (ad 11 0), .ref (ad 12 0), .ref (ad 13 0), .int se, .ref (ad 14 0)]) (v := .int r_90026) p_ad_0_0 rfl rfl rfl (Nat.le_of_ble_eq_true rfl) dX12_clause_67 (fun f_90133 H locs ef_90133 Y => ?_)
          have p_ad_4_0 := p_ad_4_0.up ef_90133 (I.ne (k := 4) (j := 0) (k' := 0) (j' := 0) (by decide) (by decide) (Or.inl (by decide)))
          have p_ad_3_0 := p_ad_3_0.up ef_90133 (I.ne (k := 3) (j := 0) (k' := 0) (j' := 0) (by decide) (by decide) (Or.inl (by decide)))
          have p_ad_0_0 := p_ad_0_0.me ef_90133
          have I := I.up (k := 0) (j := 0) (by decide) ef_90133 (okE_o (okFs_c okV_r (okFs_c okV_r (okFs_c okV_r (okFs_c okV_r (okFs_c (okV_i bfe_4) (okFs_c (okV_i (bn_any _)) (okFs_c (okV_i (bn_any _)) (okFs_c (okV_i bfe_7) (okFs_c (okV_i bfe_8) (okFs_c (okV_i (bn_any _)) (okFs_c (okV_i (bn_any _)) (okFs_c okV_l (okFs_c (okV_i bfe_12) (okFs_c (okV_i bfe_13) (okFs_c (okV_i (bn_w B_90032 (by decide))) (okFs_c okV_r (okFs_c okV_r (okFs_c (okV_i bfe_17) (okFs_c (okV_i bfe_18) (okFs_c (okV_i bfe_19) (okFs_c (okV_i bfe_20) (okFs_c (okV_i (bn_w (bn_any x_90131) (by decide))) (okFs_c okV_r (okFs_c okV_r (okFs_c okV_r (okFs_c (okV_i bfe_25) (okFs_c okV_r (okFs_c okV_r (okFs_c okV_r (okFs_c okV_r (okFs_c (okV_i (bn_any _)) (okFs_c okV_r okFs_n)))))))))))))))))))))))))))))))))
          refine lv_aload_n hx hb dX12_clause_70 rfl (lv_at hl 2 rfl) ?_
          have o_90134 : (EQ g_90123) g_90123 := rfl
          have I := I.castS (sp' := spM PA PI (EQ g_90123) pa) (k := 3) (j := 0) (by decide) p_ad_3_0 (okE_a (g := g_90123) o_90134) pXC
          obtain ⟨g_90135, p_ad_5_0, o_90136⟩ := I.opi (k := 5) (j := 0) (by decide) rfl
          have p_ad_5_0 : pt L f_90133 (ad 5 0) (.inl (G.2 0, 160, .inl g_90135)) := p_ad_5_0
          obtain ⟨g_90137, p_ad_6_0, o_90138⟩ := I.opi (k := 6) (j := 0) (by decide) rfl
          have p_ad_6_0 : pt L f_90133 (ad 6 0) (.inl (G.2 0, 9, .inl g_90137)) := p_ad_6_0
          refine cVv (As := []) (rest := []) S Y (x_X12_nextToken (l := l) I p_ad_0_0 p_ad_4_0 p_ad_5_0 p_ad_6_0) cw_X12_nextToken km12_166 p_ad_0_0 ok_X12.1 rfl rfl ⟨Nat.le_of_ble_eq_true rfl, Nat.le_of_ble_eq_true rfl⟩ hl.1 rfl (Nat.le_of_ble_eq_true rfl) ⟨Nat.le_of_ble_eq_true rfl, Nat.le_of_ble_eq_true rfl⟩ dX12_clause_71 (fun L_90139 f_90140 H locs hr_90141 Y => ?_)
          obtain ⟨v_90142, v_90143, v_90144, v_90145, v_90146, I, p_ad_0_0, p_ad_4_0, p_ad_5_0, p_ad_6_0, eT_90147, eP_90148⟩ := hr_90141
          obtain ⟨bfc90148_4, bfc90148_7, bfc90148_8, bfc90148_12, bfc90148_13, bfc90148_17, bfc90148_18, bfc90148_19, bfc90148_20, bfc90148_25⟩ := obM I p_ad_0_0
          refine lv_aload_n hx hb dX12_clause_74 rfl (lv_at hl 2 rfl) ?_
          refine pg_get S Y ok_X12 12 (by decide) kf12_136 (v := .int t0) p_ad_0_0 rfl dX12_clause_75 ?_
          refine lv_iconst (v := 1) hx hb dX12_clause_78 (by decide) ?_
          refine lv_iadd hx hb dX12_clause_79 ?_
          refine lv_topi (fun x_90150 ex_90150 => ?_)
          refine lv_iconst (v := 5) hx hb dX12_clause_80 (by decide) ?_
          refine lv_iload_n hx hb dX12_clause_81 rfl (lv_at hl 0 rfl) ?_
          refine lv_imul hx hb dX12_clause_82 ?_
          refine lv_topi (fun x_90151 ex_90151 => ?_)
          refine lv_iadd hx hb dX12_clause_83 ?_
          refine lv_topi (fun x_90152 ex_90152 => ?_)
          refine lv_istore_n (lv' := [(3, .int x_90152), (2, .int v_90125), (1, .int r_90026), (0, .ref (ad 0 0))]) hx hb dX12_clause_84 rfl hl (by decide) rfl (fun ls hl => ?_)
          refine lv_aload_n hx hb dX12_clause_85 rfl (lv_at hl 3 rfl) ?_
          refine pg_get S Y ok_X12 2 (by decide) kf12_16 (v := .ref (ad 3 0)) p_ad_0_0 rfl dX12_clause_86 ?_
          refine lv_iload_n hx hb dX12_clause_89 rfl (lv_at hl 0 rfl) ?_
          refine lv_iload_n hx hb dX12_clause_90 rfl (lv_at hl 2 rfl) ?_
          obtain ⟨g_90153, p_ad_3_0, o_90154⟩ := I.opi (k := 3) (j := 0) (by decide) rfl
          have p_ad_3_0 : pt L_90139 f_90140 (ad 3 0) (.inl (G.2 0, 2916, .inl g_90153)) := p_ad_3_0
          refine pg_iast S Y p_ad_3_0 (vp_bn (bn_eq ex_90152 (bn_add (bn_eq ex_90150 (bn_add bfc90148_12 (show bn 1 1 (1 : Int32) from bn_k (by decide)) (by decide))) (bn_eq ex_90151 (bn_mul (show bn 5 5 (5 : Int32) from bn_k (by decide)) B_90128 (by decide))) (by decide))) (by decide)) dX12_clause_91 (fun f_90156 H locs ef_90156 Y => ?_)
          obtain ⟨g_90155, eg_90155⟩ : ∃ z, z = upd (g_90153) (x_90152 : Int32).toNatClampNeg r_90026 := ⟨_, rfl⟩
          rw [← eg_90155] at ef_90156
          have p_ad_0_0 := p_ad_0_0.up ef_90156 (I.ne (k := 0) (j := 0) (k' := 3) (j' := 0) (by decide) (by decide) (Or.inl (by decide)))
          have p_ad_4_0 := p_ad_4_0.up ef_90156 (I.ne (k := 4) (j := 0) (k' := 3) (j' := 0) (by decide) (by decide) (Or.inl (by decide)))
          have p_ad_5_0 := p_ad_5_0.up ef_90156 (I.ne (k := 5) (j := 0) (k' := 3) (j' := 0) (by decide) (by decide) (Or.inl (by decide)))
          have p_ad_6_0 := p_ad_6_0.up ef_90156 (I.ne (k := 6) (j := 0) (k' := 3) (j' := 0) (by decide) (by decide) (Or.inl (by decide)))
          have p_ad_3_0 := p_ad_3_0.me ef_90156
          have o_90157 : (EQ g_90155) g_90155 := rfl
          have I := I.upS (sp' := spM PA PI (EQ g_90155) pa) (k := 3) (j := 0) (by decide) ef_90156 (okE_a (g := g_90155) o_90157) pXC
          have eg1 : g_90155 = upd g_90123 (x_90152 : Int32).toNatClampNeg r_90026 := by rw [eg_90155, show g_90153 = g_90123 from o_90154]
          refine lv_aload_n hx hb dX12_clause_92 rfl (lv_at hl 3 rfl) ?_
          refine lv_iload_n hx hb dX12_clause_93 rfl (lv_at hl 2 rfl) ?_
          refine lv_iload_n hx hb dX12_clause_94 rfl (lv_at hl 0 rfl) ?_
          refine cVi (As := [.int r_90026, .int x_90152]) (rest := []) S Y (x_X12_body (l := l) I p_ad_0_0 (bn_w B_90032 (by decide)) (bn_w (bn_eq ex_90152 (bn_add (bn_eq ex_90150 (bn_add bfc90148_12 (show bn 1 1 (1 : Int32) from bn_k (by decide)) (by decide))) (bn_eq ex_90151 (bn_mul (show bn 5 5 (5 : Int32) from bn_k (by decide)) B_90128 (by decide))) (by decide))) (by decide)) (show g_90155 x_90152.toInt.toNat = r_90026 from by rw [eg1, ← tnc, pk_us]) rfl (by have z9 := (la_add ex_90152 (la_add ex_90150 (rfl : t0.toInt = t0.toInt) (show (1 : Int32).toInt = 1 from rfl) bfc90148_12 (show bn 1 1 (1 : Int32) from bn_k (by decide)) (by decide)) (la_mul ex_90151 (show (5 : Int32).toInt = 5 from rfl) (rfl : v_90125.toInt = v_90125.toInt) (show bn 5 5 (5 : Int32) from bn_k (by decide)) B_90128 (by decide)) (bn_eq ex_90150 (bn_add bfc90148_12 (show bn 1 1 (1 : Int32) from bn_k (by decide)) (by decide))) (bn_eq ex_90151 (bn_mul (show bn 5 5 (5 : Int32) from bn_k (by decide)) B_90128 (by decide))) (by decide)); have z8 := (B_90128).2; omega) (by have c0 := hT.1; have c1 := hroom; have c2 := eT_90147.1; have c3 := eP_90148; omega) eT_90147) cw_X12_body km12_248 p_ad_0_0 ok_X12.1 rfl rfl ⟨Nat.le_of_ble_eq_true rfl, Nat.le_of_ble_eq_true rfl⟩ hl.1 rfl (Nat.le_of_ble_eq_true rfl) ⟨Nat.le_of_ble_eq_true rfl, Nat.le_of_ble_eq_true rfl⟩ dX12_clause_95 (fun r_90160 L_90158 f_90159 H locs hr_90160 Y => ?_)
          obtain ⟨v_90161, v_90162, v_90163, v_90164, v_90165, v_90166, v_90167, v_90168, v_90169, v_90170, er_90160, I, p_ad_0_0, eT_90171, eQ_90172, eW_90173⟩ := hr_90160
          obtain ⟨bfc90173_4, bfc90173_7, bfc90173_8, bfc90173_12, bfc90173_13, bfc90173_17, bfc90173_18, bfc90173_19, bfc90173_20, bfc90173_25⟩ := obM I p_ad_0_0
          refine lv_istore (lv' := [(4, .int r_90160), (3, .int x_90152), (2, .int v_90125), (1, .int r_90026), (0, .ref (ad 0 0))]) hx hb dX12_clause_98 hl (by decide) rfl (fun ls hl => ?_)
          refine lv_iload hx hb dX12_clause_100 (lv_at hl 0 rfl) ?_
          refine lv_if_eq (tgt := 108) hx hb dX12_clause_102 (by decide) (fun c_90175 => ?_) (fun c_90175 => ?_)
          · have B_90176 : bn 0 0 r_90160 := bn_w (bn_eq c_90175 (show bn 0 0 (0 : Int32) from bn_k (by decide))) (by decide)
            refine lv_aload_n hx hb dX12_clause_108 rfl (lv_at hl 4 rfl) ?_
            refine pg_get S Y ok_X12 2 (by decide) kf12_16 (v := .ref (ad 3 0)) p_ad_0_0 rfl dX12_clause_109 ?_
            refine lv_aload_n hx hb dX12_clause_112 rfl (lv_at hl 4 rfl) ?_
            refine pg_get S Y ok_X12 12 (by decide) kf12_136 (v := .int t0) p_ad_0_0 rfl dX12_clause_113 ?_
            refine lv_dup2_11 hx hb dX12_clause_116 rfl rfl ?_
            obtain ⟨g_90178, p_ad_3_0, o_90179⟩ := I.opi (k := 3) (j := 0) (by decide) rfl
            have p_ad_3_0 : pt L_90158 f_90159 (ad 3 0) (.inl (G.2 0, 2916, .inl g_90178)) := p_ad_3_0
            obtain ⟨v_90180, ev_90180⟩ : ∃ z, z = g_90178 (t0 : Int32).toNatClampNeg := ⟨_, rfl⟩
            refine pg_iald S Y (v := v_90180) p_ad_3_0 (vp_bn bfc90173_12 (by decide)) ev_90180.symm dX12_clause_117 ?_
            refine lv_iconst (v := 1) hx hb dX12_clause_118 (by decide) ?_
            refine lv_iadd hx hb dX12_clause_119 ?_
            refine lv_topi (fun x_90181 ex_90181 => ?_)
            refine pg_iast S Y p_ad_3_0 (vp_bn bfc90173_12 (by decide)) dX12_clause_120 (fun f_90183 H locs ef_90183 Y => ?_)
            obtain ⟨g_90182, eg_90182⟩ : ∃ z, z = upd (g_90178) (t0 : Int32).toNatClampNeg x_90181 := ⟨_, rfl⟩
            rw [← eg_90182] at ef_90183
            have p_ad_0_0 := p_ad_0_0.up ef_90183 (I.ne (k := 0) (j := 0) (k' := 3) (j' := 0) (by decide) (by decide) (Or.inl (by decide)))
            have p_ad_3_0 := p_ad_3_0.me ef_90183
            have o_90184 : (TZ t0 v_90166) g_90182 := (TZ_up hZ ht0 bfe_13.1 en0 (bn_w B_90128 (by decide)) eg1 (by have z9 := (la_add ex_90152 (la_add ex_90150 (rfl : t0.toInt = t0.toInt) (show (1 : Int32).toInt = 1 from rfl) bfc90173_12 (show bn 1 1 (1 : Int32) from bn_k (by decide)) (by decide)) (la_mul ex_90151 (show (5 : Int32).toInt = 5 from rfl) (rfl : v_90125.toInt = v_90125.toInt) (show bn 5 5 (5 : Int32) from bn_k (by decide)) B_90128 (by decide)) (bn_eq ex_90150 (bn_add bfc90148_12 (show bn 1 1 (1 : Int32) from bn_k (by decide)) (by decide))) (bn_eq ex_90151 (bn_mul (show bn 5 5 (5 : Int32) from bn_k (by decide)) B_90128 (by decide))) (by decide)); omega) o_90179 c_90175 ev_90180 ex_90181 eg_90182)
            have I := I.upS (sp' := spM PA PI (TZ t0 v_90166) pa) (k := 3) (j := 0) (by decide) ef_90183 (okE_a (g := g_90182) o_90184) pXC
            refine lv_aload_n hx hb dX12_clause_121 rfl (lv_at hl 4 rfl) ?_
            refine pg_get S Y ok_X12 9 (by decide) kf12_98 (v := .int v_90163) p_ad_0_0 rfl dX12_clause_122 ?_
            refine lv_bipush (v := 59) hx hb dX12_clause_125 (by decide) ?_
            refine lv_icmp_eq (tgt := 132) hx hb dX12_clause_127 (by decide) (fun c_90185 => ?_) (fun c_90185 => ?_)
            · have B_90186 : bn 59 59 v_90163 := bn_w (bn_eq c_90185 (show bn 59 59 (59 : Int32) from bn_k (by decide))) (by decide)
              refine lv_aload_n hx hb dX12_clause_132 rfl (lv_at hl 4 rfl) ?_
              obtain ⟨g_90187, p_ad_4_0, o_90188⟩ := I.opi (k := 4) (j := 0) (by decide) rfl
              have p_ad_4_0 : pt L_90158 f_90183 (ad 4 0) (.inl (G.2 0, 300, .inl g_90187)) := p_ad_4_0
              obtain ⟨g_90189, p_ad_5_0, o_90190⟩ := I.opi (k := 5) (j := 0) (by decide) rfl
              have p_ad_5_0 : pt L_90158 f_90183 (ad 5 0) (.inl (G.2 0, 160, .inl g_90189)) := p_ad_5_0
              obtain ⟨g_90191, p_ad_6_0, o_90192⟩ := I.opi (k := 6) (j := 0) (by decide) rfl
              have p_ad_6_0 : pt L_90158 f_90183 (ad 6 0) (.inl (G.2 0, 9, .inl g_90191)) := p_ad_6_0
              refine cVv (As := []) (rest := []) S Y (x_X12_nextToken (l := l) I p_ad_0_0 p_ad_4_0 p_ad_5_0 p_ad_6_0) cw_X12_nextToken km12_166 p_ad_0_0 ok_X12.1 rfl rfl ⟨Nat.le_of_ble_eq_true rfl, Nat.le_of_ble_eq_true rfl⟩ hl.1 rfl (Nat.le_of_ble_eq_true rfl) ⟨Nat.le_of_ble_eq_true rfl, Nat.le_of_ble_eq_true rfl⟩ dX12_clause_133 (fun L_90193 f_90194 H locs hr_90195 Y => ?_)
              obtain ⟨v_90196, v_90197, v_90198, v_90199, v_90200, I, p_ad_0_0, p_ad_4_0, p_ad_5_0, p_ad_6_0, eT_90201, eP_90202⟩ := hr_90195
              obtain ⟨bfc90202_4, bfc90202_7, bfc90202_8, bfc90202_12, bfc90202_13, bfc90202_17, bfc90202_18, bfc90202_19, bfc90202_20, bfc90202_25⟩ := obM I p_ad_0_0
              obtain ⟨g_90204, p_ad_3_0, o_90205⟩ := I.opi (k := 3) (j := 0) (by decide) rfl
              have p_ad_3_0 : pt L_90193 f_90194 (ad 3 0) (.inl (G.2 0, 2916, .inl g_90204)) := p_ad_3_0
              have o_90206 : (TC 0 t0 v_90166) g_90204 := (TC_ok o_90205)
              have I := I.castS (sp' := spM PA PI (TC 0 t0 v_90166) pa) (k := 3) (j := 0) (by decide) p_ad_3_0 (okE_a (g := g_90204) o_90206) pXC
              refine lv_iconst (v := 0) hx hb dX12_clause_136 (by decide) ?_
              exact prI (post := fun r L1 f1 => ∃ at92 : Int32, ∃ ps92 : Int32, ∃ tk2 : Int32, ∃ nu2 : Int32, ∃ wd2 : Int64, ∃ wr2 : Int32, ∃ so2 : Int32, ∃ pd2 : Int32, ∃ op92 : Int32, ∃ cg2 : Int32, ∃ iw2 : Int32, ∃ on92 : Int32, bn 0 7 r ∧ SH (spM PA PI (TC r t0 wr2) pa) nnM G ad L1 f1 ∧ pt L1 f1 (ad 0 0) (.inr (12, [.ref (ad 1 0), .ref (ad 2 0), .ref (ad 3 0), .ref (ad 4 0), .int td, .int fa, .int fp, .int at92, .int ps92, .int tk2, .int nu2, .long wd2, .int t0, .int wr2, .int so2, .ref (ad 5 0), .ref (ad 6 0), .int pd2, .int op92, .int cg2, .int iw2, .int on92, .ref (ad 7 0), .ref (ad 8 0), .ref (ad 9 0), .int is9, .ref (ad 10 0), .ref (ad 11 0), .ref (ad 12 0), .ref (ad 13 0), .int se, .ref (ad 14 0)])) ∧ TK at92 ps92 tk2 ∧ (r.toInt = 0 → ps9.toInt + 1 ≤ ps92.toInt) ∧ (r.toInt = 0 → wr2.toInt ≤ ps92.toInt)) S Y rfl (by decide) (by decide) hA1 ⟨v_90196, v_90197, v_90198, v_90199, v_90200, v_90166, r_90026, v_90167, v_90168, v_90169, v_90170, x_90131, bn_w (show bn 0 0 (0 : Int32) from bn_k (by decide)) (by decide), I, p_ad_0_0, eT_90201, (fun _ => by have c0 := hT.2 htk; have c1 := eT_90147.1; have c2 := eP_90148; have c3 := eT_90201.1; have c4 := eP_90202; have c5 := eT_90171.1; have c6 := eQ_90172 (show r_90160.toInt = 0 from by rw [c_90175]; rfl); have c7 := eW_90173 (show r_90160.toInt = 0 from by rw [c_90175]; rfl); omega), (fun _ => by have c0 := hT.2 htk; have c1 := eT_90147.1; have c2 := eP_90148; have c3 := eT_90201.1; have c4 := eP_90202; have c5 := eT_90171.1; have c6 := eQ_90172 (show r_90160.toInt = 0 from by rw [c_90175]; rfl); have c7 := eW_90173 (show r_90160.toInt = 0 from by rw [c_90175]; rfl); omega)⟩ dX12_clause_137
            · have o_90207 : (TC 1 t0 v_90166) g_90182 := (TC_no o_90184 (by decide))
              have I := I.castS (sp' := spM PA PI (TC 1 t0 v_90166) pa) (k := 3) (j := 0) (by decide) p_ad_3_0 (okE_a (g := g_90182) o_90207) pXC
              refine lv_iconst (v := 1) hx hb dX12_clause_130 (by decide) ?_
              exact prI (post := fun r L1 f1 => ∃ at92 : Int32, ∃ ps92 : Int32, ∃ tk2 : Int32, ∃ nu2 : Int32, ∃ wd2 : Int64, ∃ wr2 : Int32, ∃ so2 : Int32, ∃ pd2 : Int32, ∃ op92 : Int32, ∃ cg2 : Int32, ∃ iw2 : Int32, ∃ on92 : Int32, bn 0 7 r ∧ SH (spM PA PI (TC r t0 wr2) pa) nnM G ad L1 f1 ∧ pt L1 f1 (ad 0 0) (.inr (12, [.ref (ad 1 0), .ref (ad 2 0), .ref (ad 3 0), .ref (ad 4 0), .int td, .int fa, .int fp, .int at92, .int ps92, .int tk2, .int nu2, .long wd2, .int t0, .int wr2, .int so2, .ref (ad 5 0), .ref (ad 6 0), .int pd2, .int op92, .int cg2, .int iw2, .int on92, .ref (ad 7 0), .ref (ad 8 0), .ref (ad 9 0), .int is9, .ref (ad 10 0), .ref (ad 11 0), .ref (ad 12 0), .ref (ad 13 0), .int se, .ref (ad 14 0)])) ∧ TK at92 ps92 tk2 ∧ (r.toInt = 0 → ps9.toInt + 1 ≤ ps92.toInt) ∧ (r.toInt = 0 → wr2.toInt ≤ ps92.toInt)) S Y rfl (by decide) (by decide) hA1 ⟨v_90161, v_90162, v_90163, v_90164, v_90165, v_90166, r_90026, v_90167, v_90168, v_90169, v_90170, x_90131, bn_w (show bn 1 1 (1 : Int32) from bn_k (by decide)) (by decide), I, p_ad_0_0, eT_90171, (fun h => absurd h (by decide)), (fun h => absurd h (by decide))⟩ dX12_clause_131
          · have B_90177 : bn 1 7 r_90160 := bn_w (bn_nel c_90175 er_90160 (show bn 0 0 (0 : Int32) from bn_k (by decide))) (by decide)
            refine lv_iload hx hb dX12_clause_105 (lv_at hl 0 rfl) ?_
            obtain ⟨g_90208, p_ad_3_0, o_90209⟩ := I.opi (k := 3) (j := 0) (by decide) rfl
            have p_ad_3_0 : pt L_90158 f_90159 (ad 3 0) (.inl (G.2 0, 2916, .inl g_90208)) := p_ad_3_0
            have o_90210 : (TC r_90160 t0 v_90166) g_90208 := (TZ_bd hZ ht0 bfe_13.1 en0 (bn_w B_90128 (by decide)) eg1 (by have z9 := (la_add ex_90152 (la_add ex_90150 (rfl : t0.toInt = t0.toInt) (show (1 : Int32).toInt = 1 from rfl) bfc90173_12 (show bn 1 1 (1 : Int32) from bn_k (by decide)) (by decide)) (la_mul ex_90151 (show (5 : Int32).toInt = 5 from rfl) (rfl : v_90125.toInt = v_90125.toInt) (show bn 5 5 (5 : Int32) from bn_k (by decide)) B_90128 (by decide)) (bn_eq ex_90150 (bn_add bfc90148_12 (show bn 1 1 (1 : Int32) from bn_k (by decide)) (by decide))) (bn_eq ex_90151 (bn_mul (show bn 5 5 (5 : Int32) from bn_k (by decide)) B_90128 (by decide))) (by decide)); omega) o_90209 c_90175)
            have I := I.castS (sp' := spM PA PI (TC r_90160 t0 v_90166) pa) (k := 3) (j := 0) (by decide) p_ad_3_0 (okE_a (g := g_90208) o_90210) pXC
            exact prI (post := fun r L1 f1 => ∃ at92 : Int32, ∃ ps92 : Int32, ∃ tk2 : Int32, ∃ nu2 : Int32, ∃ wd2 : Int64, ∃ wr2 : Int32, ∃ so2 : Int32, ∃ pd2 : Int32, ∃ op92 : Int32, ∃ cg2 : Int32, ∃ iw2 : Int32, ∃ on92 : Int32, bn 0 7 r ∧ SH (spM PA PI (TC r t0 wr2) pa) nnM G ad L1 f1 ∧ pt L1 f1 (ad 0 0) (.inr (12, [.ref (ad 1 0), .ref (ad 2 0), .ref (ad 3 0), .ref (ad 4 0), .int td, .int fa, .int fp, .int at92, .int ps92, .int tk2, .int nu2, .long wd2, .int t0, .int wr2, .int so2, .ref (ad 5 0), .ref (ad 6 0), .int pd2, .int op92, .int cg2, .int iw2, .int on92, .ref (ad 7 0), .ref (ad 8 0), .ref (ad 9 0), .int is9, .ref (ad 10 0), .ref (ad 11 0), .ref (ad 12 0), .ref (ad 13 0), .int se, .ref (ad 14 0)])) ∧ TK at92 ps92 tk2 ∧ (r.toInt = 0 → ps9.toInt + 1 ≤ ps92.toInt) ∧ (r.toInt = 0 → wr2.toInt ≤ ps92.toInt)) S Y rfl (by decide) (by decide) hA1 ⟨v_90161, v_90162, v_90163, v_90164, v_90165, v_90166, r_90026, v_90167, v_90168, v_90169, v_90170, x_90131, bn_w B_90177 (by decide), I, p_ad_0_0, eT_90171, (fun h => absurd (Int32.toInt_inj.mp (h.trans rfl)) c_90175), (fun h => absurd (Int32.toInt_inj.mp (h.trans rfl)) c_90175)⟩ dX12_clause_107
        · have B_90129 : bn 24 24 v_90125 := bn_w (bn_eq c_90127 (show bn 24 24 (24 : Int32) from bn_k (by decide))) (by decide)
          have o_90211 : (TC 6 t0 wr) g_90123 := (TC_no o_90124 (by decide))
          have I := I.castS (sp' := spM PA PI (TC 6 t0 wr) pa) (k := 3) (j := 0) (by decide) p_ad_3_0 (okE_a (g := g_90123) o_90211) pXC
          refine lv_bipush (v := 6) hx hb dX12_clause_45 (by decide) ?_
          exact prI (post := fun r L1 f1 => ∃ at92 : Int32, ∃ ps92 : Int32, ∃ tk2 : Int32, ∃ nu2 : Int32, ∃ wd2 : Int64, ∃ wr2 : Int32, ∃ so2 : Int32, ∃ pd2 : Int32, ∃ op92 : Int32, ∃ cg2 : Int32, ∃ iw2 : Int32, ∃ on92 : Int32, bn 0 7 r ∧ SH (spM PA PI (TC r t0 wr2) pa) nnM G ad L1 f1 ∧ pt L1 f1 (ad 0 0) (.inr (12, [.ref (ad 1 0), .ref (ad 2 0), .ref (ad 3 0), .ref (ad 4 0), .int td, .int fa, .int fp, .int at92, .int ps92, .int tk2, .int nu2, .long wd2, .int t0, .int wr2, .int so2, .ref (ad 5 0), .ref (ad 6 0), .int pd2, .int op92, .int cg2, .int iw2, .int on92, .ref (ad 7 0), .ref (ad 8 0), .ref (ad 9 0), .int is9, .ref (ad 10 0), .ref (ad 11 0), .ref (ad 12 0), .ref (ad 13 0), .int se, .ref (ad 14 0)])) ∧ TK at92 ps92 tk2 ∧ (r.toInt = 0 → ps9.toInt + 1 ≤ ps92.toInt) ∧ (r.toInt = 0 → wr2.toInt ≤ ps92.toInt)) S Y rfl (by decide) (by decide) hA1 ⟨at9, ps9, tk, nu, wd, wr, so, pd, op9, cg, iw, on9, bn_w (show bn 6 6 (6 : Int32) from bn_k (by decide)) (by decide), I, p_ad_0_0, hT, (fun h => absurd h (by decide)), (fun h => absurd h (by decide))⟩ dX12_clause_47
      · have B_90122 : bn 1 1 r_90119 := bn_w (bn_nel c_90120 er_90119 (show bn 0 0 (0 : Int32) from bn_k (by decide))) (by decide)
        obtain ⟨g_90212, p_ad_3_0, o_90213⟩ := I.opi (k := 3) (j := 0) (by decide) rfl
        have p_ad_3_0 : pt L f (ad 3 0) (.inl (G.2 0, 2916, .inl g_90212)) := p_ad_3_0
        have o_90214 : (TC 4 t0 wr) g_90212 := (TC_no o_90213 (by decide))
        have I := I.castS (sp' := spM PA PI (TC 4 t0 wr) pa) (k := 3) (j := 0) (by decide) p_ad_3_0 (okE_a (g := g_90212) o_90214) pXC
        refine lv_iconst (v := 4) hx hb dX12_clause_27 (by decide) ?_
        exact prI (post := fun r L1 f1 => ∃ at92 : Int32, ∃ ps92 : Int32, ∃ tk2 : Int32, ∃ nu2 : Int32, ∃ wd2 : Int64, ∃ wr2 : Int32, ∃ so2 : Int32, ∃ pd2 : Int32, ∃ op92 : Int32, ∃ cg2 : Int32, ∃ iw2 : Int32, ∃ on92 : Int32, bn 0 7 r ∧ SH (spM PA PI (TC r t0 wr2) pa) nnM G ad L1 f1 ∧ pt L1 f1 (ad 0 0) (.inr (12, [.ref (ad 1 0), .ref (ad 2 0), .ref (ad 3 0), .ref (ad 4 0), .int td, .int fa, .int fp, .int at92, .int ps92, .int tk2, .int nu2, .long wd2, .int t0, .int wr2, .int so2, .ref (ad 5 0), .ref (ad 6 0), .int pd2, .int op92, .int cg2, .int iw2, .int on92, .ref (ad 7 0), .ref (ad 8 0), .ref (ad 9 0), .int is9, .ref (ad 10 0), .ref (ad 11 0), .ref (ad 12 0), .ref (ad 13 0), .int se, .ref (ad 14 0)])) ∧ TK at92 ps92 tk2 ∧ (r.toInt = 0 → ps9.toInt + 1 ≤ ps92.toInt) ∧ (r.toInt = 0 → wr2.toInt ≤ ps92.toInt)) S Y rfl (by decide) (by decide) hA1 ⟨at9, ps9, tk, nu, wd, wr, so, pd, op9, cg, iw, on9, bn_w (show bn 4 4 (4 : Int32) from bn_k (by decide)) (by decide), I, p_ad_0_0, hT, (fun h => absurd h (by decide)), (fun h => absurd h (by decide))⟩ dX12_clause_28
  · have B_90029 : bn (-1) (-1) r_90026 := bn_w (bn_gtr c_90027 (show bn 0 0 (0 : Int32) from bn_k (by decide)) er_90026.1) (by decide)
    obtain ⟨g_90215, p_ad_3_0, o_90216⟩ := I.opi (k := 3) (j := 0) (by decide) rfl
    have p_ad_3_0 : pt L f (ad 3 0) (.inl (G.2 0, 2916, .inl g_90215)) := p_ad_3_0
    have o_90217 : (TC 1 t0 wr) g_90215 := (TC_no o_90216 (by decide))
    have I := I.castS (sp' := spM PA PI (TC 1 t0 wr) pa) (k := 3) (j := 0) (by decide) p_ad_3_0 (okE_a (g := g_90215) o_90217) pXC
    refine lv_iconst (v := 1) hx hb dX12_clause_9 (by decide) ?_
    exact prI (post := fun r L1 f1 => ∃ at92 : Int32, ∃ ps92 : Int32, ∃ tk2 : Int32, ∃ nu2 : Int32, ∃ wd2 : Int64, ∃ wr2 : Int32, ∃ so2 : Int32, ∃ pd2 : Int32, ∃ op92 : Int32, ∃ cg2 : Int32, ∃ iw2 : Int32, ∃ on92 : Int32, bn 0 7 r ∧ SH (spM PA PI (TC r t0 wr2) pa) nnM G ad L1 f1 ∧ pt L1 f1 (ad 0 0) (.inr (12, [.ref (ad 1 0), .ref (ad 2 0), .ref (ad 3 0), .ref (ad 4 0), .int td, .int fa, .int fp, .int at92, .int ps92, .int tk2, .int nu2, .long wd2, .int t0, .int wr2, .int so2, .ref (ad 5 0), .ref (ad 6 0), .int pd2, .int op92, .int cg2, .int iw2, .int on92, .ref (ad 7 0), .ref (ad 8 0), .ref (ad 9 0), .int is9, .ref (ad 10 0), .ref (ad 11 0), .ref (ad 12 0), .ref (ad 13 0), .int se, .ref (ad 14 0)])) ∧ TK at92 ps92 tk2 ∧ (r.toInt = 0 → ps9.toInt + 1 ≤ ps92.toInt) ∧ (r.toInt = 0 → wr2.toInt ≤ ps92.toInt)) S Y rfl (by decide) (by decide) hA1 ⟨at9, ps9, tk, nu, wd, wr, so, pd, op9, cg, iw, on9, bn_w (show bn 1 1 (1 : Int32) from bn_k (by decide)) (by decide), I, p_ad_0_0, hT, (fun h => absurd h (by decide)), (fun h => absurd h (by decide))⟩ dX12_clause_10
set_option maxHeartbeats 4000000 in
set_option maxRecDepth 100000 in
theorem x_X12_readText {l : Launch} {G : GG}  {L : List Nat} {f : HF} {ad : Nat → Nat → Nat} {g0 : Nat → Int32} {pa : (Nat → Int32) → Prop} {PI : (Nat → Int32) → Prop} {td fa fp at9 ps9 tk nu t0 wr so pd op9 cg iw on9 is9 se : Int32} {wd : Int64} {PA : (Nat → Int32) → Prop} (I : SH (spM (T3 PA) PI (EQ g0) pa) nnM G ad L f) (hX : TX g0) (p_ad_0_0 : pt L f (ad 0 0) (.inr (12, [.ref (ad 1 0), .ref (ad 2 0), .ref (ad 3 0), .ref (ad 4 0), .int td, .int fa, .int fp, .int at9, .int ps9, .int tk, .int nu, .long wd, .int t0, .int wr, .int so, .ref (ad 5 0), .ref (ad 6 0), .int pd, .int op9, .int cg, .int iw, .int on9, .ref (ad 7 0), .ref (ad 8 0), .ref (ad 9 0), .int is9, .ref (ad 10 0), .ref (ad 11 0), .ref (ad 12 0), .ref (ad 13 0), .int se, .ref (ad 14 0)]))) : PMi l yX12_readText cX12_readText 2 .int 10 0 0 G [.ref (ad 0 0)] L f (fun r L1 f1 => ∃ at92 : Int32, ∃ ps92 : Int32, ∃ tk2 : Int32, ∃ nu2 : Int32, ∃ wd2 : Int64, ∃ t02 : Int32, ∃ wr2 : Int32, ∃ so2 : Int32, ∃ pd2 : Int32, ∃ op92 : Int32, ∃ cg2 : Int32, ∃ iw2 : Int32, ∃ on92 : Int32, bn 0 7 r ∧ SH (spM (T3 PA) PI TX pa) nnM G ad L1 f1 ∧ pt L1 f1 (ad 0 0) (.inr (12, [.ref (ad 1 0), .ref (ad 2 0), .ref (ad 3 0), .ref (ad 4 0), .int td, .int fa, .int fp, .int at92, .int ps92, .int tk2, .int nu2, .long wd2, .int t02, .int wr2, .int so2, .ref (ad 5 0), .ref (ad 6 0), .int pd2, .int op92, .int cg2, .int iw2, .int on92, .ref (ad 7 0), .ref (ad 8 0), .ref (ad 9 0), .int is9, .ref (ad 10 0), .ref (ad 11 0), .ref (ad 12 0), .ref (ad 13 0), .int se, .ref (ad 14 0)]))) := by
  refine PMi.of (post := fun r L1 f1 => ∃ at92 : Int32, ∃ ps92 : Int32, ∃ tk2 : Int32, ∃ nu2 : Int32, ∃ wd2 : Int64, ∃ t02 : Int32, ∃ wr2 : Int32, ∃ so2 : Int32, ∃ pd2 : Int32, ∃ op92 : Int32, ∃ cg2 : Int32, ∃ iw2 : Int32, ∃ on92 : Int32, bn 0 7 r ∧ SH (spM (T3 PA) PI TX pa) nnM G ad L1 f1 ∧ pt L1 f1 (ad 0 0) (.inr (12, [.ref (ad 1 0), .ref (ad 2 0), .ref (ad 3 0), .ref (ad 4 0), .int td, .int fa, .int fp, .int at92, .int ps92, .int tk2, .int nu2, .long wd2, .int t02, .int wr2, .int so2, .ref (ad 5 0), .ref (ad 6 0), .int pd2, .int op92, .int cg2, .int iw2, .int on92, .ref (ad 7 0), .ref (ad 8 0), .ref (ad 9 0), .int is9, .ref (ad 10 0), .ref (ad 11 0), .ref (ad 12 0), .ref (ad 13 0), .int se, .ref (ad 14 0)]))) (own := RX12) (by decide) rfl (Nat.le_of_ble_eq_true rfl) (fun sz p e s m args below meth c A ls hA1 hname S Y hl => ?_)
  have hx := S.hx
  have hb := S.hb
  have hl : lv_has ls 2 [(0, .ref (ad 0 0))] := hl
  obtain ⟨bfe_4, bfe_7, bfe_8, bfe_12, bfe_13, bfe_17, bfe_18, bfe_19, bfe_20, bfe_25⟩ := obM I p_ad_0_0
  have J_43 : ∀ (n43 : Nat) (y43_f7 y43_f8 y43_f9 y43_f10 y43_f12 y43_f13 y43_f14 y43_f17 y43_f18 y43_f19 y43_f20 y43_f21 : Int32) (y43_f11 : Int64) (L_43 : List Nat) (f_43 : HF) (H : Heap) (locs : List Loc) (ls : Array Slot), (SH (spM (T3 PA) PI (TZ y43_f12 y43_f13) pa) nnM G ad L_43 f_43) → (bn 0 300 y43_f7) → (bn 0 300 y43_f8) → (bn 0 2187 y43_f12) → (bn 0 300 y43_f13) → (bn 0 160 y43_f17) → (bn 0 8 y43_f18) → (bn 0 8 y43_f19) → (bn 0 1 y43_f20) → (TK y43_f7 y43_f8 y43_f9 ∧ y43_f13.toInt ≤ y43_f8.toInt ∧ TT y43_f12) → (pt L_43 f_43 (ad 0 0) (.inr (12, [.ref (ad 1 0), .ref (ad 2 0), .ref (ad 3 0), .ref (ad 4 0), .int td, .int fa, .int fp, .int y43_f7, .int y43_f8, .int y43_f9, .int y43_f10, .long y43_f11, .int y43_f12, .int y43_f13, .int y43_f14, .ref (ad 5 0), .ref (ad 6 0), .int y43_f17, .int y43_f18, .int y43_f19, .int y43_f20, .int y43_f21, .ref (ad 7 0), .ref (ad 8 0), .ref (ad 9 0), .int is9, .ref (ad 10 0), .ref (ad 11 0), .ref (ad 12 0), .ref (ad 13 0), .int se, .ref (ad 14 0)]))) → ((300 - y43_f8.toInt).toNat = n43) → (DY G A s [] L_43 f_43 H locs) → (lv_has ls 2 [(0, .ref (ad 0 0))]) → W p l e (rmD 10 0 0) s m args below meth c H locs (0) (0) (MQ below (va_Qi (fun r (u : List Nat × HF) => (fun r L1 f1 => ∃ at92 : Int32, ∃ ps92 : Int32, ∃ tk2 : Int32, ∃ nu2 : Int32, ∃ wd2 : Int64, ∃ t02 : Int32, ∃ wr2 : Int32, ∃ so2 : Int32, ∃ pd2 : Int32, ∃ op92 : Int32, ∃ cg2 : Int32, ∃ iw2 : Int32, ∃ on92 : Int32, bn 0 7 r ∧ SH (spM (T3 PA) PI TX pa) nnM G ad L1 f1 ∧ pt L1 f1 (ad 0 0) (.inr (12, [.ref (ad 1 0), .ref (ad 2 0), .ref (ad 3 0), .ref (ad 4 0), .int td, .int fa, .int fp, .int at92, .int ps92, .int tk2, .int nu2, .long wd2, .int t02, .int wr2, .int so2, .ref (ad 5 0), .ref (ad 6 0), .int pd2, .int op92, .int cg2, .int iw2, .int on92, .ref (ad 7 0), .ref (ad 8 0), .ref (ad 9 0), .int is9, .ref (ad 10 0), .ref (ad 11 0), .ref (ad 12 0), .ref (ad 13 0), .int se, .ref (ad 14 0)]))) r u.1 u.2) (fun u t => pOut G (va_A (va_pl L f) sz) u.1 u.2 t) (va_A (va_pl L f) sz)) args s 0 0 A) (F0 m 43 ls []) := by
    intro n43
    induction n43 using Nat.strongRecOn with
    | _ n43 ih43 =>
      intro y43_f7 y43_f8 y43_f9 y43_f10 y43_f12 y43_f13 y43_f14 y43_f17 y43_f18 y43_f19 y43_f20 y43_f21 y43_f11 L_43 f_43 H locs ls I b_y43_f7 b_y43_f8 b_y43_f12 b_y43_f13 b_y43_f17 b_y43_f18 b_y43_f19 b_y43_f20 hR p_ad_0_0 hm43 Y hl
      obtain ⟨bf43_4, bf43_7, bf43_8, bf43_12, bf43_13, bf43_17, bf43_18, bf43_19, bf43_20, bf43_25⟩ := obM I p_ad_0_0
      refine lv_aload_n hx hb dX12_readText_43 rfl (lv_at hl 0 rfl) ?_
      refine pg_get S Y ok_X12 9 (by decide) kf12_98 (v := .int y43_f9) p_ad_0_0 rfl dX12_readText_44 ?_
      refine lv_if_eq (tgt := 64) hx hb dX12_readText_47 (by decide) (fun c_90370 => ?_) (fun c_90370 => ?_)
      · have B_90371 : bn 0 0 y43_f9 := bn_w (bn_eq c_90370 (show bn 0 0 (0 : Int32) from bn_k (by decide))) (by decide)
        obtain ⟨g_90372, p_ad_3_0, o_90373⟩ := I.opi (k := 3) (j := 0) (by decide) rfl
        have p_ad_3_0 : pt L_43 f_43 (ad 3 0) (.inl (G.2 0, 2916, .inl g_90372)) := p_ad_3_0
        have o_90374 : TX g_90372 := o_90373.1
        have I := I.castS (sp' := spM (T3 PA) PI TX pa) (k := 3) (j := 0) (by decide) p_ad_3_0 (okE_a (g := g_90372) o_90374) pXC
        refine lv_iconst (v := 0) hx hb dX12_readText_64 (by decide) ?_
        exact prI (post := fun r L1 f1 => ∃ at92 : Int32, ∃ ps92 : Int32, ∃ tk2 : Int32, ∃ nu2 : Int32, ∃ wd2 : Int64, ∃ t02 : Int32, ∃ wr2 : Int32, ∃ so2 : Int32, ∃ pd2 : Int32, ∃ op92 : Int32, ∃ cg2 : Int32, ∃ iw2 : Int32, ∃ on92 : Int32, bn 0 7 r ∧ SH (spM (T3 PA) PI TX pa) nnM G ad L1 f1 ∧ pt L1 f1 (ad 0 0) (.inr (12, [.ref (ad 1 0), .ref (ad 2 0), .ref (ad 3 0), .ref (ad 4 0), .int td, .int fa, .int fp, .int at92, .int ps92, .int tk2, .int nu2, .long wd2, .int t02, .int wr2, .int so2, .ref (ad 5 0), .ref (ad 6 0), .int pd2, .int op92, .int cg2, .int iw2, .int on92, .ref (ad 7 0), .ref (ad 8 0), .ref (ad 9 0), .int is9, .ref (ad 10 0), .ref (ad 11 0), .ref (ad 12 0), .ref (ad 13 0), .int se, .ref (ad 14 0)]))) S Y rfl (by decide) (by decide) hA1 ⟨y43_f7, y43_f8, y43_f9, y43_f10, y43_f11, y43_f12, y43_f13, y43_f14, y43_f17, y43_f18, y43_f19, y43_f20, y43_f21, bn_w (show bn 0 0 (0 : Int32) from bn_k (by decide)) (by decide), I, p_ad_0_0⟩ dX12_readText_65
      · refine lv_aload_n hx hb dX12_readText_50 rfl (lv_at hl 0 rfl) ?_
        refine cVi (As := []) (rest := []) S Y (x_X12_clause (l := l) I p_ad_0_0 hR.2.1 hR.1 hR.2.2) cw_X12_clause km12_251 p_ad_0_0 ok_X12.1 rfl rfl ⟨Nat.le_of_ble_eq_true rfl, Nat.le_of_ble_eq_true rfl⟩ hl.1 rfl (Nat.le_of_ble_eq_true rfl) ⟨Nat.le_of_ble_eq_true rfl, Nat.le_of_ble_eq_true rfl⟩ dX12_readText_51 (fun r_90377 L_90375 f_90376 H locs hr_90377 Y => ?_)
        obtain ⟨v_90378, v_90379, v_90380, v_90381, v_90382, v_90383, v_90384, v_90385, v_90386, v_90387, v_90388, v_90389, er_90377, I, p_ad_0_0, eT_90390, eR_90391, eW_90392⟩ := hr_90377
        obtain ⟨bfc90392_4, bfc90392_7, bfc90392_8, bfc90392_12, bfc90392_13, bfc90392_17, bfc90392_18, bfc90392_19, bfc90392_20, bfc90392_25⟩ := obM I p_ad_0_0
        refine lv_istore_n (lv' := [(1, .int r_90377), (0, .ref (ad 0 0))]) hx hb dX12_readText_54 rfl hl (by decide) rfl (fun ls hl => ?_)
        refine lv_iload_n hx hb dX12_readText_55 rfl (lv_at hl 0 rfl) ?_
        refine lv_if_eq (tgt := 61) hx hb dX12_readText_56 (by decide) (fun c_90394 => ?_) (fun c_90394 => ?_)
        · have B_90395 : bn 0 0 r_90377 := bn_w (bn_eq c_90394 (show bn 0 0 (0 : Int32) from bn_k (by decide))) (by decide)
          refine lv_goto (tgt := 43) hx hb dX12_readText_61 (by decide) ?_
          obtain ⟨g_90397, p_ad_3_0, o_90398⟩ := I.opi (k := 3) (j := 0) (by decide) rfl
          have p_ad_3_0 : pt L_90375 f_90376 (ad 3 0) (.inl (G.2 0, 2916, .inl g_90397)) := p_ad_3_0
          have o_90399 : (TZ y43_f12 v_90383) g_90397 := (o_90398.2 c_90394)
          have I := I.castS (sp' := spM (T3 PA) PI (TZ y43_f12 v_90383) pa) (k := 3) (j := 0) (by decide) p_ad_3_0 (okE_a (g := g_90397) o_90399) pXC
          exact ih43 _ (by rw [← hm43]; exact (show (300 - v_90379.toInt).toNat < (300 - y43_f8.toInt).toNat from by have z9 := eR_90391 (show r_90377.toInt = 0 from by rw [c_90394]; rfl); have z6 := (bfc90392_8).2; omega)) v_90378 v_90379 v_90380 v_90381 y43_f12 v_90383 v_90384 v_90385 v_90386 v_90387 v_90388 v_90389 v_90382 _ _  _ _ _ I (bn_w bfc90392_7 (by decide)) (bn_w bfc90392_8 (by decide)) (bn_w bfc90392_12 (by decide)) (bn_w bfc90392_13 (by decide)) (bn_w bfc90392_17 (by decide)) (bn_w bfc90392_18 (by decide)) (bn_w bfc90392_19 (by decide)) (bn_w bfc90392_20 (by decide)) ⟨eT_90390, eW_90392 (show r_90377.toInt = 0 from by rw [c_90394]; rfl), hR.2.2⟩ p_ad_0_0 rfl Y (lv_sub hl [1] rfl)
        · have B_90396 : bn 1 7 r_90377 := bn_w (bn_nel c_90394 er_90377 (show bn 0 0 (0 : Int32) from bn_k (by decide))) (by decide)
          obtain ⟨g_90400, p_ad_3_0, o_90401⟩ := I.opi (k := 3) (j := 0) (by decide) rfl
          have p_ad_3_0 : pt L_90375 f_90376 (ad 3 0) (.inl (G.2 0, 2916, .inl g_90400)) := p_ad_3_0
          have o_90402 : TX g_90400 := o_90401.1
          have I := I.castS (sp' := spM (T3 PA) PI TX pa) (k := 3) (j := 0) (by decide) p_ad_3_0 (okE_a (g := g_90400) o_90402) pXC
          refine lv_iload_n hx hb dX12_readText_59 rfl (lv_at hl 0 rfl) ?_
          exact prI (post := fun r L1 f1 => ∃ at92 : Int32, ∃ ps92 : Int32, ∃ tk2 : Int32, ∃ nu2 : Int32, ∃ wd2 : Int64, ∃ t02 : Int32, ∃ wr2 : Int32, ∃ so2 : Int32, ∃ pd2 : Int32, ∃ op92 : Int32, ∃ cg2 : Int32, ∃ iw2 : Int32, ∃ on92 : Int32, bn 0 7 r ∧ SH (spM (T3 PA) PI TX pa) nnM G ad L1 f1 ∧ pt L1 f1 (ad 0 0) (.inr (12, [.ref (ad 1 0), .ref (ad 2 0), .ref (ad 3 0), .ref (ad 4 0), .int td, .int fa, .int fp, .int at92, .int ps92, .int tk2, .int nu2, .long wd2, .int t02, .int wr2, .int so2, .ref (ad 5 0), .ref (ad 6 0), .int pd2, .int op92, .int cg2, .int iw2, .int on92, .ref (ad 7 0), .ref (ad 8 0), .ref (ad 9 0), .int is9, .ref (ad 10 0), .ref (ad 11 0), .ref (ad 12 0), .ref (ad 13 0), .int se, .ref (ad 14 0)]))) S Y rfl (by decide) (by decide) hA1 ⟨v_90378, v_90379, v_90380, v_90381, v_90382, y43_f12, v_90383, v_90384, v_90385, v_90386, v_90387, v_90388, v_90389, bn_w B_90396 (by decide), I, p_ad_0_0⟩ dX12_readText_60
  refine lv_aload_n hx hb dX12_readText_0 rfl (lv_at hl 0 rfl) ?_
  refine lv_sipush (v := 729) hx hb dX12_readText_1 (by decide) ?_
  refine lv_aload_n hx hb dX12_readText_4 rfl (lv_at hl 0 rfl) ?_
  refine pg_get S Y ok_X12 0 (by decide) kf12_7 (v := .ref (ad 1 0)) p_ad_0_0 rfl dX12_readText_5 ?_
  refine lv_iconst (v := 1) hx hb dX12_readText_8 (by decide) ?_
  obtain ⟨g_90403, p_ad_1_0, o_90404⟩ := I.opi (k := 1) (j := 0) (by decide) rfl
  have p_ad_1_0 : pt L f (ad 1 0) (.inl (G.2 0, 10568, .inl g_90403)) := p_ad_1_0
  obtain ⟨v_90405, ev_90405⟩ : ∃ z, z = g_90403 (1 : Int32).toNatClampNeg := ⟨_, rfl⟩
  refine pg_iald S Y (v := v_90405) p_ad_1_0 (by unfold vp_in; decide) ev_90405.symm dX12_readText_9 ?_
  have B_90406 : bn 0 3 v_90405 := by rw [ev_90405]; exact o_90404.2
  refine lv_imul hx hb dX12_readText_10 ?_
  refine lv_topi (fun x_90407 ex_90407 => ?_)
  refine pg_put S Y ok_X12 12 (by decide) kf12_136 rfl (fs' := [.ref (ad 1 0), .ref (ad 2 0), .ref (ad 3 0), .ref (ad 4 0), .int td, .int fa, .int fp, .int at9, .int ps9, .int tk, .int nu, .long wd, .int x_90407, .int wr, .int so, .ref (ad 5 0), .ref (ad 6 0), .int pd, .int op9, .int cg, .int iw, .int on9, .ref (ad 7 0), .ref (ad 8 0), .ref (ad 9 0), .int is9, .ref (ad 10 0), .ref (ad 11 0), .ref (ad 12 0), .ref (ad 13 0), .int se, .ref (ad 14 0)]) (v := .int x_90407) p_ad_0_0 rfl rfl rfl (Nat.le_of_ble_eq_true rfl) dX12_readText_11 (fun f_90408 H locs ef_90408 Y => ?_)
  have p_ad_1_0 := p_ad_1_0.up ef_90408 (I.ne (k := 1) (j := 0) (k' := 0) (j' := 0) (by decide) (by decide) (Or.inl (by decide)))
  have p_ad_0_0 := p_ad_0_0.me ef_90408
  have I := I.up (k := 0) (j := 0) (by decide) ef_90408 (okE_o (okFs_c okV_r (okFs_c okV_r (okFs_c okV_r (okFs_c okV_r (okFs_c (okV_i bfe_4) (okFs_c (okV_i (bn_any _)) (okFs_c (okV_i (bn_any _)) (okFs_c (okV_i bfe_7) (okFs_c (okV_i bfe_8) (okFs_c (okV_i (bn_any _)) (okFs_c (okV_i (bn_any _)) (okFs_c okV_l (okFs_c (okV_i (bn_w (bn_eq ex_90407 (bn_mul (show bn 729 729 (729 : Int32) from bn_k (by decide)) B_90406 (by decide))) (by decide))) (okFs_c (okV_i bfe_13) (okFs_c (okV_i (bn_any _)) (okFs_c okV_r (okFs_c okV_r (okFs_c (okV_i bfe_17) (okFs_c (okV_i bfe_18) (okFs_c (okV_i bfe_19) (okFs_c (okV_i bfe_20) (okFs_c (okV_i (bn_any _)) (okFs_c okV_r (okFs_c okV_r (okFs_c okV_r (okFs_c (okV_i bfe_25) (okFs_c okV_r (okFs_c okV_r (okFs_c okV_r (okFs_c okV_r (okFs_c (okV_i (bn_any _)) (okFs_c okV_r okFs_n)))))))))))))))))))))))))))))))))
  refine lv_aload_n hx hb dX12_readText_14 rfl (lv_at hl 0 rfl) ?_
  refine pg_get S Y ok_X12 2 (by decide) kf12_16 (v := .ref (ad 3 0)) p_ad_0_0 rfl dX12_readText_15 ?_
  refine lv_aload_n hx hb dX12_readText_18 rfl (lv_at hl 0 rfl) ?_
  refine pg_get S Y ok_X12 12 (by decide) kf12_136 (v := .int x_90407) p_ad_0_0 rfl dX12_readText_19 ?_
  refine lv_iconst (v := 0) hx hb dX12_readText_22 (by decide) ?_
  obtain ⟨g_90409, p_ad_3_0, o_90410⟩ := I.opi (k := 3) (j := 0) (by decide) rfl
  have p_ad_3_0 : pt L f_90408 (ad 3 0) (.inl (G.2 0, 2916, .inl g_90409)) := p_ad_3_0
  refine pg_iast S Y p_ad_3_0 (vp_bn (bn_eq ex_90407 (bn_mul (show bn 729 729 (729 : Int32) from bn_k (by decide)) B_90406 (by decide))) (by decide)) dX12_readText_23 (fun f_90412 H locs ef_90412 Y => ?_)
  obtain ⟨g_90411, eg_90411⟩ : ∃ z, z = upd (g_90409) (x_90407 : Int32).toNatClampNeg 0 := ⟨_, rfl⟩
  rw [← eg_90411] at ef_90412
  have p_ad_0_0 := p_ad_0_0.up ef_90412 (I.ne (k := 0) (j := 0) (k' := 3) (j' := 0) (by decide) (by decide) (Or.inl (by decide)))
  have p_ad_1_0 := p_ad_1_0.up ef_90412 (I.ne (k := 1) (j := 0) (k' := 3) (j' := 0) (by decide) (by decide) (Or.inl (by decide)))
  have p_ad_3_0 := p_ad_3_0.me ef_90412
  have htt : TT x_90407 := ⟨v_90405.toInt.toNat, by have z8 := B_90406; have z7 := z8.1; have z6 := z8.2; exact ⟨by omega, by have z9 := (la_mul ex_90407 (show (729 : Int32).toInt = 729 from rfl) (rfl : v_90405.toInt = v_90405.toInt) (show bn 729 729 (729 : Int32) from bn_k (by decide)) B_90406 (by decide)); omega⟩⟩
  have o_90413 : (TZ x_90407 0) g_90411 := (TZ_0 (show TX g_90409 from by rw [show g_90409 = g0 from o_90410]; exact hX) htt eg_90411)
  have I := I.upS (sp' := spM (T3 PA) PI (TZ x_90407 0) pa) (k := 3) (j := 0) (by decide) ef_90412 (okE_a (g := g_90411) o_90413) pXC
  refine lv_aload_n hx hb dX12_readText_24 rfl (lv_at hl 0 rfl) ?_
  refine lv_iconst (v := 0) hx hb dX12_readText_25 (by decide) ?_
  refine pg_put S Y ok_X12 13 (by decide) kf12_139 rfl (fs' := [.ref (ad 1 0), .ref (ad 2 0), .ref (ad 3 0), .ref (ad 4 0), .int td, .int fa, .int fp, .int at9, .int ps9, .int tk, .int nu, .long wd, .int x_90407, .int 0, .int so, .ref (ad 5 0), .ref (ad 6 0), .int pd, .int op9, .int cg, .int iw, .int on9, .ref (ad 7 0), .ref (ad 8 0), .ref (ad 9 0), .int is9, .ref (ad 10 0), .ref (ad 11 0), .ref (ad 12 0), .ref (ad 13 0), .int se, .ref (ad 14 0)]) (v := .int 0) p_ad_0_0 rfl rfl rfl (Nat.le_of_ble_eq_true rfl) dX12_readText_26 (fun f_90414 H locs ef_90414 Y => ?_)
  have p_ad_1_0 := p_ad_1_0.up ef_90414 (I.ne (k := 1) (j := 0) (k' := 0) (j' := 0) (by decide) (by decide) (Or.inl (by decide)))
  have p_ad_3_0 := p_ad_3_0.up ef_90414 (I.ne (k := 3) (j := 0) (k' := 0) (j' := 0) (by decide) (by decide) (Or.inl (by decide)))
  have p_ad_0_0 := p_ad_0_0.me ef_90414
  have I := I.up (k := 0) (j := 0) (by decide) ef_90414 (okE_o (okFs_c okV_r (okFs_c okV_r (okFs_c okV_r (okFs_c okV_r (okFs_c (okV_i bfe_4) (okFs_c (okV_i (bn_any _)) (okFs_c (okV_i (bn_any _)) (okFs_c (okV_i bfe_7) (okFs_c (okV_i bfe_8) (okFs_c (okV_i (bn_any _)) (okFs_c (okV_i (bn_any _)) (okFs_c okV_l (okFs_c (okV_i (bn_w (bn_eq ex_90407 (bn_mul (show bn 729 729 (729 : Int32) from bn_k (by decide)) B_90406 (by decide))) (by decide))) (okFs_c (okV_i (bn_w (show bn 0 0 (0 : Int32) from bn_k (by decide)) (by decide))) (okFs_c (okV_i (bn_any _)) (okFs_c okV_r (okFs_c okV_r (okFs_c (okV_i bfe_17) (okFs_c (okV_i bfe_18) (okFs_c (okV_i bfe_19) (okFs_c (okV_i bfe_20) (okFs_c (okV_i (bn_any _)) (okFs_c okV_r (okFs_c okV_r (okFs_c okV_r (okFs_c (okV_i bfe_25) (okFs_c okV_r (okFs_c okV_r (okFs_c okV_r (okFs_c okV_r (okFs_c (okV_i (bn_any _)) (okFs_c okV_r okFs_n)))))))))))))))))))))))))))))))))
  refine lv_aload_n hx hb dX12_readText_29 rfl (lv_at hl 0 rfl) ?_
  refine lv_iconst (v := 0) hx hb dX12_readText_30 (by decide) ?_
  refine pg_put S Y ok_X12 21 (by decide) kf12_241 rfl (fs' := [.ref (ad 1 0), .ref (ad 2 0), .ref (ad 3 0), .ref (ad 4 0), .int td, .int fa, .int fp, .int at9, .int ps9, .int tk, .int nu, .long wd, .int x_90407, .int 0, .int so, .ref (ad 5 0), .ref (ad 6 0), .int pd, .int op9, .int cg, .int iw, .int 0, .ref (ad 7 0), .ref (ad 8 0), .ref (ad 9 0), .int is9, .ref (ad 10 0), .ref (ad 11 0), .ref (ad 12 0), .ref (ad 13 0), .int se, .ref (ad 14 0)]) (v := .int 0) p_ad_0_0 rfl rfl rfl (Nat.le_of_ble_eq_true rfl) dX12_readText_31 (fun f_90415 H locs ef_90415 Y => ?_)
  have p_ad_1_0 := p_ad_1_0.up ef_90415 (I.ne (k := 1) (j := 0) (k' := 0) (j' := 0) (by decide) (by decide) (Or.inl (by decide)))
  have p_ad_3_0 := p_ad_3_0.up ef_90415 (I.ne (k := 3) (j := 0) (k' := 0) (j' := 0) (by decide) (by decide) (Or.inl (by decide)))
  have p_ad_0_0 := p_ad_0_0.me ef_90415
  have I := I.up (k := 0) (j := 0) (by decide) ef_90415 (okE_o (okFs_c okV_r (okFs_c okV_r (okFs_c okV_r (okFs_c okV_r (okFs_c (okV_i bfe_4) (okFs_c (okV_i (bn_any _)) (okFs_c (okV_i (bn_any _)) (okFs_c (okV_i bfe_7) (okFs_c (okV_i bfe_8) (okFs_c (okV_i (bn_any _)) (okFs_c (okV_i (bn_any _)) (okFs_c okV_l (okFs_c (okV_i (bn_w (bn_eq ex_90407 (bn_mul (show bn 729 729 (729 : Int32) from bn_k (by decide)) B_90406 (by decide))) (by decide))) (okFs_c (okV_i (bn_w (show bn 0 0 (0 : Int32) from bn_k (by decide)) (by decide))) (okFs_c (okV_i (bn_any _)) (okFs_c okV_r (okFs_c okV_r (okFs_c (okV_i bfe_17) (okFs_c (okV_i bfe_18) (okFs_c (okV_i bfe_19) (okFs_c (okV_i bfe_20) (okFs_c (okV_i (bn_w (show bn 0 0 (0 : Int32) from bn_k (by decide)) (by decide))) (okFs_c okV_r (okFs_c okV_r (okFs_c okV_r (okFs_c (okV_i bfe_25) (okFs_c okV_r (okFs_c okV_r (okFs_c okV_r (okFs_c okV_r (okFs_c (okV_i (bn_any _)) (okFs_c okV_r okFs_n)))))))))))))))))))))))))))))))))
  refine lv_aload_n hx hb dX12_readText_34 rfl (lv_at hl 0 rfl) ?_
  refine lv_iconst (v := 0) hx hb dX12_readText_35 (by decide) ?_
  refine pg_put S Y ok_X12 7 (by decide) kf12_88 rfl (fs' := [.ref (ad 1 0), .ref (ad 2 0), .ref (ad 3 0), .ref (ad 4 0), .int td, .int fa, .int fp, .int 0, .int ps9, .int tk, .int nu, .long wd, .int x_90407, .int 0, .int so, .ref (ad 5 0), .ref (ad 6 0), .int pd, .int op9, .int cg, .int iw, .int 0, .ref (ad 7 0), .ref (ad 8 0), .ref (ad 9 0), .int is9, .ref (ad 10 0), .ref (ad 11 0), .ref (ad 12 0), .ref (ad 13 0), .int se, .ref (ad 14 0)]) (v := .int 0) p_ad_0_0 rfl rfl rfl (Nat.le_of_ble_eq_true rfl) dX12_readText_36 (fun f_90416 H locs ef_90416 Y => ?_)
  have p_ad_1_0 := p_ad_1_0.up ef_90416 (I.ne (k := 1) (j := 0) (k' := 0) (j' := 0) (by decide) (by decide) (Or.inl (by decide)))
  have p_ad_3_0 := p_ad_3_0.up ef_90416 (I.ne (k := 3) (j := 0) (k' := 0) (j' := 0) (by decide) (by decide) (Or.inl (by decide)))
  have p_ad_0_0 := p_ad_0_0.me ef_90416
  have I := I.up (k := 0) (j := 0) (by decide) ef_90416 (okE_o (okFs_c okV_r (okFs_c okV_r (okFs_c okV_r (okFs_c okV_r (okFs_c (okV_i bfe_4) (okFs_c (okV_i (bn_any _)) (okFs_c (okV_i (bn_any _)) (okFs_c (okV_i (bn_w (show bn 0 0 (0 : Int32) from bn_k (by decide)) (by decide))) (okFs_c (okV_i bfe_8) (okFs_c (okV_i (bn_any _)) (okFs_c (okV_i (bn_any _)) (okFs_c okV_l (okFs_c (okV_i (bn_w (bn_eq ex_90407 (bn_mul (show bn 729 729 (729 : Int32) from bn_k (by decide)) B_90406 (by decide))) (by decide))) (okFs_c (okV_i (bn_w (show bn 0 0 (0 : Int32) from bn_k (by decide)) (by decide))) (okFs_c (okV_i (bn_any _)) (okFs_c okV_r (okFs_c okV_r (okFs_c (okV_i bfe_17) (okFs_c (okV_i bfe_18) (okFs_c (okV_i bfe_19) (okFs_c (okV_i bfe_20) (okFs_c (okV_i (bn_w (show bn 0 0 (0 : Int32) from bn_k (by decide)) (by decide))) (okFs_c okV_r (okFs_c okV_r (okFs_c okV_r (okFs_c (okV_i bfe_25) (okFs_c okV_r (okFs_c okV_r (okFs_c okV_r (okFs_c okV_r (okFs_c (okV_i (bn_any _)) (okFs_c okV_r okFs_n)))))))))))))))))))))))))))))))))
  refine lv_aload_n hx hb dX12_readText_39 rfl (lv_at hl 0 rfl) ?_
  obtain ⟨g_90417, p_ad_4_0, o_90418⟩ := I.opi (k := 4) (j := 0) (by decide) rfl
  have p_ad_4_0 : pt L f_90416 (ad 4 0) (.inl (G.2 0, 300, .inl g_90417)) := p_ad_4_0
  obtain ⟨g_90419, p_ad_5_0, o_90420⟩ := I.opi (k := 5) (j := 0) (by decide) rfl
  have p_ad_5_0 : pt L f_90416 (ad 5 0) (.inl (G.2 0, 160, .inl g_90419)) := p_ad_5_0
  obtain ⟨g_90421, p_ad_6_0, o_90422⟩ := I.opi (k := 6) (j := 0) (by decide) rfl
  have p_ad_6_0 : pt L f_90416 (ad 6 0) (.inl (G.2 0, 9, .inl g_90421)) := p_ad_6_0
  refine cVv (As := []) (rest := []) S Y (x_X12_nextToken (l := l) I p_ad_0_0 p_ad_4_0 p_ad_5_0 p_ad_6_0) cw_X12_nextToken km12_166 p_ad_0_0 ok_X12.1 rfl rfl ⟨Nat.le_of_ble_eq_true rfl, Nat.le_of_ble_eq_true rfl⟩ hl.1 rfl (Nat.le_of_ble_eq_true rfl) ⟨Nat.le_of_ble_eq_true rfl, Nat.le_of_ble_eq_true rfl⟩ dX12_readText_40 (fun L_90423 f_90424 H locs hr_90425 Y => ?_)
  obtain ⟨v_90426, v_90427, v_90428, v_90429, v_90430, I, p_ad_0_0, p_ad_4_0, p_ad_5_0, p_ad_6_0, eT_90431, eP_90432⟩ := hr_90425
  obtain ⟨bfc90432_4, bfc90432_7, bfc90432_8, bfc90432_12, bfc90432_13, bfc90432_17, bfc90432_18, bfc90432_19, bfc90432_20, bfc90432_25⟩ := obM I p_ad_0_0
  exact J_43 _ v_90426 v_90427 v_90428 v_90429 x_90407 0 so pd op9 cg iw 0 v_90430 _ _  _ _ _ I (bn_w bfc90432_7 (by decide)) (bn_w bfc90432_8 (by decide)) (bn_w bfc90432_12 (by decide)) (bn_w (show bn 0 0 (0 : Int32) from bn_k (by decide)) (by decide)) (bn_w bfc90432_17 (by decide)) (bn_w bfc90432_18 (by decide)) (bn_w bfc90432_19 (by decide)) (bn_w bfc90432_20 (by decide)) ⟨eT_90431, (bfc90432_8).1, htt⟩ p_ad_0_0 rfl Y (lv_sub hl [0] rfl)
set_option maxHeartbeats 4000000 in
set_option maxRecDepth 100000 in
theorem x_X12_text {l : Launch} {G : GG}  {L : List Nat} {f : HF} {ad : Nat → Nat → Nat} {w : Int × Int} {pi : (Nat → Int32) → Prop} {g0 : Nat → Int32} (I : SH (spM (IA 0 0 14 9999 w) pi (EQ g0) LDa) nnM G ad L f) (hB : BBp 0 0 14 9999 w) (hX : TX g0) : PMi l yX12_text cX12_text 1 .int 11 0 0 G [.ref (ad 0 0)] L f (fun r L1 f1 => ∃ g2 : Nat → Int32, SH (spM (IA 0 0 14 9999 w) pi (EQ g2) LDa) nnM G ad L1 f1 ∧ TX g2) := by
  refine PMi.of (post := fun r L1 f1 => ∃ g2 : Nat → Int32, SH (spM (IA 0 0 14 9999 w) pi (EQ g2) LDa) nnM G ad L1 f1 ∧ TX g2) (own := RX12) (by decide) rfl (Nat.le_of_ble_eq_true rfl) (fun sz p e s m args below meth c A ls hA1 hname S Y hl => ?_)
  have hx := S.hx
  have hb := S.hb
  have hl : lv_has ls 1 [(0, .ref (ad 0 0))] := hl
  refine lv_aload_n hx hb dX12_text_0 rfl (lv_at hl 0 rfl) ?_
  obtain ⟨v_90608, v_90610, v_90612, v_90614, v_90616, v_90618, v_90620, v_90622, v_90623, v_90625, v_90627, v_90629, v_90631, v_90633, v_90635, v_90637, v_90639, v_90641, p_ad_0_0, b_90609, b_90611, b_90613, b_90615, b_90617, b_90619, b_90621, b_90624, b_90626, b_90628, b_90630, b_90632, b_90634, b_90636, b_90638, b_90640, b_90642⟩ := opnM_0 (j := 0) I (by decide)
  have p_ad_0_0 : pt L f (ad 0 0) (.inr (12, [.ref (ad 1 0), .ref (ad 2 0), .ref (ad 3 0), .ref (ad 4 0), .int v_90608, .int v_90610, .int v_90612, .int v_90614, .int v_90616, .int v_90618, .int v_90620, .long v_90622, .int v_90623, .int v_90625, .int v_90627, .ref (ad 5 0), .ref (ad 6 0), .int v_90629, .int v_90631, .int v_90633, .int v_90635, .int v_90637, .ref (ad 7 0), .ref (ad 8 0), .ref (ad 9 0), .int v_90639, .ref (ad 10 0), .ref (ad 11 0), .ref (ad 12 0), .ref (ad 13 0), .int v_90641, .ref (ad 14 0)])) := p_ad_0_0
  refine pg_get S Y ok_X12 0 (by decide) kf12_7 (v := .ref (ad 1 0)) p_ad_0_0 rfl dX12_text_1 ?_
  refine lv_iconst (v := 1) hx hb dX12_text_4 (by decide) ?_
  obtain ⟨g_90643, p_ad_1_0, o_90644⟩ := I.opi (k := 1) (j := 0) (by decide) rfl
  have p_ad_1_0 : pt L f (ad 1 0) (.inl (G.2 0, 10568, .inl g_90643)) := p_ad_1_0
  obtain ⟨v_90645, ev_90645⟩ : ∃ z, z = g_90643 (1 : Int32).toNatClampNeg := ⟨_, rfl⟩
  refine pg_iald S Y (v := v_90645) p_ad_1_0 (by unfold vp_in; decide) ev_90645.symm dX12_text_5 ?_
  have bv_90645 : bn 0 4 v_90645 := bn_eq ev_90645 (IA_1 o_90644)
  refine lv_iconst (v := 4) hx hb dX12_text_6 (by decide) ?_
  refine lv_icmp_ne (tgt := 12) hx hb dX12_text_7 (by decide) (fun c_90646 => ?_) (fun c_90646 => ?_)
  · have B_90647 : bn 0 3 v_90645 := bn_w (bn_neu c_90646 bv_90645 (show bn 4 4 (4 : Int32) from bn_k (by decide))) (by decide)
    have o_90649 : (T3 (IA 0 0 14 9999 w)) g_90643 := ⟨o_90644, show bn 0 3 (g_90643 1) from by have z9 : v_90645 = g_90643 1 := ev_90645; rw [← z9]; exact bn_w B_90647 (by decide)⟩
    have I := I.castS (sp' := spM (T3 (IA 0 0 14 9999 w)) pi (EQ g0) LDa) (k := 1) (j := 0) (by decide) p_ad_1_0 (okE_a (g := g_90643) o_90649) pAC
    refine lv_aload_n hx hb dX12_text_12 rfl (lv_at hl 0 rfl) ?_
    refine lv_aload_n hx hb dX12_text_13 rfl (lv_at hl 0 rfl) ?_
    refine cVi (As := []) (rest := [.ref (ad 0 0)]) S Y (x_X12_readText (l := l) I hX p_ad_0_0) cw_X12_readText km12_254 p_ad_0_0 ok_X12.1 rfl rfl ⟨Nat.le_of_ble_eq_true rfl, Nat.le_of_ble_eq_true rfl⟩ hl.1 rfl (Nat.le_of_ble_eq_true rfl) ⟨Nat.le_of_ble_eq_true rfl, Nat.le_of_ble_eq_true rfl⟩ dX12_text_14 (fun r_90652 L_90650 f_90651 H locs hr_90652 Y => ?_)
    obtain ⟨v_90653, v_90654, v_90655, v_90656, v_90657, v_90658, v_90659, v_90660, v_90661, v_90662, v_90663, v_90664, v_90665, er_90652, I, p_ad_0_0⟩ := hr_90652
    obtain ⟨bfc90665_4, bfc90665_7, bfc90665_8, bfc90665_12, bfc90665_13, bfc90665_17, bfc90665_18, bfc90665_19, bfc90665_20, bfc90665_25⟩ := obM I p_ad_0_0
    refine pg_put S Y ok_X12 5 (by decide) kf12_22 rfl (fs' := [.ref (ad 1 0), .ref (ad 2 0), .ref (ad 3 0), .ref (ad 4 0), .int v_90608, .int r_90652, .int v_90612, .int v_90653, .int v_90654, .int v_90655, .int v_90656, .long v_90657, .int v_90658, .int v_90659, .int v_90660, .ref (ad 5 0), .ref (ad 6 0), .int v_90661, .int v_90662, .int v_90663, .int v_90664, .int v_90665, .ref (ad 7 0), .ref (ad 8 0), .ref (ad 9 0), .int v_90639, .ref (ad 10 0), .ref (ad 11 0), .ref (ad 12 0), .ref (ad 13 0), .int v_90641, .ref (ad 14 0)]) (v := .int r_90652) p_ad_0_0 rfl rfl rfl (Nat.le_of_ble_eq_true rfl) dX12_text_17 (fun f_90667 H locs ef_90667 Y => ?_)
    have p_ad_0_0 := p_ad_0_0.me ef_90667
    have I := I.up (k := 0) (j := 0) (by decide) ef_90667 (okE_o (okFs_c okV_r (okFs_c okV_r (okFs_c okV_r (okFs_c okV_r (okFs_c (okV_i bfc90665_4) (okFs_c (okV_i (bn_w er_90652 (by decide))) (okFs_c (okV_i (bn_any _)) (okFs_c (okV_i bfc90665_7) (okFs_c (okV_i bfc90665_8) (okFs_c (okV_i (bn_any _)) (okFs_c (okV_i (bn_any _)) (okFs_c okV_l (okFs_c (okV_i bfc90665_12) (okFs_c (okV_i bfc90665_13) (okFs_c (okV_i (bn_any _)) (okFs_c okV_r (okFs_c okV_r (okFs_c (okV_i bfc90665_17) (okFs_c (okV_i bfc90665_18) (okFs_c (okV_i bfc90665_19) (okFs_c (okV_i bfc90665_20) (okFs_c (okV_i (bn_any _)) (okFs_c okV_r (okFs_c okV_r (okFs_c okV_r (okFs_c (okV_i bfc90665_25) (okFs_c okV_r (okFs_c okV_r (okFs_c okV_r (okFs_c okV_r (okFs_c (okV_i (bn_any _)) (okFs_c okV_r okFs_n)))))))))))))))))))))))))))))))))
    refine lv_aload_n hx hb dX12_text_20 rfl (lv_at hl 0 rfl) ?_
    refine lv_aload_n hx hb dX12_text_21 rfl (lv_at hl 0 rfl) ?_
    refine pg_get S Y ok_X12 5 (by decide) kf12_22 (v := .int r_90652) p_ad_0_0 rfl dX12_text_22 ?_
    refine lv_if_ne (tgt := 32) hx hb dX12_text_25 (by decide) (fun c_90668 => ?_) (fun c_90668 => ?_)
    · have B_90669 : bn 1 7 r_90652 := bn_w (bn_nel c_90668 er_90652 (show bn 0 0 (0 : Int32) from bn_k (by decide))) (by decide)
      refine lv_aload_n hx hb dX12_text_32 rfl (lv_at hl 0 rfl) ?_
      refine pg_get S Y ok_X12 8 (by decide) kf12_95 (v := .int v_90654) p_ad_0_0 rfl dX12_text_33 ?_
      refine pg_put S Y ok_X12 6 (by decide) kf12_26 rfl (fs' := [.ref (ad 1 0), .ref (ad 2 0), .ref (ad 3 0), .ref (ad 4 0), .int v_90608, .int r_90652, .int v_90654, .int v_90653, .int v_90654, .int v_90655, .int v_90656, .long v_90657, .int v_90658, .int v_90659, .int v_90660, .ref (ad 5 0), .ref (ad 6 0), .int v_90661, .int v_90662, .int v_90663, .int v_90664, .int v_90665, .ref (ad 7 0), .ref (ad 8 0), .ref (ad 9 0), .int v_90639, .ref (ad 10 0), .ref (ad 11 0), .ref (ad 12 0), .ref (ad 13 0), .int v_90641, .ref (ad 14 0)]) (v := .int v_90654) p_ad_0_0 rfl rfl rfl (Nat.le_of_ble_eq_true rfl) dX12_text_36 (fun f_90671 H locs ef_90671 Y => ?_)
      have p_ad_0_0 := p_ad_0_0.me ef_90671
      have I := I.up (k := 0) (j := 0) (by decide) ef_90671 (okE_o (okFs_c okV_r (okFs_c okV_r (okFs_c okV_r (okFs_c okV_r (okFs_c (okV_i bfc90665_4) (okFs_c (okV_i (bn_w er_90652 (by decide))) (okFs_c (okV_i (bn_w bfc90665_8 (by decide))) (okFs_c (okV_i bfc90665_7) (okFs_c (okV_i bfc90665_8) (okFs_c (okV_i (bn_any _)) (okFs_c (okV_i (bn_any _)) (okFs_c okV_l (okFs_c (okV_i bfc90665_12) (okFs_c (okV_i bfc90665_13) (okFs_c (okV_i (bn_any _)) (okFs_c okV_r (okFs_c okV_r (okFs_c (okV_i bfc90665_17) (okFs_c (okV_i bfc90665_18) (okFs_c (okV_i bfc90665_19) (okFs_c (okV_i bfc90665_20) (okFs_c (okV_i (bn_any _)) (okFs_c okV_r (okFs_c okV_r (okFs_c okV_r (okFs_c (okV_i bfc90665_25) (okFs_c okV_r (okFs_c okV_r (okFs_c okV_r (okFs_c okV_r (okFs_c (okV_i (bn_any _)) (okFs_c okV_r okFs_n)))))))))))))))))))))))))))))))))
      refine lv_aload_n hx hb dX12_text_39 rfl (lv_at hl 0 rfl) ?_
      refine lv_iconst (v := 0) hx hb dX12_text_40 (by decide) ?_
      refine pg_put S Y ok_X12 4 (by decide) kf12_81 rfl (fs' := [.ref (ad 1 0), .ref (ad 2 0), .ref (ad 3 0), .ref (ad 4 0), .int 0, .int r_90652, .int v_90654, .int v_90653, .int v_90654, .int v_90655, .int v_90656, .long v_90657, .int v_90658, .int v_90659, .int v_90660, .ref (ad 5 0), .ref (ad 6 0), .int v_90661, .int v_90662, .int v_90663, .int v_90664, .int v_90665, .ref (ad 7 0), .ref (ad 8 0), .ref (ad 9 0), .int v_90639, .ref (ad 10 0), .ref (ad 11 0), .ref (ad 12 0), .ref (ad 13 0), .int v_90641, .ref (ad 14 0)]) (v := .int 0) p_ad_0_0 rfl rfl rfl (Nat.le_of_ble_eq_true rfl) dX12_text_41 (fun f_90672 H locs ef_90672 Y => ?_)
      have p_ad_0_0 := p_ad_0_0.me ef_90672
      have I := I.up (k := 0) (j := 0) (by decide) ef_90672 (okE_o (okFs_c okV_r (okFs_c okV_r (okFs_c okV_r (okFs_c okV_r (okFs_c (okV_i (bn_w (show bn 0 0 (0 : Int32) from bn_k (by decide)) (by decide))) (okFs_c (okV_i (bn_w er_90652 (by decide))) (okFs_c (okV_i (bn_w bfc90665_8 (by decide))) (okFs_c (okV_i bfc90665_7) (okFs_c (okV_i bfc90665_8) (okFs_c (okV_i (bn_any _)) (okFs_c (okV_i (bn_any _)) (okFs_c okV_l (okFs_c (okV_i bfc90665_12) (okFs_c (okV_i bfc90665_13) (okFs_c (okV_i (bn_any _)) (okFs_c okV_r (okFs_c okV_r (okFs_c (okV_i bfc90665_17) (okFs_c (okV_i bfc90665_18) (okFs_c (okV_i bfc90665_19) (okFs_c (okV_i bfc90665_20) (okFs_c (okV_i (bn_any _)) (okFs_c okV_r (okFs_c okV_r (okFs_c okV_r (okFs_c (okV_i bfc90665_25) (okFs_c okV_r (okFs_c okV_r (okFs_c okV_r (okFs_c okV_r (okFs_c (okV_i (bn_any _)) (okFs_c okV_r okFs_n)))))))))))))))))))))))))))))))))
      refine lv_aload_n hx hb dX12_text_44 rfl (lv_at hl 0 rfl) ?_
      refine pg_get S Y ok_X12 5 (by decide) kf12_22 (v := .int r_90652) p_ad_0_0 rfl dX12_text_45 ?_
      refine lv_if_eq (tgt := 53) hx hb dX12_text_48 (by decide) (fun h => absurd h c_90668) (fun _ => ?_)
      obtain ⟨g_90673, p_ad_1_0, o_90674⟩ := I.opi (k := 1) (j := 0) (by decide) rfl
      have p_ad_1_0 : pt L_90650 f_90672 (ad 1 0) (.inl (G.2 0, 10568, .inl g_90673)) := p_ad_1_0
      have o_90675 : (IA 0 0 14 9999 w) g_90673 := o_90674.1
      have I := I.castS (sp' := spM (IA 0 0 14 9999 w) pi TX LDa) (k := 1) (j := 0) (by decide) p_ad_1_0 (okE_a (g := g_90673) o_90675) pAC
      obtain ⟨g_90676, p_ad_3_0, o_90677⟩ := I.opi (k := 3) (j := 0) (by decide) rfl
      have p_ad_3_0 : pt L_90650 f_90672 (ad 3 0) (.inl (G.2 0, 2916, .inl g_90676)) := p_ad_3_0
      have o_90678 : (EQ g_90676) g_90676 := rfl
      have I := I.castS (sp' := spM (IA 0 0 14 9999 w) pi (EQ g_90676) LDa) (k := 3) (j := 0) (by decide) p_ad_3_0 (okE_a (g := g_90676) o_90678) pXC
      refine lv_iconst (v := (-1)) hx hb dX12_text_51 (by decide) ?_
      exact prI (post := fun r L1 f1 => ∃ g2 : Nat → Int32, SH (spM (IA 0 0 14 9999 w) pi (EQ g2) LDa) nnM G ad L1 f1 ∧ TX g2) S Y rfl (by decide) (by decide) hA1 ⟨g_90676, I, o_90677⟩ dX12_text_52
    · have B_90670 : bn 0 0 r_90652 := bn_w (bn_eq c_90668 (show bn 0 0 (0 : Int32) from bn_k (by decide))) (by decide)
      refine lv_iconst (v := (-1)) hx hb dX12_text_28 (by decide) ?_
      refine lv_goto (tgt := 36) hx hb dX12_text_29 (by decide) ?_
      refine pg_put S Y ok_X12 6 (by decide) kf12_26 rfl (fs' := [.ref (ad 1 0), .ref (ad 2 0), .ref (ad 3 0), .ref (ad 4 0), .int v_90608, .int r_90652, .int (-1), .int v_90653, .int v_90654, .int v_90655, .int v_90656, .long v_90657, .int v_90658, .int v_90659, .int v_90660, .ref (ad 5 0), .ref (ad 6 0), .int v_90661, .int v_90662, .int v_90663, .int v_90664, .int v_90665, .ref (ad 7 0), .ref (ad 8 0), .ref (ad 9 0), .int v_90639, .ref (ad 10 0), .ref (ad 11 0), .ref (ad 12 0), .ref (ad 13 0), .int v_90641, .ref (ad 14 0)]) (v := .int (-1)) p_ad_0_0 rfl rfl rfl (Nat.le_of_ble_eq_true rfl) dX12_text_36 (fun f_90679 H locs ef_90679 Y => ?_)
      have p_ad_0_0 := p_ad_0_0.me ef_90679
      have I := I.up (k := 0) (j := 0) (by decide) ef_90679 (okE_o (okFs_c okV_r (okFs_c okV_r (okFs_c okV_r (okFs_c okV_r (okFs_c (okV_i bfc90665_4) (okFs_c (okV_i (bn_w er_90652 (by decide))) (okFs_c (okV_i (bn_w (show bn (-1) (-1) ((-1) : Int32) from bn_k (by decide)) (by decide))) (okFs_c (okV_i bfc90665_7) (okFs_c (okV_i bfc90665_8) (okFs_c (okV_i (bn_any _)) (okFs_c (okV_i (bn_any _)) (okFs_c okV_l (okFs_c (okV_i bfc90665_12) (okFs_c (okV_i bfc90665_13) (okFs_c (okV_i (bn_any _)) (okFs_c okV_r (okFs_c okV_r (okFs_c (okV_i bfc90665_17) (okFs_c (okV_i bfc90665_18) (okFs_c (okV_i bfc90665_19) (okFs_c (okV_i bfc90665_20) (okFs_c (okV_i (bn_any _)) (okFs_c okV_r (okFs_c okV_r (okFs_c okV_r (okFs_c (okV_i bfc90665_25) (okFs_c okV_r (okFs_c okV_r (okFs_c okV_r (okFs_c okV_r (okFs_c (okV_i (bn_any _)) (okFs_c okV_r okFs_n)))))))))))))))))))))))))))))))))
      refine lv_aload_n hx hb dX12_text_39 rfl (lv_at hl 0 rfl) ?_
      refine lv_iconst (v := 0) hx hb dX12_text_40 (by decide) ?_
      refine pg_put S Y ok_X12 4 (by decide) kf12_81 rfl (fs' := [.ref (ad 1 0), .ref (ad 2 0), .ref (ad 3 0), .ref (ad 4 0), .int 0, .int r_90652, .int (-1), .int v_90653, .int v_90654, .int v_90655, .int v_90656, .long v_90657, .int v_90658, .int v_90659, .int v_90660, .ref (ad 5 0), .ref (ad 6 0), .int v_90661, .int v_90662, .int v_90663, .int v_90664, .int v_90665, .ref (ad 7 0), .ref (ad 8 0), .ref (ad 9 0), .int v_90639, .ref (ad 10 0), .ref (ad 11 0), .ref (ad 12 0), .ref (ad 13 0), .int v_90641, .ref (ad 14 0)]) (v := .int 0) p_ad_0_0 rfl rfl rfl (Nat.le_of_ble_eq_true rfl) dX12_text_41 (fun f_90680 H locs ef_90680 Y => ?_)
      have p_ad_0_0 := p_ad_0_0.me ef_90680
      have I := I.up (k := 0) (j := 0) (by decide) ef_90680 (okE_o (okFs_c okV_r (okFs_c okV_r (okFs_c okV_r (okFs_c okV_r (okFs_c (okV_i (bn_w (show bn 0 0 (0 : Int32) from bn_k (by decide)) (by decide))) (okFs_c (okV_i (bn_w er_90652 (by decide))) (okFs_c (okV_i (bn_w (show bn (-1) (-1) ((-1) : Int32) from bn_k (by decide)) (by decide))) (okFs_c (okV_i bfc90665_7) (okFs_c (okV_i bfc90665_8) (okFs_c (okV_i (bn_any _)) (okFs_c (okV_i (bn_any _)) (okFs_c okV_l (okFs_c (okV_i bfc90665_12) (okFs_c (okV_i bfc90665_13) (okFs_c (okV_i (bn_any _)) (okFs_c okV_r (okFs_c okV_r (okFs_c (okV_i bfc90665_17) (okFs_c (okV_i bfc90665_18) (okFs_c (okV_i bfc90665_19) (okFs_c (okV_i bfc90665_20) (okFs_c (okV_i (bn_any _)) (okFs_c okV_r (okFs_c okV_r (okFs_c okV_r (okFs_c (okV_i bfc90665_25) (okFs_c okV_r (okFs_c okV_r (okFs_c okV_r (okFs_c okV_r (okFs_c (okV_i (bn_any _)) (okFs_c okV_r okFs_n)))))))))))))))))))))))))))))))))
      refine lv_aload_n hx hb dX12_text_44 rfl (lv_at hl 0 rfl) ?_
      refine pg_get S Y ok_X12 5 (by decide) kf12_22 (v := .int r_90652) p_ad_0_0 rfl dX12_text_45 ?_
      refine lv_if_eq (tgt := 53) hx hb dX12_text_48 (by decide) (fun _ => ?_) (fun h => absurd c_90668 h)
      obtain ⟨g_90681, p_ad_1_0, o_90682⟩ := I.opi (k := 1) (j := 0) (by decide) rfl
      have p_ad_1_0 : pt L_90650 f_90680 (ad 1 0) (.inl (G.2 0, 10568, .inl g_90681)) := p_ad_1_0
      have o_90683 : (IA 0 0 14 9999 w) g_90681 := o_90682.1
      have I := I.castS (sp' := spM (IA 0 0 14 9999 w) pi TX LDa) (k := 1) (j := 0) (by decide) p_ad_1_0 (okE_a (g := g_90681) o_90683) pAC
      obtain ⟨g_90684, p_ad_3_0, o_90685⟩ := I.opi (k := 3) (j := 0) (by decide) rfl
      have p_ad_3_0 : pt L_90650 f_90680 (ad 3 0) (.inl (G.2 0, 2916, .inl g_90684)) := p_ad_3_0
      have o_90686 : (EQ g_90684) g_90684 := rfl
      have I := I.castS (sp' := spM (IA 0 0 14 9999 w) pi (EQ g_90684) LDa) (k := 3) (j := 0) (by decide) p_ad_3_0 (okE_a (g := g_90684) o_90686) pXC
      refine lv_aload_n hx hb dX12_text_53 rfl (lv_at hl 0 rfl) ?_
      refine pg_get S Y ok_X12 0 (by decide) kf12_7 (v := .ref (ad 1 0)) p_ad_0_0 rfl dX12_text_54 ?_
      refine lv_iconst (v := 1) hx hb dX12_text_57 (by decide) ?_
      refine lv_dup2_11 hx hb dX12_text_58 rfl rfl ?_
      obtain ⟨v_90687, ev_90687⟩ : ∃ z, z = g_90681 (1 : Int32).toNatClampNeg := ⟨_, rfl⟩
      refine pg_iald S Y (v := v_90687) p_ad_1_0 (by unfold vp_in; decide) ev_90687.symm dX12_text_59 ?_
      have bv_90687 : bn 0 4 v_90687 := bn_eq ev_90687 (IA_1 o_90683)
      have B_90688 : bn 0 3 v_90687 := by rw [ev_90687]; exact o_90682.2
      refine lv_iconst (v := 1) hx hb dX12_text_60 (by decide) ?_
      refine lv_iadd hx hb dX12_text_61 ?_
      refine lv_topi (fun x_90689 ex_90689 => ?_)
      refine pg_iast S Y p_ad_1_0 (by unfold vp_in; decide) dX12_text_62 (fun f_90691 H locs ef_90691 Y => ?_)
      obtain ⟨g_90690, eg_90690⟩ : ∃ z, z = upd (g_90681) (1 : Int32).toNatClampNeg x_90689 := ⟨_, rfl⟩
      rw [← eg_90690] at ef_90691
      have p_ad_0_0 := p_ad_0_0.up ef_90691 (I.ne (k := 0) (j := 0) (k' := 1) (j' := 0) (by decide) (by decide) (Or.inl (by decide)))
      have p_ad_3_0 := p_ad_3_0.up ef_90691 (I.ne (k := 3) (j := 0) (k' := 1) (j' := 0) (by decide) (by decide) (Or.inl (by decide)))
      have p_ad_1_0 := p_ad_1_0.me ef_90691
      have o_90692 : (IA 0 0 14 9999 w) g_90690 := (by rw [eg_90690]; exact (IA_s1 o_90683 (bn_w (bn_eq ex_90689 (bn_add B_90688 (show bn 1 1 (1 : Int32) from bn_k (by decide)) (by decide))) (by decide))))
      have I := I.up (k := 1) (j := 0) (by decide) ef_90691 (okE_a (g := g_90690) o_90692)
      have q_90693 : g_90690 (1 : Int32).toNatClampNeg = x_90689 := by rw [eg_90690]; exact pk_us
      refine lv_aload_n hx hb dX12_text_63 rfl (lv_at hl 0 rfl) ?_
      refine pg_get S Y ok_X12 0 (by decide) kf12_7 (v := .ref (ad 1 0)) p_ad_0_0 rfl dX12_text_64 ?_
      refine lv_iconst (v := 1) hx hb dX12_text_67 (by decide) ?_
      refine pg_iald S Y (v := x_90689) p_ad_1_0 (by unfold vp_in; decide) q_90693 dX12_text_68 ?_
      refine lv_iconst (v := 1) hx hb dX12_text_69 (by decide) ?_
      refine lv_isub hx hb dX12_text_70 ?_
      refine lv_topi (fun x_90694 ex_90694 => ?_)
      exact prI (post := fun r L1 f1 => ∃ g2 : Nat → Int32, SH (spM (IA 0 0 14 9999 w) pi (EQ g2) LDa) nnM G ad L1 f1 ∧ TX g2) S Y rfl (by decide) (by decide) hA1 ⟨g_90684, I, o_90685⟩ dX12_text_71
  · have B_90648 : bn 4 4 v_90645 := bn_w (bn_eq c_90646 (show bn 4 4 (4 : Int32) from bn_k (by decide))) (by decide)
    refine lv_iconst (v := (-1)) hx hb dX12_text_10 (by decide) ?_
    exact prI (post := fun r L1 f1 => ∃ g2 : Nat → Int32, SH (spM (IA 0 0 14 9999 w) pi (EQ g2) LDa) nnM G ad L1 f1 ∧ TX g2) S Y rfl (by decide) (by decide) hA1 ⟨g0, I, hX⟩ dX12_text_11
