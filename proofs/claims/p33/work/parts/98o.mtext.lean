theorem dX12_isRelease_0 : decode cX12_isRelease 0 = .ok (.aload_n 0, 1) := by decide +kernel
theorem dX12_isRelease_1 : decode cX12_isRelease 1 = .ok (.getfield 98, 3) := by decide +kernel
theorem dX12_isRelease_4 : decode cX12_isRelease 4 = .ok (.iconst 2, 1) := by decide +kernel
theorem dX12_isRelease_5 : decode cX12_isRelease 5 = .ok (.if_icmp .ne 124, 3) := by decide +kernel
theorem dX12_isRelease_129 : decode cX12_isRelease 129 = .ok (.iconst 0, 1) := by decide +kernel
theorem dX12_isRelease_130 : decode cX12_isRelease 130 = .ok (.ireturn, 1) := by decide +kernel
theorem dX12_isRelease_8 : decode cX12_isRelease 8 = .ok (.aload_n 0, 1) := by decide +kernel
theorem dX12_isRelease_9 : decode cX12_isRelease 9 = .ok (.getfield 88, 3) := by decide +kernel
theorem dX12_isRelease_12 : decode cX12_isRelease 12 = .ok (.aload_n 0, 1) := by decide +kernel
theorem dX12_isRelease_13 : decode cX12_isRelease 13 = .ok (.getfield 95, 3) := by decide +kernel
theorem dX12_isRelease_16 : decode cX12_isRelease 16 = .ok (.isub, 1) := by decide +kernel
theorem dX12_isRelease_17 : decode cX12_isRelease 17 = .ok (.bipush 7, 2) := by decide +kernel
theorem dX12_isRelease_19 : decode cX12_isRelease 19 = .ok (.if_icmp .ne 110, 3) := by decide +kernel
theorem dX12_isRelease_22 : decode cX12_isRelease 22 = .ok (.aload_n 0, 1) := by decide +kernel
theorem dX12_isRelease_23 : decode cX12_isRelease 23 = .ok (.aload_n 0, 1) := by decide +kernel
theorem dX12_isRelease_24 : decode cX12_isRelease 24 = .ok (.getfield 95, 3) := by decide +kernel
theorem dX12_isRelease_27 : decode cX12_isRelease 27 = .ok (.invokevirtual 91, 3) := by decide +kernel
theorem dX12_isRelease_30 : decode cX12_isRelease 30 = .ok (.aload_n 0, 1) := by decide +kernel
theorem dX12_isRelease_31 : decode cX12_isRelease 31 = .ok (.aload_n 0, 1) := by decide +kernel
theorem dX12_isRelease_32 : decode cX12_isRelease 32 = .ok (.getfield 95, 3) := by decide +kernel
theorem dX12_isRelease_35 : decode cX12_isRelease 35 = .ok (.iconst 1, 1) := by decide +kernel
theorem dX12_isRelease_36 : decode cX12_isRelease 36 = .ok (.iadd, 1) := by decide +kernel
theorem dX12_isRelease_37 : decode cX12_isRelease 37 = .ok (.invokevirtual 91, 3) := by decide +kernel
theorem dX12_isRelease_40 : decode cX12_isRelease 40 = .ok (.aload_n 0, 1) := by decide +kernel
theorem dX12_isRelease_41 : decode cX12_isRelease 41 = .ok (.aload_n 0, 1) := by decide +kernel
theorem dX12_isRelease_42 : decode cX12_isRelease 42 = .ok (.getfield 95, 3) := by decide +kernel
theorem dX12_isRelease_45 : decode cX12_isRelease 45 = .ok (.iconst 2, 1) := by decide +kernel
theorem dX12_isRelease_46 : decode cX12_isRelease 46 = .ok (.iadd, 1) := by decide +kernel
theorem dX12_isRelease_47 : decode cX12_isRelease 47 = .ok (.invokevirtual 91, 3) := by decide +kernel
theorem dX12_isRelease_50 : decode cX12_isRelease 50 = .ok (.aload_n 0, 1) := by decide +kernel
theorem dX12_isRelease_51 : decode cX12_isRelease 51 = .ok (.aload_n 0, 1) := by decide +kernel
theorem dX12_isRelease_52 : decode cX12_isRelease 52 = .ok (.getfield 95, 3) := by decide +kernel
theorem dX12_isRelease_55 : decode cX12_isRelease 55 = .ok (.iconst 3, 1) := by decide +kernel
theorem dX12_isRelease_56 : decode cX12_isRelease 56 = .ok (.iadd, 1) := by decide +kernel
theorem dX12_isRelease_57 : decode cX12_isRelease 57 = .ok (.invokevirtual 91, 3) := by decide +kernel
theorem dX12_isRelease_60 : decode cX12_isRelease 60 = .ok (.invokestatic 128, 3) := by decide +kernel
theorem dX12_isRelease_63 : decode cX12_isRelease 63 = .ok (.bipush 114, 2) := by decide +kernel
theorem dX12_isRelease_65 : decode cX12_isRelease 65 = .ok (.bipush 101, 2) := by decide +kernel
theorem dX12_isRelease_67 : decode cX12_isRelease 67 = .ok (.bipush 108, 2) := by decide +kernel
theorem dX12_isRelease_69 : decode cX12_isRelease 69 = .ok (.bipush 101, 2) := by decide +kernel
theorem dX12_isRelease_71 : decode cX12_isRelease 71 = .ok (.invokestatic 128, 3) := by decide +kernel
theorem dX12_isRelease_74 : decode cX12_isRelease 74 = .ok (.lcmp, 1) := by decide +kernel
theorem dX12_isRelease_75 : decode cX12_isRelease 75 = .ok (.ifCond .ne 54, 3) := by decide +kernel
theorem dX12_isRelease_78 : decode cX12_isRelease 78 = .ok (.aload_n 0, 1) := by decide +kernel
theorem dX12_isRelease_79 : decode cX12_isRelease 79 = .ok (.aload_n 0, 1) := by decide +kernel
theorem dX12_isRelease_80 : decode cX12_isRelease 80 = .ok (.getfield 95, 3) := by decide +kernel
theorem dX12_isRelease_83 : decode cX12_isRelease 83 = .ok (.iconst 4, 1) := by decide +kernel
theorem dX12_isRelease_84 : decode cX12_isRelease 84 = .ok (.iadd, 1) := by decide +kernel
theorem dX12_isRelease_85 : decode cX12_isRelease 85 = .ok (.invokevirtual 91, 3) := by decide +kernel
theorem dX12_isRelease_88 : decode cX12_isRelease 88 = .ok (.aload_n 0, 1) := by decide +kernel
theorem dX12_isRelease_89 : decode cX12_isRelease 89 = .ok (.aload_n 0, 1) := by decide +kernel
theorem dX12_isRelease_90 : decode cX12_isRelease 90 = .ok (.getfield 95, 3) := by decide +kernel
theorem dX12_isRelease_93 : decode cX12_isRelease 93 = .ok (.iconst 5, 1) := by decide +kernel
theorem dX12_isRelease_94 : decode cX12_isRelease 94 = .ok (.iadd, 1) := by decide +kernel
theorem dX12_isRelease_95 : decode cX12_isRelease 95 = .ok (.invokevirtual 91, 3) := by decide +kernel
theorem dX12_isRelease_98 : decode cX12_isRelease 98 = .ok (.aload_n 0, 1) := by decide +kernel
theorem dX12_isRelease_99 : decode cX12_isRelease 99 = .ok (.aload_n 0, 1) := by decide +kernel
theorem dX12_isRelease_100 : decode cX12_isRelease 100 = .ok (.getfield 95, 3) := by decide +kernel
theorem dX12_isRelease_103 : decode cX12_isRelease 103 = .ok (.bipush 6, 2) := by decide +kernel
theorem dX12_isRelease_105 : decode cX12_isRelease 105 = .ok (.iadd, 1) := by decide +kernel
theorem dX12_isRelease_106 : decode cX12_isRelease 106 = .ok (.invokevirtual 91, 3) := by decide +kernel
theorem dX12_isRelease_109 : decode cX12_isRelease 109 = .ok (.invokestatic 124, 3) := by decide +kernel
theorem dX12_isRelease_112 : decode cX12_isRelease 112 = .ok (.bipush 97, 2) := by decide +kernel
theorem dX12_isRelease_114 : decode cX12_isRelease 114 = .ok (.bipush 115, 2) := by decide +kernel
theorem dX12_isRelease_116 : decode cX12_isRelease 116 = .ok (.bipush 101, 2) := by decide +kernel
theorem dX12_isRelease_118 : decode cX12_isRelease 118 = .ok (.invokestatic 124, 3) := by decide +kernel
theorem dX12_isRelease_121 : decode cX12_isRelease 121 = .ok (.lcmp, 1) := by decide +kernel
theorem dX12_isRelease_122 : decode cX12_isRelease 122 = .ok (.ifCond .ne 7, 3) := by decide +kernel
theorem dX12_isRelease_125 : decode cX12_isRelease 125 = .ok (.iconst 1, 1) := by decide +kernel
theorem dX12_isRelease_126 : decode cX12_isRelease 126 = .ok (.goto 4, 3) := by decide +kernel
theorem dX12_sortOf_0 : decode cX12_sortOf 0 = .ok (.aload_n 0, 1) := by decide +kernel
theorem dX12_sortOf_1 : decode cX12_sortOf 1 = .ok (.bipush 119, 2) := by decide +kernel
theorem dX12_sortOf_3 : decode cX12_sortOf 3 = .ok (.bipush 101, 2) := by decide +kernel
theorem dX12_sortOf_5 : decode cX12_sortOf 5 = .ok (.bipush 97, 2) := by decide +kernel
theorem dX12_sortOf_7 : decode cX12_sortOf 7 = .ok (.bipush 114, 2) := by decide +kernel
theorem dX12_sortOf_9 : decode cX12_sortOf 9 = .ok (.bipush 115, 2) := by decide +kernel
theorem dX12_sortOf_11 : decode cX12_sortOf 11 = .ok (.invokestatic 132, 3) := by decide +kernel
theorem dX12_sortOf_14 : decode cX12_sortOf 14 = .ok (.invokevirtual 187, 3) := by decide +kernel
theorem dX12_sortOf_17 : decode cX12_sortOf 17 = .ok (.ifCond .eq 5, 3) := by decide +kernel
theorem dX12_sortOf_22 : decode cX12_sortOf 22 = .ok (.aload_n 0, 1) := by decide +kernel
theorem dX12_sortOf_23 : decode cX12_sortOf 23 = .ok (.bipush 97, 2) := by decide +kernel
theorem dX12_sortOf_25 : decode cX12_sortOf 25 = .ok (.bipush 99, 2) := by decide +kernel
theorem dX12_sortOf_27 : decode cX12_sortOf 27 = .ok (.bipush 104, 2) := by decide +kernel
theorem dX12_sortOf_29 : decode cX12_sortOf 29 = .ok (.bipush 101, 2) := by decide +kernel
theorem dX12_sortOf_31 : decode cX12_sortOf 31 = .ok (.bipush 115, 2) := by decide +kernel
theorem dX12_sortOf_33 : decode cX12_sortOf 33 = .ok (.invokestatic 132, 3) := by decide +kernel
theorem dX12_sortOf_36 : decode cX12_sortOf 36 = .ok (.invokevirtual 187, 3) := by decide +kernel
theorem dX12_sortOf_39 : decode cX12_sortOf 39 = .ok (.ifCond .eq 5, 3) := by decide +kernel
theorem dX12_sortOf_44 : decode cX12_sortOf 44 = .ok (.aload_n 0, 1) := by decide +kernel
theorem dX12_sortOf_45 : decode cX12_sortOf 45 = .ok (.bipush 114, 2) := by decide +kernel
theorem dX12_sortOf_47 : decode cX12_sortOf 47 = .ok (.bipush 105, 2) := by decide +kernel
theorem dX12_sortOf_49 : decode cX12_sortOf 49 = .ok (.bipush 115, 2) := by decide +kernel
theorem dX12_sortOf_51 : decode cX12_sortOf 51 = .ok (.bipush 107, 2) := by decide +kernel
theorem dX12_sortOf_53 : decode cX12_sortOf 53 = .ok (.invokestatic 128, 3) := by decide +kernel
theorem dX12_sortOf_56 : decode cX12_sortOf 56 = .ok (.invokevirtual 187, 3) := by decide +kernel
theorem dX12_sortOf_59 : decode cX12_sortOf 59 = .ok (.ifCond .eq 5, 3) := by decide +kernel
theorem dX12_sortOf_64 : decode cX12_sortOf 64 = .ok (.aload_n 0, 1) := by decide +kernel
theorem dX12_sortOf_65 : decode cX12_sortOf 65 = .ok (.bipush 111, 2) := by decide +kernel
theorem dX12_sortOf_67 : decode cX12_sortOf 67 = .ok (.bipush 110, 2) := by decide +kernel
theorem dX12_sortOf_69 : decode cX12_sortOf 69 = .ok (.bipush 101, 2) := by decide +kernel
theorem dX12_sortOf_71 : decode cX12_sortOf 71 = .ok (.invokestatic 124, 3) := by decide +kernel
theorem dX12_sortOf_74 : decode cX12_sortOf 74 = .ok (.invokevirtual 187, 3) := by decide +kernel
theorem dX12_sortOf_77 : decode cX12_sortOf 77 = .ok (.ifCond .eq 5, 3) := by decide +kernel
theorem dX12_sortOf_82 : decode cX12_sortOf 82 = .ok (.aload_n 0, 1) := by decide +kernel
theorem dX12_sortOf_83 : decode cX12_sortOf 83 = .ok (.bipush 115, 2) := by decide +kernel
theorem dX12_sortOf_85 : decode cX12_sortOf 85 = .ok (.bipush 119, 2) := by decide +kernel
theorem dX12_sortOf_87 : decode cX12_sortOf 87 = .ok (.bipush 101, 2) := by decide +kernel
theorem dX12_sortOf_89 : decode cX12_sortOf 89 = .ok (.bipush 97, 2) := by decide +kernel
theorem dX12_sortOf_91 : decode cX12_sortOf 91 = .ok (.bipush 114, 2) := by decide +kernel
theorem dX12_sortOf_93 : decode cX12_sortOf 93 = .ok (.invokestatic 132, 3) := by decide +kernel
theorem dX12_sortOf_96 : decode cX12_sortOf 96 = .ok (.invokevirtual 187, 3) := by decide +kernel
theorem dX12_sortOf_99 : decode cX12_sortOf 99 = .ok (.ifCond .eq 5, 3) := by decide +kernel
theorem dX12_sortOf_104 : decode cX12_sortOf 104 = .ok (.aload_n 0, 1) := by decide +kernel
theorem dX12_sortOf_105 : decode cX12_sortOf 105 = .ok (.bipush 98, 2) := by decide +kernel
theorem dX12_sortOf_107 : decode cX12_sortOf 107 = .ok (.bipush 114, 2) := by decide +kernel
theorem dX12_sortOf_109 : decode cX12_sortOf 109 = .ok (.bipush 101, 2) := by decide +kernel
theorem dX12_sortOf_111 : decode cX12_sortOf 111 = .ok (.bipush 97, 2) := by decide +kernel
theorem dX12_sortOf_113 : decode cX12_sortOf 113 = .ok (.bipush 107, 2) := by decide +kernel
theorem dX12_sortOf_115 : decode cX12_sortOf 115 = .ok (.invokestatic 132, 3) := by decide +kernel
theorem dX12_sortOf_118 : decode cX12_sortOf 118 = .ok (.invokevirtual 187, 3) := by decide +kernel
theorem dX12_sortOf_121 : decode cX12_sortOf 121 = .ok (.ifCond .eq 6, 3) := by decide +kernel
theorem dX12_sortOf_127 : decode cX12_sortOf 127 = .ok (.aload_n 0, 1) := by decide +kernel
theorem dX12_sortOf_128 : decode cX12_sortOf 128 = .ok (.invokevirtual 235, 3) := by decide +kernel
theorem cw_X12_isRelease : CWv yX12_isRelease cX12_isRelease 1 (some .boolean) 0 := ⟨⟨⟨List.mem_of_getElem? (i := 137) (by decide +kernel), by decide +kernel⟩, ⟨List.mem_of_getElem? (i := 1670) (by decide +kernel), by decide +kernel⟩, by decide +kernel⟩, ⟨List.mem_of_getElem? (i := 1669) (by decide +kernel), by decide +kernel⟩, ⟨List.mem_of_getElem? (i := 55) (by decide +kernel), by decide +kernel⟩⟩
theorem km12_235 : inW (Cond.methodLink RX12 235 yX12_isRelease) := ⟨List.mem_of_getElem? (i := 1667) (by decide +kernel), by decide +kernel⟩
theorem dX12_sortOf_131 : decode cX12_sortOf 131 = .ok (.ifCond .eq 6, 3) := by decide +kernel
theorem dX12_sortOf_137 : decode cX12_sortOf 137 = .ok (.aload_n 0, 1) := by decide +kernel
theorem dX12_sortOf_138 : decode cX12_sortOf 138 = .ok (.bipush 107, 2) := by decide +kernel
theorem dX12_sortOf_140 : decode cX12_sortOf 140 = .ok (.bipush 110, 2) := by decide +kernel
theorem dX12_sortOf_142 : decode cX12_sortOf 142 = .ok (.bipush 101, 2) := by decide +kernel
theorem dX12_sortOf_144 : decode cX12_sortOf 144 = .ok (.bipush 101, 2) := by decide +kernel
theorem dX12_sortOf_146 : decode cX12_sortOf 146 = .ok (.bipush 108, 2) := by decide +kernel
theorem dX12_sortOf_148 : decode cX12_sortOf 148 = .ok (.invokestatic 132, 3) := by decide +kernel
theorem dX12_sortOf_151 : decode cX12_sortOf 151 = .ok (.invokevirtual 187, 3) := by decide +kernel
theorem dX12_sortOf_154 : decode cX12_sortOf 154 = .ok (.ifCond .eq 6, 3) := by decide +kernel
theorem dX12_sortOf_160 : decode cX12_sortOf 160 = .ok (.aload_n 0, 1) := by decide +kernel
theorem dX12_sortOf_161 : decode cX12_sortOf 161 = .ok (.bipush 115, 2) := by decide +kernel
theorem dX12_sortOf_163 : decode cX12_sortOf 163 = .ok (.bipush 107, 2) := by decide +kernel
theorem dX12_sortOf_165 : decode cX12_sortOf 165 = .ok (.bipush 97, 2) := by decide +kernel
theorem dX12_sortOf_167 : decode cX12_sortOf 167 = .ok (.bipush 116, 2) := by decide +kernel
theorem dX12_sortOf_169 : decode cX12_sortOf 169 = .ok (.bipush 101, 2) := by decide +kernel
theorem dX12_sortOf_171 : decode cX12_sortOf 171 = .ok (.invokestatic 132, 3) := by decide +kernel
theorem dX12_sortOf_174 : decode cX12_sortOf 174 = .ok (.invokevirtual 187, 3) := by decide +kernel
theorem dX12_sortOf_177 : decode cX12_sortOf 177 = .ok (.ifCond .eq 8, 3) := by decide +kernel
theorem dX12_sortOf_185 : decode cX12_sortOf 185 = .ok (.aload_n 0, 1) := by decide +kernel
theorem dX12_sortOf_186 : decode cX12_sortOf 186 = .ok (.bipush 100, 2) := by decide +kernel
theorem dX12_sortOf_188 : decode cX12_sortOf 188 = .ok (.bipush 97, 2) := by decide +kernel
theorem dX12_sortOf_190 : decode cX12_sortOf 190 = .ok (.bipush 121, 2) := by decide +kernel
theorem dX12_sortOf_192 : decode cX12_sortOf 192 = .ok (.invokestatic 124, 3) := by decide +kernel
theorem dX12_sortOf_195 : decode cX12_sortOf 195 = .ok (.invokevirtual 187, 3) := by decide +kernel
theorem dX12_sortOf_198 : decode cX12_sortOf 198 = .ok (.ifCond .eq 8, 3) := by decide +kernel
theorem dX12_sortOf_206 : decode cX12_sortOf 206 = .ok (.iconst (-1), 1) := by decide +kernel
theorem dX12_sortOf_207 : decode cX12_sortOf 207 = .ok (.ireturn, 1) := by decide +kernel
theorem dX12_sortOf_201 : decode cX12_sortOf 201 = .ok (.bipush 10, 2) := by decide +kernel
theorem dX12_sortOf_203 : decode cX12_sortOf 203 = .ok (.goto 4, 3) := by decide +kernel
theorem dX12_sortOf_180 : decode cX12_sortOf 180 = .ok (.bipush 9, 2) := by decide +kernel
theorem dX12_sortOf_182 : decode cX12_sortOf 182 = .ok (.goto 25, 3) := by decide +kernel
theorem dX12_sortOf_157 : decode cX12_sortOf 157 = .ok (.bipush 8, 2) := by decide +kernel
theorem dX12_sortOf_159 : decode cX12_sortOf 159 = .ok (.ireturn, 1) := by decide +kernel
theorem dX12_sortOf_134 : decode cX12_sortOf 134 = .ok (.bipush 7, 2) := by decide +kernel
theorem dX12_sortOf_136 : decode cX12_sortOf 136 = .ok (.ireturn, 1) := by decide +kernel
theorem dX12_sortOf_124 : decode cX12_sortOf 124 = .ok (.bipush 6, 2) := by decide +kernel
theorem dX12_sortOf_126 : decode cX12_sortOf 126 = .ok (.ireturn, 1) := by decide +kernel
theorem dX12_sortOf_102 : decode cX12_sortOf 102 = .ok (.iconst 4, 1) := by decide +kernel
theorem dX12_sortOf_103 : decode cX12_sortOf 103 = .ok (.ireturn, 1) := by decide +kernel
theorem dX12_sortOf_80 : decode cX12_sortOf 80 = .ok (.iconst 3, 1) := by decide +kernel
theorem dX12_sortOf_81 : decode cX12_sortOf 81 = .ok (.ireturn, 1) := by decide +kernel
theorem dX12_sortOf_62 : decode cX12_sortOf 62 = .ok (.iconst 2, 1) := by decide +kernel
theorem dX12_sortOf_63 : decode cX12_sortOf 63 = .ok (.ireturn, 1) := by decide +kernel
theorem dX12_sortOf_42 : decode cX12_sortOf 42 = .ok (.iconst 1, 1) := by decide +kernel
theorem dX12_sortOf_43 : decode cX12_sortOf 43 = .ok (.ireturn, 1) := by decide +kernel
theorem dX12_sortOf_20 : decode cX12_sortOf 20 = .ok (.iconst 0, 1) := by decide +kernel
theorem dX12_sortOf_21 : decode cX12_sortOf 21 = .ok (.ireturn, 1) := by decide +kernel
theorem dX12_clause_0 : decode cX12_clause 0 = .ok (.aload_n 0, 1) := by decide +kernel
theorem dX12_clause_1 : decode cX12_clause 1 = .ok (.invokevirtual 238, 3) := by decide +kernel
theorem cw_X12_sortOf : CWv yX12_sortOf cX12_sortOf 1 (some .int) 0 := ⟨⟨⟨List.mem_of_getElem? (i := 137) (by decide +kernel), by decide +kernel⟩, ⟨List.mem_of_getElem? (i := 1650) (by decide +kernel), by decide +kernel⟩, by decide +kernel⟩, ⟨List.mem_of_getElem? (i := 1649) (by decide +kernel), by decide +kernel⟩, ⟨List.mem_of_getElem? (i := 53) (by decide +kernel), by decide +kernel⟩⟩
theorem km12_238 : inW (Cond.methodLink RX12 238 yX12_sortOf) := ⟨List.mem_of_getElem? (i := 1647) (by decide +kernel), by decide +kernel⟩
theorem dX12_clause_4 : decode cX12_clause 4 = .ok (.istore_n 1, 1) := by decide +kernel
theorem dX12_clause_5 : decode cX12_clause 5 = .ok (.iload_n 1, 1) := by decide +kernel
theorem dX12_clause_6 : decode cX12_clause 6 = .ok (.ifCond .ge 5, 3) := by decide +kernel
theorem dX12_clause_11 : decode cX12_clause 11 = .ok (.iload_n 1, 1) := by decide +kernel
theorem dX12_clause_12 : decode cX12_clause 12 = .ok (.iconst 2, 1) := by decide +kernel
theorem dX12_clause_13 : decode cX12_clause 13 = .ok (.if_icmp .gt 16, 3) := by decide +kernel
theorem dX12_clause_29 : decode cX12_clause 29 = .ok (.aload_n 0, 1) := by decide +kernel
theorem dX12_clause_30 : decode cX12_clause 30 = .ok (.getfield 16, 3) := by decide +kernel
theorem dX12_clause_33 : decode cX12_clause 33 = .ok (.aload_n 0, 1) := by decide +kernel
theorem dX12_clause_34 : decode cX12_clause 34 = .ok (.getfield 136, 3) := by decide +kernel
theorem dX12_clause_37 : decode cX12_clause 37 = .ok (.iaload, 1) := by decide +kernel
theorem dX12_clause_38 : decode cX12_clause 38 = .ok (.istore_n 2, 1) := by decide +kernel
theorem dX12_clause_39 : decode cX12_clause 39 = .ok (.iload_n 2, 1) := by decide +kernel
theorem dX12_clause_40 : decode cX12_clause 40 = .ok (.bipush 24, 2) := by decide +kernel
theorem dX12_clause_42 : decode cX12_clause 42 = .ok (.if_icmp .ne 6, 3) := by decide +kernel
theorem dX12_clause_48 : decode cX12_clause 48 = .ok (.iload_n 1, 1) := by decide +kernel
theorem dX12_clause_49 : decode cX12_clause 49 = .ok (.iconst 2, 1) := by decide +kernel
theorem dX12_clause_50 : decode cX12_clause 50 = .ok (.if_icmp .gt 15, 3) := by decide +kernel
theorem dX12_clause_65 : decode cX12_clause 65 = .ok (.aload_n 0, 1) := by decide +kernel
theorem dX12_clause_66 : decode cX12_clause 66 = .ok (.iload_n 1, 1) := by decide +kernel
theorem dX12_clause_67 : decode cX12_clause 67 = .ok (.putfield 175, 3) := by decide +kernel
theorem dX12_clause_70 : decode cX12_clause 70 = .ok (.aload_n 0, 1) := by decide +kernel
theorem dX12_clause_71 : decode cX12_clause 71 = .ok (.invokevirtual 166, 3) := by decide +kernel
theorem dX12_clause_74 : decode cX12_clause 74 = .ok (.aload_n 0, 1) := by decide +kernel
theorem dX12_clause_75 : decode cX12_clause 75 = .ok (.getfield 136, 3) := by decide +kernel
theorem dX12_clause_78 : decode cX12_clause 78 = .ok (.iconst 1, 1) := by decide +kernel
theorem dX12_clause_79 : decode cX12_clause 79 = .ok (.iadd, 1) := by decide +kernel
theorem dX12_clause_80 : decode cX12_clause 80 = .ok (.iconst 5, 1) := by decide +kernel
theorem dX12_clause_81 : decode cX12_clause 81 = .ok (.iload_n 2, 1) := by decide +kernel
theorem dX12_clause_82 : decode cX12_clause 82 = .ok (.imul, 1) := by decide +kernel
theorem dX12_clause_83 : decode cX12_clause 83 = .ok (.iadd, 1) := by decide +kernel
theorem dX12_clause_84 : decode cX12_clause 84 = .ok (.istore_n 3, 1) := by decide +kernel
theorem dX12_clause_85 : decode cX12_clause 85 = .ok (.aload_n 0, 1) := by decide +kernel
theorem dX12_clause_86 : decode cX12_clause 86 = .ok (.getfield 16, 3) := by decide +kernel
theorem dX12_clause_89 : decode cX12_clause 89 = .ok (.iload_n 3, 1) := by decide +kernel
theorem dX12_clause_90 : decode cX12_clause 90 = .ok (.iload_n 1, 1) := by decide +kernel
theorem dX12_clause_91 : decode cX12_clause 91 = .ok (.iastore, 1) := by decide +kernel
theorem dX12_clause_92 : decode cX12_clause 92 = .ok (.aload_n 0, 1) := by decide +kernel
theorem dX12_clause_93 : decode cX12_clause 93 = .ok (.iload_n 1, 1) := by decide +kernel
theorem dX12_clause_94 : decode cX12_clause 94 = .ok (.iload_n 3, 1) := by decide +kernel
theorem dX12_clause_95 : decode cX12_clause 95 = .ok (.invokevirtual 248, 3) := by decide +kernel
theorem cw_X12_body : CWv yX12_body cX12_body 3 (some .int) 2 := ⟨⟨⟨List.mem_of_getElem? (i := 137) (by decide +kernel), by decide +kernel⟩, ⟨List.mem_of_getElem? (i := 1677) (by decide +kernel), by decide +kernel⟩, by decide +kernel⟩, ⟨List.mem_of_getElem? (i := 1676) (by decide +kernel), by decide +kernel⟩, ⟨List.mem_of_getElem? (i := 56) (by decide +kernel), by decide +kernel⟩⟩
theorem km12_248 : inW (Cond.methodLink RX12 248 yX12_body) := ⟨List.mem_of_getElem? (i := 1674) (by decide +kernel), by decide +kernel⟩
theorem dX12_clause_98 : decode cX12_clause 98 = .ok (.istore 4, 2) := by decide +kernel
theorem dX12_clause_100 : decode cX12_clause 100 = .ok (.iload 4, 2) := by decide +kernel
theorem dX12_clause_102 : decode cX12_clause 102 = .ok (.ifCond .eq 6, 3) := by decide +kernel
theorem dX12_clause_108 : decode cX12_clause 108 = .ok (.aload_n 0, 1) := by decide +kernel
theorem dX12_clause_109 : decode cX12_clause 109 = .ok (.getfield 16, 3) := by decide +kernel
theorem dX12_clause_112 : decode cX12_clause 112 = .ok (.aload_n 0, 1) := by decide +kernel
theorem dX12_clause_113 : decode cX12_clause 113 = .ok (.getfield 136, 3) := by decide +kernel
theorem dX12_clause_116 : decode cX12_clause 116 = .ok (.dup2, 1) := by decide +kernel
theorem dX12_clause_117 : decode cX12_clause 117 = .ok (.iaload, 1) := by decide +kernel
theorem dX12_clause_118 : decode cX12_clause 118 = .ok (.iconst 1, 1) := by decide +kernel
theorem dX12_clause_119 : decode cX12_clause 119 = .ok (.iadd, 1) := by decide +kernel
theorem dX12_clause_120 : decode cX12_clause 120 = .ok (.iastore, 1) := by decide +kernel
theorem dX12_clause_121 : decode cX12_clause 121 = .ok (.aload_n 0, 1) := by decide +kernel
theorem dX12_clause_122 : decode cX12_clause 122 = .ok (.getfield 98, 3) := by decide +kernel
theorem dX12_clause_125 : decode cX12_clause 125 = .ok (.bipush 59, 2) := by decide +kernel
theorem dX12_clause_127 : decode cX12_clause 127 = .ok (.if_icmp .eq 5, 3) := by decide +kernel
theorem dX12_clause_132 : decode cX12_clause 132 = .ok (.aload_n 0, 1) := by decide +kernel
theorem dX12_clause_133 : decode cX12_clause 133 = .ok (.invokevirtual 166, 3) := by decide +kernel
theorem dX12_clause_136 : decode cX12_clause 136 = .ok (.iconst 0, 1) := by decide +kernel
theorem dX12_clause_137 : decode cX12_clause 137 = .ok (.ireturn, 1) := by decide +kernel
theorem dX12_clause_130 : decode cX12_clause 130 = .ok (.iconst 1, 1) := by decide +kernel
theorem dX12_clause_131 : decode cX12_clause 131 = .ok (.ireturn, 1) := by decide +kernel
theorem dX12_clause_105 : decode cX12_clause 105 = .ok (.iload 4, 2) := by decide +kernel
theorem dX12_clause_107 : decode cX12_clause 107 = .ok (.ireturn, 1) := by decide +kernel
theorem dX12_clause_45 : decode cX12_clause 45 = .ok (.bipush 6, 2) := by decide +kernel
theorem dX12_clause_47 : decode cX12_clause 47 = .ok (.ireturn, 1) := by decide +kernel
theorem dX12_clause_16 : decode cX12_clause 16 = .ok (.aload_n 0, 1) := by decide +kernel
theorem dX12_clause_17 : decode cX12_clause 17 = .ok (.getfield 241, 3) := by decide +kernel
theorem kf12_241 : inW (Cond.fieldLink RX12 241 "KneeOathsModel" "once" "I") := ⟨List.mem_of_getElem? (i := 1519) (by decide +kernel), by decide +kernel⟩
theorem dX12_clause_20 : decode cX12_clause 20 = .ok (.iload_n 1, 1) := by decide +kernel
theorem dX12_clause_21 : decode cX12_clause 21 = .ok (.invokestatic 244, 3) := by decide +kernel
theorem dX12_clause_24 : decode cX12_clause 24 = .ok (.ifCond .eq 5, 3) := by decide +kernel
theorem dX12_clause_53 : decode cX12_clause 53 = .ok (.aload_n 0, 1) := by decide +kernel
theorem dX12_clause_54 : decode cX12_clause 54 = .ok (.dup, 1) := by decide +kernel
theorem dX12_clause_55 : decode cX12_clause 55 = .ok (.getfield 241, 3) := by decide +kernel
theorem dX12_clause_58 : decode cX12_clause 58 = .ok (.iconst 1, 1) := by decide +kernel
theorem dX12_clause_59 : decode cX12_clause 59 = .ok (.iload_n 1, 1) := by decide +kernel
theorem dX12_clause_60 : decode cX12_clause 60 = .ok (.ishl, 1) := by decide +kernel
theorem dX12_clause_61 : decode cX12_clause 61 = .ok (.ior, 1) := by decide +kernel
theorem dX12_clause_62 : decode cX12_clause 62 = .ok (.putfield 241, 3) := by decide +kernel
theorem dX12_clause_27 : decode cX12_clause 27 = .ok (.iconst 4, 1) := by decide +kernel
theorem dX12_clause_28 : decode cX12_clause 28 = .ok (.ireturn, 1) := by decide +kernel
theorem dX12_clause_9 : decode cX12_clause 9 = .ok (.iconst 1, 1) := by decide +kernel
theorem dX12_clause_10 : decode cX12_clause 10 = .ok (.ireturn, 1) := by decide +kernel
theorem dX12_readText_0 : decode cX12_readText 0 = .ok (.aload_n 0, 1) := by decide +kernel
theorem dX12_readText_1 : decode cX12_readText 1 = .ok (.sipush 729, 3) := by decide +kernel
theorem dX12_readText_4 : decode cX12_readText 4 = .ok (.aload_n 0, 1) := by decide +kernel
theorem dX12_readText_5 : decode cX12_readText 5 = .ok (.getfield 7, 3) := by decide +kernel
theorem dX12_readText_8 : decode cX12_readText 8 = .ok (.iconst 1, 1) := by decide +kernel
theorem dX12_readText_9 : decode cX12_readText 9 = .ok (.iaload, 1) := by decide +kernel
theorem dX12_readText_10 : decode cX12_readText 10 = .ok (.imul, 1) := by decide +kernel
theorem dX12_readText_11 : decode cX12_readText 11 = .ok (.putfield 136, 3) := by decide +kernel
theorem dX12_readText_14 : decode cX12_readText 14 = .ok (.aload_n 0, 1) := by decide +kernel
theorem dX12_readText_15 : decode cX12_readText 15 = .ok (.getfield 16, 3) := by decide +kernel
theorem dX12_readText_18 : decode cX12_readText 18 = .ok (.aload_n 0, 1) := by decide +kernel
theorem dX12_readText_19 : decode cX12_readText 19 = .ok (.getfield 136, 3) := by decide +kernel
theorem dX12_readText_22 : decode cX12_readText 22 = .ok (.iconst 0, 1) := by decide +kernel
theorem dX12_readText_23 : decode cX12_readText 23 = .ok (.iastore, 1) := by decide +kernel
theorem dX12_readText_24 : decode cX12_readText 24 = .ok (.aload_n 0, 1) := by decide +kernel
theorem dX12_readText_25 : decode cX12_readText 25 = .ok (.iconst 0, 1) := by decide +kernel
theorem dX12_readText_26 : decode cX12_readText 26 = .ok (.putfield 139, 3) := by decide +kernel
theorem dX12_readText_29 : decode cX12_readText 29 = .ok (.aload_n 0, 1) := by decide +kernel
theorem dX12_readText_30 : decode cX12_readText 30 = .ok (.iconst 0, 1) := by decide +kernel
theorem dX12_readText_31 : decode cX12_readText 31 = .ok (.putfield 241, 3) := by decide +kernel
theorem dX12_readText_34 : decode cX12_readText 34 = .ok (.aload_n 0, 1) := by decide +kernel
theorem dX12_readText_35 : decode cX12_readText 35 = .ok (.iconst 0, 1) := by decide +kernel
theorem dX12_readText_36 : decode cX12_readText 36 = .ok (.putfield 88, 3) := by decide +kernel
theorem dX12_readText_39 : decode cX12_readText 39 = .ok (.aload_n 0, 1) := by decide +kernel
theorem dX12_readText_40 : decode cX12_readText 40 = .ok (.invokevirtual 166, 3) := by decide +kernel
theorem dX12_readText_43 : decode cX12_readText 43 = .ok (.aload_n 0, 1) := by decide +kernel
theorem dX12_readText_44 : decode cX12_readText 44 = .ok (.getfield 98, 3) := by decide +kernel
theorem dX12_readText_47 : decode cX12_readText 47 = .ok (.ifCond .eq 17, 3) := by decide +kernel
theorem dX12_readText_64 : decode cX12_readText 64 = .ok (.iconst 0, 1) := by decide +kernel
theorem dX12_readText_65 : decode cX12_readText 65 = .ok (.ireturn, 1) := by decide +kernel
theorem dX12_readText_50 : decode cX12_readText 50 = .ok (.aload_n 0, 1) := by decide +kernel
theorem dX12_readText_51 : decode cX12_readText 51 = .ok (.invokevirtual 251, 3) := by decide +kernel
theorem cw_X12_clause : CWv yX12_clause cX12_clause 5 (some .int) 0 := ⟨⟨⟨List.mem_of_getElem? (i := 137) (by decide +kernel), by decide +kernel⟩, ⟨List.mem_of_getElem? (i := 1646) (by decide +kernel), by decide +kernel⟩, by decide +kernel⟩, ⟨List.mem_of_getElem? (i := 1645) (by decide +kernel), by decide +kernel⟩, ⟨List.mem_of_getElem? (i := 52) (by decide +kernel), by decide +kernel⟩⟩
theorem km12_251 : inW (Cond.methodLink RX12 251 yX12_clause) := ⟨List.mem_of_getElem? (i := 1643) (by decide +kernel), by decide +kernel⟩
theorem dX12_readText_54 : decode cX12_readText 54 = .ok (.istore_n 1, 1) := by decide +kernel
theorem dX12_readText_55 : decode cX12_readText 55 = .ok (.iload_n 1, 1) := by decide +kernel
theorem dX12_readText_56 : decode cX12_readText 56 = .ok (.ifCond .eq 5, 3) := by decide +kernel
theorem dX12_readText_61 : decode cX12_readText 61 = .ok (.goto (-18), 3) := by decide +kernel
theorem dX12_readText_59 : decode cX12_readText 59 = .ok (.iload_n 1, 1) := by decide +kernel
theorem dX12_readText_60 : decode cX12_readText 60 = .ok (.ireturn, 1) := by decide +kernel
theorem dX12_text_0 : decode cX12_text 0 = .ok (.aload_n 0, 1) := by decide +kernel
theorem dX12_text_1 : decode cX12_text 1 = .ok (.getfield 7, 3) := by decide +kernel
theorem dX12_text_4 : decode cX12_text 4 = .ok (.iconst 1, 1) := by decide +kernel
theorem dX12_text_5 : decode cX12_text 5 = .ok (.iaload, 1) := by decide +kernel
theorem dX12_text_6 : decode cX12_text 6 = .ok (.iconst 4, 1) := by decide +kernel
theorem dX12_text_7 : decode cX12_text 7 = .ok (.if_icmp .ne 5, 3) := by decide +kernel
theorem dX12_text_12 : decode cX12_text 12 = .ok (.aload_n 0, 1) := by decide +kernel
theorem dX12_text_13 : decode cX12_text 13 = .ok (.aload_n 0, 1) := by decide +kernel
theorem dX12_text_14 : decode cX12_text 14 = .ok (.invokevirtual 254, 3) := by decide +kernel
theorem cw_X12_readText : CWv yX12_readText cX12_readText 2 (some .int) 0 := ⟨⟨⟨List.mem_of_getElem? (i := 137) (by decide +kernel), by decide +kernel⟩, ⟨List.mem_of_getElem? (i := 1623) (by decide +kernel), by decide +kernel⟩, by decide +kernel⟩, ⟨List.mem_of_getElem? (i := 1622) (by decide +kernel), by decide +kernel⟩, ⟨List.mem_of_getElem? (i := 49) (by decide +kernel), by decide +kernel⟩⟩
theorem km12_254 : inW (Cond.methodLink RX12 254 yX12_readText) := ⟨List.mem_of_getElem? (i := 1620) (by decide +kernel), by decide +kernel⟩
theorem dX12_text_17 : decode cX12_text 17 = .ok (.putfield 22, 3) := by decide +kernel
theorem dX12_text_20 : decode cX12_text 20 = .ok (.aload_n 0, 1) := by decide +kernel
theorem dX12_text_21 : decode cX12_text 21 = .ok (.aload_n 0, 1) := by decide +kernel
theorem dX12_text_22 : decode cX12_text 22 = .ok (.getfield 22, 3) := by decide +kernel
theorem dX12_text_25 : decode cX12_text 25 = .ok (.ifCond .ne 7, 3) := by decide +kernel
theorem dX12_text_32 : decode cX12_text 32 = .ok (.aload_n 0, 1) := by decide +kernel
theorem dX12_text_33 : decode cX12_text 33 = .ok (.getfield 95, 3) := by decide +kernel
theorem dX12_text_36 : decode cX12_text 36 = .ok (.putfield 26, 3) := by decide +kernel
theorem dX12_text_39 : decode cX12_text 39 = .ok (.aload_n 0, 1) := by decide +kernel
theorem dX12_text_40 : decode cX12_text 40 = .ok (.iconst 0, 1) := by decide +kernel
theorem dX12_text_41 : decode cX12_text 41 = .ok (.putfield 81, 3) := by decide +kernel
theorem dX12_text_44 : decode cX12_text 44 = .ok (.aload_n 0, 1) := by decide +kernel
theorem dX12_text_45 : decode cX12_text 45 = .ok (.getfield 22, 3) := by decide +kernel
theorem dX12_text_48 : decode cX12_text 48 = .ok (.ifCond .eq 5, 3) := by decide +kernel
theorem dX12_text_51 : decode cX12_text 51 = .ok (.iconst (-1), 1) := by decide +kernel
theorem dX12_text_52 : decode cX12_text 52 = .ok (.ireturn, 1) := by decide +kernel
theorem dX12_text_28 : decode cX12_text 28 = .ok (.iconst (-1), 1) := by decide +kernel
theorem dX12_text_29 : decode cX12_text 29 = .ok (.goto 7, 3) := by decide +kernel
theorem dX12_text_53 : decode cX12_text 53 = .ok (.aload_n 0, 1) := by decide +kernel
theorem dX12_text_54 : decode cX12_text 54 = .ok (.getfield 7, 3) := by decide +kernel
theorem dX12_text_57 : decode cX12_text 57 = .ok (.iconst 1, 1) := by decide +kernel
theorem dX12_text_58 : decode cX12_text 58 = .ok (.dup2, 1) := by decide +kernel
theorem dX12_text_59 : decode cX12_text 59 = .ok (.iaload, 1) := by decide +kernel
theorem dX12_text_60 : decode cX12_text 60 = .ok (.iconst 1, 1) := by decide +kernel
theorem dX12_text_61 : decode cX12_text 61 = .ok (.iadd, 1) := by decide +kernel
theorem dX12_text_62 : decode cX12_text 62 = .ok (.iastore, 1) := by decide +kernel
theorem dX12_text_63 : decode cX12_text 63 = .ok (.aload_n 0, 1) := by decide +kernel
theorem dX12_text_64 : decode cX12_text 64 = .ok (.getfield 7, 3) := by decide +kernel
theorem dX12_text_67 : decode cX12_text 67 = .ok (.iconst 1, 1) := by decide +kernel
theorem dX12_text_68 : decode cX12_text 68 = .ok (.iaload, 1) := by decide +kernel
theorem dX12_text_69 : decode cX12_text 69 = .ok (.iconst 1, 1) := by decide +kernel
theorem dX12_text_70 : decode cX12_text 70 = .ok (.isub, 1) := by decide +kernel
theorem dX12_text_71 : decode cX12_text 71 = .ok (.ireturn, 1) := by decide +kernel
theorem dX12_text_10 : decode cX12_text 10 = .ok (.iconst (-1), 1) := by decide +kernel
theorem dX12_text_11 : decode cX12_text 11 = .ok (.ireturn, 1) := by decide +kernel
set_option maxHeartbeats 4000000 in
set_option maxRecDepth 100000 in
theorem x_X12_isRelease {l : Launch} {G : GG}  {L : List Nat} {f : HF} {ad : Nat → Nat → Nat} {pa : (Nat → Int32) → Prop} {PA : (Nat → Int32) → Prop} {PI : (Nat → Int32) → Prop} {PX : (Nat → Int32) → Prop} {td fa fp at9 ps9 tk nu t0 wr so pd op9 cg iw on9 is9 se : Int32} {wd : Int64} {gt : Nat → Int32} (I : SH (spM PA PI PX pa) nnM G ad L f) (p_ad_0_0 : pt L f (ad 0 0) (.inr (12, [.ref (ad 1 0), .ref (ad 2 0), .ref (ad 3 0), .ref (ad 4 0), .int td, .int fa, .int fp, .int at9, .int ps9, .int tk, .int nu, .long wd, .int t0, .int wr, .int so, .ref (ad 5 0), .ref (ad 6 0), .int pd, .int op9, .int cg, .int iw, .int on9, .ref (ad 7 0), .ref (ad 8 0), .ref (ad 9 0), .int is9, .ref (ad 10 0), .ref (ad 11 0), .ref (ad 12 0), .ref (ad 13 0), .int se, .ref (ad 14 0)]))) (p_ad_4_0 : pt L f (ad 4 0) (.inl (G.2 0, 300, .inl gt))) : PMp l yX12_isRelease cX12_isRelease 1 .boolean 3 0 0 G [.ref (ad 0 0)] L f (fun r => (bn 0 1 r ∧ (¬ r = 0 → tk = 2))) := by
  refine PMi.of (post := fun r L1 f1 => ((bn 0 1 r ∧ (¬ r = 0 → tk = 2))) ∧ L1 = L ∧ f1 = f) (own := RX12) (by decide) rfl (Nat.le_of_ble_eq_true rfl) (fun sz p e s m args below meth c A ls hA1 hname S Y hl => ?_)
  have hx := S.hx
  have hb := S.hb
  have hl : lv_has ls 1 [(0, .ref (ad 0 0))] := hl
  obtain ⟨bfe_4, bfe_7, bfe_8, bfe_12, bfe_13, bfe_17, bfe_18, bfe_19, bfe_20, bfe_25⟩ := obM I p_ad_0_0
  refine lv_aload_n hx hb dX12_isRelease_0 rfl (lv_at hl 0 rfl) ?_
  refine pg_get S Y ok_X12 9 (by decide) kf12_98 (v := .int tk) p_ad_0_0 rfl dX12_isRelease_1 ?_
  refine lv_iconst (v := 2) hx hb dX12_isRelease_4 (by decide) ?_
  refine lv_icmp_ne (tgt := 129) hx hb dX12_isRelease_5 (by decide) (fun c_89467 => ?_) (fun c_89467 => ?_)
  · refine lv_iconst (v := 0) hx hb dX12_isRelease_129 (by decide) ?_
    exact prI (post := fun r L1 f1 => ((bn 0 1 r ∧ (¬ r = 0 → tk = 2))) ∧ L1 = L ∧ f1 = f) S Y rfl (by decide) (by decide) hA1 ⟨⟨bn_k (by decide), fun h => absurd rfl h⟩, rfl, rfl⟩ dX12_isRelease_130
  · have B_89468 : bn 2 2 tk := bn_w (bn_eq c_89467 (show bn 2 2 (2 : Int32) from bn_k (by decide))) (by decide)
    refine lv_aload_n hx hb dX12_isRelease_8 rfl (lv_at hl 0 rfl) ?_
    refine pg_get S Y ok_X12 7 (by decide) kf12_88 (v := .int at9) p_ad_0_0 rfl dX12_isRelease_9 ?_
    refine lv_aload_n hx hb dX12_isRelease_12 rfl (lv_at hl 0 rfl) ?_
    refine pg_get S Y ok_X12 8 (by decide) kf12_95 (v := .int ps9) p_ad_0_0 rfl dX12_isRelease_13 ?_
    refine lv_isub hx hb dX12_isRelease_16 ?_
    refine lv_topi (fun x_89469 ex_89469 => ?_)
    refine lv_bipush (v := 7) hx hb dX12_isRelease_17 (by decide) ?_
    refine lv_icmp_ne (tgt := 129) hx hb dX12_isRelease_19 (by decide) (fun c_89470 => ?_) (fun c_89470 => ?_)
    · refine lv_iconst (v := 0) hx hb dX12_isRelease_129 (by decide) ?_
      exact prI (post := fun r L1 f1 => ((bn 0 1 r ∧ (¬ r = 0 → tk = 2))) ∧ L1 = L ∧ f1 = f) S Y rfl (by decide) (by decide) hA1 ⟨⟨bn_k (by decide), fun h => absurd rfl h⟩, rfl, rfl⟩ dX12_isRelease_130
    · have B_89471 : bn 7 7 x_89469 := bn_w (bn_eq c_89470 (show bn 7 7 (7 : Int32) from bn_k (by decide))) (by decide)
      refine lv_aload_n hx hb dX12_isRelease_22 rfl (lv_at hl 0 rfl) ?_
      refine lv_aload_n hx hb dX12_isRelease_23 rfl (lv_at hl 0 rfl) ?_
      refine pg_get S Y ok_X12 8 (by decide) kf12_95 (v := .int ps9) p_ad_0_0 rfl dX12_isRelease_24 ?_
      refine cVp (As := [.int ps9]) (rest := []) S Y (x_X12_byteAt (l := l) I p_ad_0_0 p_ad_4_0 (bn_w bfe_8 (by decide))) cw_X12_byteAt km12_91 p_ad_0_0 ok_X12.1 rfl rfl ⟨Nat.le_of_ble_eq_true rfl, Nat.le_of_ble_eq_true rfl⟩ hl.1 rfl (Nat.le_of_ble_eq_true rfl) ⟨Nat.le_of_ble_eq_true rfl, Nat.le_of_ble_eq_true rfl⟩ dX12_isRelease_27 (fun r_89472 H locs er_89472 Y => ?_)
      refine lv_aload_n hx hb dX12_isRelease_30 rfl (lv_at hl 0 rfl) ?_
      refine lv_aload_n hx hb dX12_isRelease_31 rfl (lv_at hl 0 rfl) ?_
      refine pg_get S Y ok_X12 8 (by decide) kf12_95 (v := .int ps9) p_ad_0_0 rfl dX12_isRelease_32 ?_
      refine lv_iconst (v := 1) hx hb dX12_isRelease_35 (by decide) ?_
      refine lv_iadd hx hb dX12_isRelease_36 ?_
      refine lv_topi (fun x_89473 ex_89473 => ?_)
      refine cVp (As := [.int x_89473]) (rest := [.int r_89472]) S Y (x_X12_byteAt (l := l) I p_ad_0_0 p_ad_4_0 (bn_w (bn_eq ex_89473 (bn_add bfe_8 (show bn 1 1 (1 : Int32) from bn_k (by decide)) (by decide))) (by decide))) cw_X12_byteAt km12_91 p_ad_0_0 ok_X12.1 rfl rfl ⟨Nat.le_of_ble_eq_true rfl, Nat.le_of_ble_eq_true rfl⟩ hl.1 rfl (Nat.le_of_ble_eq_true rfl) ⟨Nat.le_of_ble_eq_true rfl, Nat.le_of_ble_eq_true rfl⟩ dX12_isRelease_37 (fun r_89474 H locs er_89474 Y => ?_)
      refine lv_aload_n hx hb dX12_isRelease_40 rfl (lv_at hl 0 rfl) ?_
      refine lv_aload_n hx hb dX12_isRelease_41 rfl (lv_at hl 0 rfl) ?_
      refine pg_get S Y ok_X12 8 (by decide) kf12_95 (v := .int ps9) p_ad_0_0 rfl dX12_isRelease_42 ?_
      refine lv_iconst (v := 2) hx hb dX12_isRelease_45 (by decide) ?_
      refine lv_iadd hx hb dX12_isRelease_46 ?_
      refine lv_topi (fun x_89475 ex_89475 => ?_)
      refine cVp (As := [.int x_89475]) (rest := [.int r_89474, .int r_89472]) S Y (x_X12_byteAt (l := l) I p_ad_0_0 p_ad_4_0 (bn_w (bn_eq ex_89475 (bn_add bfe_8 (show bn 2 2 (2 : Int32) from bn_k (by decide)) (by decide))) (by decide))) cw_X12_byteAt km12_91 p_ad_0_0 ok_X12.1 rfl rfl ⟨Nat.le_of_ble_eq_true rfl, Nat.le_of_ble_eq_true rfl⟩ hl.1 rfl (Nat.le_of_ble_eq_true rfl) ⟨Nat.le_of_ble_eq_true rfl, Nat.le_of_ble_eq_true rfl⟩ dX12_isRelease_47 (fun r_89476 H locs er_89476 Y => ?_)
      refine lv_aload_n hx hb dX12_isRelease_50 rfl (lv_at hl 0 rfl) ?_
      refine lv_aload_n hx hb dX12_isRelease_51 rfl (lv_at hl 0 rfl) ?_
      refine pg_get S Y ok_X12 8 (by decide) kf12_95 (v := .int ps9) p_ad_0_0 rfl dX12_isRelease_52 ?_
      refine lv_iconst (v := 3) hx hb dX12_isRelease_55 (by decide) ?_
      refine lv_iadd hx hb dX12_isRelease_56 ?_
      refine lv_topi (fun x_89477 ex_89477 => ?_)
      refine cVp (As := [.int x_89477]) (rest := [.int r_89476, .int r_89474, .int r_89472]) S Y (x_X12_byteAt (l := l) I p_ad_0_0 p_ad_4_0 (bn_w (bn_eq ex_89477 (bn_add bfe_8 (show bn 3 3 (3 : Int32) from bn_k (by decide)) (by decide))) (by decide))) cw_X12_byteAt km12_91 p_ad_0_0 ok_X12.1 rfl rfl ⟨Nat.le_of_ble_eq_true rfl, Nat.le_of_ble_eq_true rfl⟩ hl.1 rfl (Nat.le_of_ble_eq_true rfl) ⟨Nat.le_of_ble_eq_true rfl, Nat.le_of_ble_eq_true rfl⟩ dX12_isRelease_57 (fun r_89478 H locs er_89478 Y => ?_)
      refine cSlp (As := [.int r_89472, .int r_89474, .int r_89476, .int r_89478]) (rest := []) S Y (x_X12_w4 (l := l) ) cw_X12_w4 km12_128 rfl ⟨Nat.le_of_ble_eq_true rfl, Nat.le_of_ble_eq_true rfl⟩ hl.1 rfl (Nat.le_of_ble_eq_true rfl) ⟨Nat.le_of_ble_eq_true rfl, Nat.le_of_ble_eq_true rfl⟩ dX12_isRelease_60 (fun r_89479 H locs er_89479 Y => ?_)
      refine lv_bipush (v := 114) hx hb dX12_isRelease_63 (by decide) ?_
      refine lv_bipush (v := 101) hx hb dX12_isRelease_65 (by decide) ?_
      refine lv_bipush (v := 108) hx hb dX12_isRelease_67 (by decide) ?_
      refine lv_bipush (v := 101) hx hb dX12_isRelease_69 (by decide) ?_
      refine cSlp (As := [.int 114, .int 101, .int 108, .int 101]) (rest := [.long r_89479]) S Y (x_X12_w4 (l := l) ) cw_X12_w4 km12_128 rfl ⟨Nat.le_of_ble_eq_true rfl, Nat.le_of_ble_eq_true rfl⟩ hl.1 rfl (Nat.le_of_ble_eq_true rfl) ⟨Nat.le_of_ble_eq_true rfl, Nat.le_of_ble_eq_true rfl⟩ dX12_isRelease_71 (fun r_89480 H locs er_89480 Y => ?_)
      refine W.lcmp hx hb dX12_isRelease_74 ?_
      refine lv_topi (fun x_89481 ex_89481 => ?_)
      refine lv_if_ne (tgt := 129) hx hb dX12_isRelease_75 (by decide) (fun c_89482 => ?_) (fun c_89482 => ?_)
      · refine lv_iconst (v := 0) hx hb dX12_isRelease_129 (by decide) ?_
        exact prI (post := fun r L1 f1 => ((bn 0 1 r ∧ (¬ r = 0 → tk = 2))) ∧ L1 = L ∧ f1 = f) S Y rfl (by decide) (by decide) hA1 ⟨⟨bn_k (by decide), fun h => absurd rfl h⟩, rfl, rfl⟩ dX12_isRelease_130
      · have B_89483 : bn 0 0 x_89481 := bn_w (bn_eq c_89482 (show bn 0 0 (0 : Int32) from bn_k (by decide))) (by decide)
        refine lv_aload_n hx hb dX12_isRelease_78 rfl (lv_at hl 0 rfl) ?_
        refine lv_aload_n hx hb dX12_isRelease_79 rfl (lv_at hl 0 rfl) ?_
        refine pg_get S Y ok_X12 8 (by decide) kf12_95 (v := .int ps9) p_ad_0_0 rfl dX12_isRelease_80 ?_
        refine lv_iconst (v := 4) hx hb dX12_isRelease_83 (by decide) ?_
        refine lv_iadd hx hb dX12_isRelease_84 ?_
        refine lv_topi (fun x_89484 ex_89484 => ?_)
        refine cVp (As := [.int x_89484]) (rest := []) S Y (x_X12_byteAt (l := l) I p_ad_0_0 p_ad_4_0 (bn_w (bn_eq ex_89484 (bn_add bfe_8 (show bn 4 4 (4 : Int32) from bn_k (by decide)) (by decide))) (by decide))) cw_X12_byteAt km12_91 p_ad_0_0 ok_X12.1 rfl rfl ⟨Nat.le_of_ble_eq_true rfl, Nat.le_of_ble_eq_true rfl⟩ hl.1 rfl (Nat.le_of_ble_eq_true rfl) ⟨Nat.le_of_ble_eq_true rfl, Nat.le_of_ble_eq_true rfl⟩ dX12_isRelease_85 (fun r_89485 H locs er_89485 Y => ?_)
        refine lv_aload_n hx hb dX12_isRelease_88 rfl (lv_at hl 0 rfl) ?_
        refine lv_aload_n hx hb dX12_isRelease_89 rfl (lv_at hl 0 rfl) ?_
        refine pg_get S Y ok_X12 8 (by decide) kf12_95 (v := .int ps9) p_ad_0_0 rfl dX12_isRelease_90 ?_
        refine lv_iconst (v := 5) hx hb dX12_isRelease_93 (by decide) ?_
        refine lv_iadd hx hb dX12_isRelease_94 ?_
        refine lv_topi (fun x_89486 ex_89486 => ?_)
        refine cVp (As := [.int x_89486]) (rest := [.int r_89485]) S Y (x_X12_byteAt (l := l) I p_ad_0_0 p_ad_4_0 (bn_w (bn_eq ex_89486 (bn_add bfe_8 (show bn 5 5 (5 : Int32) from bn_k (by decide)) (by decide))) (by decide))) cw_X12_byteAt km12_91 p_ad_0_0 ok_X12.1 rfl rfl ⟨Nat.le_of_ble_eq_true rfl, Nat.le_of_ble_eq_true rfl⟩ hl.1 rfl (Nat.le_of_ble_eq_true rfl) ⟨Nat.le_of_ble_eq_true rfl, Nat.le_of_ble_eq_true rfl⟩ dX12_isRelease_95 (fun r_89487 H locs er_89487 Y => ?_)
        refine lv_aload_n hx hb dX12_isRelease_98 rfl (lv_at hl 0 rfl) ?_
        refine lv_aload_n hx hb dX12_isRelease_99 rfl (lv_at hl 0 rfl) ?_
        refine pg_get S Y ok_X12 8 (by decide) kf12_95 (v := .int ps9) p_ad_0_0 rfl dX12_isRelease_100 ?_
        refine lv_bipush (v := 6) hx hb dX12_isRelease_103 (by decide) ?_
        refine lv_iadd hx hb dX12_isRelease_105 ?_
        refine lv_topi (fun x_89488 ex_89488 => ?_)
        refine cVp (As := [.int x_89488]) (rest := [.int r_89487, .int r_89485]) S Y (x_X12_byteAt (l := l) I p_ad_0_0 p_ad_4_0 (bn_w (bn_eq ex_89488 (bn_add bfe_8 (show bn 6 6 (6 : Int32) from bn_k (by decide)) (by decide))) (by decide))) cw_X12_byteAt km12_91 p_ad_0_0 ok_X12.1 rfl rfl ⟨Nat.le_of_ble_eq_true rfl, Nat.le_of_ble_eq_true rfl⟩ hl.1 rfl (Nat.le_of_ble_eq_true rfl) ⟨Nat.le_of_ble_eq_true rfl, Nat.le_of_ble_eq_true rfl⟩ dX12_isRelease_106 (fun r_89489 H locs er_89489 Y => ?_)
        refine cSlp (As := [.int r_89485, .int r_89487, .int r_89489]) (rest := []) S Y (x_X12_w3 (l := l) ) cw_X12_w3 km12_124 rfl ⟨Nat.le_of_ble_eq_true rfl, Nat.le_of_ble_eq_true rfl⟩ hl.1 rfl (Nat.le_of_ble_eq_true rfl) ⟨Nat.le_of_ble_eq_true rfl, Nat.le_of_ble_eq_true rfl⟩ dX12_isRelease_109 (fun r_89490 H locs er_89490 Y => ?_)
        refine lv_bipush (v := 97) hx hb dX12_isRelease_112 (by decide) ?_
        refine lv_bipush (v := 115) hx hb dX12_isRelease_114 (by decide) ?_
        refine lv_bipush (v := 101) hx hb dX12_isRelease_116 (by decide) ?_
        refine cSlp (As := [.int 97, .int 115, .int 101]) (rest := [.long r_89490]) S Y (x_X12_w3 (l := l) ) cw_X12_w3 km12_124 rfl ⟨Nat.le_of_ble_eq_true rfl, Nat.le_of_ble_eq_true rfl⟩ hl.1 rfl (Nat.le_of_ble_eq_true rfl) ⟨Nat.le_of_ble_eq_true rfl, Nat.le_of_ble_eq_true rfl⟩ dX12_isRelease_118 (fun r_89491 H locs er_89491 Y => ?_)
        refine W.lcmp hx hb dX12_isRelease_121 ?_
        refine lv_topi (fun x_89492 ex_89492 => ?_)
        refine lv_if_ne (tgt := 129) hx hb dX12_isRelease_122 (by decide) (fun c_89493 => ?_) (fun c_89493 => ?_)
        · refine lv_iconst (v := 0) hx hb dX12_isRelease_129 (by decide) ?_
          exact prI (post := fun r L1 f1 => ((bn 0 1 r ∧ (¬ r = 0 → tk = 2))) ∧ L1 = L ∧ f1 = f) S Y rfl (by decide) (by decide) hA1 ⟨⟨bn_k (by decide), fun h => absurd rfl h⟩, rfl, rfl⟩ dX12_isRelease_130
        · have B_89494 : bn 0 0 x_89492 := bn_w (bn_eq c_89493 (show bn 0 0 (0 : Int32) from bn_k (by decide))) (by decide)
          refine lv_iconst (v := 1) hx hb dX12_isRelease_125 (by decide) ?_
          refine lv_goto (tgt := 130) hx hb dX12_isRelease_126 (by decide) ?_
          exact prI (post := fun r L1 f1 => ((bn 0 1 r ∧ (¬ r = 0 → tk = 2))) ∧ L1 = L ∧ f1 = f) S Y rfl (by decide) (by decide) hA1 ⟨⟨bn_k (by decide), fun _ => c_89467⟩, rfl, rfl⟩ dX12_isRelease_130
set_option maxHeartbeats 4000000 in
set_option maxRecDepth 100000 in
theorem x_X12_sortOf {l : Launch} {G : GG}  {L : List Nat} {f : HF} {ad : Nat → Nat → Nat} {pa : (Nat → Int32) → Prop} {PA : (Nat → Int32) → Prop} {PI : (Nat → Int32) → Prop} {PX : (Nat → Int32) → Prop} {td fa fp at9 ps9 tk nu t0 wr so pd op9 cg iw on9 is9 se : Int32} {wd : Int64} {gt : Nat → Int32} (I : SH (spM PA PI PX pa) nnM G ad L f) (p_ad_0_0 : pt L f (ad 0 0) (.inr (12, [.ref (ad 1 0), .ref (ad 2 0), .ref (ad 3 0), .ref (ad 4 0), .int td, .int fa, .int fp, .int at9, .int ps9, .int tk, .int nu, .long wd, .int t0, .int wr, .int so, .ref (ad 5 0), .ref (ad 6 0), .int pd, .int op9, .int cg, .int iw, .int on9, .ref (ad 7 0), .ref (ad 8 0), .ref (ad 9 0), .int is9, .ref (ad 10 0), .ref (ad 11 0), .ref (ad 12 0), .ref (ad 13 0), .int se, .ref (ad 14 0)]))) (p_ad_4_0 : pt L f (ad 4 0) (.inl (G.2 0, 300, .inl gt))) : PMp l yX12_sortOf cX12_sortOf 1 .int 4 0 0 G [.ref (ad 0 0)] L f (fun r => (bn (-1) 10 r ∧ (¬ r = -1 → tk = 2))) := by
  refine PMi.of (post := fun r L1 f1 => ((bn (-1) 10 r ∧ (¬ r = -1 → tk = 2))) ∧ L1 = L ∧ f1 = f) (own := RX12) (by decide) rfl (Nat.le_of_ble_eq_true rfl) (fun sz p e s m args below meth c A ls hA1 hname S Y hl => ?_)
  have hx := S.hx
  have hb := S.hb
  have hl : lv_has ls 1 [(0, .ref (ad 0 0))] := hl
  obtain ⟨bfe_4, bfe_7, bfe_8, bfe_12, bfe_13, bfe_17, bfe_18, bfe_19, bfe_20, bfe_25⟩ := obM I p_ad_0_0
  refine lv_aload_n hx hb dX12_sortOf_0 rfl (lv_at hl 0 rfl) ?_
  refine lv_bipush (v := 119) hx hb dX12_sortOf_1 (by decide) ?_
  refine lv_bipush (v := 101) hx hb dX12_sortOf_3 (by decide) ?_
  refine lv_bipush (v := 97) hx hb dX12_sortOf_5 (by decide) ?_
  refine lv_bipush (v := 114) hx hb dX12_sortOf_7 (by decide) ?_
  refine lv_bipush (v := 115) hx hb dX12_sortOf_9 (by decide) ?_
  refine cSlp (As := [.int 119, .int 101, .int 97, .int 114, .int 115]) (rest := [.ref (ad 0 0)]) S Y (x_X12_w5 (l := l) ) cw_X12_w5 km12_132 rfl ⟨Nat.le_of_ble_eq_true rfl, Nat.le_of_ble_eq_true rfl⟩ hl.1 rfl (Nat.le_of_ble_eq_true rfl) ⟨Nat.le_of_ble_eq_true rfl, Nat.le_of_ble_eq_true rfl⟩ dX12_sortOf_11 (fun r_89593 H locs er_89593 Y => ?_)
  refine cVp (As := [.long r_89593]) (rest := []) S Y (x_X12_isWord (l := l) I p_ad_0_0) cw_X12_isWord km12_187 p_ad_0_0 ok_X12.1 rfl rfl ⟨Nat.le_of_ble_eq_true rfl, Nat.le_of_ble_eq_true rfl⟩ hl.1 rfl (Nat.le_of_ble_eq_true rfl) ⟨Nat.le_of_ble_eq_true rfl, Nat.le_of_ble_eq_true rfl⟩ dX12_sortOf_14 (fun r_89594 H locs er_89594 Y => ?_)
  refine lv_if_eq (tgt := 22) hx hb dX12_sortOf_17 (by decide) (fun c_89595 => ?_) (fun c_89595 => ?_)
  · have B_89596 : bn 0 0 r_89594 := bn_w (bn_eq c_89595 (show bn 0 0 (0 : Int32) from bn_k (by decide))) (by decide)
    refine lv_aload_n hx hb dX12_sortOf_22 rfl (lv_at hl 0 rfl) ?_
    refine lv_bipush (v := 97) hx hb dX12_sortOf_23 (by decide) ?_
    refine lv_bipush (v := 99) hx hb dX12_sortOf_25 (by decide) ?_
    refine lv_bipush (v := 104) hx hb dX12_sortOf_27 (by decide) ?_
    refine lv_bipush (v := 101) hx hb dX12_sortOf_29 (by decide) ?_
    refine lv_bipush (v := 115) hx hb dX12_sortOf_31 (by decide) ?_
    refine cSlp (As := [.int 97, .int 99, .int 104, .int 101, .int 115]) (rest := [.ref (ad 0 0)]) S Y (x_X12_w5 (l := l) ) cw_X12_w5 km12_132 rfl ⟨Nat.le_of_ble_eq_true rfl, Nat.le_of_ble_eq_true rfl⟩ hl.1 rfl (Nat.le_of_ble_eq_true rfl) ⟨Nat.le_of_ble_eq_true rfl, Nat.le_of_ble_eq_true rfl⟩ dX12_sortOf_33 (fun r_89598 H locs er_89598 Y => ?_)
    refine cVp (As := [.long r_89598]) (rest := []) S Y (x_X12_isWord (l := l) I p_ad_0_0) cw_X12_isWord km12_187 p_ad_0_0 ok_X12.1 rfl rfl ⟨Nat.le_of_ble_eq_true rfl, Nat.le_of_ble_eq_true rfl⟩ hl.1 rfl (Nat.le_of_ble_eq_true rfl) ⟨Nat.le_of_ble_eq_true rfl, Nat.le_of_ble_eq_true rfl⟩ dX12_sortOf_36 (fun r_89599 H locs er_89599 Y => ?_)
    refine lv_if_eq (tgt := 44) hx hb dX12_sortOf_39 (by decide) (fun c_89600 => ?_) (fun c_89600 => ?_)
    · have B_89601 : bn 0 0 r_89599 := bn_w (bn_eq c_89600 (show bn 0 0 (0 : Int32) from bn_k (by decide))) (by decide)
      refine lv_aload_n hx hb dX12_sortOf_44 rfl (lv_at hl 0 rfl) ?_
      refine lv_bipush (v := 114) hx hb dX12_sortOf_45 (by decide) ?_
      refine lv_bipush (v := 105) hx hb dX12_sortOf_47 (by decide) ?_
      refine lv_bipush (v := 115) hx hb dX12_sortOf_49 (by decide) ?_
      refine lv_bipush (v := 107) hx hb dX12_sortOf_51 (by decide) ?_
      refine cSlp (As := [.int 114, .int 105, .int 115, .int 107]) (rest := [.ref (ad 0 0)]) S Y (x_X12_w4 (l := l) ) cw_X12_w4 km12_128 rfl ⟨Nat.le_of_ble_eq_true rfl, Nat.le_of_ble_eq_true rfl⟩ hl.1 rfl (Nat.le_of_ble_eq_true rfl) ⟨Nat.le_of_ble_eq_true rfl, Nat.le_of_ble_eq_true rfl⟩ dX12_sortOf_53 (fun r_89603 H locs er_89603 Y => ?_)
      refine cVp (As := [.long r_89603]) (rest := []) S Y (x_X12_isWord (l := l) I p_ad_0_0) cw_X12_isWord km12_187 p_ad_0_0 ok_X12.1 rfl rfl ⟨Nat.le_of_ble_eq_true rfl, Nat.le_of_ble_eq_true rfl⟩ hl.1 rfl (Nat.le_of_ble_eq_true rfl) ⟨Nat.le_of_ble_eq_true rfl, Nat.le_of_ble_eq_true rfl⟩ dX12_sortOf_56 (fun r_89604 H locs er_89604 Y => ?_)
      refine lv_if_eq (tgt := 64) hx hb dX12_sortOf_59 (by decide) (fun c_89605 => ?_) (fun c_89605 => ?_)
      · have B_89606 : bn 0 0 r_89604 := bn_w (bn_eq c_89605 (show bn 0 0 (0 : Int32) from bn_k (by decide))) (by decide)
        refine lv_aload_n hx hb dX12_sortOf_64 rfl (lv_at hl 0 rfl) ?_
        refine lv_bipush (v := 111) hx hb dX12_sortOf_65 (by decide) ?_
        refine lv_bipush (v := 110) hx hb dX12_sortOf_67 (by decide) ?_
        refine lv_bipush (v := 101) hx hb dX12_sortOf_69 (by decide) ?_
        refine cSlp (As := [.int 111, .int 110, .int 101]) (rest := [.ref (ad 0 0)]) S Y (x_X12_w3 (l := l) ) cw_X12_w3 km12_124 rfl ⟨Nat.le_of_ble_eq_true rfl, Nat.le_of_ble_eq_true rfl⟩ hl.1 rfl (Nat.le_of_ble_eq_true rfl) ⟨Nat.le_of_ble_eq_true rfl, Nat.le_of_ble_eq_true rfl⟩ dX12_sortOf_71 (fun r_89608 H locs er_89608 Y => ?_)
        refine cVp (As := [.long r_89608]) (rest := []) S Y (x_X12_isWord (l := l) I p_ad_0_0) cw_X12_isWord km12_187 p_ad_0_0 ok_X12.1 rfl rfl ⟨Nat.le_of_ble_eq_true rfl, Nat.le_of_ble_eq_true rfl⟩ hl.1 rfl (Nat.le_of_ble_eq_true rfl) ⟨Nat.le_of_ble_eq_true rfl, Nat.le_of_ble_eq_true rfl⟩ dX12_sortOf_74 (fun r_89609 H locs er_89609 Y => ?_)
        refine lv_if_eq (tgt := 82) hx hb dX12_sortOf_77 (by decide) (fun c_89610 => ?_) (fun c_89610 => ?_)
        · have B_89611 : bn 0 0 r_89609 := bn_w (bn_eq c_89610 (show bn 0 0 (0 : Int32) from bn_k (by decide))) (by decide)
          refine lv_aload_n hx hb dX12_sortOf_82 rfl (lv_at hl 0 rfl) ?_
          refine lv_bipush (v := 115) hx hb dX12_sortOf_83 (by decide) ?_
          refine lv_bipush (v := 119) hx hb dX12_sortOf_85 (by decide) ?_
          refine lv_bipush (v := 101) hx hb dX12_sortOf_87 (by decide) ?_
          refine lv_bipush (v := 97) hx hb dX12_sortOf_89 (by decide) ?_
          refine lv_bipush (v := 114) hx hb dX12_sortOf_91 (by decide) ?_
          refine cSlp (As := [.int 115, .int 119, .int 101, .int 97, .int 114]) (rest := [.ref (ad 0 0)]) S Y (x_X12_w5 (l := l) ) cw_X12_w5 km12_132 rfl ⟨Nat.le_of_ble_eq_true rfl, Nat.le_of_ble_eq_true rfl⟩ hl.1 rfl (Nat.le_of_ble_eq_true rfl) ⟨Nat.le_of_ble_eq_true rfl, Nat.le_of_ble_eq_true rfl⟩ dX12_sortOf_93 (fun r_89613 H locs er_89613 Y => ?_)
          refine cVp (As := [.long r_89613]) (rest := []) S Y (x_X12_isWord (l := l) I p_ad_0_0) cw_X12_isWord km12_187 p_ad_0_0 ok_X12.1 rfl rfl ⟨Nat.le_of_ble_eq_true rfl, Nat.le_of_ble_eq_true rfl⟩ hl.1 rfl (Nat.le_of_ble_eq_true rfl) ⟨Nat.le_of_ble_eq_true rfl, Nat.le_of_ble_eq_true rfl⟩ dX12_sortOf_96 (fun r_89614 H locs er_89614 Y => ?_)
          refine lv_if_eq (tgt := 104) hx hb dX12_sortOf_99 (by decide) (fun c_89615 => ?_) (fun c_89615 => ?_)
          · have B_89616 : bn 0 0 r_89614 := bn_w (bn_eq c_89615 (show bn 0 0 (0 : Int32) from bn_k (by decide))) (by decide)
            refine lv_aload_n hx hb dX12_sortOf_104 rfl (lv_at hl 0 rfl) ?_
            refine lv_bipush (v := 98) hx hb dX12_sortOf_105 (by decide) ?_
            refine lv_bipush (v := 114) hx hb dX12_sortOf_107 (by decide) ?_
            refine lv_bipush (v := 101) hx hb dX12_sortOf_109 (by decide) ?_
            refine lv_bipush (v := 97) hx hb dX12_sortOf_111 (by decide) ?_
            refine lv_bipush (v := 107) hx hb dX12_sortOf_113 (by decide) ?_
            refine cSlp (As := [.int 98, .int 114, .int 101, .int 97, .int 107]) (rest := [.ref (ad 0 0)]) S Y (x_X12_w5 (l := l) ) cw_X12_w5 km12_132 rfl ⟨Nat.le_of_ble_eq_true rfl, Nat.le_of_ble_eq_true rfl⟩ hl.1 rfl (Nat.le_of_ble_eq_true rfl) ⟨Nat.le_of_ble_eq_true rfl, Nat.le_of_ble_eq_true rfl⟩ dX12_sortOf_115 (fun r_89618 H locs er_89618 Y => ?_)
            refine cVp (As := [.long r_89618]) (rest := []) S Y (x_X12_isWord (l := l) I p_ad_0_0) cw_X12_isWord km12_187 p_ad_0_0 ok_X12.1 rfl rfl ⟨Nat.le_of_ble_eq_true rfl, Nat.le_of_ble_eq_true rfl⟩ hl.1 rfl (Nat.le_of_ble_eq_true rfl) ⟨Nat.le_of_ble_eq_true rfl, Nat.le_of_ble_eq_true rfl⟩ dX12_sortOf_118 (fun r_89619 H locs er_89619 Y => ?_)
            refine lv_if_eq (tgt := 127) hx hb dX12_sortOf_121 (by decide) (fun c_89620 => ?_) (fun c_89620 => ?_)
            · have B_89621 : bn 0 0 r_89619 := bn_w (bn_eq c_89620 (show bn 0 0 (0 : Int32) from bn_k (by decide))) (by decide)
              refine lv_aload_n hx hb dX12_sortOf_127 rfl (lv_at hl 0 rfl) ?_
              refine cVp (As := []) (rest := []) S Y (x_X12_isRelease (l := l) I p_ad_0_0 p_ad_4_0) cw_X12_isRelease km12_235 p_ad_0_0 ok_X12.1 rfl rfl ⟨Nat.le_of_ble_eq_true rfl, Nat.le_of_ble_eq_true rfl⟩ hl.1 rfl (Nat.le_of_ble_eq_true rfl) ⟨Nat.le_of_ble_eq_true rfl, Nat.le_of_ble_eq_true rfl⟩ dX12_sortOf_128 (fun r_89623 H locs er_89623 Y => ?_)
              refine lv_if_eq (tgt := 137) hx hb dX12_sortOf_131 (by decide) (fun c_89624 => ?_) (fun c_89624 => ?_)
              · have B_89625 : bn 0 0 r_89623 := bn_w (bn_eq c_89624 (show bn 0 0 (0 : Int32) from bn_k (by decide))) (by decide)
                refine lv_aload_n hx hb dX12_sortOf_137 rfl (lv_at hl 0 rfl) ?_
                refine lv_bipush (v := 107) hx hb dX12_sortOf_138 (by decide) ?_
                refine lv_bipush (v := 110) hx hb dX12_sortOf_140 (by decide) ?_
                refine lv_bipush (v := 101) hx hb dX12_sortOf_142 (by decide) ?_
                refine lv_bipush (v := 101) hx hb dX12_sortOf_144 (by decide) ?_
                refine lv_bipush (v := 108) hx hb dX12_sortOf_146 (by decide) ?_
                refine cSlp (As := [.int 107, .int 110, .int 101, .int 101, .int 108]) (rest := [.ref (ad 0 0)]) S Y (x_X12_w5 (l := l) ) cw_X12_w5 km12_132 rfl ⟨Nat.le_of_ble_eq_true rfl, Nat.le_of_ble_eq_true rfl⟩ hl.1 rfl (Nat.le_of_ble_eq_true rfl) ⟨Nat.le_of_ble_eq_true rfl, Nat.le_of_ble_eq_true rfl⟩ dX12_sortOf_148 (fun r_89627 H locs er_89627 Y => ?_)
                refine cVp (As := [.long r_89627]) (rest := []) S Y (x_X12_isWord (l := l) I p_ad_0_0) cw_X12_isWord km12_187 p_ad_0_0 ok_X12.1 rfl rfl ⟨Nat.le_of_ble_eq_true rfl, Nat.le_of_ble_eq_true rfl⟩ hl.1 rfl (Nat.le_of_ble_eq_true rfl) ⟨Nat.le_of_ble_eq_true rfl, Nat.le_of_ble_eq_true rfl⟩ dX12_sortOf_151 (fun r_89628 H locs er_89628 Y => ?_)
                refine lv_if_eq (tgt := 160) hx hb dX12_sortOf_154 (by decide) (fun c_89629 => ?_) (fun c_89629 => ?_)
                · have B_89630 : bn 0 0 r_89628 := bn_w (bn_eq c_89629 (show bn 0 0 (0 : Int32) from bn_k (by decide))) (by decide)
                  refine lv_aload_n hx hb dX12_sortOf_160 rfl (lv_at hl 0 rfl) ?_
                  refine lv_bipush (v := 115) hx hb dX12_sortOf_161 (by decide) ?_
                  refine lv_bipush (v := 107) hx hb dX12_sortOf_163 (by decide) ?_
                  refine lv_bipush (v := 97) hx hb dX12_sortOf_165 (by decide) ?_
                  refine lv_bipush (v := 116) hx hb dX12_sortOf_167 (by decide) ?_
                  refine lv_bipush (v := 101) hx hb dX12_sortOf_169 (by decide) ?_
                  refine cSlp (As := [.int 115, .int 107, .int 97, .int 116, .int 101]) (rest := [.ref (ad 0 0)]) S Y (x_X12_w5 (l := l) ) cw_X12_w5 km12_132 rfl ⟨Nat.le_of_ble_eq_true rfl, Nat.le_of_ble_eq_true rfl⟩ hl.1 rfl (Nat.le_of_ble_eq_true rfl) ⟨Nat.le_of_ble_eq_true rfl, Nat.le_of_ble_eq_true rfl⟩ dX12_sortOf_171 (fun r_89632 H locs er_89632 Y => ?_)
                  refine cVp (As := [.long r_89632]) (rest := []) S Y (x_X12_isWord (l := l) I p_ad_0_0) cw_X12_isWord km12_187 p_ad_0_0 ok_X12.1 rfl rfl ⟨Nat.le_of_ble_eq_true rfl, Nat.le_of_ble_eq_true rfl⟩ hl.1 rfl (Nat.le_of_ble_eq_true rfl) ⟨Nat.le_of_ble_eq_true rfl, Nat.le_of_ble_eq_true rfl⟩ dX12_sortOf_174 (fun r_89633 H locs er_89633 Y => ?_)
                  refine lv_if_eq (tgt := 185) hx hb dX12_sortOf_177 (by decide) (fun c_89634 => ?_) (fun c_89634 => ?_)
                  · have B_89635 : bn 0 0 r_89633 := bn_w (bn_eq c_89634 (show bn 0 0 (0 : Int32) from bn_k (by decide))) (by decide)
                    refine lv_aload_n hx hb dX12_sortOf_185 rfl (lv_at hl 0 rfl) ?_
                    refine lv_bipush (v := 100) hx hb dX12_sortOf_186 (by decide) ?_
                    refine lv_bipush (v := 97) hx hb dX12_sortOf_188 (by decide) ?_
                    refine lv_bipush (v := 121) hx hb dX12_sortOf_190 (by decide) ?_
                    refine cSlp (As := [.int 100, .int 97, .int 121]) (rest := [.ref (ad 0 0)]) S Y (x_X12_w3 (l := l) ) cw_X12_w3 km12_124 rfl ⟨Nat.le_of_ble_eq_true rfl, Nat.le_of_ble_eq_true rfl⟩ hl.1 rfl (Nat.le_of_ble_eq_true rfl) ⟨Nat.le_of_ble_eq_true rfl, Nat.le_of_ble_eq_true rfl⟩ dX12_sortOf_192 (fun r_89637 H locs er_89637 Y => ?_)
                    refine cVp (As := [.long r_89637]) (rest := []) S Y (x_X12_isWord (l := l) I p_ad_0_0) cw_X12_isWord km12_187 p_ad_0_0 ok_X12.1 rfl rfl ⟨Nat.le_of_ble_eq_true rfl, Nat.le_of_ble_eq_true rfl⟩ hl.1 rfl (Nat.le_of_ble_eq_true rfl) ⟨Nat.le_of_ble_eq_true rfl, Nat.le_of_ble_eq_true rfl⟩ dX12_sortOf_195 (fun r_89638 H locs er_89638 Y => ?_)
                    refine lv_if_eq (tgt := 206) hx hb dX12_sortOf_198 (by decide) (fun c_89639 => ?_) (fun c_89639 => ?_)
                    · have B_89640 : bn 0 0 r_89638 := bn_w (bn_eq c_89639 (show bn 0 0 (0 : Int32) from bn_k (by decide))) (by decide)
                      refine lv_iconst (v := (-1)) hx hb dX12_sortOf_206 (by decide) ?_
                      exact prI (post := fun r L1 f1 => ((bn (-1) 10 r ∧ (¬ r = -1 → tk = 2))) ∧ L1 = L ∧ f1 = f) S Y rfl (by decide) (by decide) hA1 ⟨⟨bn_k (by decide), fun h => absurd rfl h⟩, rfl, rfl⟩ dX12_sortOf_207
                    · have B_89641 : bn 1 1 r_89638 := bn_w (bn_nel c_89639 er_89638.1 (show bn 0 0 (0 : Int32) from bn_k (by decide))) (by decide)
                      refine lv_bipush (v := 10) hx hb dX12_sortOf_201 (by decide) ?_
                      refine lv_goto (tgt := 207) hx hb dX12_sortOf_203 (by decide) ?_
                      exact prI (post := fun r L1 f1 => ((bn (-1) 10 r ∧ (¬ r = -1 → tk = 2))) ∧ L1 = L ∧ f1 = f) S Y rfl (by decide) (by decide) hA1 ⟨⟨bn_k (by decide), fun _ => (er_89638.2 c_89639)⟩, rfl, rfl⟩ dX12_sortOf_207
                  · have B_89636 : bn 1 1 r_89633 := bn_w (bn_nel c_89634 er_89633.1 (show bn 0 0 (0 : Int32) from bn_k (by decide))) (by decide)
                    refine lv_bipush (v := 9) hx hb dX12_sortOf_180 (by decide) ?_
                    refine lv_goto (tgt := 207) hx hb dX12_sortOf_182 (by decide) ?_
                    exact prI (post := fun r L1 f1 => ((bn (-1) 10 r ∧ (¬ r = -1 → tk = 2))) ∧ L1 = L ∧ f1 = f) S Y rfl (by decide) (by decide) hA1 ⟨⟨bn_k (by decide), fun _ => (er_89633.2 c_89634)⟩, rfl, rfl⟩ dX12_sortOf_207
                · have B_89631 : bn 1 1 r_89628 := bn_w (bn_nel c_89629 er_89628.1 (show bn 0 0 (0 : Int32) from bn_k (by decide))) (by decide)
                  refine lv_bipush (v := 8) hx hb dX12_sortOf_157 (by decide) ?_
                  exact prI (post := fun r L1 f1 => ((bn (-1) 10 r ∧ (¬ r = -1 → tk = 2))) ∧ L1 = L ∧ f1 = f) S Y rfl (by decide) (by decide) hA1 ⟨⟨bn_k (by decide), fun _ => (er_89628.2 c_89629)⟩, rfl, rfl⟩ dX12_sortOf_159
              · have B_89626 : bn 1 1 r_89623 := bn_w (bn_nel c_89624 er_89623.1 (show bn 0 0 (0 : Int32) from bn_k (by decide))) (by decide)
                refine lv_bipush (v := 7) hx hb dX12_sortOf_134 (by decide) ?_
                exact prI (post := fun r L1 f1 => ((bn (-1) 10 r ∧ (¬ r = -1 → tk = 2))) ∧ L1 = L ∧ f1 = f) S Y rfl (by decide) (by decide) hA1 ⟨⟨bn_k (by decide), fun _ => (er_89623.2 c_89624)⟩, rfl, rfl⟩ dX12_sortOf_136
            · have B_89622 : bn 1 1 r_89619 := bn_w (bn_nel c_89620 er_89619.1 (show bn 0 0 (0 : Int32) from bn_k (by decide))) (by decide)
              refine lv_bipush (v := 6) hx hb dX12_sortOf_124 (by decide) ?_
              exact prI (post := fun r L1 f1 => ((bn (-1) 10 r ∧ (¬ r = -1 → tk = 2))) ∧ L1 = L ∧ f1 = f) S Y rfl (by decide) (by decide) hA1 ⟨⟨bn_k (by decide), fun _ => (er_89619.2 c_89620)⟩, rfl, rfl⟩ dX12_sortOf_126
          · have B_89617 : bn 1 1 r_89614 := bn_w (bn_nel c_89615 er_89614.1 (show bn 0 0 (0 : Int32) from bn_k (by decide))) (by decide)
            refine lv_iconst (v := 4) hx hb dX12_sortOf_102 (by decide) ?_
            exact prI (post := fun r L1 f1 => ((bn (-1) 10 r ∧ (¬ r = -1 → tk = 2))) ∧ L1 = L ∧ f1 = f) S Y rfl (by decide) (by decide) hA1 ⟨⟨bn_k (by decide), fun _ => (er_89614.2 c_89615)⟩, rfl, rfl⟩ dX12_sortOf_103
        · have B_89612 : bn 1 1 r_89609 := bn_w (bn_nel c_89610 er_89609.1 (show bn 0 0 (0 : Int32) from bn_k (by decide))) (by decide)
          refine lv_iconst (v := 3) hx hb dX12_sortOf_80 (by decide) ?_
          exact prI (post := fun r L1 f1 => ((bn (-1) 10 r ∧ (¬ r = -1 → tk = 2))) ∧ L1 = L ∧ f1 = f) S Y rfl (by decide) (by decide) hA1 ⟨⟨bn_k (by decide), fun _ => (er_89609.2 c_89610)⟩, rfl, rfl⟩ dX12_sortOf_81
      · have B_89607 : bn 1 1 r_89604 := bn_w (bn_nel c_89605 er_89604.1 (show bn 0 0 (0 : Int32) from bn_k (by decide))) (by decide)
        refine lv_iconst (v := 2) hx hb dX12_sortOf_62 (by decide) ?_
        exact prI (post := fun r L1 f1 => ((bn (-1) 10 r ∧ (¬ r = -1 → tk = 2))) ∧ L1 = L ∧ f1 = f) S Y rfl (by decide) (by decide) hA1 ⟨⟨bn_k (by decide), fun _ => (er_89604.2 c_89605)⟩, rfl, rfl⟩ dX12_sortOf_63
    · have B_89602 : bn 1 1 r_89599 := bn_w (bn_nel c_89600 er_89599.1 (show bn 0 0 (0 : Int32) from bn_k (by decide))) (by decide)
      refine lv_iconst (v := 1) hx hb dX12_sortOf_42 (by decide) ?_
      exact prI (post := fun r L1 f1 => ((bn (-1) 10 r ∧ (¬ r = -1 → tk = 2))) ∧ L1 = L ∧ f1 = f) S Y rfl (by decide) (by decide) hA1 ⟨⟨bn_k (by decide), fun _ => (er_89599.2 c_89600)⟩, rfl, rfl⟩ dX12_sortOf_43
  · have B_89597 : bn 1 1 r_89594 := bn_w (bn_nel c_89595 er_89594.1 (show bn 0 0 (0 : Int32) from bn_k (by decide))) (by decide)
    refine lv_iconst (v := 0) hx hb dX12_sortOf_20 (by decide) ?_
    exact prI (post := fun r L1 f1 => ((bn (-1) 10 r ∧ (¬ r = -1 → tk = 2))) ∧ L1 = L ∧ f1 = f) S Y rfl (by decide) (by decide) hA1 ⟨⟨bn_k (by decide), fun _ => (er_89594.2 c_89595)⟩, rfl, rfl⟩ dX12_sortOf_21
set_option maxHeartbeats 4000000 in
set_option maxRecDepth 100000 in
theorem x_X12_clause {l : Launch} {G : GG}  {L : List Nat} {f : HF} {ad : Nat → Nat → Nat} {pa : (Nat → Int32) → Prop} {PA : (Nat → Int32) → Prop} {PI : (Nat → Int32) → Prop} {td fa fp at9 ps9 tk nu t0 wr so pd op9 cg iw on9 is9 se : Int32} {wd : Int64} (I : SH (spM PA PI (TZ t0 wr) pa) nnM G ad L f) (p_ad_0_0 : pt L f (ad 0 0) (.inr (12, [.ref (ad 1 0), .ref (ad 2 0), .ref (ad 3 0), .ref (ad 4 0), .int td, .int fa, .int fp, .int at9, .int ps9, .int tk, .int nu, .long wd, .int t0, .int wr, .int so, .ref (ad 5 0), .ref (ad 6 0), .int pd, .int op9, .int cg, .int iw, .int on9, .ref (ad 7 0), .ref (ad 8 0), .ref (ad 9 0), .int is9, .ref (ad 10 0), .ref (ad 11 0), .ref (ad 12 0), .ref (ad 13 0), .int se, .ref (ad 14 0)]))) (hroom : wr.toInt ≤ ps9.toInt) (hT : TK at9 ps9 tk) (ht0 : TT t0) : PMi l yX12_clause cX12_clause 5 .int 9 0 0 G [.ref (ad 0 0)] L f (fun r L1 f1 => ∃ at92 : Int32, ∃ ps92 : Int32, ∃ tk2 : Int32, ∃ nu2 : Int32, ∃ wd2 : Int64, ∃ wr2 : Int32, ∃ so2 : Int32, ∃ pd2 : Int32, ∃ op92 : Int32, ∃ cg2 : Int32, ∃ iw2 : Int32, ∃ on92 : Int32, bn 0 7 r ∧ SH (spM PA PI (TC r t0 wr2) pa) nnM G ad L1 f1 ∧ pt L1 f1 (ad 0 0) (.inr (12, [.ref (ad 1 0), .ref (ad 2 0), .ref (ad 3 0), .ref (ad 4 0), .int td, .int fa, .int fp, .int at92, .int ps92, .int tk2, .int nu2, .long wd2, .int t0, .int wr2, .int so2, .ref (ad 5 0), .ref (ad 6 0), .int pd2, .int op92, .int cg2, .int iw2, .int on92, .ref (ad 7 0), .ref (ad 8 0), .ref (ad 9 0), .int is9, .ref (ad 10 0), .ref (ad 11 0), .ref (ad 12 0), .ref (ad 13 0), .int se, .ref (ad 14 0)])) ∧ TK at92 ps92 tk2 ∧ (r.toInt = 0 → ps9.toInt + 1 ≤ ps92.toInt) ∧ (r.toInt = 0 → wr2.toInt ≤ ps92.toInt)) := by
  refine PMi.of (post := fun r L1 f1 => ∃ at92 : Int32, ∃ ps92 : Int32, ∃ tk2 : Int32, ∃ nu2 : Int32, ∃ wd2 : Int64, ∃ wr2 : Int32, ∃ so2 : Int32, ∃ pd2 : Int32, ∃ op92 : Int32, ∃ cg2 : Int32, ∃ iw2 : Int32, ∃ on92 : Int32, bn 0 7 r ∧ SH (spM PA PI (TC r t0 wr2) pa) nnM G ad L1 f1 ∧ pt L1 f1 (ad 0 0) (.inr (12, [.ref (ad 1 0), .ref (ad 2 0), .ref (ad 3 0), .ref (ad 4 0), .int td, .int fa, .int fp, .int at92, .int ps92, .int tk2, .int nu2, .long wd2, .int t0, .int wr2, .int so2, .ref (ad 5 0), .ref (ad 6 0), .int pd2, .int op92, .int cg2, .int iw2, .int on92, .ref (ad 7 0), .ref (ad 8 0), .ref (ad 9 0), .int is9, .ref (ad 10 0), .ref (ad 11 0), .ref (ad 12 0), .ref (ad 13 0), .int se, .ref (ad 14 0)])) ∧ TK at92 ps92 tk2 ∧ (r.toInt = 0 → ps9.toInt + 1 ≤ ps92.toInt) ∧ (r.toInt = 0 → wr2.toInt ≤ ps92.toInt)) (own := RX12) (by decide) rfl (Nat.le_of_ble_eq_true rfl) (fun sz p e s m args below meth c A ls hA1 hname S Y hl => ?_)
  have hx := S.hx
  have hb := S.hb
  have hl : lv_has ls 5 [(0, .ref (ad 0 0))] := hl
  obtain ⟨bfe_4, bfe_7, bfe_8, bfe_12, bfe_13, bfe_17, bfe_18, bfe_19, bfe_20, bfe_25⟩ := obM I p_ad_0_0
  refine lv_aload_n hx hb dX12_clause_0 rfl (lv_at hl 0 rfl) ?_
  obtain ⟨g_90030, p_ad_4_0, o_90031⟩ := I.opi (k := 4) (j := 0) (by decide) rfl
  have p_ad_4_0 : pt L f (ad 4 0) (.inl (G.2 0, 300, .inl g_90030)) := p_ad_4_0
  refine cVp (As := []) (rest := []) S Y (x_X12_sortOf (l := l) I p_ad_0_0 p_ad_4_0) cw_X12_sortOf km12_238 p_ad_0_0 ok_X12.1 rfl rfl ⟨Nat.le_of_ble_eq_true rfl, Nat.le_of_ble_eq_true rfl⟩ hl.1 rfl (Nat.le_of_ble_eq_true rfl) ⟨Nat.le_of_ble_eq_true rfl, Nat.le_of_ble_eq_true rfl⟩ dX12_clause_1 (fun r_90032 H locs er_90032 Y => ?_)
  refine lv_istore_n (lv' := [(1, .int r_90032), (0, .ref (ad 0 0))]) hx hb dX12_clause_4 rfl hl (by decide) rfl (fun ls hl => ?_)
  refine lv_iload_n hx hb dX12_clause_5 rfl (lv_at hl 0 rfl) ?_
  refine lv_if_ge (tgt := 11) hx hb dX12_clause_6 (by decide) (fun c_90033 => ?_) (fun c_90033 => ?_)
  · have B_90034 : bn 0 10 r_90032 := bn_w (bn_ler c_90033 (show bn 0 0 (0 : Int32) from bn_k (by decide)) er_90032.1) (by decide)
    have htk : ¬ tk = 0 := (show ¬ tk = 0 from by rw [er_90032.2 (ge_nm (bn_w B_90034 (by decide)))]; decide)
    refine lv_iload_n hx hb dX12_clause_11 rfl (lv_at hl 0 rfl) ?_
    refine lv_iconst (v := 2) hx hb dX12_clause_12 (by decide) ?_
    refine lv_icmp_gt (tgt := 29) hx hb dX12_clause_13 (by decide) (fun c_90036 => ?_) (fun c_90036 => ?_)
    · have B_90037 : bn 3 10 r_90032 := bn_w (bn_ltr c_90036 (show bn 2 2 (2 : Int32) from bn_k (by decide)) B_90034) (by decide)
      refine lv_aload_n hx hb dX12_clause_29 rfl (lv_at hl 1 rfl) ?_
      refine pg_get S Y ok_X12 2 (by decide) kf12_16 (v := .ref (ad 3 0)) p_ad_0_0 rfl dX12_clause_30 ?_
      refine lv_aload_n hx hb dX12_clause_33 rfl (lv_at hl 1 rfl) ?_
      refine pg_get S Y ok_X12 12 (by decide) kf12_136 (v := .int t0) p_ad_0_0 rfl dX12_clause_34 ?_
      obtain ⟨g_90039, p_ad_3_0, o_90040⟩ := I.opi (k := 3) (j := 0) (by decide) rfl
      have p_ad_3_0 : pt L f (ad 3 0) (.inl (G.2 0, 2916, .inl g_90039)) := p_ad_3_0
      obtain ⟨v_90041, ev_90041⟩ : ∃ z, z = g_90039 (t0 : Int32).toNatClampNeg := ⟨_, rfl⟩
      refine pg_iald S Y (v := v_90041) p_ad_3_0 (vp_bn bfe_12 (by decide)) ev_90041.symm dX12_clause_37 ?_
      have hZ := o_90040
      have en0 := ev_90041
      have B_90042 : bn 0 24 v_90041 := TZ_n hZ ht0 ev_90041
      refine lv_istore_n (lv' := [(2, .int v_90041), (1, .int r_90032), (0, .ref (ad 0 0))]) hx hb dX12_clause_38 rfl hl (by decide) rfl (fun ls hl => ?_)
      refine lv_iload_n hx hb dX12_clause_39 rfl (lv_at hl 0 rfl) ?_
      refine lv_bipush (v := 24) hx hb dX12_clause_40 (by decide) ?_
      refine lv_icmp_ne (tgt := 48) hx hb dX12_clause_42 (by decide) (fun c_90043 => ?_) (fun c_90043 => ?_)
      · have B_90044 : bn 0 23 v_90041 := bn_w (bn_neu c_90043 B_90042 (show bn 24 24 (24 : Int32) from bn_k (by decide))) (by decide)
        refine lv_iload_n hx hb dX12_clause_48 rfl (lv_at hl 1 rfl) ?_
        refine lv_iconst (v := 2) hx hb dX12_clause_49 (by decide) ?_
        refine lv_icmp_gt (tgt := 65) hx hb dX12_clause_50 (by decide) (fun _ => ?_) (fun h => absurd c_90036 h)
        refine lv_aload_n hx hb dX12_clause_65 rfl (lv_at hl 2 rfl) ?_
        refine lv_iload_n hx hb dX12_clause_66 rfl (lv_at hl 1 rfl) ?_
        refine pg_put S Y ok_X12 14 (by decide) kf12_175 rfl (fs' := [.ref (ad 1 0), .ref (ad 2 0), .ref (ad 3 0), .ref (ad 4 0), .int td, .int fa, .int fp, .int at9, .int ps9, .int tk, .int nu, .long wd, .int t0, .int wr, .int r_90032, .ref (ad 5 0), .ref (ad 6 0), .int pd, .int op9, .int cg, .int iw, .int on9, .ref (ad 7 0), .ref (ad 8 0), .ref (ad 9 0), .int is9, .ref (ad 10 0), .ref (ad 11 0), .ref (ad 12 0), .ref (ad 13 0), .int se, .ref (ad 14 0)]) (v := .int r_90032) p_ad_0_0 rfl rfl rfl (Nat.le_of_ble_eq_true rfl) dX12_clause_67 (fun f_90046 H locs ef_90046 Y => ?_)
        have p_ad_4_0 := p_ad_4_0.up ef_90046 (I.ne (k := 4) (j := 0) (k' := 0) (j' := 0) (by decide) (by decide) (Or.inl (by decide)))
        have p_ad_3_0 := p_ad_3_0.up ef_90046 (I.ne (k := 3) (j := 0) (k' := 0) (j' := 0) (by decide) (by decide) (Or.inl (by decide)))
        have p_ad_0_0 := p_ad_0_0.me ef_90046
        have I := I.up (k := 0) (j := 0) (by decide) ef_90046 (okE_o (okFs_c okV_r (okFs_c okV_r (okFs_c okV_r (okFs_c okV_r (okFs_c (okV_i bfe_4) (okFs_c (okV_i (bn_any _)) (okFs_c (okV_i (bn_any _)) (okFs_c (okV_i bfe_7) (okFs_c (okV_i bfe_8) (okFs_c (okV_i (bn_any _)) (okFs_c (okV_i (bn_any _)) (okFs_c okV_l (okFs_c (okV_i bfe_12) (okFs_c (okV_i bfe_13) (okFs_c (okV_i (bn_w B_90037 (by decide))) (okFs_c okV_r (okFs_c okV_r (okFs_c (okV_i bfe_17) (okFs_c (okV_i bfe_18) (okFs_c (okV_i bfe_19) (okFs_c (okV_i bfe_20) (okFs_c (okV_i (bn_any _)) (okFs_c okV_r (okFs_c okV_r (okFs_c okV_r (okFs_c (okV_i bfe_25) (okFs_c okV_r (okFs_c okV_r (okFs_c okV_r (okFs_c okV_r (okFs_c (okV_i (bn_any _)) (okFs_c okV_r okFs_n)))))))))))))))))))))))))))))))))
        refine lv_aload_n hx hb dX12_clause_70 rfl (lv_at hl 2 rfl) ?_
        have o_90047 : (EQ g_90039) g_90039 := rfl
        have I := I.castS (sp' := spM PA PI (EQ g_90039) pa) (k := 3) (j := 0) (by decide) p_ad_3_0 (okE_a (g := g_90039) o_90047) pXC
        obtain ⟨g_90048, p_ad_5_0, o_90049⟩ := I.opi (k := 5) (j := 0) (by decide) rfl
        have p_ad_5_0 : pt L f_90046 (ad 5 0) (.inl (G.2 0, 160, .inl g_90048)) := p_ad_5_0
        obtain ⟨g_90050, p_ad_6_0, o_90051⟩ := I.opi (k := 6) (j := 0) (by decide) rfl
        have p_ad_6_0 : pt L f_90046 (ad 6 0) (.inl (G.2 0, 9, .inl g_90050)) := p_ad_6_0
        refine cVv (As := []) (rest := []) S Y (x_X12_nextToken (l := l) I p_ad_0_0 p_ad_4_0 p_ad_5_0 p_ad_6_0) cw_X12_nextToken km12_166 p_ad_0_0 ok_X12.1 rfl rfl ⟨Nat.le_of_ble_eq_true rfl, Nat.le_of_ble_eq_true rfl⟩ hl.1 rfl (Nat.le_of_ble_eq_true rfl) ⟨Nat.le_of_ble_eq_true rfl, Nat.le_of_ble_eq_true rfl⟩ dX12_clause_71 (fun L_90052 f_90053 H locs hr_90054 Y => ?_)
        obtain ⟨v_90055, v_90056, v_90057, v_90058, v_90059, I, p_ad_0_0, p_ad_4_0, p_ad_5_0, p_ad_6_0, eT_90060, eP_90061⟩ := hr_90054
        obtain ⟨bfc90061_4, bfc90061_7, bfc90061_8, bfc90061_12, bfc90061_13, bfc90061_17, bfc90061_18, bfc90061_19, bfc90061_20, bfc90061_25⟩ := obM I p_ad_0_0
        refine lv_aload_n hx hb dX12_clause_74 rfl (lv_at hl 2 rfl) ?_
        refine pg_get S Y ok_X12 12 (by decide) kf12_136 (v := .int t0) p_ad_0_0 rfl dX12_clause_75 ?_
        refine lv_iconst (v := 1) hx hb dX12_clause_78 (by decide) ?_
        refine lv_iadd hx hb dX12_clause_79 ?_
        refine lv_topi (fun x_90063 ex_90063 => ?_)
        refine lv_iconst (v := 5) hx hb dX12_clause_80 (by decide) ?_
        refine lv_iload_n hx hb dX12_clause_81 rfl (lv_at hl 0 rfl) ?_
        refine lv_imul hx hb dX12_clause_82 ?_
        refine lv_topi (fun x_90064 ex_90064 => ?_)
        refine lv_iadd hx hb dX12_clause_83 ?_
        refine lv_topi (fun x_90065 ex_90065 => ?_)
        refine lv_istore_n (lv' := [(3, .int x_90065), (2, .int v_90041), (1, .int r_90032), (0, .ref (ad 0 0))]) hx hb dX12_clause_84 rfl hl (by decide) rfl (fun ls hl => ?_)
        refine lv_aload_n hx hb dX12_clause_85 rfl (lv_at hl 3 rfl) ?_
        refine pg_get S Y ok_X12 2 (by decide) kf12_16 (v := .ref (ad 3 0)) p_ad_0_0 rfl dX12_clause_86 ?_
        refine lv_iload_n hx hb dX12_clause_89 rfl (lv_at hl 0 rfl) ?_
        refine lv_iload_n hx hb dX12_clause_90 rfl (lv_at hl 2 rfl) ?_
        obtain ⟨g_90066, p_ad_3_0, o_90067⟩ := I.opi (k := 3) (j := 0) (by decide) rfl
        have p_ad_3_0 : pt L_90052 f_90053 (ad 3 0) (.inl (G.2 0, 2916, .inl g_90066)) := p_ad_3_0
        refine pg_iast S Y p_ad_3_0 (vp_bn (bn_eq ex_90065 (bn_add (bn_eq ex_90063 (bn_add bfc90061_12 (show bn 1 1 (1 : Int32) from bn_k (by decide)) (by decide))) (bn_eq ex_90064 (bn_mul (show bn 5 5 (5 : Int32) from bn_k (by decide)) B_90044 (by decide))) (by decide))) (by decide)) dX12_clause_91 (fun f_90069 H locs ef_90069 Y => ?_)
        obtain ⟨g_90068, eg_90068⟩ : ∃ z, z = upd (g_90066) (x_90065 : Int32).toNatClampNeg r_90032 := ⟨_, rfl⟩
        rw [← eg_90068] at ef_90069
        have p_ad_0_0 := p_ad_0_0.up ef_90069 (I.ne (k := 0) (j := 0) (k' := 3) (j' := 0) (by decide) (by decide) (Or.inl (by decide)))
        have p_ad_4_0 := p_ad_4_0.up ef_90069 (I.ne (k := 4) (j := 0) (k' := 3) (j' := 0) (by decide) (by decide) (Or.inl (by decide)))
        have p_ad_5_0 := p_ad_5_0.up ef_90069 (I.ne (k := 5) (j := 0) (k' := 3) (j' := 0) (by decide) (by decide) (Or.inl (by decide)))
        have p_ad_6_0 := p_ad_6_0.up ef_90069 (I.ne (k := 6) (j := 0) (k' := 3) (j' := 0) (by decide) (by decide) (Or.inl (by decide)))
        have p_ad_3_0 := p_ad_3_0.me ef_90069
        have o_90070 : (EQ g_90068) g_90068 := rfl
        have I := I.upS (sp' := spM PA PI (EQ g_90068) pa) (k := 3) (j := 0) (by decide) ef_90069 (okE_a (g := g_90068) o_90070) pXC
        have eg1 : g_90068 = upd g_90039 (x_90065 : Int32).toNatClampNeg r_90032 := by rw [eg_90068, show g_90066 = g_90039 from o_90067]
        refine lv_aload_n hx hb dX12_clause_92 rfl (lv_at hl 3 rfl) ?_
        refine lv_iload_n hx hb dX12_clause_93 rfl (lv_at hl 2 rfl) ?_
        refine lv_iload_n hx hb dX12_clause_94 rfl (lv_at hl 0 rfl) ?_
        refine cVi (As := [.int r_90032, .int x_90065]) (rest := []) S Y (x_X12_body (l := l) I p_ad_0_0 (bn_w B_90037 (by decide)) (bn_w (bn_eq ex_90065 (bn_add (bn_eq ex_90063 (bn_add bfc90061_12 (show bn 1 1 (1 : Int32) from bn_k (by decide)) (by decide))) (bn_eq ex_90064 (bn_mul (show bn 5 5 (5 : Int32) from bn_k (by decide)) B_90044 (by decide))) (by decide))) (by decide)) (show g_90068 x_90065.toInt.toNat = r_90032 from by rw [eg1, ← tnc, pk_us]) rfl (by have z9 := (la_add ex_90065 (la_add ex_90063 (rfl : t0.toInt = t0.toInt) (show (1 : Int32).toInt = 1 from rfl) bfc90061_12 (show bn 1 1 (1 : Int32) from bn_k (by decide)) (by decide)) (la_mul ex_90064 (show (5 : Int32).toInt = 5 from rfl) (rfl : v_90041.toInt = v_90041.toInt) (show bn 5 5 (5 : Int32) from bn_k (by decide)) B_90044 (by decide)) (bn_eq ex_90063 (bn_add bfc90061_12 (show bn 1 1 (1 : Int32) from bn_k (by decide)) (by decide))) (bn_eq ex_90064 (bn_mul (show bn 5 5 (5 : Int32) from bn_k (by decide)) B_90044 (by decide))) (by decide)); have z8 := (B_90044).2; omega) (by have c0 := hT.1; have c1 := hroom; have c2 := eT_90060.1; have c3 := eP_90061; omega) eT_90060) cw_X12_body km12_248 p_ad_0_0 ok_X12.1 rfl rfl ⟨Nat.le_of_ble_eq_true rfl, Nat.le_of_ble_eq_true rfl⟩ hl.1 rfl (Nat.le_of_ble_eq_true rfl) ⟨Nat.le_of_ble_eq_true rfl, Nat.le_of_ble_eq_true rfl⟩ dX12_clause_95 (fun r_90073 L_90071 f_90072 H locs hr_90073 Y => ?_)
        obtain ⟨v_90074, v_90075, v_90076, v_90077, v_90078, v_90079, v_90080, v_90081, v_90082, v_90083, er_90073, I, p_ad_0_0, eT_90084, eQ_90085, eW_90086⟩ := hr_90073
        obtain ⟨bfc90086_4, bfc90086_7, bfc90086_8, bfc90086_12, bfc90086_13, bfc90086_17, bfc90086_18, bfc90086_19, bfc90086_20, bfc90086_25⟩ := obM I p_ad_0_0
        refine lv_istore (lv' := [(4, .int r_90073), (3, .int x_90065), (2, .int v_90041), (1, .int r_90032), (0, .ref (ad 0 0))]) hx hb dX12_clause_98 hl (by decide) rfl (fun ls hl => ?_)
        refine lv_iload hx hb dX12_clause_100 (lv_at hl 0 rfl) ?_
        refine lv_if_eq (tgt := 108) hx hb dX12_clause_102 (by decide) (fun c_90088 => ?_) (fun c_90088 => ?_)
        · have B_90089 : bn 0 0 r_90073 := bn_w (bn_eq c_90088 (show bn 0 0 (0 : Int32) from bn_k (by decide))) (by decide)
          refine lv_aload_n hx hb dX12_clause_108 rfl (lv_at hl 4 rfl) ?_
          refine pg_get S Y ok_X12 2 (by decide) kf12_16 (v := .ref (ad 3 0)) p_ad_0_0 rfl dX12_clause_109 ?_
          refine lv_aload_n hx hb dX12_clause_112 rfl (lv_at hl 4 rfl) ?_
          refine pg_get S Y ok_X12 12 (by decide) kf12_136 (v := .int t0) p_ad_0_0 rfl dX12_clause_113 ?_
          refine lv_dup2_11 hx hb dX12_clause_116 rfl rfl ?_
          obtain ⟨g_90091, p_ad_3_0, o_90092⟩ := I.opi (k := 3) (j := 0) (by decide) rfl
          have p_ad_3_0 : pt L_90071 f_90072 (ad 3 0) (.inl (G.2 0, 2916, .inl g_90091)) := p_ad_3_0
          obtain ⟨v_90093, ev_90093⟩ : ∃ z, z = g_90091 (t0 : Int32).toNatClampNeg := ⟨_, rfl⟩
          refine pg_iald S Y (v := v_90093) p_ad_3_0 (vp_bn bfc90086_12 (by decide)) ev_90093.symm dX12_clause_117 ?_
          refine lv_iconst (v := 1) hx hb dX12_clause_118 (by decide) ?_
          refine lv_iadd hx hb dX12_clause_119 ?_
          refine lv_topi (fun x_90094 ex_90094 => ?_)
          refine pg_iast S Y p_ad_3_0 (vp_bn bfc90086_12 (by decide)) dX12_clause_120 (fun f_90096 H locs ef_90096 Y => ?_)
          obtain ⟨g_90095, eg_90095⟩ : ∃ z, z = upd (g_90091) (t0 : Int32).toNatClampNeg x_90094 := ⟨_, rfl⟩
          rw [← eg_90095] at ef_90096
          have p_ad_0_0 := p_ad_0_0.up ef_90096 (I.ne (k := 0) (j := 0) (k' := 3) (j' := 0) (by decide) (by decide) (Or.inl (by decide)))
          have p_ad_3_0 := p_ad_3_0.me ef_90096
          have o_90097 : (TZ t0 v_90079) g_90095 := (TZ_up hZ ht0 bfe_13.1 en0 (bn_w B_90044 (by decide)) eg1 (by have z9 := (la_add ex_90065 (la_add ex_90063 (rfl : t0.toInt = t0.toInt) (show (1 : Int32).toInt = 1 from rfl) bfc90086_12 (show bn 1 1 (1 : Int32) from bn_k (by decide)) (by decide)) (la_mul ex_90064 (show (5 : Int32).toInt = 5 from rfl) (rfl : v_90041.toInt = v_90041.toInt) (show bn 5 5 (5 : Int32) from bn_k (by decide)) B_90044 (by decide)) (bn_eq ex_90063 (bn_add bfc90061_12 (show bn 1 1 (1 : Int32) from bn_k (by decide)) (by decide))) (bn_eq ex_90064 (bn_mul (show bn 5 5 (5 : Int32) from bn_k (by decide)) B_90044 (by decide))) (by decide)); omega) o_90092 c_90088 ev_90093 ex_90094 eg_90095)
          have I := I.upS (sp' := spM PA PI (TZ t0 v_90079) pa) (k := 3) (j := 0) (by decide) ef_90096 (okE_a (g := g_90095) o_90097) pXC
          refine lv_aload_n hx hb dX12_clause_121 rfl (lv_at hl 4 rfl) ?_
          refine pg_get S Y ok_X12 9 (by decide) kf12_98 (v := .int v_90076) p_ad_0_0 rfl dX12_clause_122 ?_
          refine lv_bipush (v := 59) hx hb dX12_clause_125 (by decide) ?_
          refine lv_icmp_eq (tgt := 132) hx hb dX12_clause_127 (by decide) (fun c_90098 => ?_) (fun c_90098 => ?_)
          · have B_90099 : bn 59 59 v_90076 := bn_w (bn_eq c_90098 (show bn 59 59 (59 : Int32) from bn_k (by decide))) (by decide)
            refine lv_aload_n hx hb dX12_clause_132 rfl (lv_at hl 4 rfl) ?_
            obtain ⟨g_90100, p_ad_4_0, o_90101⟩ := I.opi (k := 4) (j := 0) (by decide) rfl
            have p_ad_4_0 : pt L_90071 f_90096 (ad 4 0) (.inl (G.2 0, 300, .inl g_90100)) := p_ad_4_0
            obtain ⟨g_90102, p_ad_5_0, o_90103⟩ := I.opi (k := 5) (j := 0) (by decide) rfl
            have p_ad_5_0 : pt L_90071 f_90096 (ad 5 0) (.inl (G.2 0, 160, .inl g_90102)) := p_ad_5_0
            obtain ⟨g_90104, p_ad_6_0, o_90105⟩ := I.opi (k := 6) (j := 0) (by decide) rfl
            have p_ad_6_0 : pt L_90071 f_90096 (ad 6 0) (.inl (G.2 0, 9, .inl g_90104)) := p_ad_6_0
            refine cVv (As := []) (rest := []) S Y (x_X12_nextToken (l := l) I p_ad_0_0 p_ad_4_0 p_ad_5_0 p_ad_6_0) cw_X12_nextToken km12_166 p_ad_0_0 ok_X12.1 rfl rfl ⟨Nat.le_of_ble_eq_true rfl, Nat.le_of_ble_eq_true rfl⟩ hl.1 rfl (Nat.le_of_ble_eq_true rfl) ⟨Nat.le_of_ble_eq_true rfl, Nat.le_of_ble_eq_true rfl⟩ dX12_clause_133 (fun L_90106 f_90107 H locs hr_90108 Y => ?_)
            obtain ⟨v_90109, v_90110, v_90111, v_90112, v_90113, I, p_ad_0_0, p_ad_4_0, p_ad_5_0, p_ad_6_0, eT_90114, eP_90115⟩ := hr_90108
            obtain ⟨bfc90115_4, bfc90115_7, bfc90115_8, bfc90115_12, bfc90115_13, bfc90115_17, bfc90115_18, bfc90115_19, bfc90115_20, bfc90115_25⟩ := obM I p_ad_0_0
            obtain ⟨g_90117, p_ad_3_0, o_90118⟩ := I.opi (k := 3) (j := 0) (by decide) rfl
            have p_ad_3_0 : pt L_90106 f_90107 (ad 3 0) (.inl (G.2 0, 2916, .inl g_90117)) := p_ad_3_0
            have o_90119 : (TC 0 t0 v_90079) g_90117 := (TC_ok o_90118)
            have I := I.castS (sp' := spM PA PI (TC 0 t0 v_90079) pa) (k := 3) (j := 0) (by decide) p_ad_3_0 (okE_a (g := g_90117) o_90119) pXC
            refine lv_iconst (v := 0) hx hb dX12_clause_136 (by decide) ?_
            exact prI (post := fun r L1 f1 => ∃ at92 : Int32, ∃ ps92 : Int32, ∃ tk2 : Int32, ∃ nu2 : Int32, ∃ wd2 : Int64, ∃ wr2 : Int32, ∃ so2 : Int32, ∃ pd2 : Int32, ∃ op92 : Int32, ∃ cg2 : Int32, ∃ iw2 : Int32, ∃ on92 : Int32, bn 0 7 r ∧ SH (spM PA PI (TC r t0 wr2) pa) nnM G ad L1 f1 ∧ pt L1 f1 (ad 0 0) (.inr (12, [.ref (ad 1 0), .ref (ad 2 0), .ref (ad 3 0), .ref (ad 4 0), .int td, .int fa, .int fp, .int at92, .int ps92, .int tk2, .int nu2, .long wd2, .int t0, .int wr2, .int so2, .ref (ad 5 0), .ref (ad 6 0), .int pd2, .int op92, .int cg2, .int iw2, .int on92, .ref (ad 7 0), .ref (ad 8 0), .ref (ad 9 0), .int is9, .ref (ad 10 0), .ref (ad 11 0), .ref (ad 12 0), .ref (ad 13 0), .int se, .ref (ad 14 0)])) ∧ TK at92 ps92 tk2 ∧ (r.toInt = 0 → ps9.toInt + 1 ≤ ps92.toInt) ∧ (r.toInt = 0 → wr2.toInt ≤ ps92.toInt)) S Y rfl (by decide) (by decide) hA1 ⟨v_90109, v_90110, v_90111, v_90112, v_90113, v_90079, r_90032, v_90080, v_90081, v_90082, v_90083, on9, bn_w (show bn 0 0 (0 : Int32) from bn_k (by decide)) (by decide), I, p_ad_0_0, eT_90114, (fun _ => by have c0 := hT.2 htk; have c1 := eT_90060.1; have c2 := eP_90061; have c3 := eT_90114.1; have c4 := eP_90115; have c5 := eT_90084.1; have c6 := eQ_90085 (show r_90073.toInt = 0 from by rw [c_90088]; rfl); have c7 := eW_90086 (show r_90073.toInt = 0 from by rw [c_90088]; rfl); omega), (fun _ => by have c0 := hT.2 htk; have c1 := eT_90060.1; have c2 := eP_90061; have c3 := eT_90114.1; have c4 := eP_90115; have c5 := eT_90084.1; have c6 := eQ_90085 (show r_90073.toInt = 0 from by rw [c_90088]; rfl); have c7 := eW_90086 (show r_90073.toInt = 0 from by rw [c_90088]; rfl); omega)⟩ dX12_clause_137
          · have o_90120 : (TC 1 t0 v_90079) g_90095 := (TC_no o_90097 (by decide))
            have I := I.castS (sp' := spM PA PI (TC 1 t0 v_90079) pa) (k := 3) (j := 0) (by decide) p_ad_3_0 (okE_a (g := g_90095) o_90120) pXC
            refine lv_iconst (v := 1) hx hb dX12_clause_130 (by decide) ?_
            exact prI (post := fun r L1 f1 => ∃ at92 : Int32, ∃ ps92 : Int32, ∃ tk2 : Int32, ∃ nu2 : Int32, ∃ wd2 : Int64, ∃ wr2 : Int32, ∃ so2 : Int32, ∃ pd2 : Int32, ∃ op92 : Int32, ∃ cg2 : Int32, ∃ iw2 : Int32, ∃ on92 : Int32, bn 0 7 r ∧ SH (spM PA PI (TC r t0 wr2) pa) nnM G ad L1 f1 ∧ pt L1 f1 (ad 0 0) (.inr (12, [.ref (ad 1 0), .ref (ad 2 0), .ref (ad 3 0), .ref (ad 4 0), .int td, .int fa, .int fp, .int at92, .int ps92, .int tk2, .int nu2, .long wd2, .int t0, .int wr2, .int so2, .ref (ad 5 0), .ref (ad 6 0), .int pd2, .int op92, .int cg2, .int iw2, .int on92, .ref (ad 7 0), .ref (ad 8 0), .ref (ad 9 0), .int is9, .ref (ad 10 0), .ref (ad 11 0), .ref (ad 12 0), .ref (ad 13 0), .int se, .ref (ad 14 0)])) ∧ TK at92 ps92 tk2 ∧ (r.toInt = 0 → ps9.toInt + 1 ≤ ps92.toInt) ∧ (r.toInt = 0 → wr2.toInt ≤ ps92.toInt)) S Y rfl (by decide) (by decide) hA1 ⟨v_90074, v_90075, v_90076, v_90077, v_90078, v_90079, r_90032, v_90080, v_90081, v_90082, v_90083, on9, bn_w (show bn 1 1 (1 : Int32) from bn_k (by decide)) (by decide), I, p_ad_0_0, eT_90084, (fun h => absurd h (by decide)), (fun h => absurd h (by decide))⟩ dX12_clause_131
        · have B_90090 : bn 1 7 r_90073 := bn_w (bn_nel c_90088 er_90073 (show bn 0 0 (0 : Int32) from bn_k (by decide))) (by decide)
          refine lv_iload hx hb dX12_clause_105 (lv_at hl 0 rfl) ?_
          obtain ⟨g_90121, p_ad_3_0, o_90122⟩ := I.opi (k := 3) (j := 0) (by decide) rfl
          have p_ad_3_0 : pt L_90071 f_90072 (ad 3 0) (.inl (G.2 0, 2916, .inl g_90121)) := p_ad_3_0
          have o_90123 : (TC r_90073 t0 v_90079) g_90121 := (TZ_bd hZ ht0 bfe_13.1 en0 (bn_w B_90044 (by decide)) eg1 (by have z9 := (la_add ex_90065 (la_add ex_90063 (rfl : t0.toInt = t0.toInt) (show (1 : Int32).toInt = 1 from rfl) bfc90086_12 (show bn 1 1 (1 : Int32) from bn_k (by decide)) (by decide)) (la_mul ex_90064 (show (5 : Int32).toInt = 5 from rfl) (rfl : v_90041.toInt = v_90041.toInt) (show bn 5 5 (5 : Int32) from bn_k (by decide)) B_90044 (by decide)) (bn_eq ex_90063 (bn_add bfc90061_12 (show bn 1 1 (1 : Int32) from bn_k (by decide)) (by decide))) (bn_eq ex_90064 (bn_mul (show bn 5 5 (5 : Int32) from bn_k (by decide)) B_90044 (by decide))) (by decide)); omega) o_90122 c_90088)
          have I := I.castS (sp' := spM PA PI (TC r_90073 t0 v_90079) pa) (k := 3) (j := 0) (by decide) p_ad_3_0 (okE_a (g := g_90121) o_90123) pXC
          exact prI (post := fun r L1 f1 => ∃ at92 : Int32, ∃ ps92 : Int32, ∃ tk2 : Int32, ∃ nu2 : Int32, ∃ wd2 : Int64, ∃ wr2 : Int32, ∃ so2 : Int32, ∃ pd2 : Int32, ∃ op92 : Int32, ∃ cg2 : Int32, ∃ iw2 : Int32, ∃ on92 : Int32, bn 0 7 r ∧ SH (spM PA PI (TC r t0 wr2) pa) nnM G ad L1 f1 ∧ pt L1 f1 (ad 0 0) (.inr (12, [.ref (ad 1 0), .ref (ad 2 0), .ref (ad 3 0), .ref (ad 4 0), .int td, .int fa, .int fp, .int at92, .int ps92, .int tk2, .int nu2, .long wd2, .int t0, .int wr2, .int so2, .ref (ad 5 0), .ref (ad 6 0), .int pd2, .int op92, .int cg2, .int iw2, .int on92, .ref (ad 7 0), .ref (ad 8 0), .ref (ad 9 0), .int is9, .ref (ad 10 0), .ref (ad 11 0), .ref (ad 12 0), .ref (ad 13 0), .int se, .ref (ad 14 0)])) ∧ TK at92 ps92 tk2 ∧ (r.toInt = 0 → ps9.toInt + 1 ≤ ps92.toInt) ∧ (r.toInt = 0 → wr2.toInt ≤ ps92.toInt)) S Y rfl (by decide) (by decide) hA1 ⟨v_90074, v_90075, v_90076, v_90077, v_90078, v_90079, r_90032, v_90080, v_90081, v_90082, v_90083, on9, bn_w B_90090 (by decide), I, p_ad_0_0, eT_90084, (fun h => absurd (Int32.toInt_inj.mp (h.trans rfl)) c_90088), (fun h => absurd (Int32.toInt_inj.mp (h.trans rfl)) c_90088)⟩ dX12_clause_107
      · have B_90045 : bn 24 24 v_90041 := bn_w (bn_eq c_90043 (show bn 24 24 (24 : Int32) from bn_k (by decide))) (by decide)
        have o_90124 : (TC 6 t0 wr) g_90039 := (TC_no o_90040 (by decide))
        have I := I.castS (sp' := spM PA PI (TC 6 t0 wr) pa) (k := 3) (j := 0) (by decide) p_ad_3_0 (okE_a (g := g_90039) o_90124) pXC
        refine lv_bipush (v := 6) hx hb dX12_clause_45 (by decide) ?_
        exact prI (post := fun r L1 f1 => ∃ at92 : Int32, ∃ ps92 : Int32, ∃ tk2 : Int32, ∃ nu2 : Int32, ∃ wd2 : Int64, ∃ wr2 : Int32, ∃ so2 : Int32, ∃ pd2 : Int32, ∃ op92 : Int32, ∃ cg2 : Int32, ∃ iw2 : Int32, ∃ on92 : Int32, bn 0 7 r ∧ SH (spM PA PI (TC r t0 wr2) pa) nnM G ad L1 f1 ∧ pt L1 f1 (ad 0 0) (.inr (12, [.ref (ad 1 0), .ref (ad 2 0), .ref (ad 3 0), .ref (ad 4 0), .int td, .int fa, .int fp, .int at92, .int ps92, .int tk2, .int nu2, .long wd2, .int t0, .int wr2, .int so2, .ref (ad 5 0), .ref (ad 6 0), .int pd2, .int op92, .int cg2, .int iw2, .int on92, .ref (ad 7 0), .ref (ad 8 0), .ref (ad 9 0), .int is9, .ref (ad 10 0), .ref (ad 11 0), .ref (ad 12 0), .ref (ad 13 0), .int se, .ref (ad 14 0)])) ∧ TK at92 ps92 tk2 ∧ (r.toInt = 0 → ps9.toInt + 1 ≤ ps92.toInt) ∧ (r.toInt = 0 → wr2.toInt ≤ ps92.toInt)) S Y rfl (by decide) (by decide) hA1 ⟨at9, ps9, tk, nu, wd, wr, so, pd, op9, cg, iw, on9, bn_w (show bn 6 6 (6 : Int32) from bn_k (by decide)) (by decide), I, p_ad_0_0, hT, (fun h => absurd h (by decide)), (fun h => absurd h (by decide))⟩ dX12_clause_47
    · have B_90038 : bn 0 2 r_90032 := bn_w (bn_ger c_90036 (show bn 2 2 (2 : Int32) from bn_k (by decide)) B_90034) (by decide)
      refine lv_aload_n hx hb dX12_clause_16 rfl (lv_at hl 1 rfl) ?_
      refine pg_get S Y ok_X12 21 (by decide) kf12_241 (v := .int on9) p_ad_0_0 rfl dX12_clause_17 ?_
      refine lv_iload_n hx hb dX12_clause_20 rfl (lv_at hl 0 rfl) ?_
      refine cSp (As := [.int on9, .int r_90032]) (rest := []) S Y (x_X12_has (l := l) ) cw_X12_has km12_244 rfl ⟨Nat.le_of_ble_eq_true rfl, Nat.le_of_ble_eq_true rfl⟩ hl.1 rfl (Nat.le_of_ble_eq_true rfl) ⟨Nat.le_of_ble_eq_true rfl, Nat.le_of_ble_eq_true rfl⟩ dX12_clause_21 (fun r_90125 H locs er_90125 Y => ?_)
      refine lv_if_eq (tgt := 29) hx hb dX12_clause_24 (by decide) (fun c_90126 => ?_) (fun c_90126 => ?_)
      · have B_90127 : bn 0 0 r_90125 := bn_w (bn_eq c_90126 (show bn 0 0 (0 : Int32) from bn_k (by decide))) (by decide)
        refine lv_aload_n hx hb dX12_clause_29 rfl (lv_at hl 1 rfl) ?_
        refine pg_get S Y ok_X12 2 (by decide) kf12_16 (v := .ref (ad 3 0)) p_ad_0_0 rfl dX12_clause_30 ?_
        refine lv_aload_n hx hb dX12_clause_33 rfl (lv_at hl 1 rfl) ?_
        refine pg_get S Y ok_X12 12 (by decide) kf12_136 (v := .int t0) p_ad_0_0 rfl dX12_clause_34 ?_
        obtain ⟨g_90129, p_ad_3_0, o_90130⟩ := I.opi (k := 3) (j := 0) (by decide) rfl
        have p_ad_3_0 : pt L f (ad 3 0) (.inl (G.2 0, 2916, .inl g_90129)) := p_ad_3_0
        obtain ⟨v_90131, ev_90131⟩ : ∃ z, z = g_90129 (t0 : Int32).toNatClampNeg := ⟨_, rfl⟩
        refine pg_iald S Y (v := v_90131) p_ad_3_0 (vp_bn bfe_12 (by decide)) ev_90131.symm dX12_clause_37 ?_
        have hZ := o_90130
        have en0 := ev_90131
        have B_90132 : bn 0 24 v_90131 := TZ_n hZ ht0 ev_90131
        refine lv_istore_n (lv' := [(2, .int v_90131), (1, .int r_90032), (0, .ref (ad 0 0))]) hx hb dX12_clause_38 rfl hl (by decide) rfl (fun ls hl => ?_)
        refine lv_iload_n hx hb dX12_clause_39 rfl (lv_at hl 0 rfl) ?_
        refine lv_bipush (v := 24) hx hb dX12_clause_40 (by decide) ?_
        refine lv_icmp_ne (tgt := 48) hx hb dX12_clause_42 (by decide) (fun c_90133 => ?_) (fun c_90133 => ?_)
        · have B_90134 : bn 0 23 v_90131 := bn_w (bn_neu c_90133 B_90132 (show bn 24 24 (24 : Int32) from bn_k (by decide))) (by decide)
          refine lv_iload_n hx hb dX12_clause_48 rfl (lv_at hl 1 rfl) ?_
          refine lv_iconst (v := 2) hx hb dX12_clause_49 (by decide) ?_
          refine lv_icmp_gt (tgt := 65) hx hb dX12_clause_50 (by decide) (fun h => absurd h c_90036) (fun _ => ?_)
          refine lv_aload_n hx hb dX12_clause_53 rfl (lv_at hl 2 rfl) ?_
          refine lv_dup hx hb dX12_clause_54 rfl ?_
          refine pg_get S Y ok_X12 21 (by decide) kf12_241 (v := .int on9) p_ad_0_0 rfl dX12_clause_55 ?_
          refine lv_iconst (v := 1) hx hb dX12_clause_58 (by decide) ?_
          refine lv_iload_n hx hb dX12_clause_59 rfl (lv_at hl 1 rfl) ?_
          refine lv_ishl hx hb dX12_clause_60 ?_
          refine lv_topi (fun x_90136 ex_90136 => ?_)
          refine lv_ior hx hb dX12_clause_61 ?_
          refine lv_topi (fun x_90137 ex_90137 => ?_)
          refine pg_put S Y ok_X12 21 (by decide) kf12_241 rfl (fs' := [.ref (ad 1 0), .ref (ad 2 0), .ref (ad 3 0), .ref (ad 4 0), .int td, .int fa, .int fp, .int at9, .int ps9, .int tk, .int nu, .long wd, .int t0, .int wr, .int so, .ref (ad 5 0), .ref (ad 6 0), .int pd, .int op9, .int cg, .int iw, .int x_90137, .ref (ad 7 0), .ref (ad 8 0), .ref (ad 9 0), .int is9, .ref (ad 10 0), .ref (ad 11 0), .ref (ad 12 0), .ref (ad 13 0), .int se, .ref (ad 14 0)]) (v := .int x_90137) p_ad_0_0 rfl rfl rfl (Nat.le_of_ble_eq_true rfl) dX12_clause_62 (fun f_90138 H locs ef_90138 Y => ?_)
          have p_ad_4_0 := p_ad_4_0.up ef_90138 (I.ne (k := 4) (j := 0) (k' := 0) (j' := 0) (by decide) (by decide) (Or.inl (by decide)))
          have p_ad_3_0 := p_ad_3_0.up ef_90138 (I.ne (k := 3) (j := 0) (k' := 0) (j' := 0) (by decide) (by decide) (Or.inl (by decide)))
          have p_ad_0_0 := p_ad_0_0.me ef_90138
          have I := I.up (k := 0) (j := 0) (by decide) ef_90138 (okE_o (okFs_c okV_r (okFs_c okV_r (okFs_c okV_r (okFs_c okV_r (okFs_c (okV_i bfe_4) (okFs_c (okV_i (bn_any _)) (okFs_c (okV_i (bn_any _)) (okFs_c (okV_i bfe_7) (okFs_c (okV_i bfe_8) (okFs_c (okV_i (bn_any _)) (okFs_c (okV_i (bn_any _)) (okFs_c okV_l (okFs_c (okV_i bfe_12) (okFs_c (okV_i bfe_13) (okFs_c (okV_i (bn_any _)) (okFs_c okV_r (okFs_c okV_r (okFs_c (okV_i bfe_17) (okFs_c (okV_i bfe_18) (okFs_c (okV_i bfe_19) (okFs_c (okV_i bfe_20) (okFs_c (okV_i (bn_w (bn_any x_90137) (by decide))) (okFs_c okV_r (okFs_c okV_r (okFs_c okV_r (okFs_c (okV_i bfe_25) (okFs_c okV_r (okFs_c okV_r (okFs_c okV_r (okFs_c okV_r (okFs_c (okV_i (bn_any _)) (okFs_c okV_r okFs_n)))))))))))))))))))))))))))))))))
          refine lv_aload_n hx hb dX12_clause_65 rfl (lv_at hl 2 rfl) ?_
          refine lv_iload_n hx hb dX12_clause_66 rfl (lv_at hl 1 rfl) ?_
          refine pg_put S Y ok_X12 14 (by decide) kf12_175 rfl (fs' := [.ref (ad 1 0), .ref (ad 2 0), .ref (ad 3 0), .ref (ad 4 0), .int td, .int fa, .int fp, .int at9, .int ps9, .int tk, .int nu, .long wd, .int t0, .int wr, .int r_90032, .ref (ad 5 0), .ref (ad 6 0), .int pd, .int op9, .int cg, .int iw, .int x_90137, .ref (ad 7 0), .ref (ad 8 0), .ref (ad 9 0), .int is9, .ref (ad 10 0), .ref (ad 11 0), .ref (ad 12 0), .ref (ad 13 0), .int se, .ref (ad 14 0)]) (v := .int r_90032) p_ad_0_0 rfl rfl rfl (Nat.le_of_ble_eq_true rfl) dX12_clause_67 (fun f_90139 H locs ef_90139 Y => ?_)
          have p_ad_4_0 := p_ad_4_0.up ef_90139 (I.ne (k := 4) (j := 0) (k' := 0) (j' := 0) (by decide) (by decide) (Or.inl (by decide)))
          have p_ad_3_0 := p_ad_3_0.up ef_90139 (I.ne (k := 3) (j := 0) (k' := 0) (j' := 0) (by decide) (by decide) (Or.inl (by decide)))
          have p_ad_0_0 := p_ad_0_0.me ef_90139
          have I := I.up (k := 0) (j := 0) (by decide) ef_90139 (okE_o (okFs_c okV_r (okFs_c okV_r (okFs_c okV_r (okFs_c okV_r (okFs_c (okV_i bfe_4) (okFs_c (okV_i (bn_any _)) (okFs_c (okV_i (bn_any _)) (okFs_c (okV_i bfe_7) (okFs_c (okV_i bfe_8) (okFs_c (okV_i (bn_any _)) (okFs_c (okV_i (bn_any _)) (okFs_c okV_l (okFs_c (okV_i bfe_12) (okFs_c (okV_i bfe_13) (okFs_c (okV_i (bn_w B_90038 (by decide))) (okFs_c okV_r (okFs_c okV_r (okFs_c (okV_i bfe_17) (okFs_c (okV_i bfe_18) (okFs_c (okV_i bfe_19) (okFs_c (okV_i bfe_20) (okFs_c (okV_i (bn_w (bn_any x_90137) (by decide))) (okFs_c okV_r (okFs_c okV_r (okFs_c okV_r (okFs_c (okV_i bfe_25) (okFs_c okV_r (okFs_c okV_r (okFs_c okV_r (okFs_c okV_r (okFs_c (okV_i (bn_any _)) (okFs_c okV_r okFs_n)))))))))))))))))))))))))))))))))
          refine lv_aload_n hx hb dX12_clause_70 rfl (lv_at hl 2 rfl) ?_
          have o_90140 : (EQ g_90129) g_90129 := rfl
          have I := I.castS (sp' := spM PA PI (EQ g_90129) pa) (k := 3) (j := 0) (by decide) p_ad_3_0 (okE_a (g := g_90129) o_90140) pXC
          obtain ⟨g_90141, p_ad_5_0, o_90142⟩ := I.opi (k := 5) (j := 0) (by decide) rfl
          have p_ad_5_0 : pt L f_90139 (ad 5 0) (.inl (G.2 0, 160, .inl g_90141)) := p_ad_5_0
          obtain ⟨g_90143, p_ad_6_0, o_90144⟩ := I.opi (k := 6) (j := 0) (by decide) rfl
          have p_ad_6_0 : pt L f_90139 (ad 6 0) (.inl (G.2 0, 9, .inl g_90143)) := p_ad_6_0
          refine cVv (As := []) (rest := []) S Y (x_X12_nextToken (l := l) I p_ad_0_0 p_ad_4_0 p_ad_5_0 p_ad_6_0) cw_X12_nextToken km12_166 p_ad_0_0 ok_X12.1 rfl rfl ⟨Nat.le_of_ble_eq_true rfl, Nat.le_of_ble_eq_true rfl⟩ hl.1 rfl (Nat.le_of_ble_eq_true rfl) ⟨Nat.le_of_ble_eq_true rfl, Nat.le_of_ble_eq_true rfl⟩ dX12_clause_71 (fun L_90145 f_90146 H locs hr_90147 Y => ?_)
          obtain ⟨v_90148, v_90149, v_90150, v_90151, v_90152, I, p_ad_0_0, p_ad_4_0, p_ad_5_0, p_ad_6_0, eT_90153, eP_90154⟩ := hr_90147
          obtain ⟨bfc90154_4, bfc90154_7, bfc90154_8, bfc90154_12, bfc90154_13, bfc90154_17, bfc90154_18, bfc90154_19, bfc90154_20, bfc90154_25⟩ := obM I p_ad_0_0
          refine lv_aload_n hx hb dX12_clause_74 rfl (lv_at hl 2 rfl) ?_
          refine pg_get S Y ok_X12 12 (by decide) kf12_136 (v := .int t0) p_ad_0_0 rfl dX12_clause_75 ?_
          refine lv_iconst (v := 1) hx hb dX12_clause_78 (by decide) ?_
          refine lv_iadd hx hb dX12_clause_79 ?_
          refine lv_topi (fun x_90156 ex_90156 => ?_)
          refine lv_iconst (v := 5) hx hb dX12_clause_80 (by decide) ?_
          refine lv_iload_n hx hb dX12_clause_81 rfl (lv_at hl 0 rfl) ?_
          refine lv_imul hx hb dX12_clause_82 ?_
          refine lv_topi (fun x_90157 ex_90157 => ?_)
          refine lv_iadd hx hb dX12_clause_83 ?_
          refine lv_topi (fun x_90158 ex_90158 => ?_)
          refine lv_istore_n (lv' := [(3, .int x_90158), (2, .int v_90131), (1, .int r_90032), (0, .ref (ad 0 0))]) hx hb dX12_clause_84 rfl hl (by decide) rfl (fun ls hl => ?_)
          refine lv_aload_n hx hb dX12_clause_85 rfl (lv_at hl 3 rfl) ?_
          refine pg_get S Y ok_X12 2 (by decide) kf12_16 (v := .ref (ad 3 0)) p_ad_0_0 rfl dX12_clause_86 ?_
          refine lv_iload_n hx hb dX12_clause_89 rfl (lv_at hl 0 rfl) ?_
          refine lv_iload_n hx hb dX12_clause_90 rfl (lv_at hl 2 rfl) ?_
          obtain ⟨g_90159, p_ad_3_0, o_90160⟩ := I.opi (k := 3) (j := 0) (by decide) rfl
          have p_ad_3_0 : pt L_90145 f_90146 (ad 3 0) (.inl (G.2 0, 2916, .inl g_90159)) := p_ad_3_0
          refine pg_iast S Y p_ad_3_0 (vp_bn (bn_eq ex_90158 (bn_add (bn_eq ex_90156 (bn_add bfc90154_12 (show bn 1 1 (1 : Int32) from bn_k (by decide)) (by decide))) (bn_eq ex_90157 (bn_mul (show bn 5 5 (5 : Int32) from bn_k (by decide)) B_90134 (by decide))) (by decide))) (by decide)) dX12_clause_91 (fun f_90162 H locs ef_90162 Y => ?_)
          obtain ⟨g_90161, eg_90161⟩ : ∃ z, z = upd (g_90159) (x_90158 : Int32).toNatClampNeg r_90032 := ⟨_, rfl⟩
          rw [← eg_90161] at ef_90162
          have p_ad_0_0 := p_ad_0_0.up ef_90162 (I.ne (k := 0) (j := 0) (k' := 3) (j' := 0) (by decide) (by decide) (Or.inl (by decide)))
          have p_ad_4_0 := p_ad_4_0.up ef_90162 (I.ne (k := 4) (j := 0) (k' := 3) (j' := 0) (by decide) (by decide) (Or.inl (by decide)))
          have p_ad_5_0 := p_ad_5_0.up ef_90162 (I.ne (k := 5) (j := 0) (k' := 3) (j' := 0) (by decide) (by decide) (Or.inl (by decide)))
          have p_ad_6_0 := p_ad_6_0.up ef_90162 (I.ne (k := 6) (j := 0) (k' := 3) (j' := 0) (by decide) (by decide) (Or.inl (by decide)))
          have p_ad_3_0 := p_ad_3_0.me ef_90162
          have o_90163 : (EQ g_90161) g_90161 := rfl
          have I := I.upS (sp' := spM PA PI (EQ g_90161) pa) (k := 3) (j := 0) (by decide) ef_90162 (okE_a (g := g_90161) o_90163) pXC
          have eg1 : g_90161 = upd g_90129 (x_90158 : Int32).toNatClampNeg r_90032 := by rw [eg_90161, show g_90159 = g_90129 from o_90160]
          refine lv_aload_n hx hb dX12_clause_92 rfl (lv_at hl 3 rfl) ?_
          refine lv_iload_n hx hb dX12_clause_93 rfl (lv_at hl 2 rfl) ?_
          refine lv_iload_n hx hb dX12_clause_94 rfl (lv_at hl 0 rfl) ?_
          refine cVi (As := [.int r_90032, .int x_90158]) (rest := []) S Y (x_X12_body (l := l) I p_ad_0_0 (bn_w B_90038 (by decide)) (bn_w (bn_eq ex_90158 (bn_add (bn_eq ex_90156 (bn_add bfc90154_12 (show bn 1 1 (1 : Int32) from bn_k (by decide)) (by decide))) (bn_eq ex_90157 (bn_mul (show bn 5 5 (5 : Int32) from bn_k (by decide)) B_90134 (by decide))) (by decide))) (by decide)) (show g_90161 x_90158.toInt.toNat = r_90032 from by rw [eg1, ← tnc, pk_us]) rfl (by have z9 := (la_add ex_90158 (la_add ex_90156 (rfl : t0.toInt = t0.toInt) (show (1 : Int32).toInt = 1 from rfl) bfc90154_12 (show bn 1 1 (1 : Int32) from bn_k (by decide)) (by decide)) (la_mul ex_90157 (show (5 : Int32).toInt = 5 from rfl) (rfl : v_90131.toInt = v_90131.toInt) (show bn 5 5 (5 : Int32) from bn_k (by decide)) B_90134 (by decide)) (bn_eq ex_90156 (bn_add bfc90154_12 (show bn 1 1 (1 : Int32) from bn_k (by decide)) (by decide))) (bn_eq ex_90157 (bn_mul (show bn 5 5 (5 : Int32) from bn_k (by decide)) B_90134 (by decide))) (by decide)); have z8 := (B_90134).2; omega) (by have c0 := hT.1; have c1 := hroom; have c2 := eT_90153.1; have c3 := eP_90154; omega) eT_90153) cw_X12_body km12_248 p_ad_0_0 ok_X12.1 rfl rfl ⟨Nat.le_of_ble_eq_true rfl, Nat.le_of_ble_eq_true rfl⟩ hl.1 rfl (Nat.le_of_ble_eq_true rfl) ⟨Nat.le_of_ble_eq_true rfl, Nat.le_of_ble_eq_true rfl⟩ dX12_clause_95 (fun r_90166 L_90164 f_90165 H locs hr_90166 Y => ?_)
          obtain ⟨v_90167, v_90168, v_90169, v_90170, v_90171, v_90172, v_90173, v_90174, v_90175, v_90176, er_90166, I, p_ad_0_0, eT_90177, eQ_90178, eW_90179⟩ := hr_90166
          obtain ⟨bfc90179_4, bfc90179_7, bfc90179_8, bfc90179_12, bfc90179_13, bfc90179_17, bfc90179_18, bfc90179_19, bfc90179_20, bfc90179_25⟩ := obM I p_ad_0_0
          refine lv_istore (lv' := [(4, .int r_90166), (3, .int x_90158), (2, .int v_90131), (1, .int r_90032), (0, .ref (ad 0 0))]) hx hb dX12_clause_98 hl (by decide) rfl (fun ls hl => ?_)
          refine lv_iload hx hb dX12_clause_100 (lv_at hl 0 rfl) ?_
          refine lv_if_eq (tgt := 108) hx hb dX12_clause_102 (by decide) (fun c_90181 => ?_) (fun c_90181 => ?_)
          · have B_90182 : bn 0 0 r_90166 := bn_w (bn_eq c_90181 (show bn 0 0 (0 : Int32) from bn_k (by decide))) (by decide)
            refine lv_aload_n hx hb dX12_clause_108 rfl (lv_at hl 4 rfl) ?_
            refine pg_get S Y ok_X12 2 (by decide) kf12_16 (v := .ref (ad 3 0)) p_ad_0_0 rfl dX12_clause_109 ?_
            refine lv_aload_n hx hb dX12_clause_112 rfl (lv_at hl 4 rfl) ?_
            refine pg_get S Y ok_X12 12 (by decide) kf12_136 (v := .int t0) p_ad_0_0 rfl dX12_clause_113 ?_
            refine lv_dup2_11 hx hb dX12_clause_116 rfl rfl ?_
            obtain ⟨g_90184, p_ad_3_0, o_90185⟩ := I.opi (k := 3) (j := 0) (by decide) rfl
            have p_ad_3_0 : pt L_90164 f_90165 (ad 3 0) (.inl (G.2 0, 2916, .inl g_90184)) := p_ad_3_0
            obtain ⟨v_90186, ev_90186⟩ : ∃ z, z = g_90184 (t0 : Int32).toNatClampNeg := ⟨_, rfl⟩
            refine pg_iald S Y (v := v_90186) p_ad_3_0 (vp_bn bfc90179_12 (by decide)) ev_90186.symm dX12_clause_117 ?_
            refine lv_iconst (v := 1) hx hb dX12_clause_118 (by decide) ?_
            refine lv_iadd hx hb dX12_clause_119 ?_
            refine lv_topi (fun x_90187 ex_90187 => ?_)
            refine pg_iast S Y p_ad_3_0 (vp_bn bfc90179_12 (by decide)) dX12_clause_120 (fun f_90189 H locs ef_90189 Y => ?_)
            obtain ⟨g_90188, eg_90188⟩ : ∃ z, z = upd (g_90184) (t0 : Int32).toNatClampNeg x_90187 := ⟨_, rfl⟩
            rw [← eg_90188] at ef_90189
            have p_ad_0_0 := p_ad_0_0.up ef_90189 (I.ne (k := 0) (j := 0) (k' := 3) (j' := 0) (by decide) (by decide) (Or.inl (by decide)))
            have p_ad_3_0 := p_ad_3_0.me ef_90189
            have o_90190 : (TZ t0 v_90172) g_90188 := (TZ_up hZ ht0 bfe_13.1 en0 (bn_w B_90134 (by decide)) eg1 (by have z9 := (la_add ex_90158 (la_add ex_90156 (rfl : t0.toInt = t0.toInt) (show (1 : Int32).toInt = 1 from rfl) bfc90179_12 (show bn 1 1 (1 : Int32) from bn_k (by decide)) (by decide)) (la_mul ex_90157 (show (5 : Int32).toInt = 5 from rfl) (rfl : v_90131.toInt = v_90131.toInt) (show bn 5 5 (5 : Int32) from bn_k (by decide)) B_90134 (by decide)) (bn_eq ex_90156 (bn_add bfc90154_12 (show bn 1 1 (1 : Int32) from bn_k (by decide)) (by decide))) (bn_eq ex_90157 (bn_mul (show bn 5 5 (5 : Int32) from bn_k (by decide)) B_90134 (by decide))) (by decide)); omega) o_90185 c_90181 ev_90186 ex_90187 eg_90188)
            have I := I.upS (sp' := spM PA PI (TZ t0 v_90172) pa) (k := 3) (j := 0) (by decide) ef_90189 (okE_a (g := g_90188) o_90190) pXC
            refine lv_aload_n hx hb dX12_clause_121 rfl (lv_at hl 4 rfl) ?_
            refine pg_get S Y ok_X12 9 (by decide) kf12_98 (v := .int v_90169) p_ad_0_0 rfl dX12_clause_122 ?_
            refine lv_bipush (v := 59) hx hb dX12_clause_125 (by decide) ?_
            refine lv_icmp_eq (tgt := 132) hx hb dX12_clause_127 (by decide) (fun c_90191 => ?_) (fun c_90191 => ?_)
            · have B_90192 : bn 59 59 v_90169 := bn_w (bn_eq c_90191 (show bn 59 59 (59 : Int32) from bn_k (by decide))) (by decide)
              refine lv_aload_n hx hb dX12_clause_132 rfl (lv_at hl 4 rfl) ?_
              obtain ⟨g_90193, p_ad_4_0, o_90194⟩ := I.opi (k := 4) (j := 0) (by decide) rfl
              have p_ad_4_0 : pt L_90164 f_90189 (ad 4 0) (.inl (G.2 0, 300, .inl g_90193)) := p_ad_4_0
              obtain ⟨g_90195, p_ad_5_0, o_90196⟩ := I.opi (k := 5) (j := 0) (by decide) rfl
              have p_ad_5_0 : pt L_90164 f_90189 (ad 5 0) (.inl (G.2 0, 160, .inl g_90195)) := p_ad_5_0
              obtain ⟨g_90197, p_ad_6_0, o_90198⟩ := I.opi (k := 6) (j := 0) (by decide) rfl
              have p_ad_6_0 : pt L_90164 f_90189 (ad 6 0) (.inl (G.2 0, 9, .inl g_90197)) := p_ad_6_0
              refine cVv (As := []) (rest := []) S Y (x_X12_nextToken (l := l) I p_ad_0_0 p_ad_4_0 p_ad_5_0 p_ad_6_0) cw_X12_nextToken km12_166 p_ad_0_0 ok_X12.1 rfl rfl ⟨Nat.le_of_ble_eq_true rfl, Nat.le_of_ble_eq_true rfl⟩ hl.1 rfl (Nat.le_of_ble_eq_true rfl) ⟨Nat.le_of_ble_eq_true rfl, Nat.le_of_ble_eq_true rfl⟩ dX12_clause_133 (fun L_90199 f_90200 H locs hr_90201 Y => ?_)
              obtain ⟨v_90202, v_90203, v_90204, v_90205, v_90206, I, p_ad_0_0, p_ad_4_0, p_ad_5_0, p_ad_6_0, eT_90207, eP_90208⟩ := hr_90201
              obtain ⟨bfc90208_4, bfc90208_7, bfc90208_8, bfc90208_12, bfc90208_13, bfc90208_17, bfc90208_18, bfc90208_19, bfc90208_20, bfc90208_25⟩ := obM I p_ad_0_0
              obtain ⟨g_90210, p_ad_3_0, o_90211⟩ := I.opi (k := 3) (j := 0) (by decide) rfl
              have p_ad_3_0 : pt L_90199 f_90200 (ad 3 0) (.inl (G.2 0, 2916, .inl g_90210)) := p_ad_3_0
              have o_90212 : (TC 0 t0 v_90172) g_90210 := (TC_ok o_90211)
              have I := I.castS (sp' := spM PA PI (TC 0 t0 v_90172) pa) (k := 3) (j := 0) (by decide) p_ad_3_0 (okE_a (g := g_90210) o_90212) pXC
              refine lv_iconst (v := 0) hx hb dX12_clause_136 (by decide) ?_
              exact prI (post := fun r L1 f1 => ∃ at92 : Int32, ∃ ps92 : Int32, ∃ tk2 : Int32, ∃ nu2 : Int32, ∃ wd2 : Int64, ∃ wr2 : Int32, ∃ so2 : Int32, ∃ pd2 : Int32, ∃ op92 : Int32, ∃ cg2 : Int32, ∃ iw2 : Int32, ∃ on92 : Int32, bn 0 7 r ∧ SH (spM PA PI (TC r t0 wr2) pa) nnM G ad L1 f1 ∧ pt L1 f1 (ad 0 0) (.inr (12, [.ref (ad 1 0), .ref (ad 2 0), .ref (ad 3 0), .ref (ad 4 0), .int td, .int fa, .int fp, .int at92, .int ps92, .int tk2, .int nu2, .long wd2, .int t0, .int wr2, .int so2, .ref (ad 5 0), .ref (ad 6 0), .int pd2, .int op92, .int cg2, .int iw2, .int on92, .ref (ad 7 0), .ref (ad 8 0), .ref (ad 9 0), .int is9, .ref (ad 10 0), .ref (ad 11 0), .ref (ad 12 0), .ref (ad 13 0), .int se, .ref (ad 14 0)])) ∧ TK at92 ps92 tk2 ∧ (r.toInt = 0 → ps9.toInt + 1 ≤ ps92.toInt) ∧ (r.toInt = 0 → wr2.toInt ≤ ps92.toInt)) S Y rfl (by decide) (by decide) hA1 ⟨v_90202, v_90203, v_90204, v_90205, v_90206, v_90172, r_90032, v_90173, v_90174, v_90175, v_90176, x_90137, bn_w (show bn 0 0 (0 : Int32) from bn_k (by decide)) (by decide), I, p_ad_0_0, eT_90207, (fun _ => by have c0 := hT.2 htk; have c1 := eT_90153.1; have c2 := eP_90154; have c3 := eT_90207.1; have c4 := eP_90208; have c5 := eT_90177.1; have c6 := eQ_90178 (show r_90166.toInt = 0 from by rw [c_90181]; rfl); have c7 := eW_90179 (show r_90166.toInt = 0 from by rw [c_90181]; rfl); omega), (fun _ => by have c0 := hT.2 htk; have c1 := eT_90153.1; have c2 := eP_90154; have c3 := eT_90207.1; have c4 := eP_90208; have c5 := eT_90177.1; have c6 := eQ_90178 (show r_90166.toInt = 0 from by rw [c_90181]; rfl); have c7 := eW_90179 (show r_90166.toInt = 0 from by rw [c_90181]; rfl); omega)⟩ dX12_clause_137
            · have o_90213 : (TC 1 t0 v_90172) g_90188 := (TC_no o_90190 (by decide))
              have I := I.castS (sp' := spM PA PI (TC 1 t0 v_90172) pa) (k := 3) (j := 0) (by decide) p_ad_3_0 (okE_a (g := g_90188) o_90213) pXC
              refine lv_iconst (v := 1) hx hb dX12_clause_130 (by decide) ?_
              exact prI (post := fun r L1 f1 => ∃ at92 : Int32, ∃ ps92 : Int32, ∃ tk2 : Int32, ∃ nu2 : Int32, ∃ wd2 : Int64, ∃ wr2 : Int32, ∃ so2 : Int32, ∃ pd2 : Int32, ∃ op92 : Int32, ∃ cg2 : Int32, ∃ iw2 : Int32, ∃ on92 : Int32, bn 0 7 r ∧ SH (spM PA PI (TC r t0 wr2) pa) nnM G ad L1 f1 ∧ pt L1 f1 (ad 0 0) (.inr (12, [.ref (ad 1 0), .ref (ad 2 0), .ref (ad 3 0), .ref (ad 4 0), .int td, .int fa, .int fp, .int at92, .int ps92, .int tk2, .int nu2, .long wd2, .int t0, .int wr2, .int so2, .ref (ad 5 0), .ref (ad 6 0), .int pd2, .int op92, .int cg2, .int iw2, .int on92, .ref (ad 7 0), .ref (ad 8 0), .ref (ad 9 0), .int is9, .ref (ad 10 0), .ref (ad 11 0), .ref (ad 12 0), .ref (ad 13 0), .int se, .ref (ad 14 0)])) ∧ TK at92 ps92 tk2 ∧ (r.toInt = 0 → ps9.toInt + 1 ≤ ps92.toInt) ∧ (r.toInt = 0 → wr2.toInt ≤ ps92.toInt)) S Y rfl (by decide) (by decide) hA1 ⟨v_90167, v_90168, v_90169, v_90170, v_90171, v_90172, r_90032, v_90173, v_90174, v_90175, v_90176, x_90137, bn_w (show bn 1 1 (1 : Int32) from bn_k (by decide)) (by decide), I, p_ad_0_0, eT_90177, (fun h => absurd h (by decide)), (fun h => absurd h (by decide))⟩ dX12_clause_131
          · have B_90183 : bn 1 7 r_90166 := bn_w (bn_nel c_90181 er_90166 (show bn 0 0 (0 : Int32) from bn_k (by decide))) (by decide)
            refine lv_iload hx hb dX12_clause_105 (lv_at hl 0 rfl) ?_
            obtain ⟨g_90214, p_ad_3_0, o_90215⟩ := I.opi (k := 3) (j := 0) (by decide) rfl
            have p_ad_3_0 : pt L_90164 f_90165 (ad 3 0) (.inl (G.2 0, 2916, .inl g_90214)) := p_ad_3_0
            have o_90216 : (TC r_90166 t0 v_90172) g_90214 := (TZ_bd hZ ht0 bfe_13.1 en0 (bn_w B_90134 (by decide)) eg1 (by have z9 := (la_add ex_90158 (la_add ex_90156 (rfl : t0.toInt = t0.toInt) (show (1 : Int32).toInt = 1 from rfl) bfc90179_12 (show bn 1 1 (1 : Int32) from bn_k (by decide)) (by decide)) (la_mul ex_90157 (show (5 : Int32).toInt = 5 from rfl) (rfl : v_90131.toInt = v_90131.toInt) (show bn 5 5 (5 : Int32) from bn_k (by decide)) B_90134 (by decide)) (bn_eq ex_90156 (bn_add bfc90154_12 (show bn 1 1 (1 : Int32) from bn_k (by decide)) (by decide))) (bn_eq ex_90157 (bn_mul (show bn 5 5 (5 : Int32) from bn_k (by decide)) B_90134 (by decide))) (by decide)); omega) o_90215 c_90181)
            have I := I.castS (sp' := spM PA PI (TC r_90166 t0 v_90172) pa) (k := 3) (j := 0) (by decide) p_ad_3_0 (okE_a (g := g_90214) o_90216) pXC
            exact prI (post := fun r L1 f1 => ∃ at92 : Int32, ∃ ps92 : Int32, ∃ tk2 : Int32, ∃ nu2 : Int32, ∃ wd2 : Int64, ∃ wr2 : Int32, ∃ so2 : Int32, ∃ pd2 : Int32, ∃ op92 : Int32, ∃ cg2 : Int32, ∃ iw2 : Int32, ∃ on92 : Int32, bn 0 7 r ∧ SH (spM PA PI (TC r t0 wr2) pa) nnM G ad L1 f1 ∧ pt L1 f1 (ad 0 0) (.inr (12, [.ref (ad 1 0), .ref (ad 2 0), .ref (ad 3 0), .ref (ad 4 0), .int td, .int fa, .int fp, .int at92, .int ps92, .int tk2, .int nu2, .long wd2, .int t0, .int wr2, .int so2, .ref (ad 5 0), .ref (ad 6 0), .int pd2, .int op92, .int cg2, .int iw2, .int on92, .ref (ad 7 0), .ref (ad 8 0), .ref (ad 9 0), .int is9, .ref (ad 10 0), .ref (ad 11 0), .ref (ad 12 0), .ref (ad 13 0), .int se, .ref (ad 14 0)])) ∧ TK at92 ps92 tk2 ∧ (r.toInt = 0 → ps9.toInt + 1 ≤ ps92.toInt) ∧ (r.toInt = 0 → wr2.toInt ≤ ps92.toInt)) S Y rfl (by decide) (by decide) hA1 ⟨v_90167, v_90168, v_90169, v_90170, v_90171, v_90172, r_90032, v_90173, v_90174, v_90175, v_90176, x_90137, bn_w B_90183 (by decide), I, p_ad_0_0, eT_90177, (fun h => absurd (Int32.toInt_inj.mp (h.trans rfl)) c_90181), (fun h => absurd (Int32.toInt_inj.mp (h.trans rfl)) c_90181)⟩ dX12_clause_107
        · have B_90135 : bn 24 24 v_90131 := bn_w (bn_eq c_90133 (show bn 24 24 (24 : Int32) from bn_k (by decide))) (by decide)
          have o_90217 : (TC 6 t0 wr) g_90129 := (TC_no o_90130 (by decide))
          have I := I.castS (sp' := spM PA PI (TC 6 t0 wr) pa) (k := 3) (j := 0) (by decide) p_ad_3_0 (okE_a (g := g_90129) o_90217) pXC
          refine lv_bipush (v := 6) hx hb dX12_clause_45 (by decide) ?_
          exact prI (post := fun r L1 f1 => ∃ at92 : Int32, ∃ ps92 : Int32, ∃ tk2 : Int32, ∃ nu2 : Int32, ∃ wd2 : Int64, ∃ wr2 : Int32, ∃ so2 : Int32, ∃ pd2 : Int32, ∃ op92 : Int32, ∃ cg2 : Int32, ∃ iw2 : Int32, ∃ on92 : Int32, bn 0 7 r ∧ SH (spM PA PI (TC r t0 wr2) pa) nnM G ad L1 f1 ∧ pt L1 f1 (ad 0 0) (.inr (12, [.ref (ad 1 0), .ref (ad 2 0), .ref (ad 3 0), .ref (ad 4 0), .int td, .int fa, .int fp, .int at92, .int ps92, .int tk2, .int nu2, .long wd2, .int t0, .int wr2, .int so2, .ref (ad 5 0), .ref (ad 6 0), .int pd2, .int op92, .int cg2, .int iw2, .int on92, .ref (ad 7 0), .ref (ad 8 0), .ref (ad 9 0), .int is9, .ref (ad 10 0), .ref (ad 11 0), .ref (ad 12 0), .ref (ad 13 0), .int se, .ref (ad 14 0)])) ∧ TK at92 ps92 tk2 ∧ (r.toInt = 0 → ps9.toInt + 1 ≤ ps92.toInt) ∧ (r.toInt = 0 → wr2.toInt ≤ ps92.toInt)) S Y rfl (by decide) (by decide) hA1 ⟨at9, ps9, tk, nu, wd, wr, so, pd, op9, cg, iw, on9, bn_w (show bn 6 6 (6 : Int32) from bn_k (by decide)) (by decide), I, p_ad_0_0, hT, (fun h => absurd h (by decide)), (fun h => absurd h (by decide))⟩ dX12_clause_47
      · have B_90128 : bn 1 1 r_90125 := bn_w (bn_nel c_90126 er_90125 (show bn 0 0 (0 : Int32) from bn_k (by decide))) (by decide)
        obtain ⟨g_90218, p_ad_3_0, o_90219⟩ := I.opi (k := 3) (j := 0) (by decide) rfl
        have p_ad_3_0 : pt L f (ad 3 0) (.inl (G.2 0, 2916, .inl g_90218)) := p_ad_3_0
        have o_90220 : (TC 4 t0 wr) g_90218 := (TC_no o_90219 (by decide))
        have I := I.castS (sp' := spM PA PI (TC 4 t0 wr) pa) (k := 3) (j := 0) (by decide) p_ad_3_0 (okE_a (g := g_90218) o_90220) pXC
        refine lv_iconst (v := 4) hx hb dX12_clause_27 (by decide) ?_
        exact prI (post := fun r L1 f1 => ∃ at92 : Int32, ∃ ps92 : Int32, ∃ tk2 : Int32, ∃ nu2 : Int32, ∃ wd2 : Int64, ∃ wr2 : Int32, ∃ so2 : Int32, ∃ pd2 : Int32, ∃ op92 : Int32, ∃ cg2 : Int32, ∃ iw2 : Int32, ∃ on92 : Int32, bn 0 7 r ∧ SH (spM PA PI (TC r t0 wr2) pa) nnM G ad L1 f1 ∧ pt L1 f1 (ad 0 0) (.inr (12, [.ref (ad 1 0), .ref (ad 2 0), .ref (ad 3 0), .ref (ad 4 0), .int td, .int fa, .int fp, .int at92, .int ps92, .int tk2, .int nu2, .long wd2, .int t0, .int wr2, .int so2, .ref (ad 5 0), .ref (ad 6 0), .int pd2, .int op92, .int cg2, .int iw2, .int on92, .ref (ad 7 0), .ref (ad 8 0), .ref (ad 9 0), .int is9, .ref (ad 10 0), .ref (ad 11 0), .ref (ad 12 0), .ref (ad 13 0), .int se, .ref (ad 14 0)])) ∧ TK at92 ps92 tk2 ∧ (r.toInt = 0 → ps9.toInt + 1 ≤ ps92.toInt) ∧ (r.toInt = 0 → wr2.toInt ≤ ps92.toInt)) S Y rfl (by decide) (by decide) hA1 ⟨at9, ps9, tk, nu, wd, wr, so, pd, op9, cg, iw, on9, bn_w (show bn 4 4 (4 : Int32) from bn_k (by decide)) (by decide), I, p_ad_0_0, hT, (fun h => absurd h (by decide)), (fun h => absurd h (by decide))⟩ dX12_clause_28
  · have B_90035 : bn (-1) (-1) r_90032 := bn_w (bn_gtr c_90033 (show bn 0 0 (0 : Int32) from bn_k (by decide)) er_90032.1) (by decide)
    obtain ⟨g_90221, p_ad_3_0, o_90222⟩ := I.opi (k := 3) (j := 0) (by decide) rfl
    have p_ad_3_0 : pt L f (ad 3 0) (.inl (G.2 0, 2916, .inl g_90221)) := p_ad_3_0
    have o_90223 : (TC 1 t0 wr) g_90221 := (TC_no o_90222 (by decide))
    have I := I.castS (sp' := spM PA PI (TC 1 t0 wr) pa) (k := 3) (j := 0) (by decide) p_ad_3_0 (okE_a (g := g_90221) o_90223) pXC
    refine lv_iconst (v := 1) hx hb dX12_clause_9 (by decide) ?_
    exact prI (post := fun r L1 f1 => ∃ at92 : Int32, ∃ ps92 : Int32, ∃ tk2 : Int32, ∃ nu2 : Int32, ∃ wd2 : Int64, ∃ wr2 : Int32, ∃ so2 : Int32, ∃ pd2 : Int32, ∃ op92 : Int32, ∃ cg2 : Int32, ∃ iw2 : Int32, ∃ on92 : Int32, bn 0 7 r ∧ SH (spM PA PI (TC r t0 wr2) pa) nnM G ad L1 f1 ∧ pt L1 f1 (ad 0 0) (.inr (12, [.ref (ad 1 0), .ref (ad 2 0), .ref (ad 3 0), .ref (ad 4 0), .int td, .int fa, .int fp, .int at92, .int ps92, .int tk2, .int nu2, .long wd2, .int t0, .int wr2, .int so2, .ref (ad 5 0), .ref (ad 6 0), .int pd2, .int op92, .int cg2, .int iw2, .int on92, .ref (ad 7 0), .ref (ad 8 0), .ref (ad 9 0), .int is9, .ref (ad 10 0), .ref (ad 11 0), .ref (ad 12 0), .ref (ad 13 0), .int se, .ref (ad 14 0)])) ∧ TK at92 ps92 tk2 ∧ (r.toInt = 0 → ps9.toInt + 1 ≤ ps92.toInt) ∧ (r.toInt = 0 → wr2.toInt ≤ ps92.toInt)) S Y rfl (by decide) (by decide) hA1 ⟨at9, ps9, tk, nu, wd, wr, so, pd, op9, cg, iw, on9, bn_w (show bn 1 1 (1 : Int32) from bn_k (by decide)) (by decide), I, p_ad_0_0, hT, (fun h => absurd h (by decide)), (fun h => absurd h (by decide))⟩ dX12_clause_10
set_option maxHeartbeats 4000000 in
set_option maxRecDepth 100000 in
theorem x_X12_readText {l : Launch} {G : GG}  {L : List Nat} {f : HF} {ad : Nat → Nat → Nat} {g0 : Nat → Int32} {pa : (Nat → Int32) → Prop} {PI : (Nat → Int32) → Prop} {td fa fp at9 ps9 tk nu t0 wr so pd op9 cg iw on9 is9 se : Int32} {wd : Int64} {PA : (Nat → Int32) → Prop} (I : SH (spM (T3 PA) PI (EQ g0) pa) nnM G ad L f) (hX : TX g0) (p_ad_0_0 : pt L f (ad 0 0) (.inr (12, [.ref (ad 1 0), .ref (ad 2 0), .ref (ad 3 0), .ref (ad 4 0), .int td, .int fa, .int fp, .int at9, .int ps9, .int tk, .int nu, .long wd, .int t0, .int wr, .int so, .ref (ad 5 0), .ref (ad 6 0), .int pd, .int op9, .int cg, .int iw, .int on9, .ref (ad 7 0), .ref (ad 8 0), .ref (ad 9 0), .int is9, .ref (ad 10 0), .ref (ad 11 0), .ref (ad 12 0), .ref (ad 13 0), .int se, .ref (ad 14 0)]))) : PMi l yX12_readText cX12_readText 2 .int 10 0 0 G [.ref (ad 0 0)] L f (fun r L1 f1 => ∃ at92 : Int32, ∃ ps92 : Int32, ∃ tk2 : Int32, ∃ nu2 : Int32, ∃ wd2 : Int64, ∃ t02 : Int32, ∃ wr2 : Int32, ∃ so2 : Int32, ∃ pd2 : Int32, ∃ op92 : Int32, ∃ cg2 : Int32, ∃ iw2 : Int32, ∃ on92 : Int32, bn 0 7 r ∧ SH (spM (T3 PA) PI TX pa) nnM G ad L1 f1 ∧ pt L1 f1 (ad 0 0) (.inr (12, [.ref (ad 1 0), .ref (ad 2 0), .ref (ad 3 0), .ref (ad 4 0), .int td, .int fa, .int fp, .int at92, .int ps92, .int tk2, .int nu2, .long wd2, .int t02, .int wr2, .int so2, .ref (ad 5 0), .ref (ad 6 0), .int pd2, .int op92, .int cg2, .int iw2, .int on92, .ref (ad 7 0), .ref (ad 8 0), .ref (ad 9 0), .int is9, .ref (ad 10 0), .ref (ad 11 0), .ref (ad 12 0), .ref (ad 13 0), .int se, .ref (ad 14 0)]))) := by
  refine PMi.of (post := fun r L1 f1 => ∃ at92 : Int32, ∃ ps92 : Int32, ∃ tk2 : Int32, ∃ nu2 : Int32, ∃ wd2 : Int64, ∃ t02 : Int32, ∃ wr2 : Int32, ∃ so2 : Int32, ∃ pd2 : Int32, ∃ op92 : Int32, ∃ cg2 : Int32, ∃ iw2 : Int32, ∃ on92 : Int32, bn 0 7 r ∧ SH (spM (T3 PA) PI TX pa) nnM G ad L1 f1 ∧ pt L1 f1 (ad 0 0) (.inr (12, [.ref (ad 1 0), .ref (ad 2 0), .ref (ad 3 0), .ref (ad 4 0), .int td, .int fa, .int fp, .int at92, .int ps92, .int tk2, .int nu2, .long wd2, .int t02, .int wr2, .int so2, .ref (ad 5 0), .ref (ad 6 0), .int pd2, .int op92, .int cg2, .int iw2, .int on92, .ref (ad 7 0), .ref (ad 8 0), .ref (ad 9 0), .int is9, .ref (ad 10 0), .ref (ad 11 0), .ref (ad 12 0), .ref (ad 13 0), .int se, .ref (ad 14 0)]))) (own := RX12) (by decide) rfl (Nat.le_of_ble_eq_true rfl) (fun sz p e s m args below meth c A ls hA1 hname S Y hl => ?_)
  have hx := S.hx
  have hb := S.hb
  have hl : lv_has ls 2 [(0, .ref (ad 0 0))] := hl
  obtain ⟨bfe_4, bfe_7, bfe_8, bfe_12, bfe_13, bfe_17, bfe_18, bfe_19, bfe_20, bfe_25⟩ := obM I p_ad_0_0
  have J_43 : ∀ (n43 : Nat) (y43_f7 y43_f8 y43_f9 y43_f10 y43_f12 y43_f13 y43_f14 y43_f17 y43_f18 y43_f19 y43_f20 y43_f21 : Int32) (y43_f11 : Int64) (L_43 : List Nat) (f_43 : HF) (H : Heap) (locs : List Loc) (ls : Array Slot), (SH (spM (T3 PA) PI (TZ y43_f12 y43_f13) pa) nnM G ad L_43 f_43) → (bn 0 300 y43_f7) → (bn 0 300 y43_f8) → (bn 0 2187 y43_f12) → (bn 0 300 y43_f13) → (bn 0 160 y43_f17) → (bn 0 8 y43_f18) → (bn 0 8 y43_f19) → (bn 0 1 y43_f20) → (TK y43_f7 y43_f8 y43_f9 ∧ y43_f13.toInt ≤ y43_f8.toInt ∧ TT y43_f12) → (pt L_43 f_43 (ad 0 0) (.inr (12, [.ref (ad 1 0), .ref (ad 2 0), .ref (ad 3 0), .ref (ad 4 0), .int td, .int fa, .int fp, .int y43_f7, .int y43_f8, .int y43_f9, .int y43_f10, .long y43_f11, .int y43_f12, .int y43_f13, .int y43_f14, .ref (ad 5 0), .ref (ad 6 0), .int y43_f17, .int y43_f18, .int y43_f19, .int y43_f20, .int y43_f21, .ref (ad 7 0), .ref (ad 8 0), .ref (ad 9 0), .int is9, .ref (ad 10 0), .ref (ad 11 0), .ref (ad 12 0), .ref (ad 13 0), .int se, .ref (ad 14 0)]))) → ((300 - y43_f8.toInt).toNat = n43) → (DY G A s [] L_43 f_43 H locs) → (lv_has ls 2 [(0, .ref (ad 0 0))]) → W p l e (rmD 10 0 0) s m args below meth c H locs (0) (0) (MQ below (va_Qi (fun r (u : List Nat × HF) => (fun r L1 f1 => ∃ at92 : Int32, ∃ ps92 : Int32, ∃ tk2 : Int32, ∃ nu2 : Int32, ∃ wd2 : Int64, ∃ t02 : Int32, ∃ wr2 : Int32, ∃ so2 : Int32, ∃ pd2 : Int32, ∃ op92 : Int32, ∃ cg2 : Int32, ∃ iw2 : Int32, ∃ on92 : Int32, bn 0 7 r ∧ SH (spM (T3 PA) PI TX pa) nnM G ad L1 f1 ∧ pt L1 f1 (ad 0 0) (.inr (12, [.ref (ad 1 0), .ref (ad 2 0), .ref (ad 3 0), .ref (ad 4 0), .int td, .int fa, .int fp, .int at92, .int ps92, .int tk2, .int nu2, .long wd2, .int t02, .int wr2, .int so2, .ref (ad 5 0), .ref (ad 6 0), .int pd2, .int op92, .int cg2, .int iw2, .int on92, .ref (ad 7 0), .ref (ad 8 0), .ref (ad 9 0), .int is9, .ref (ad 10 0), .ref (ad 11 0), .ref (ad 12 0), .ref (ad 13 0), .int se, .ref (ad 14 0)]))) r u.1 u.2) (fun u t => pOut G (va_A (va_pl L f) sz) u.1 u.2 t) (va_A (va_pl L f) sz)) args s 0 0 A) (F0 m 43 ls []) := by
    intro n43
    induction n43 using Nat.strongRecOn with
    | _ n43 ih43 =>
      intro y43_f7 y43_f8 y43_f9 y43_f10 y43_f12 y43_f13 y43_f14 y43_f17 y43_f18 y43_f19 y43_f20 y43_f21 y43_f11 L_43 f_43 H locs ls I b_y43_f7 b_y43_f8 b_y43_f12 b_y43_f13 b_y43_f17 b_y43_f18 b_y43_f19 b_y43_f20 hR p_ad_0_0 hm43 Y hl
      obtain ⟨bf43_4, bf43_7, bf43_8, bf43_12, bf43_13, bf43_17, bf43_18, bf43_19, bf43_20, bf43_25⟩ := obM I p_ad_0_0
      refine lv_aload_n hx hb dX12_readText_43 rfl (lv_at hl 0 rfl) ?_
      refine pg_get S Y ok_X12 9 (by decide) kf12_98 (v := .int y43_f9) p_ad_0_0 rfl dX12_readText_44 ?_
      refine lv_if_eq (tgt := 64) hx hb dX12_readText_47 (by decide) (fun c_90376 => ?_) (fun c_90376 => ?_)
      · have B_90377 : bn 0 0 y43_f9 := bn_w (bn_eq c_90376 (show bn 0 0 (0 : Int32) from bn_k (by decide))) (by decide)
        obtain ⟨g_90378, p_ad_3_0, o_90379⟩ := I.opi (k := 3) (j := 0) (by decide) rfl
        have p_ad_3_0 : pt L_43 f_43 (ad 3 0) (.inl (G.2 0, 2916, .inl g_90378)) := p_ad_3_0
        have o_90380 : TX g_90378 := o_90379.1
        have I := I.castS (sp' := spM (T3 PA) PI TX pa) (k := 3) (j := 0) (by decide) p_ad_3_0 (okE_a (g := g_90378) o_90380) pXC
        refine lv_iconst (v := 0) hx hb dX12_readText_64 (by decide) ?_
        exact prI (post := fun r L1 f1 => ∃ at92 : Int32, ∃ ps92 : Int32, ∃ tk2 : Int32, ∃ nu2 : Int32, ∃ wd2 : Int64, ∃ t02 : Int32, ∃ wr2 : Int32, ∃ so2 : Int32, ∃ pd2 : Int32, ∃ op92 : Int32, ∃ cg2 : Int32, ∃ iw2 : Int32, ∃ on92 : Int32, bn 0 7 r ∧ SH (spM (T3 PA) PI TX pa) nnM G ad L1 f1 ∧ pt L1 f1 (ad 0 0) (.inr (12, [.ref (ad 1 0), .ref (ad 2 0), .ref (ad 3 0), .ref (ad 4 0), .int td, .int fa, .int fp, .int at92, .int ps92, .int tk2, .int nu2, .long wd2, .int t02, .int wr2, .int so2, .ref (ad 5 0), .ref (ad 6 0), .int pd2, .int op92, .int cg2, .int iw2, .int on92, .ref (ad 7 0), .ref (ad 8 0), .ref (ad 9 0), .int is9, .ref (ad 10 0), .ref (ad 11 0), .ref (ad 12 0), .ref (ad 13 0), .int se, .ref (ad 14 0)]))) S Y rfl (by decide) (by decide) hA1 ⟨y43_f7, y43_f8, y43_f9, y43_f10, y43_f11, y43_f12, y43_f13, y43_f14, y43_f17, y43_f18, y43_f19, y43_f20, y43_f21, bn_w (show bn 0 0 (0 : Int32) from bn_k (by decide)) (by decide), I, p_ad_0_0⟩ dX12_readText_65
      · refine lv_aload_n hx hb dX12_readText_50 rfl (lv_at hl 0 rfl) ?_
        refine cVi (As := []) (rest := []) S Y (x_X12_clause (l := l) I p_ad_0_0 hR.2.1 hR.1 hR.2.2) cw_X12_clause km12_251 p_ad_0_0 ok_X12.1 rfl rfl ⟨Nat.le_of_ble_eq_true rfl, Nat.le_of_ble_eq_true rfl⟩ hl.1 rfl (Nat.le_of_ble_eq_true rfl) ⟨Nat.le_of_ble_eq_true rfl, Nat.le_of_ble_eq_true rfl⟩ dX12_readText_51 (fun r_90383 L_90381 f_90382 H locs hr_90383 Y => ?_)
        obtain ⟨v_90384, v_90385, v_90386, v_90387, v_90388, v_90389, v_90390, v_90391, v_90392, v_90393, v_90394, v_90395, er_90383, I, p_ad_0_0, eT_90396, eR_90397, eW_90398⟩ := hr_90383
        obtain ⟨bfc90398_4, bfc90398_7, bfc90398_8, bfc90398_12, bfc90398_13, bfc90398_17, bfc90398_18, bfc90398_19, bfc90398_20, bfc90398_25⟩ := obM I p_ad_0_0
        refine lv_istore_n (lv' := [(1, .int r_90383), (0, .ref (ad 0 0))]) hx hb dX12_readText_54 rfl hl (by decide) rfl (fun ls hl => ?_)
        refine lv_iload_n hx hb dX12_readText_55 rfl (lv_at hl 0 rfl) ?_
        refine lv_if_eq (tgt := 61) hx hb dX12_readText_56 (by decide) (fun c_90400 => ?_) (fun c_90400 => ?_)
        · have B_90401 : bn 0 0 r_90383 := bn_w (bn_eq c_90400 (show bn 0 0 (0 : Int32) from bn_k (by decide))) (by decide)
          refine lv_goto (tgt := 43) hx hb dX12_readText_61 (by decide) ?_
          obtain ⟨g_90403, p_ad_3_0, o_90404⟩ := I.opi (k := 3) (j := 0) (by decide) rfl
          have p_ad_3_0 : pt L_90381 f_90382 (ad 3 0) (.inl (G.2 0, 2916, .inl g_90403)) := p_ad_3_0
          have o_90405 : (TZ y43_f12 v_90389) g_90403 := (o_90404.2 c_90400)
          have I := I.castS (sp' := spM (T3 PA) PI (TZ y43_f12 v_90389) pa) (k := 3) (j := 0) (by decide) p_ad_3_0 (okE_a (g := g_90403) o_90405) pXC
          exact ih43 _ (by rw [← hm43]; exact (show (300 - v_90385.toInt).toNat < (300 - y43_f8.toInt).toNat from by have z9 := eR_90397 (show r_90383.toInt = 0 from by rw [c_90400]; rfl); have z6 := (bfc90398_8).2; omega)) v_90384 v_90385 v_90386 v_90387 y43_f12 v_90389 v_90390 v_90391 v_90392 v_90393 v_90394 v_90395 v_90388 _ _  _ _ _ I (bn_w bfc90398_7 (by decide)) (bn_w bfc90398_8 (by decide)) (bn_w bfc90398_12 (by decide)) (bn_w bfc90398_13 (by decide)) (bn_w bfc90398_17 (by decide)) (bn_w bfc90398_18 (by decide)) (bn_w bfc90398_19 (by decide)) (bn_w bfc90398_20 (by decide)) ⟨eT_90396, eW_90398 (show r_90383.toInt = 0 from by rw [c_90400]; rfl), hR.2.2⟩ p_ad_0_0 rfl Y (lv_sub hl [1] rfl)
        · have B_90402 : bn 1 7 r_90383 := bn_w (bn_nel c_90400 er_90383 (show bn 0 0 (0 : Int32) from bn_k (by decide))) (by decide)
          obtain ⟨g_90406, p_ad_3_0, o_90407⟩ := I.opi (k := 3) (j := 0) (by decide) rfl
          have p_ad_3_0 : pt L_90381 f_90382 (ad 3 0) (.inl (G.2 0, 2916, .inl g_90406)) := p_ad_3_0
          have o_90408 : TX g_90406 := o_90407.1
          have I := I.castS (sp' := spM (T3 PA) PI TX pa) (k := 3) (j := 0) (by decide) p_ad_3_0 (okE_a (g := g_90406) o_90408) pXC
          refine lv_iload_n hx hb dX12_readText_59 rfl (lv_at hl 0 rfl) ?_
          exact prI (post := fun r L1 f1 => ∃ at92 : Int32, ∃ ps92 : Int32, ∃ tk2 : Int32, ∃ nu2 : Int32, ∃ wd2 : Int64, ∃ t02 : Int32, ∃ wr2 : Int32, ∃ so2 : Int32, ∃ pd2 : Int32, ∃ op92 : Int32, ∃ cg2 : Int32, ∃ iw2 : Int32, ∃ on92 : Int32, bn 0 7 r ∧ SH (spM (T3 PA) PI TX pa) nnM G ad L1 f1 ∧ pt L1 f1 (ad 0 0) (.inr (12, [.ref (ad 1 0), .ref (ad 2 0), .ref (ad 3 0), .ref (ad 4 0), .int td, .int fa, .int fp, .int at92, .int ps92, .int tk2, .int nu2, .long wd2, .int t02, .int wr2, .int so2, .ref (ad 5 0), .ref (ad 6 0), .int pd2, .int op92, .int cg2, .int iw2, .int on92, .ref (ad 7 0), .ref (ad 8 0), .ref (ad 9 0), .int is9, .ref (ad 10 0), .ref (ad 11 0), .ref (ad 12 0), .ref (ad 13 0), .int se, .ref (ad 14 0)]))) S Y rfl (by decide) (by decide) hA1 ⟨v_90384, v_90385, v_90386, v_90387, v_90388, y43_f12, v_90389, v_90390, v_90391, v_90392, v_90393, v_90394, v_90395, bn_w B_90402 (by decide), I, p_ad_0_0⟩ dX12_readText_60
  refine lv_aload_n hx hb dX12_readText_0 rfl (lv_at hl 0 rfl) ?_
  refine lv_sipush (v := 729) hx hb dX12_readText_1 (by decide) ?_
  refine lv_aload_n hx hb dX12_readText_4 rfl (lv_at hl 0 rfl) ?_
  refine pg_get S Y ok_X12 0 (by decide) kf12_7 (v := .ref (ad 1 0)) p_ad_0_0 rfl dX12_readText_5 ?_
  refine lv_iconst (v := 1) hx hb dX12_readText_8 (by decide) ?_
  obtain ⟨g_90409, p_ad_1_0, o_90410⟩ := I.opi (k := 1) (j := 0) (by decide) rfl
  have p_ad_1_0 : pt L f (ad 1 0) (.inl (G.2 0, 10568, .inl g_90409)) := p_ad_1_0
  obtain ⟨v_90411, ev_90411⟩ : ∃ z, z = g_90409 (1 : Int32).toNatClampNeg := ⟨_, rfl⟩
  refine pg_iald S Y (v := v_90411) p_ad_1_0 (by unfold vp_in; decide) ev_90411.symm dX12_readText_9 ?_
  have B_90412 : bn 0 3 v_90411 := by rw [ev_90411]; exact o_90410.2
  refine lv_imul hx hb dX12_readText_10 ?_
  refine lv_topi (fun x_90413 ex_90413 => ?_)
  refine pg_put S Y ok_X12 12 (by decide) kf12_136 rfl (fs' := [.ref (ad 1 0), .ref (ad 2 0), .ref (ad 3 0), .ref (ad 4 0), .int td, .int fa, .int fp, .int at9, .int ps9, .int tk, .int nu, .long wd, .int x_90413, .int wr, .int so, .ref (ad 5 0), .ref (ad 6 0), .int pd, .int op9, .int cg, .int iw, .int on9, .ref (ad 7 0), .ref (ad 8 0), .ref (ad 9 0), .int is9, .ref (ad 10 0), .ref (ad 11 0), .ref (ad 12 0), .ref (ad 13 0), .int se, .ref (ad 14 0)]) (v := .int x_90413) p_ad_0_0 rfl rfl rfl (Nat.le_of_ble_eq_true rfl) dX12_readText_11 (fun f_90414 H locs ef_90414 Y => ?_)
  have p_ad_1_0 := p_ad_1_0.up ef_90414 (I.ne (k := 1) (j := 0) (k' := 0) (j' := 0) (by decide) (by decide) (Or.inl (by decide)))
  have p_ad_0_0 := p_ad_0_0.me ef_90414
  have I := I.up (k := 0) (j := 0) (by decide) ef_90414 (okE_o (okFs_c okV_r (okFs_c okV_r (okFs_c okV_r (okFs_c okV_r (okFs_c (okV_i bfe_4) (okFs_c (okV_i (bn_any _)) (okFs_c (okV_i (bn_any _)) (okFs_c (okV_i bfe_7) (okFs_c (okV_i bfe_8) (okFs_c (okV_i (bn_any _)) (okFs_c (okV_i (bn_any _)) (okFs_c okV_l (okFs_c (okV_i (bn_w (bn_eq ex_90413 (bn_mul (show bn 729 729 (729 : Int32) from bn_k (by decide)) B_90412 (by decide))) (by decide))) (okFs_c (okV_i bfe_13) (okFs_c (okV_i (bn_any _)) (okFs_c okV_r (okFs_c okV_r (okFs_c (okV_i bfe_17) (okFs_c (okV_i bfe_18) (okFs_c (okV_i bfe_19) (okFs_c (okV_i bfe_20) (okFs_c (okV_i (bn_any _)) (okFs_c okV_r (okFs_c okV_r (okFs_c okV_r (okFs_c (okV_i bfe_25) (okFs_c okV_r (okFs_c okV_r (okFs_c okV_r (okFs_c okV_r (okFs_c (okV_i (bn_any _)) (okFs_c okV_r okFs_n)))))))))))))))))))))))))))))))))
  refine lv_aload_n hx hb dX12_readText_14 rfl (lv_at hl 0 rfl) ?_
  refine pg_get S Y ok_X12 2 (by decide) kf12_16 (v := .ref (ad 3 0)) p_ad_0_0 rfl dX12_readText_15 ?_
  refine lv_aload_n hx hb dX12_readText_18 rfl (lv_at hl 0 rfl) ?_
  refine pg_get S Y ok_X12 12 (by decide) kf12_136 (v := .int x_90413) p_ad_0_0 rfl dX12_readText_19 ?_
  refine lv_iconst (v := 0) hx hb dX12_readText_22 (by decide) ?_
  obtain ⟨g_90415, p_ad_3_0, o_90416⟩ := I.opi (k := 3) (j := 0) (by decide) rfl
  have p_ad_3_0 : pt L f_90414 (ad 3 0) (.inl (G.2 0, 2916, .inl g_90415)) := p_ad_3_0
  refine pg_iast S Y p_ad_3_0 (vp_bn (bn_eq ex_90413 (bn_mul (show bn 729 729 (729 : Int32) from bn_k (by decide)) B_90412 (by decide))) (by decide)) dX12_readText_23 (fun f_90418 H locs ef_90418 Y => ?_)
  obtain ⟨g_90417, eg_90417⟩ : ∃ z, z = upd (g_90415) (x_90413 : Int32).toNatClampNeg 0 := ⟨_, rfl⟩
  rw [← eg_90417] at ef_90418
  have p_ad_0_0 := p_ad_0_0.up ef_90418 (I.ne (k := 0) (j := 0) (k' := 3) (j' := 0) (by decide) (by decide) (Or.inl (by decide)))
  have p_ad_1_0 := p_ad_1_0.up ef_90418 (I.ne (k := 1) (j := 0) (k' := 3) (j' := 0) (by decide) (by decide) (Or.inl (by decide)))
  have p_ad_3_0 := p_ad_3_0.me ef_90418
  have htt : TT x_90413 := ⟨v_90411.toInt.toNat, by have z8 := B_90412; have z7 := z8.1; have z6 := z8.2; exact ⟨by omega, by have z9 := (la_mul ex_90413 (show (729 : Int32).toInt = 729 from rfl) (rfl : v_90411.toInt = v_90411.toInt) (show bn 729 729 (729 : Int32) from bn_k (by decide)) B_90412 (by decide)); omega⟩⟩
  have o_90419 : (TZ x_90413 0) g_90417 := (TZ_0 (show TX g_90415 from by rw [show g_90415 = g0 from o_90416]; exact hX) htt eg_90417)
  have I := I.upS (sp' := spM (T3 PA) PI (TZ x_90413 0) pa) (k := 3) (j := 0) (by decide) ef_90418 (okE_a (g := g_90417) o_90419) pXC
  refine lv_aload_n hx hb dX12_readText_24 rfl (lv_at hl 0 rfl) ?_
  refine lv_iconst (v := 0) hx hb dX12_readText_25 (by decide) ?_
  refine pg_put S Y ok_X12 13 (by decide) kf12_139 rfl (fs' := [.ref (ad 1 0), .ref (ad 2 0), .ref (ad 3 0), .ref (ad 4 0), .int td, .int fa, .int fp, .int at9, .int ps9, .int tk, .int nu, .long wd, .int x_90413, .int 0, .int so, .ref (ad 5 0), .ref (ad 6 0), .int pd, .int op9, .int cg, .int iw, .int on9, .ref (ad 7 0), .ref (ad 8 0), .ref (ad 9 0), .int is9, .ref (ad 10 0), .ref (ad 11 0), .ref (ad 12 0), .ref (ad 13 0), .int se, .ref (ad 14 0)]) (v := .int 0) p_ad_0_0 rfl rfl rfl (Nat.le_of_ble_eq_true rfl) dX12_readText_26 (fun f_90420 H locs ef_90420 Y => ?_)
  have p_ad_1_0 := p_ad_1_0.up ef_90420 (I.ne (k := 1) (j := 0) (k' := 0) (j' := 0) (by decide) (by decide) (Or.inl (by decide)))
  have p_ad_3_0 := p_ad_3_0.up ef_90420 (I.ne (k := 3) (j := 0) (k' := 0) (j' := 0) (by decide) (by decide) (Or.inl (by decide)))
  have p_ad_0_0 := p_ad_0_0.me ef_90420
  have I := I.up (k := 0) (j := 0) (by decide) ef_90420 (okE_o (okFs_c okV_r (okFs_c okV_r (okFs_c okV_r (okFs_c okV_r (okFs_c (okV_i bfe_4) (okFs_c (okV_i (bn_any _)) (okFs_c (okV_i (bn_any _)) (okFs_c (okV_i bfe_7) (okFs_c (okV_i bfe_8) (okFs_c (okV_i (bn_any _)) (okFs_c (okV_i (bn_any _)) (okFs_c okV_l (okFs_c (okV_i (bn_w (bn_eq ex_90413 (bn_mul (show bn 729 729 (729 : Int32) from bn_k (by decide)) B_90412 (by decide))) (by decide))) (okFs_c (okV_i (bn_w (show bn 0 0 (0 : Int32) from bn_k (by decide)) (by decide))) (okFs_c (okV_i (bn_any _)) (okFs_c okV_r (okFs_c okV_r (okFs_c (okV_i bfe_17) (okFs_c (okV_i bfe_18) (okFs_c (okV_i bfe_19) (okFs_c (okV_i bfe_20) (okFs_c (okV_i (bn_any _)) (okFs_c okV_r (okFs_c okV_r (okFs_c okV_r (okFs_c (okV_i bfe_25) (okFs_c okV_r (okFs_c okV_r (okFs_c okV_r (okFs_c okV_r (okFs_c (okV_i (bn_any _)) (okFs_c okV_r okFs_n)))))))))))))))))))))))))))))))))
  refine lv_aload_n hx hb dX12_readText_29 rfl (lv_at hl 0 rfl) ?_
  refine lv_iconst (v := 0) hx hb dX12_readText_30 (by decide) ?_
  refine pg_put S Y ok_X12 21 (by decide) kf12_241 rfl (fs' := [.ref (ad 1 0), .ref (ad 2 0), .ref (ad 3 0), .ref (ad 4 0), .int td, .int fa, .int fp, .int at9, .int ps9, .int tk, .int nu, .long wd, .int x_90413, .int 0, .int so, .ref (ad 5 0), .ref (ad 6 0), .int pd, .int op9, .int cg, .int iw, .int 0, .ref (ad 7 0), .ref (ad 8 0), .ref (ad 9 0), .int is9, .ref (ad 10 0), .ref (ad 11 0), .ref (ad 12 0), .ref (ad 13 0), .int se, .ref (ad 14 0)]) (v := .int 0) p_ad_0_0 rfl rfl rfl (Nat.le_of_ble_eq_true rfl) dX12_readText_31 (fun f_90421 H locs ef_90421 Y => ?_)
  have p_ad_1_0 := p_ad_1_0.up ef_90421 (I.ne (k := 1) (j := 0) (k' := 0) (j' := 0) (by decide) (by decide) (Or.inl (by decide)))
  have p_ad_3_0 := p_ad_3_0.up ef_90421 (I.ne (k := 3) (j := 0) (k' := 0) (j' := 0) (by decide) (by decide) (Or.inl (by decide)))
  have p_ad_0_0 := p_ad_0_0.me ef_90421
  have I := I.up (k := 0) (j := 0) (by decide) ef_90421 (okE_o (okFs_c okV_r (okFs_c okV_r (okFs_c okV_r (okFs_c okV_r (okFs_c (okV_i bfe_4) (okFs_c (okV_i (bn_any _)) (okFs_c (okV_i (bn_any _)) (okFs_c (okV_i bfe_7) (okFs_c (okV_i bfe_8) (okFs_c (okV_i (bn_any _)) (okFs_c (okV_i (bn_any _)) (okFs_c okV_l (okFs_c (okV_i (bn_w (bn_eq ex_90413 (bn_mul (show bn 729 729 (729 : Int32) from bn_k (by decide)) B_90412 (by decide))) (by decide))) (okFs_c (okV_i (bn_w (show bn 0 0 (0 : Int32) from bn_k (by decide)) (by decide))) (okFs_c (okV_i (bn_any _)) (okFs_c okV_r (okFs_c okV_r (okFs_c (okV_i bfe_17) (okFs_c (okV_i bfe_18) (okFs_c (okV_i bfe_19) (okFs_c (okV_i bfe_20) (okFs_c (okV_i (bn_w (show bn 0 0 (0 : Int32) from bn_k (by decide)) (by decide))) (okFs_c okV_r (okFs_c okV_r (okFs_c okV_r (okFs_c (okV_i bfe_25) (okFs_c okV_r (okFs_c okV_r (okFs_c okV_r (okFs_c okV_r (okFs_c (okV_i (bn_any _)) (okFs_c okV_r okFs_n)))))))))))))))))))))))))))))))))
  refine lv_aload_n hx hb dX12_readText_34 rfl (lv_at hl 0 rfl) ?_
  refine lv_iconst (v := 0) hx hb dX12_readText_35 (by decide) ?_
  refine pg_put S Y ok_X12 7 (by decide) kf12_88 rfl (fs' := [.ref (ad 1 0), .ref (ad 2 0), .ref (ad 3 0), .ref (ad 4 0), .int td, .int fa, .int fp, .int 0, .int ps9, .int tk, .int nu, .long wd, .int x_90413, .int 0, .int so, .ref (ad 5 0), .ref (ad 6 0), .int pd, .int op9, .int cg, .int iw, .int 0, .ref (ad 7 0), .ref (ad 8 0), .ref (ad 9 0), .int is9, .ref (ad 10 0), .ref (ad 11 0), .ref (ad 12 0), .ref (ad 13 0), .int se, .ref (ad 14 0)]) (v := .int 0) p_ad_0_0 rfl rfl rfl (Nat.le_of_ble_eq_true rfl) dX12_readText_36 (fun f_90422 H locs ef_90422 Y => ?_)
  have p_ad_1_0 := p_ad_1_0.up ef_90422 (I.ne (k := 1) (j := 0) (k' := 0) (j' := 0) (by decide) (by decide) (Or.inl (by decide)))
  have p_ad_3_0 := p_ad_3_0.up ef_90422 (I.ne (k := 3) (j := 0) (k' := 0) (j' := 0) (by decide) (by decide) (Or.inl (by decide)))
  have p_ad_0_0 := p_ad_0_0.me ef_90422
  have I := I.up (k := 0) (j := 0) (by decide) ef_90422 (okE_o (okFs_c okV_r (okFs_c okV_r (okFs_c okV_r (okFs_c okV_r (okFs_c (okV_i bfe_4) (okFs_c (okV_i (bn_any _)) (okFs_c (okV_i (bn_any _)) (okFs_c (okV_i (bn_w (show bn 0 0 (0 : Int32) from bn_k (by decide)) (by decide))) (okFs_c (okV_i bfe_8) (okFs_c (okV_i (bn_any _)) (okFs_c (okV_i (bn_any _)) (okFs_c okV_l (okFs_c (okV_i (bn_w (bn_eq ex_90413 (bn_mul (show bn 729 729 (729 : Int32) from bn_k (by decide)) B_90412 (by decide))) (by decide))) (okFs_c (okV_i (bn_w (show bn 0 0 (0 : Int32) from bn_k (by decide)) (by decide))) (okFs_c (okV_i (bn_any _)) (okFs_c okV_r (okFs_c okV_r (okFs_c (okV_i bfe_17) (okFs_c (okV_i bfe_18) (okFs_c (okV_i bfe_19) (okFs_c (okV_i bfe_20) (okFs_c (okV_i (bn_w (show bn 0 0 (0 : Int32) from bn_k (by decide)) (by decide))) (okFs_c okV_r (okFs_c okV_r (okFs_c okV_r (okFs_c (okV_i bfe_25) (okFs_c okV_r (okFs_c okV_r (okFs_c okV_r (okFs_c okV_r (okFs_c (okV_i (bn_any _)) (okFs_c okV_r okFs_n)))))))))))))))))))))))))))))))))
  refine lv_aload_n hx hb dX12_readText_39 rfl (lv_at hl 0 rfl) ?_
  obtain ⟨g_90423, p_ad_4_0, o_90424⟩ := I.opi (k := 4) (j := 0) (by decide) rfl
  have p_ad_4_0 : pt L f_90422 (ad 4 0) (.inl (G.2 0, 300, .inl g_90423)) := p_ad_4_0
  obtain ⟨g_90425, p_ad_5_0, o_90426⟩ := I.opi (k := 5) (j := 0) (by decide) rfl
  have p_ad_5_0 : pt L f_90422 (ad 5 0) (.inl (G.2 0, 160, .inl g_90425)) := p_ad_5_0
  obtain ⟨g_90427, p_ad_6_0, o_90428⟩ := I.opi (k := 6) (j := 0) (by decide) rfl
  have p_ad_6_0 : pt L f_90422 (ad 6 0) (.inl (G.2 0, 9, .inl g_90427)) := p_ad_6_0
  refine cVv (As := []) (rest := []) S Y (x_X12_nextToken (l := l) I p_ad_0_0 p_ad_4_0 p_ad_5_0 p_ad_6_0) cw_X12_nextToken km12_166 p_ad_0_0 ok_X12.1 rfl rfl ⟨Nat.le_of_ble_eq_true rfl, Nat.le_of_ble_eq_true rfl⟩ hl.1 rfl (Nat.le_of_ble_eq_true rfl) ⟨Nat.le_of_ble_eq_true rfl, Nat.le_of_ble_eq_true rfl⟩ dX12_readText_40 (fun L_90429 f_90430 H locs hr_90431 Y => ?_)
  obtain ⟨v_90432, v_90433, v_90434, v_90435, v_90436, I, p_ad_0_0, p_ad_4_0, p_ad_5_0, p_ad_6_0, eT_90437, eP_90438⟩ := hr_90431
  obtain ⟨bfc90438_4, bfc90438_7, bfc90438_8, bfc90438_12, bfc90438_13, bfc90438_17, bfc90438_18, bfc90438_19, bfc90438_20, bfc90438_25⟩ := obM I p_ad_0_0
  exact J_43 _ v_90432 v_90433 v_90434 v_90435 x_90413 0 so pd op9 cg iw 0 v_90436 _ _  _ _ _ I (bn_w bfc90438_7 (by decide)) (bn_w bfc90438_8 (by decide)) (bn_w bfc90438_12 (by decide)) (bn_w (show bn 0 0 (0 : Int32) from bn_k (by decide)) (by decide)) (bn_w bfc90438_17 (by decide)) (bn_w bfc90438_18 (by decide)) (bn_w bfc90438_19 (by decide)) (bn_w bfc90438_20 (by decide)) ⟨eT_90437, (bfc90438_8).1, htt⟩ p_ad_0_0 rfl Y (lv_sub hl [0] rfl)
set_option maxHeartbeats 4000000 in
set_option maxRecDepth 100000 in
theorem x_X12_text {l : Launch} {G : GG}  {L : List Nat} {f : HF} {ad : Nat → Nat → Nat} {w : WW} {pi : (Nat → Int32) → Prop} {g0 : Nat → Int32} (I : SH (spM (IA 0 0 14 9999 w) pi (EQ g0) LDa) nnM G ad L f) (hB : BBp 0 0 14 9999 w) (hX : TX g0) : PMi l yX12_text cX12_text 1 .int 11 0 0 G [.ref (ad 0 0)] L f (fun r L1 f1 => ∃ g2 : Nat → Int32, SH (spM (IA 0 0 14 9999 w) pi (EQ g2) LDa) nnM G ad L1 f1 ∧ TX g2) := by
  refine PMi.of (post := fun r L1 f1 => ∃ g2 : Nat → Int32, SH (spM (IA 0 0 14 9999 w) pi (EQ g2) LDa) nnM G ad L1 f1 ∧ TX g2) (own := RX12) (by decide) rfl (Nat.le_of_ble_eq_true rfl) (fun sz p e s m args below meth c A ls hA1 hname S Y hl => ?_)
  have hx := S.hx
  have hb := S.hb
  have hl : lv_has ls 1 [(0, .ref (ad 0 0))] := hl
  refine lv_aload_n hx hb dX12_text_0 rfl (lv_at hl 0 rfl) ?_
  obtain ⟨v_90614, v_90616, v_90618, v_90620, v_90622, v_90624, v_90626, v_90628, v_90629, v_90631, v_90633, v_90635, v_90637, v_90639, v_90641, v_90643, v_90645, v_90647, p_ad_0_0, b_90615, b_90617, b_90619, b_90621, b_90623, b_90625, b_90627, b_90630, b_90632, b_90634, b_90636, b_90638, b_90640, b_90642, b_90644, b_90646, b_90648⟩ := opnM_0 (j := 0) I (by decide)
  have p_ad_0_0 : pt L f (ad 0 0) (.inr (12, [.ref (ad 1 0), .ref (ad 2 0), .ref (ad 3 0), .ref (ad 4 0), .int v_90614, .int v_90616, .int v_90618, .int v_90620, .int v_90622, .int v_90624, .int v_90626, .long v_90628, .int v_90629, .int v_90631, .int v_90633, .ref (ad 5 0), .ref (ad 6 0), .int v_90635, .int v_90637, .int v_90639, .int v_90641, .int v_90643, .ref (ad 7 0), .ref (ad 8 0), .ref (ad 9 0), .int v_90645, .ref (ad 10 0), .ref (ad 11 0), .ref (ad 12 0), .ref (ad 13 0), .int v_90647, .ref (ad 14 0)])) := p_ad_0_0
  refine pg_get S Y ok_X12 0 (by decide) kf12_7 (v := .ref (ad 1 0)) p_ad_0_0 rfl dX12_text_1 ?_
  refine lv_iconst (v := 1) hx hb dX12_text_4 (by decide) ?_
  obtain ⟨g_90649, p_ad_1_0, o_90650⟩ := I.opi (k := 1) (j := 0) (by decide) rfl
  have p_ad_1_0 : pt L f (ad 1 0) (.inl (G.2 0, 10568, .inl g_90649)) := p_ad_1_0
  obtain ⟨v_90651, ev_90651⟩ : ∃ z, z = g_90649 (1 : Int32).toNatClampNeg := ⟨_, rfl⟩
  refine pg_iald S Y (v := v_90651) p_ad_1_0 (by unfold vp_in; decide) ev_90651.symm dX12_text_5 ?_
  have bv_90651 : bn 0 4 v_90651 := bn_eq ev_90651 (IA_1 o_90650)
  refine lv_iconst (v := 4) hx hb dX12_text_6 (by decide) ?_
  refine lv_icmp_ne (tgt := 12) hx hb dX12_text_7 (by decide) (fun c_90652 => ?_) (fun c_90652 => ?_)
  · have B_90653 : bn 0 3 v_90651 := bn_w (bn_neu c_90652 bv_90651 (show bn 4 4 (4 : Int32) from bn_k (by decide))) (by decide)
    have o_90655 : (T3 (IA 0 0 14 9999 w)) g_90649 := ⟨o_90650, show bn 0 3 (g_90649 1) from by have z9 : v_90651 = g_90649 1 := ev_90651; rw [← z9]; exact bn_w B_90653 (by decide)⟩
    have I := I.castS (sp' := spM (T3 (IA 0 0 14 9999 w)) pi (EQ g0) LDa) (k := 1) (j := 0) (by decide) p_ad_1_0 (okE_a (g := g_90649) o_90655) pAC
    refine lv_aload_n hx hb dX12_text_12 rfl (lv_at hl 0 rfl) ?_
    refine lv_aload_n hx hb dX12_text_13 rfl (lv_at hl 0 rfl) ?_
    refine cVi (As := []) (rest := [.ref (ad 0 0)]) S Y (x_X12_readText (l := l) I hX p_ad_0_0) cw_X12_readText km12_254 p_ad_0_0 ok_X12.1 rfl rfl ⟨Nat.le_of_ble_eq_true rfl, Nat.le_of_ble_eq_true rfl⟩ hl.1 rfl (Nat.le_of_ble_eq_true rfl) ⟨Nat.le_of_ble_eq_true rfl, Nat.le_of_ble_eq_true rfl⟩ dX12_text_14 (fun r_90658 L_90656 f_90657 H locs hr_90658 Y => ?_)
    obtain ⟨v_90659, v_90660, v_90661, v_90662, v_90663, v_90664, v_90665, v_90666, v_90667, v_90668, v_90669, v_90670, v_90671, er_90658, I, p_ad_0_0⟩ := hr_90658
    obtain ⟨bfc90671_4, bfc90671_7, bfc90671_8, bfc90671_12, bfc90671_13, bfc90671_17, bfc90671_18, bfc90671_19, bfc90671_20, bfc90671_25⟩ := obM I p_ad_0_0
    refine pg_put S Y ok_X12 5 (by decide) kf12_22 rfl (fs' := [.ref (ad 1 0), .ref (ad 2 0), .ref (ad 3 0), .ref (ad 4 0), .int v_90614, .int r_90658, .int v_90618, .int v_90659, .int v_90660, .int v_90661, .int v_90662, .long v_90663, .int v_90664, .int v_90665, .int v_90666, .ref (ad 5 0), .ref (ad 6 0), .int v_90667, .int v_90668, .int v_90669, .int v_90670, .int v_90671, .ref (ad 7 0), .ref (ad 8 0), .ref (ad 9 0), .int v_90645, .ref (ad 10 0), .ref (ad 11 0), .ref (ad 12 0), .ref (ad 13 0), .int v_90647, .ref (ad 14 0)]) (v := .int r_90658) p_ad_0_0 rfl rfl rfl (Nat.le_of_ble_eq_true rfl) dX12_text_17 (fun f_90673 H locs ef_90673 Y => ?_)
    have p_ad_0_0 := p_ad_0_0.me ef_90673
    have I := I.up (k := 0) (j := 0) (by decide) ef_90673 (okE_o (okFs_c okV_r (okFs_c okV_r (okFs_c okV_r (okFs_c okV_r (okFs_c (okV_i bfc90671_4) (okFs_c (okV_i (bn_w er_90658 (by decide))) (okFs_c (okV_i (bn_any _)) (okFs_c (okV_i bfc90671_7) (okFs_c (okV_i bfc90671_8) (okFs_c (okV_i (bn_any _)) (okFs_c (okV_i (bn_any _)) (okFs_c okV_l (okFs_c (okV_i bfc90671_12) (okFs_c (okV_i bfc90671_13) (okFs_c (okV_i (bn_any _)) (okFs_c okV_r (okFs_c okV_r (okFs_c (okV_i bfc90671_17) (okFs_c (okV_i bfc90671_18) (okFs_c (okV_i bfc90671_19) (okFs_c (okV_i bfc90671_20) (okFs_c (okV_i (bn_any _)) (okFs_c okV_r (okFs_c okV_r (okFs_c okV_r (okFs_c (okV_i bfc90671_25) (okFs_c okV_r (okFs_c okV_r (okFs_c okV_r (okFs_c okV_r (okFs_c (okV_i (bn_any _)) (okFs_c okV_r okFs_n)))))))))))))))))))))))))))))))))
    refine lv_aload_n hx hb dX12_text_20 rfl (lv_at hl 0 rfl) ?_
    refine lv_aload_n hx hb dX12_text_21 rfl (lv_at hl 0 rfl) ?_
    refine pg_get S Y ok_X12 5 (by decide) kf12_22 (v := .int r_90658) p_ad_0_0 rfl dX12_text_22 ?_
    refine lv_if_ne (tgt := 32) hx hb dX12_text_25 (by decide) (fun c_90674 => ?_) (fun c_90674 => ?_)
    · have B_90675 : bn 1 7 r_90658 := bn_w (bn_nel c_90674 er_90658 (show bn 0 0 (0 : Int32) from bn_k (by decide))) (by decide)
      refine lv_aload_n hx hb dX12_text_32 rfl (lv_at hl 0 rfl) ?_
      refine pg_get S Y ok_X12 8 (by decide) kf12_95 (v := .int v_90660) p_ad_0_0 rfl dX12_text_33 ?_
      refine pg_put S Y ok_X12 6 (by decide) kf12_26 rfl (fs' := [.ref (ad 1 0), .ref (ad 2 0), .ref (ad 3 0), .ref (ad 4 0), .int v_90614, .int r_90658, .int v_90660, .int v_90659, .int v_90660, .int v_90661, .int v_90662, .long v_90663, .int v_90664, .int v_90665, .int v_90666, .ref (ad 5 0), .ref (ad 6 0), .int v_90667, .int v_90668, .int v_90669, .int v_90670, .int v_90671, .ref (ad 7 0), .ref (ad 8 0), .ref (ad 9 0), .int v_90645, .ref (ad 10 0), .ref (ad 11 0), .ref (ad 12 0), .ref (ad 13 0), .int v_90647, .ref (ad 14 0)]) (v := .int v_90660) p_ad_0_0 rfl rfl rfl (Nat.le_of_ble_eq_true rfl) dX12_text_36 (fun f_90677 H locs ef_90677 Y => ?_)
      have p_ad_0_0 := p_ad_0_0.me ef_90677
      have I := I.up (k := 0) (j := 0) (by decide) ef_90677 (okE_o (okFs_c okV_r (okFs_c okV_r (okFs_c okV_r (okFs_c okV_r (okFs_c (okV_i bfc90671_4) (okFs_c (okV_i (bn_w er_90658 (by decide))) (okFs_c (okV_i (bn_w bfc90671_8 (by decide))) (okFs_c (okV_i bfc90671_7) (okFs_c (okV_i bfc90671_8) (okFs_c (okV_i (bn_any _)) (okFs_c (okV_i (bn_any _)) (okFs_c okV_l (okFs_c (okV_i bfc90671_12) (okFs_c (okV_i bfc90671_13) (okFs_c (okV_i (bn_any _)) (okFs_c okV_r (okFs_c okV_r (okFs_c (okV_i bfc90671_17) (okFs_c (okV_i bfc90671_18) (okFs_c (okV_i bfc90671_19) (okFs_c (okV_i bfc90671_20) (okFs_c (okV_i (bn_any _)) (okFs_c okV_r (okFs_c okV_r (okFs_c okV_r (okFs_c (okV_i bfc90671_25) (okFs_c okV_r (okFs_c okV_r (okFs_c okV_r (okFs_c okV_r (okFs_c (okV_i (bn_any _)) (okFs_c okV_r okFs_n)))))))))))))))))))))))))))))))))
      refine lv_aload_n hx hb dX12_text_39 rfl (lv_at hl 0 rfl) ?_
      refine lv_iconst (v := 0) hx hb dX12_text_40 (by decide) ?_
      refine pg_put S Y ok_X12 4 (by decide) kf12_81 rfl (fs' := [.ref (ad 1 0), .ref (ad 2 0), .ref (ad 3 0), .ref (ad 4 0), .int 0, .int r_90658, .int v_90660, .int v_90659, .int v_90660, .int v_90661, .int v_90662, .long v_90663, .int v_90664, .int v_90665, .int v_90666, .ref (ad 5 0), .ref (ad 6 0), .int v_90667, .int v_90668, .int v_90669, .int v_90670, .int v_90671, .ref (ad 7 0), .ref (ad 8 0), .ref (ad 9 0), .int v_90645, .ref (ad 10 0), .ref (ad 11 0), .ref (ad 12 0), .ref (ad 13 0), .int v_90647, .ref (ad 14 0)]) (v := .int 0) p_ad_0_0 rfl rfl rfl (Nat.le_of_ble_eq_true rfl) dX12_text_41 (fun f_90678 H locs ef_90678 Y => ?_)
      have p_ad_0_0 := p_ad_0_0.me ef_90678
      have I := I.up (k := 0) (j := 0) (by decide) ef_90678 (okE_o (okFs_c okV_r (okFs_c okV_r (okFs_c okV_r (okFs_c okV_r (okFs_c (okV_i (bn_w (show bn 0 0 (0 : Int32) from bn_k (by decide)) (by decide))) (okFs_c (okV_i (bn_w er_90658 (by decide))) (okFs_c (okV_i (bn_w bfc90671_8 (by decide))) (okFs_c (okV_i bfc90671_7) (okFs_c (okV_i bfc90671_8) (okFs_c (okV_i (bn_any _)) (okFs_c (okV_i (bn_any _)) (okFs_c okV_l (okFs_c (okV_i bfc90671_12) (okFs_c (okV_i bfc90671_13) (okFs_c (okV_i (bn_any _)) (okFs_c okV_r (okFs_c okV_r (okFs_c (okV_i bfc90671_17) (okFs_c (okV_i bfc90671_18) (okFs_c (okV_i bfc90671_19) (okFs_c (okV_i bfc90671_20) (okFs_c (okV_i (bn_any _)) (okFs_c okV_r (okFs_c okV_r (okFs_c okV_r (okFs_c (okV_i bfc90671_25) (okFs_c okV_r (okFs_c okV_r (okFs_c okV_r (okFs_c okV_r (okFs_c (okV_i (bn_any _)) (okFs_c okV_r okFs_n)))))))))))))))))))))))))))))))))
      refine lv_aload_n hx hb dX12_text_44 rfl (lv_at hl 0 rfl) ?_
      refine pg_get S Y ok_X12 5 (by decide) kf12_22 (v := .int r_90658) p_ad_0_0 rfl dX12_text_45 ?_
      refine lv_if_eq (tgt := 53) hx hb dX12_text_48 (by decide) (fun h => absurd h c_90674) (fun _ => ?_)
      obtain ⟨g_90679, p_ad_1_0, o_90680⟩ := I.opi (k := 1) (j := 0) (by decide) rfl
      have p_ad_1_0 : pt L_90656 f_90678 (ad 1 0) (.inl (G.2 0, 10568, .inl g_90679)) := p_ad_1_0
      have o_90681 : (IA 0 0 14 9999 w) g_90679 := o_90680.1
      have I := I.castS (sp' := spM (IA 0 0 14 9999 w) pi TX LDa) (k := 1) (j := 0) (by decide) p_ad_1_0 (okE_a (g := g_90679) o_90681) pAC
      obtain ⟨g_90682, p_ad_3_0, o_90683⟩ := I.opi (k := 3) (j := 0) (by decide) rfl
      have p_ad_3_0 : pt L_90656 f_90678 (ad 3 0) (.inl (G.2 0, 2916, .inl g_90682)) := p_ad_3_0
      have o_90684 : (EQ g_90682) g_90682 := rfl
      have I := I.castS (sp' := spM (IA 0 0 14 9999 w) pi (EQ g_90682) LDa) (k := 3) (j := 0) (by decide) p_ad_3_0 (okE_a (g := g_90682) o_90684) pXC
      refine lv_iconst (v := (-1)) hx hb dX12_text_51 (by decide) ?_
      exact prI (post := fun r L1 f1 => ∃ g2 : Nat → Int32, SH (spM (IA 0 0 14 9999 w) pi (EQ g2) LDa) nnM G ad L1 f1 ∧ TX g2) S Y rfl (by decide) (by decide) hA1 ⟨g_90682, I, o_90683⟩ dX12_text_52
    · have B_90676 : bn 0 0 r_90658 := bn_w (bn_eq c_90674 (show bn 0 0 (0 : Int32) from bn_k (by decide))) (by decide)
      refine lv_iconst (v := (-1)) hx hb dX12_text_28 (by decide) ?_
      refine lv_goto (tgt := 36) hx hb dX12_text_29 (by decide) ?_
      refine pg_put S Y ok_X12 6 (by decide) kf12_26 rfl (fs' := [.ref (ad 1 0), .ref (ad 2 0), .ref (ad 3 0), .ref (ad 4 0), .int v_90614, .int r_90658, .int (-1), .int v_90659, .int v_90660, .int v_90661, .int v_90662, .long v_90663, .int v_90664, .int v_90665, .int v_90666, .ref (ad 5 0), .ref (ad 6 0), .int v_90667, .int v_90668, .int v_90669, .int v_90670, .int v_90671, .ref (ad 7 0), .ref (ad 8 0), .ref (ad 9 0), .int v_90645, .ref (ad 10 0), .ref (ad 11 0), .ref (ad 12 0), .ref (ad 13 0), .int v_90647, .ref (ad 14 0)]) (v := .int (-1)) p_ad_0_0 rfl rfl rfl (Nat.le_of_ble_eq_true rfl) dX12_text_36 (fun f_90685 H locs ef_90685 Y => ?_)
      have p_ad_0_0 := p_ad_0_0.me ef_90685
      have I := I.up (k := 0) (j := 0) (by decide) ef_90685 (okE_o (okFs_c okV_r (okFs_c okV_r (okFs_c okV_r (okFs_c okV_r (okFs_c (okV_i bfc90671_4) (okFs_c (okV_i (bn_w er_90658 (by decide))) (okFs_c (okV_i (bn_w (show bn (-1) (-1) ((-1) : Int32) from bn_k (by decide)) (by decide))) (okFs_c (okV_i bfc90671_7) (okFs_c (okV_i bfc90671_8) (okFs_c (okV_i (bn_any _)) (okFs_c (okV_i (bn_any _)) (okFs_c okV_l (okFs_c (okV_i bfc90671_12) (okFs_c (okV_i bfc90671_13) (okFs_c (okV_i (bn_any _)) (okFs_c okV_r (okFs_c okV_r (okFs_c (okV_i bfc90671_17) (okFs_c (okV_i bfc90671_18) (okFs_c (okV_i bfc90671_19) (okFs_c (okV_i bfc90671_20) (okFs_c (okV_i (bn_any _)) (okFs_c okV_r (okFs_c okV_r (okFs_c okV_r (okFs_c (okV_i bfc90671_25) (okFs_c okV_r (okFs_c okV_r (okFs_c okV_r (okFs_c okV_r (okFs_c (okV_i (bn_any _)) (okFs_c okV_r okFs_n)))))))))))))))))))))))))))))))))
      refine lv_aload_n hx hb dX12_text_39 rfl (lv_at hl 0 rfl) ?_
      refine lv_iconst (v := 0) hx hb dX12_text_40 (by decide) ?_
      refine pg_put S Y ok_X12 4 (by decide) kf12_81 rfl (fs' := [.ref (ad 1 0), .ref (ad 2 0), .ref (ad 3 0), .ref (ad 4 0), .int 0, .int r_90658, .int (-1), .int v_90659, .int v_90660, .int v_90661, .int v_90662, .long v_90663, .int v_90664, .int v_90665, .int v_90666, .ref (ad 5 0), .ref (ad 6 0), .int v_90667, .int v_90668, .int v_90669, .int v_90670, .int v_90671, .ref (ad 7 0), .ref (ad 8 0), .ref (ad 9 0), .int v_90645, .ref (ad 10 0), .ref (ad 11 0), .ref (ad 12 0), .ref (ad 13 0), .int v_90647, .ref (ad 14 0)]) (v := .int 0) p_ad_0_0 rfl rfl rfl (Nat.le_of_ble_eq_true rfl) dX12_text_41 (fun f_90686 H locs ef_90686 Y => ?_)
      have p_ad_0_0 := p_ad_0_0.me ef_90686
      have I := I.up (k := 0) (j := 0) (by decide) ef_90686 (okE_o (okFs_c okV_r (okFs_c okV_r (okFs_c okV_r (okFs_c okV_r (okFs_c (okV_i (bn_w (show bn 0 0 (0 : Int32) from bn_k (by decide)) (by decide))) (okFs_c (okV_i (bn_w er_90658 (by decide))) (okFs_c (okV_i (bn_w (show bn (-1) (-1) ((-1) : Int32) from bn_k (by decide)) (by decide))) (okFs_c (okV_i bfc90671_7) (okFs_c (okV_i bfc90671_8) (okFs_c (okV_i (bn_any _)) (okFs_c (okV_i (bn_any _)) (okFs_c okV_l (okFs_c (okV_i bfc90671_12) (okFs_c (okV_i bfc90671_13) (okFs_c (okV_i (bn_any _)) (okFs_c okV_r (okFs_c okV_r (okFs_c (okV_i bfc90671_17) (okFs_c (okV_i bfc90671_18) (okFs_c (okV_i bfc90671_19) (okFs_c (okV_i bfc90671_20) (okFs_c (okV_i (bn_any _)) (okFs_c okV_r (okFs_c okV_r (okFs_c okV_r (okFs_c (okV_i bfc90671_25) (okFs_c okV_r (okFs_c okV_r (okFs_c okV_r (okFs_c okV_r (okFs_c (okV_i (bn_any _)) (okFs_c okV_r okFs_n)))))))))))))))))))))))))))))))))
      refine lv_aload_n hx hb dX12_text_44 rfl (lv_at hl 0 rfl) ?_
      refine pg_get S Y ok_X12 5 (by decide) kf12_22 (v := .int r_90658) p_ad_0_0 rfl dX12_text_45 ?_
      refine lv_if_eq (tgt := 53) hx hb dX12_text_48 (by decide) (fun _ => ?_) (fun h => absurd c_90674 h)
      obtain ⟨g_90687, p_ad_1_0, o_90688⟩ := I.opi (k := 1) (j := 0) (by decide) rfl
      have p_ad_1_0 : pt L_90656 f_90686 (ad 1 0) (.inl (G.2 0, 10568, .inl g_90687)) := p_ad_1_0
      have o_90689 : (IA 0 0 14 9999 w) g_90687 := o_90688.1
      have I := I.castS (sp' := spM (IA 0 0 14 9999 w) pi TX LDa) (k := 1) (j := 0) (by decide) p_ad_1_0 (okE_a (g := g_90687) o_90689) pAC
      obtain ⟨g_90690, p_ad_3_0, o_90691⟩ := I.opi (k := 3) (j := 0) (by decide) rfl
      have p_ad_3_0 : pt L_90656 f_90686 (ad 3 0) (.inl (G.2 0, 2916, .inl g_90690)) := p_ad_3_0
      have o_90692 : (EQ g_90690) g_90690 := rfl
      have I := I.castS (sp' := spM (IA 0 0 14 9999 w) pi (EQ g_90690) LDa) (k := 3) (j := 0) (by decide) p_ad_3_0 (okE_a (g := g_90690) o_90692) pXC
      refine lv_aload_n hx hb dX12_text_53 rfl (lv_at hl 0 rfl) ?_
      refine pg_get S Y ok_X12 0 (by decide) kf12_7 (v := .ref (ad 1 0)) p_ad_0_0 rfl dX12_text_54 ?_
      refine lv_iconst (v := 1) hx hb dX12_text_57 (by decide) ?_
      refine lv_dup2_11 hx hb dX12_text_58 rfl rfl ?_
      obtain ⟨v_90693, ev_90693⟩ : ∃ z, z = g_90687 (1 : Int32).toNatClampNeg := ⟨_, rfl⟩
      refine pg_iald S Y (v := v_90693) p_ad_1_0 (by unfold vp_in; decide) ev_90693.symm dX12_text_59 ?_
      have bv_90693 : bn 0 4 v_90693 := bn_eq ev_90693 (IA_1 o_90689)
      have B_90694 : bn 0 3 v_90693 := by rw [ev_90693]; exact o_90688.2
      refine lv_iconst (v := 1) hx hb dX12_text_60 (by decide) ?_
      refine lv_iadd hx hb dX12_text_61 ?_
      refine lv_topi (fun x_90695 ex_90695 => ?_)
      refine pg_iast S Y p_ad_1_0 (by unfold vp_in; decide) dX12_text_62 (fun f_90697 H locs ef_90697 Y => ?_)
      obtain ⟨g_90696, eg_90696⟩ : ∃ z, z = upd (g_90687) (1 : Int32).toNatClampNeg x_90695 := ⟨_, rfl⟩
      rw [← eg_90696] at ef_90697
      have p_ad_0_0 := p_ad_0_0.up ef_90697 (I.ne (k := 0) (j := 0) (k' := 1) (j' := 0) (by decide) (by decide) (Or.inl (by decide)))
      have p_ad_3_0 := p_ad_3_0.up ef_90697 (I.ne (k := 3) (j := 0) (k' := 1) (j' := 0) (by decide) (by decide) (Or.inl (by decide)))
      have p_ad_1_0 := p_ad_1_0.me ef_90697
      have o_90698 : (IA 0 0 14 9999 w) g_90696 := (by rw [eg_90696]; exact (IA_s1 o_90689 (bn_w (bn_eq ex_90695 (bn_add B_90694 (show bn 1 1 (1 : Int32) from bn_k (by decide)) (by decide))) (by decide))))
      have I := I.up (k := 1) (j := 0) (by decide) ef_90697 (okE_a (g := g_90696) o_90698)
      have q_90699 : g_90696 (1 : Int32).toNatClampNeg = x_90695 := by rw [eg_90696]; exact pk_us
      refine lv_aload_n hx hb dX12_text_63 rfl (lv_at hl 0 rfl) ?_
      refine pg_get S Y ok_X12 0 (by decide) kf12_7 (v := .ref (ad 1 0)) p_ad_0_0 rfl dX12_text_64 ?_
      refine lv_iconst (v := 1) hx hb dX12_text_67 (by decide) ?_
      refine pg_iald S Y (v := x_90695) p_ad_1_0 (by unfold vp_in; decide) q_90699 dX12_text_68 ?_
      refine lv_iconst (v := 1) hx hb dX12_text_69 (by decide) ?_
      refine lv_isub hx hb dX12_text_70 ?_
      refine lv_topi (fun x_90700 ex_90700 => ?_)
      exact prI (post := fun r L1 f1 => ∃ g2 : Nat → Int32, SH (spM (IA 0 0 14 9999 w) pi (EQ g2) LDa) nnM G ad L1 f1 ∧ TX g2) S Y rfl (by decide) (by decide) hA1 ⟨g_90690, I, o_90691⟩ dX12_text_71
  · have B_90654 : bn 4 4 v_90651 := bn_w (bn_eq c_90652 (show bn 4 4 (4 : Int32) from bn_k (by decide))) (by decide)
    refine lv_iconst (v := (-1)) hx hb dX12_text_10 (by decide) ?_
    exact prI (post := fun r L1 f1 => ∃ g2 : Nat → Int32, SH (spM (IA 0 0 14 9999 w) pi (EQ g2) LDa) nnM G ad L1 f1 ∧ TX g2) S Y rfl (by decide) (by decide) hA1 ⟨g0, I, hX⟩ dX12_text_11
