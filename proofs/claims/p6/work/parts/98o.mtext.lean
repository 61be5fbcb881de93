theorem dX12_isRelease_0 : decode cX12_isRelease 0 = .ok (.aload_n 0, 1) := by decide +kernel
theorem dX12_isRelease_1 : decode cX12_isRelease 1 = .ok (.getfield 98, 3) := by decide +kernel
theorem dX12_isRelease_4 : decode cX12_isRelease 4 = .ok (.iconst 2, 1) := by decide +kernel
theorem dX12_isRelease_5 : decode cX12_isRelease 5 = .ok (.if_icmp .ne 124, 3) := by decide +kernel
theorem dX12_isRelease_129 : decode cX12_isRelease 129 = .ok (.iconst 0, 1) := by decide +kernel
theorem dX12_isRelease_130 : decode cX12_isRelease 130 = .ok (.ireturn, 1) := by decide +kernel
theorem dX12_isRelease_8 : decode cX12_isRelease 8 = .ok (.aload_n 0, 1) := by decide +kernel
theorem dX12_isRelease_9 : decode cX12_isRelease 9 = .ok (.getfield 88, 3) := by decide +kernel
theorem dX12_isRelease_12 : decode cX12_isRelease 12 = .ok (.aload_n 0, 1) := by decide +kernel
theorem dX12_isRelease_13 : decode cX12_isRelease 13 = .ok (.getfield 95, 3) := by decide +kernel
theorem dX12_isRelease_16 : decode cX12_isRelease 16 = .ok (.isub, 1) := by decide +kernel
theorem dX12_isRelease_17 : decode cX12_isRelease 17 = .ok (.bipush 7, 2) := by decide +kernel
theorem dX12_isRelease_19 : decode cX12_isRelease 19 = .ok (.if_icmp .ne 110, 3) := by decide +kernel
theorem dX12_isRelease_22 : decode cX12_isRelease 22 = .ok (.aload_n 0, 1) := by decide +kernel
theorem dX12_isRelease_23 : decode cX12_isRelease 23 = .ok (.aload_n 0, 1) := by decide +kernel
theorem dX12_isRelease_24 : decode cX12_isRelease 24 = .ok (.getfield 95, 3) := by decide +kernel
theorem dX12_isRelease_27 : decode cX12_isRelease 27 = .ok (.invokevirtual 91, 3) := by decide +kernel
theorem dX12_isRelease_30 : decode cX12_isRelease 30 = .ok (.aload_n 0, 1) := by decide +kernel
theorem dX12_isRelease_31 : decode cX12_isRelease 31 = .ok (.aload_n 0, 1) := by decide +kernel
theorem dX12_isRelease_32 : decode cX12_isRelease 32 = .ok (.getfield 95, 3) := by decide +kernel
theorem dX12_isRelease_35 : decode cX12_isRelease 35 = .ok (.iconst 1, 1) := by decide +kernel
theorem dX12_isRelease_36 : decode cX12_isRelease 36 = .ok (.iadd, 1) := by decide +kernel
theorem dX12_isRelease_37 : decode cX12_isRelease 37 = .ok (.invokevirtual 91, 3) := by decide +kernel
theorem dX12_isRelease_40 : decode cX12_isRelease 40 = .ok (.aload_n 0, 1) := by decide +kernel
theorem dX12_isRelease_41 : decode cX12_isRelease 41 = .ok (.aload_n 0, 1) := by decide +kernel
theorem dX12_isRelease_42 : decode cX12_isRelease 42 = .ok (.getfield 95, 3) := by decide +kernel
theorem dX12_isRelease_45 : decode cX12_isRelease 45 = .ok (.iconst 2, 1) := by decide +kernel
theorem dX12_isRelease_46 : decode cX12_isRelease 46 = .ok (.iadd, 1) := by decide +kernel
theorem dX12_isRelease_47 : decode cX12_isRelease 47 = .ok (.invokevirtual 91, 3) := by decide +kernel
theorem dX12_isRelease_50 : decode cX12_isRelease 50 = .ok (.aload_n 0, 1) := by decide +kernel
theorem dX12_isRelease_51 : decode cX12_isRelease 51 = .ok (.aload_n 0, 1) := by decide +kernel
theorem dX12_isRelease_52 : decode cX12_isRelease 52 = .ok (.getfield 95, 3) := by decide +kernel
theorem dX12_isRelease_55 : decode cX12_isRelease 55 = .ok (.iconst 3, 1) := by decide +kernel
theorem dX12_isRelease_56 : decode cX12_isRelease 56 = .ok (.iadd, 1) := by decide +kernel
theorem dX12_isRelease_57 : decode cX12_isRelease 57 = .ok (.invokevirtual 91, 3) := by decide +kernel
theorem dX12_isRelease_60 : decode cX12_isRelease 60 = .ok (.invokestatic 128, 3) := by decide +kernel
theorem dX12_isRelease_63 : decode cX12_isRelease 63 = .ok (.bipush 114, 2) := by decide +kernel
theorem dX12_isRelease_65 : decode cX12_isRelease 65 = .ok (.bipush 101, 2) := by decide +kernel
theorem dX12_isRelease_67 : decode cX12_isRelease 67 = .ok (.bipush 108, 2) := by decide +kernel
theorem dX12_isRelease_69 : decode cX12_isRelease 69 = .ok (.bipush 101, 2) := by decide +kernel
theorem dX12_isRelease_71 : decode cX12_isRelease 71 = .ok (.invokestatic 128, 3) := by decide +kernel
theorem dX12_isRelease_74 : decode cX12_isRelease 74 = .ok (.lcmp, 1) := by decide +kernel
theorem dX12_isRelease_75 : decode cX12_isRelease 75 = .ok (.ifCond .ne 54, 3) := by decide +kernel
theorem dX12_isRelease_78 : decode cX12_isRelease 78 = .ok (.aload_n 0, 1) := by decide +kernel
theorem dX12_isRelease_79 : decode cX12_isRelease 79 = .ok (.aload_n 0, 1) := by decide +kernel
theorem dX12_isRelease_80 : decode cX12_isRelease 80 = .ok (.getfield 95, 3) := by decide +kernel
theorem dX12_isRelease_83 : decode cX12_isRelease 83 = .ok (.iconst 4, 1) := by decide +kernel
theorem dX12_isRelease_84 : decode cX12_isRelease 84 = .ok (.iadd, 1) := by decide +kernel
theorem dX12_isRelease_85 : decode cX12_isRelease 85 = .ok (.invokevirtual 91, 3) := by decide +kernel
theorem dX12_isRelease_88 : decode cX12_isRelease 88 = .ok (.aload_n 0, 1) := by decide +kernel
theorem dX12_isRelease_89 : decode cX12_isRelease 89 = .ok (.aload_n 0, 1) := by decide +kernel
theorem dX12_isRelease_90 : decode cX12_isRelease 90 = .ok (.getfield 95, 3) := by decide +kernel
theorem dX12_isRelease_93 : decode cX12_isRelease 93 = .ok (.iconst 5, 1) := by decide +kernel
theorem dX12_isRelease_94 : decode cX12_isRelease 94 = .ok (.iadd, 1) := by decide +kernel
theorem dX12_isRelease_95 : decode cX12_isRelease 95 = .ok (.invokevirtual 91, 3) := by decide +kernel
theorem dX12_isRelease_98 : decode cX12_isRelease 98 = .ok (.aload_n 0, 1) := by decide +kernel
theorem dX12_isRelease_99 : decode cX12_isRelease 99 = .ok (.aload_n 0, 1) := by decide +kernel
theorem dX12_isRelease_100 : decode cX12_isRelease 100 = .ok (.getfield 95, 3) := by decide +kernel
theorem dX12_isRelease_103 : decode cX12_isRelease 103 = .ok (.bipush 6, 2) := by decide +kernel
theorem dX12_isRelease_105 : decode cX12_isRelease 105 = .ok (.iadd, 1) := by decide +kernel
theorem dX12_isRelease_106 : decode cX12_isRelease 106 = .ok (.invokevirtual 91, 3) := by decide +kernel
theorem dX12_isRelease_109 : decode cX12_isRelease 109 = .ok (.invokestatic 124, 3) := by decide +kernel
theorem dX12_isRelease_112 : decode cX12_isRelease 112 = .ok (.bipush 97, 2) := by decide +kernel
theorem dX12_isRelease_114 : decode cX12_isRelease 114 = .ok (.bipush 115, 2) := by decide +kernel
theorem dX12_isRelease_116 : decode cX12_isRelease 116 = .ok (.bipush 101, 2) := by decide +kernel
theorem dX12_isRelease_118 : decode cX12_isRelease 118 = .ok (.invokestatic 124, 3) := by decide +kernel
theorem dX12_isRelease_121 : decode cX12_isRelease 121 = .ok (.lcmp, 1) := by decide +kernel
theorem dX12_isRelease_122 : decode cX12_isRelease 122 = .ok (.ifCond .ne 7, 3) := by decide +kernel
theorem dX12_isRelease_125 : decode cX12_isRelease 125 = .ok (.iconst 1, 1) := by decide +kernel
theorem dX12_isRelease_126 : decode cX12_isRelease 126 = .ok (.goto 4, 3) := by decide +kernel
theorem dX12_sortOf_0 : decode cX12_sortOf 0 = .ok (.aload_n 0, 1) := by decide +kernel
theorem dX12_sortOf_1 : decode cX12_sortOf 1 = .ok (.bipush 119, 2) := by decide +kernel
theorem dX12_sortOf_3 : decode cX12_sortOf 3 = .ok (.bipush 101, 2) := by decide +kernel
theorem dX12_sortOf_5 : decode cX12_sortOf 5 = .ok (.bipush 97, 2) := by decide +kernel
theorem dX12_sortOf_7 : decode cX12_sortOf 7 = .ok (.bipush 114, 2) := by decide +kernel
theorem dX12_sortOf_9 : decode cX12_sortOf 9 = .ok (.bipush 115, 2) := by decide +kernel
theorem dX12_sortOf_11 : decode cX12_sortOf 11 = .ok (.invokestatic 132, 3) := by decide +kernel
theorem dX12_sortOf_14 : decode cX12_sortOf 14 = .ok (.invokevirtual 187, 3) := by decide +kernel
theorem dX12_sortOf_17 : decode cX12_sortOf 17 = .ok (.ifCond .eq 5, 3) := by decide +kernel
theorem dX12_sortOf_22 : decode cX12_sortOf 22 = .ok (.aload_n 0, 1) := by decide +kernel
theorem dX12_sortOf_23 : decode cX12_sortOf 23 = .ok (.bipush 97, 2) := by decide +kernel
theorem dX12_sortOf_25 : decode cX12_sortOf 25 = .ok (.bipush 99, 2) := by decide +kernel
theorem dX12_sortOf_27 : decode cX12_sortOf 27 = .ok (.bipush 104, 2) := by decide +kernel
theorem dX12_sortOf_29 : decode cX12_sortOf 29 = .ok (.bipush 101, 2) := by decide +kernel
theorem dX12_sortOf_31 : decode cX12_sortOf 31 = .ok (.bipush 115, 2) := by decide +kernel
theorem dX12_sortOf_33 : decode cX12_sortOf 33 = .ok (.invokestatic 132, 3) := by decide +kernel
theorem dX12_sortOf_36 : decode cX12_sortOf 36 = .ok (.invokevirtual 187, 3) := by decide +kernel
theorem dX12_sortOf_39 : decode cX12_sortOf 39 = .ok (.ifCond .eq 5, 3) := by decide +kernel
theorem dX12_sortOf_44 : decode cX12_sortOf 44 = .ok (.aload_n 0, 1) := by decide +kernel
theorem dX12_sortOf_45 : decode cX12_sortOf 45 = .ok (.bipush 114, 2) := by decide +kernel
theorem dX12_sortOf_47 : decode cX12_sortOf 47 = .ok (.bipush 105, 2) := by decide +kernel
theorem dX12_sortOf_49 : decode cX12_sortOf 49 = .ok (.bipush 115, 2) := by decide +kernel
theorem dX12_sortOf_51 : decode cX12_sortOf 51 = .ok (.bipush 107, 2) := by decide +kernel
theorem dX12_sortOf_53 : decode cX12_sortOf 53 = .ok (.invokestatic 128, 3) := by decide +kernel
theorem dX12_sortOf_56 : decode cX12_sortOf 56 = .ok (.invokevirtual 187, 3) := by decide +kernel
theorem dX12_sortOf_59 : decode cX12_sortOf 59 = .ok (.ifCond .eq 5, 3) := by decide +kernel
theorem dX12_sortOf_64 : decode cX12_sortOf 64 = .ok (.aload_n 0, 1) := by decide +kernel
theorem dX12_sortOf_65 : decode cX12_sortOf 65 = .ok (.bipush 111, 2) := by decide +kernel
theorem dX12_sortOf_67 : decode cX12_sortOf 67 = .ok (.bipush 110, 2) := by decide +kernel
theorem dX12_sortOf_69 : decode cX12_sortOf 69 = .ok (.bipush 101, 2) := by decide +kernel
theorem dX12_sortOf_71 : decode cX12_sortOf 71 = .ok (.invokestatic 124, 3) := by decide +kernel
theorem dX12_sortOf_74 : decode cX12_sortOf 74 = .ok (.invokevirtual 187, 3) := by decide +kernel
theorem dX12_sortOf_77 : decode cX12_sortOf 77 = .ok (.ifCond .eq 5, 3) := by decide +kernel
theorem dX12_sortOf_82 : decode cX12_sortOf 82 = .ok (.aload_n 0, 1) := by decide +kernel
theorem dX12_sortOf_83 : decode cX12_sortOf 83 = .ok (.bipush 115, 2) := by decide +kernel
theorem dX12_sortOf_85 : decode cX12_sortOf 85 = .ok (.bipush 119, 2) := by decide +kernel
theorem dX12_sortOf_87 : decode cX12_sortOf 87 = .ok (.bipush 101, 2) := by decide +kernel
theorem dX12_sortOf_89 : decode cX12_sortOf 89 = .ok (.bipush 97, 2) := by decide +kernel
theorem dX12_sortOf_91 : decode cX12_sortOf 91 = .ok (.bipush 114, 2) := by decide +kernel
theorem dX12_sortOf_93 : decode cX12_sortOf 93 = .ok (.invokestatic 132, 3) := by decide +kernel
theorem dX12_sortOf_96 : decode cX12_sortOf 96 = .ok (.invokevirtual 187, 3) := by decide +kernel
theorem dX12_sortOf_99 : decode cX12_sortOf 99 = .ok (.ifCond .eq 5, 3) := by decide +kernel
theorem dX12_sortOf_104 : decode cX12_sortOf 104 = .ok (.aload_n 0, 1) := by decide +kernel
theorem dX12_sortOf_105 : decode cX12_sortOf 105 = .ok (.bipush 98, 2) := by decide +kernel
theorem dX12_sortOf_107 : decode cX12_sortOf 107 = .ok (.bipush 114, 2) := by decide +kernel
theorem dX12_sortOf_109 : decode cX12_sortOf 109 = .ok (.bipush 101, 2) := by decide +kernel
theorem dX12_sortOf_111 : decode cX12_sortOf 111 = .ok (.bipush 97, 2) := by decide +kernel
theorem dX12_sortOf_113 : decode cX12_sortOf 113 = .ok (.bipush 107, 2) := by decide +kernel
theorem dX12_sortOf_115 : decode cX12_sortOf 115 = .ok (.invokestatic 132, 3) := by decide +kernel
theorem dX12_sortOf_118 : decode cX12_sortOf 118 = .ok (.invokevirtual 187, 3) := by decide +kernel
theorem dX12_sortOf_121 : decode cX12_sortOf 121 = .ok (.ifCond .eq 6, 3) := by decide +kernel
theorem dX12_sortOf_127 : decode cX12_sortOf 127 = .ok (.aload_n 0, 1) := by decide +kernel
theorem dX12_sortOf_128 : decode cX12_sortOf 128 = .ok (.invokevirtual 235, 3) := by decide +kernel
theorem cw_X12_isRelease : CWv yX12_isRelease cX12_isRelease 1 (some .boolean) 0 := ⟨⟨⟨List.mem_of_getElem? (i := 137) (by decide +kernel), by decide +kernel⟩, ⟨List.mem_of_getElem? (i := 1670) (by decide +kernel), by decide +kernel⟩, by decide +kernel⟩, ⟨List.mem_of_getElem? (i := 1669) (by decide +kernel), by decide +kernel⟩, ⟨List.mem_of_getElem? (i := 55) (by decide +kernel), by decide +kernel⟩⟩
theorem km12_235 : inW (Cond.methodLink RX12 235 yX12_isRelease) := ⟨List.mem_of_getElem? (i := 1667) (by decide +kernel), by decide +kernel⟩
theorem dX12_sortOf_131 : decode cX12_sortOf 131 = .ok (.ifCond .eq 6, 3) := by decide +kernel
theorem dX12_sortOf_137 : decode cX12_sortOf 137 = .ok (.aload_n 0, 1) := by decide +kernel
theorem dX12_sortOf_138 : decode cX12_sortOf 138 = .ok (.bipush 107, 2) := by decide +kernel
theorem dX12_sortOf_140 : decode cX12_sortOf 140 = .ok (.bipush 110, 2) := by decide +kernel
theorem dX12_sortOf_142 : decode cX12_sortOf 142 = .ok (.bipush 101, 2) := by decide +kernel
theorem dX12_sortOf_144 : decode cX12_sortOf 144 = .ok (.bipush 101, 2) := by decide +kernel
theorem dX12_sortOf_146 : decode cX12_sortOf 146 = .ok (.bipush 108, 2) := by decide +kernel
theorem dX12_sortOf_148 : decode cX12_sortOf 148 = .ok (.invokestatic 132, 3) := by decide +kernel
theorem dX12_sortOf_151 : decode cX12_sortOf 151 = .ok (.invokevirtual 187, 3) := by decide +kernel
theorem dX12_sortOf_154 : decode cX12_sortOf 154 = .ok (.ifCond .eq 6, 3) := by decide +kernel
theorem dX12_sortOf_160 : decode cX12_sortOf 160 = .ok (.aload_n 0, 1) := by decide +kernel
theorem dX12_sortOf_161 : decode cX12_sortOf 161 = .ok (.bipush 115, 2) := by decide +kernel
theorem dX12_sortOf_163 : decode cX12_sortOf 163 = .ok (.bipush 107, 2) := by decide +kernel
theorem dX12_sortOf_165 : decode cX12_sortOf 165 = .ok (.bipush 97, 2) := by decide +kernel
theorem dX12_sortOf_167 : decode cX12_sortOf 167 = .ok (.bipush 116, 2) := by decide +kernel
theorem dX12_sortOf_169 : decode cX12_sortOf 169 = .ok (.bipush 101, 2) := by decide +kernel
theorem dX12_sortOf_171 : decode cX12_sortOf 171 = .ok (.invokestatic 132, 3) := by decide +kernel
theorem dX12_sortOf_174 : decode cX12_sortOf 174 = .ok (.invokevirtual 187, 3) := by decide +kernel
theorem dX12_sortOf_177 : decode cX12_sortOf 177 = .ok (.ifCond .eq 8, 3) := by decide +kernel
theorem dX12_sortOf_185 : decode cX12_sortOf 185 = .ok (.aload_n 0, 1) := by decide +kernel
theorem dX12_sortOf_186 : decode cX12_sortOf 186 = .ok (.bipush 100, 2) := by decide +kernel
theorem dX12_sortOf_188 : decode cX12_sortOf 188 = .ok (.bipush 97, 2) := by decide +kernel
theorem dX12_sortOf_190 : decode cX12_sortOf 190 = .ok (.bipush 121, 2) := by decide +kernel
theorem dX12_sortOf_192 : decode cX12_sortOf 192 = .ok (.invokestatic 124, 3) := by decide +kernel
theorem dX12_sortOf_195 : decode cX12_sortOf 195 = .ok (.invokevirtual 187, 3) := by decide +kernel
theorem dX12_sortOf_198 : decode cX12_sortOf 198 = .ok (.ifCond .eq 8, 3) := by decide +kernel
theorem dX12_sortOf_206 : decode cX12_sortOf 206 = .ok (.iconst (-1), 1) := by decide +kernel
theorem dX12_sortOf_207 : decode cX12_sortOf 207 = .ok (.ireturn, 1) := by decide +kernel
theorem dX12_sortOf_201 : decode cX12_sortOf 201 = .ok (.bipush 10, 2) := by decide +kernel
theorem dX12_sortOf_203 : decode cX12_sortOf 203 = .ok (.goto 4, 3) := by decide +kernel
theorem dX12_sortOf_180 : decode cX12_sortOf 180 = .ok (.bipush 9, 2) := by decide +kernel
theorem dX12_sortOf_182 : decode cX12_sortOf 182 = .ok (.goto 25, 3) := by decide +kernel
theorem dX12_sortOf_157 : decode cX12_sortOf 157 = .ok (.bipush 8, 2) := by decide +kernel
theorem dX12_sortOf_159 : decode cX12_sortOf 159 = .ok (.ireturn, 1) := by decide +kernel
theorem dX12_sortOf_134 : decode cX12_sortOf 134 = .ok (.bipush 7, 2) := by decide +kernel
theorem dX12_sortOf_136 : decode cX12_sortOf 136 = .ok (.ireturn, 1) := by decide +kernel
theorem dX12_sortOf_124 : decode cX12_sortOf 124 = .ok (.bipush 6, 2) := by decide +kernel
theorem dX12_sortOf_126 : decode cX12_sortOf 126 = .ok (.ireturn, 1) := by decide +kernel
theorem dX12_sortOf_102 : decode cX12_sortOf 102 = .ok (.iconst 4, 1) := by decide +kernel
theorem dX12_sortOf_103 : decode cX12_sortOf 103 = .ok (.ireturn, 1) := by decide +kernel
theorem dX12_sortOf_80 : decode cX12_sortOf 80 = .ok (.iconst 3, 1) := by decide +kernel
theorem dX12_sortOf_81 : decode cX12_sortOf 81 = .ok (.ireturn, 1) := by decide +kernel
theorem dX12_sortOf_62 : decode cX12_sortOf 62 = .ok (.iconst 2, 1) := by decide +kernel
theorem dX12_sortOf_63 : decode cX12_sortOf 63 = .ok (.ireturn, 1) := by decide +kernel
theorem dX12_sortOf_42 : decode cX12_sortOf 42 = .ok (.iconst 1, 1) := by decide +kernel
theorem dX12_sortOf_43 : decode cX12_sortOf 43 = .ok (.ireturn, 1) := by decide +kernel
theorem dX12_sortOf_20 : decode cX12_sortOf 20 = .ok (.iconst 0, 1) := by decide +kernel
theorem dX12_sortOf_21 : decode cX12_sortOf 21 = .ok (.ireturn, 1) := by decide +kernel
theorem dX12_clause_0 : decode cX12_clause 0 = .ok (.aload_n 0, 1) := by decide +kernel
theorem dX12_clause_1 : decode cX12_clause 1 = .ok (.invokevirtual 238, 3) := by decide +kernel
theorem cw_X12_sortOf : CWv yX12_sortOf cX12_sortOf 1 (some .int) 0 := ⟨⟨⟨List.mem_of_getElem? (i := 137) (by decide +kernel), by decide +kernel⟩, ⟨List.mem_of_getElem? (i := 1650) (by decide +kernel), by decide +kernel⟩, by decide +kernel⟩, ⟨List.mem_of_getElem? (i := 1649) (by decide +kernel), by decide +kernel⟩, ⟨List.mem_of_getElem? (i := 53) (by decide +kernel), by decide +kernel⟩⟩
theorem km12_238 : inW (Cond.methodLink RX12 238 yX12_sortOf) := ⟨List.mem_of_getElem? (i := 1647) (by decide +kernel), by decide +kernel⟩
theorem dX12_clause_4 : decode cX12_clause 4 = .ok (.istore_n 1, 1) := by decide +kernel
theorem dX12_clause_5 : decode cX12_clause 5 = .ok (.iload_n 1, 1) := by decide +kernel
theorem dX12_clause_6 : decode cX12_clause 6 = .ok (.ifCond .ge 5, 3) := by decide +kernel
theorem dX12_clause_11 : decode cX12_clause 11 = .ok (.iload_n 1, 1) := by decide +kernel
theorem dX12_clause_12 : decode cX12_clause 12 = .ok (.iconst 2, 1) := by decide +kernel
theorem dX12_clause_13 : decode cX12_clause 13 = .ok (.if_icmp .gt 16, 3) := by decide +kernel
theorem dX12_clause_29 : decode cX12_clause 29 = .ok (.aload_n 0, 1) := by decide +kernel
theorem dX12_clause_30 : decode cX12_clause 30 = .ok (.getfield 16, 3) := by decide +kernel
theorem dX12_clause_33 : decode cX12_clause 33 = .ok (.aload_n 0, 1) := by decide +kernel
theorem dX12_clause_34 : decode cX12_clause 34 = .ok (.getfield 136, 3) := by decide +kernel
theorem dX12_clause_37 : decode cX12_clause 37 = .ok (.iaload, 1) := by decide +kernel
theorem dX12_clause_38 : decode cX12_clause 38 = .ok (.istore_n 2, 1) := by decide +kernel
theorem dX12_clause_39 : decode cX12_clause 39 = .ok (.iload_n 2, 1) := by decide +kernel
theorem dX12_clause_40 : decode cX12_clause 40 = .ok (.bipush 24, 2) := by decide +kernel
theorem dX12_clause_42 : decode cX12_clause 42 = .ok (.if_icmp .ne 6, 3) := by decide +kernel
theorem dX12_clause_48 : decode cX12_clause 48 = .ok (.iload_n 1, 1) := by decide +kernel
theorem dX12_clause_49 : decode cX12_clause 49 = .ok (.iconst 2, 1) := by decide +kernel
theorem dX12_clause_50 : decode cX12_clause 50 = .ok (.if_icmp .gt 15, 3) := by decide +kernel
theorem dX12_clause_65 : decode cX12_clause 65 = .ok (.aload_n 0, 1) := by decide +kernel
theorem dX12_clause_66 : decode cX12_clause 66 = .ok (.iload_n 1, 1) := by decide +kernel
theorem dX12_clause_67 : decode cX12_clause 67 = .ok (.putfield 175, 3) := by decide +kernel
theorem dX12_clause_70 : decode cX12_clause 70 = .ok (.aload_n 0, 1) := by decide +kernel
theorem dX12_clause_71 : decode cX12_clause 71 = .ok (.invokevirtual 166, 3) := by decide +kernel
theorem dX12_clause_74 : decode cX12_clause 74 = .ok (.aload_n 0, 1) := by decide +kernel
theorem dX12_clause_75 : decode cX12_clause 75 = .ok (.getfield 136, 3) := by decide +kernel
theorem dX12_clause_78 : decode cX12_clause 78 = .ok (.iconst 1, 1) := by decide +kernel
theorem dX12_clause_79 : decode cX12_clause 79 = .ok (.iadd, 1) := by decide +kernel
theorem dX12_clause_80 : decode cX12_clause 80 = .ok (.iconst 5, 1) := by decide +kernel
theorem dX12_clause_81 : decode cX12_clause 81 = .ok (.iload_n 2, 1) := by decide +kernel
theorem dX12_clause_82 : decode cX12_clause 82 = .ok (.imul, 1) := by decide +kernel
theorem dX12_clause_83 : decode cX12_clause 83 = .ok (.iadd, 1) := by decide +kernel
theorem dX12_clause_84 : decode cX12_clause 84 = .ok (.istore_n 3, 1) := by decide +kernel
theorem dX12_clause_85 : decode cX12_clause 85 = .ok (.aload_n 0, 1) := by decide +kernel
theorem dX12_clause_86 : decode cX12_clause 86 = .ok (.getfield 16, 3) := by decide +kernel
theorem dX12_clause_89 : decode cX12_clause 89 = .ok (.iload_n 3, 1) := by decide +kernel
theorem dX12_clause_90 : decode cX12_clause 90 = .ok (.iload_n 1, 1) := by decide +kernel
theorem dX12_clause_91 : decode cX12_clause 91 = .ok (.iastore, 1) := by decide +kernel
theorem dX12_clause_92 : decode cX12_clause 92 = .ok (.aload_n 0, 1) := by decide +kernel
theorem dX12_clause_93 : decode cX12_clause 93 = .ok (.iload_n 1, 1) := by decide +kernel
theorem dX12_clause_94 : decode cX12_clause 94 = .ok (.iload_n 3, 1) := by decide +kernel
theorem dX12_clause_95 : decode cX12_clause 95 = .ok (.invokevirtual 248, 3) := by decide +kernel
theorem cw_X12_body : CWv yX12_body cX12_body 3 (some .int) 2 := ⟨⟨⟨List.mem_of_getElem? (i := 137) (by decide +kernel), by decide +kernel⟩, ⟨List.mem_of_getElem? (i := 1677) (by decide +kernel), by decide +kernel⟩, by decide +kernel⟩, ⟨List.mem_of_getElem? (i := 1676) (by decide +kernel), by decide +kernel⟩, ⟨List.mem_of_getElem? (i := 56) (by decide +kernel), by decide +kernel⟩⟩
theorem km12_248 : inW (Cond.methodLink RX12 248 yX12_body) := ⟨List.mem_of_getElem? (i := 1674) (by decide +kernel), by decide +kernel⟩
theorem dX12_clause_98 : decode cX12_clause 98 = .ok (.istore 4, 2) := by decide +kernel
theorem dX12_clause_100 : decode cX12_clause 100 = .ok (.iload 4, 2) := by decide +kernel
theorem dX12_clause_102 : decode cX12_clause 102 = .ok (.ifCond .eq 6, 3) := by decide +kernel
theorem dX12_clause_108 : decode cX12_clause 108 = .ok (.aload_n 0, 1) := by decide +kernel
theorem dX12_clause_109 : decode cX12_clause 109 = .ok (.getfield 16, 3) := by decide +kernel
theorem dX12_clause_112 : decode cX12_clause 112 = .ok (.aload_n 0, 1) := by decide +kernel
theorem dX12_clause_113 : decode cX12_clause 113 = .ok (.getfield 136, 3) := by decide +kernel
theorem dX12_clause_116 : decode cX12_clause 116 = .ok (.dup2, 1) := by decide +kernel
theorem dX12_clause_117 : decode cX12_clause 117 = .ok (.iaload, 1) := by decide +kernel
theorem dX12_clause_118 : decode cX12_clause 118 = .ok (.iconst 1, 1) := by decide +kernel
theorem dX12_clause_119 : decode cX12_clause 119 = .ok (.iadd, 1) := by decide +kernel
theorem dX12_clause_120 : decode cX12_clause 120 = .ok (.iastore, 1) := by decide +kernel
theorem dX12_clause_121 : decode cX12_clause 121 = .ok (.aload_n 0, 1) := by decide +kernel
theorem dX12_clause_122 : decode cX12_clause 122 = .ok (.getfield 98, 3) := by decide +kernel
theorem dX12_clause_125 : decode cX12_clause 125 = .ok (.bipush 59, 2) := by decide +kernel
theorem dX12_clause_127 : decode cX12_clause 127 = .ok (.if_icmp .eq 5, 3) := by decide +kernel
theorem dX12_clause_132 : decode cX12_clause 132 = .ok (.aload_n 0, 1) := by decide +kernel
theorem dX12_clause_133 : decode cX12_clause 133 = .ok (.invokevirtual 166, 3) := by decide +kernel
theorem dX12_clause_136 : decode cX12_clause 136 = .ok (.iconst 0, 1) := by decide +kernel
theorem dX12_clause_137 : decode cX12_clause 137 = .ok (.ireturn, 1) := by decide +kernel
theorem dX12_clause_130 : decode cX12_clause 130 = .ok (.iconst 1, 1) := by decide +kernel
theorem dX12_clause_131 : decode cX12_clause 131 = .ok (.ireturn, 1) := by decide +kernel
theorem dX12_clause_105 : decode cX12_clause 105 = .ok (.iload 4, 2) := by decide +kernel
theorem dX12_clause_107 : decode cX12_clause 107 = .ok (.ireturn, 1) := by decide +kernel
theorem dX12_clause_45 : decode cX12_clause 45 = .ok (.bipush 6, 2) := by decide +kernel
theorem dX12_clause_47 : decode cX12_clause 47 = .ok (.ireturn, 1) := by decide +kernel
theorem dX12_clause_16 : decode cX12_clause 16 = .ok (.aload_n 0, 1) := by decide +kernel
theorem dX12_clause_17 : decode cX12_clause 17 = .ok (.getfield 241, 3) := by decide +kernel
theorem kf12_241 : inW (Cond.fieldLink RX12 241 "KneeOathsModel" "once" "I") := ⟨List.mem_of_getElem? (i := 1519) (by decide +kernel), by decide +kernel⟩
theorem dX12_clause_20 : decode cX12_clause 20 = .ok (.iload_n 1, 1) := by decide +kernel
theorem dX12_clause_21 : decode cX12_clause 21 = .ok (.invokestatic 244, 3) := by decide +kernel
theorem dX12_clause_24 : decode cX12_clause 24 = .ok (.ifCond .eq 5, 3) := by decide +kernel
theorem dX12_clause_53 : decode cX12_clause 53 = .ok (.aload_n 0, 1) := by decide +kernel
theorem dX12_clause_54 : decode cX12_clause 54 = .ok (.dup, 1) := by decide +kernel
theorem dX12_clause_55 : decode cX12_clause 55 = .ok (.getfield 241, 3) := by decide +kernel
theorem dX12_clause_58 : decode cX12_clause 58 = .ok (.iconst 1, 1) := by decide +kernel
theorem dX12_clause_59 : decode cX12_clause 59 = .ok (.iload_n 1, 1) := by decide +kernel
theorem dX12_clause_60 : decode cX12_clause 60 = .ok (.ishl, 1) := by decide +kernel
theorem dX12_clause_61 : decode cX12_clause 61 = .ok (.ior, 1) := by decide +kernel
theorem dX12_clause_62 : decode cX12_clause 62 = .ok (.putfield 241, 3) := by decide +kernel
theorem dX12_clause_27 : decode cX12_clause 27 = .ok (.iconst 4, 1) := by decide +kernel
theorem dX12_clause_28 : decode cX12_clause 28 = .ok (.ireturn, 1) := by decide +kernel
theorem dX12_clause_9 : decode cX12_clause 9 = .ok (.iconst 1, 1) := by decide +kernel
theorem dX12_clause_10 : decode cX12_clause 10 = .ok (.ireturn, 1) := by decide +kernel
theorem dX12_readText_0 : decode cX12_readText 0 = .ok (.aload_n 0, 1) := by decide +kernel
theorem dX12_readText_1 : decode cX12_readText 1 = .ok (.sipush 729, 3) := by decide +kernel
theorem dX12_readText_4 : decode cX12_readText 4 = .ok (.aload_n 0, 1) := by decide +kernel
theorem dX12_readText_5 : decode cX12_readText 5 = .ok (.getfield 7, 3) := by decide +kernel
theorem dX12_readText_8 : decode cX12_readText 8 = .ok (.iconst 1, 1) := by decide +kernel
theorem dX12_readText_9 : decode cX12_readText 9 = .ok (.iaload, 1) := by decide +kernel
theorem dX12_readText_10 : decode cX12_readText 10 = .ok (.imul, 1) := by decide +kernel
theorem dX12_readText_11 : decode cX12_readText 11 = .ok (.putfield 136, 3) := by decide +kernel
theorem dX12_readText_14 : decode cX12_readText 14 = .ok (.aload_n 0, 1) := by decide +kernel
theorem dX12_readText_15 : decode cX12_readText 15 = .ok (.getfield 16, 3) := by decide +kernel
theorem dX12_readText_18 : decode cX12_readText 18 = .ok (.aload_n 0, 1) := by decide +kernel
theorem dX12_readText_19 : decode cX12_readText 19 = .ok (.getfield 136, 3) := by decide +kernel
theorem dX12_readText_22 : decode cX12_readText 22 = .ok (.iconst 0, 1) := by decide +kernel
theorem dX12_readText_23 : decode cX12_readText 23 = .ok (.iastore, 1) := by decide +kernel
theorem dX12_readText_24 : decode cX12_readText 24 = .ok (.aload_n 0, 1) := by decide +kernel
theorem dX12_readText_25 : decode cX12_readText 25 = .ok (.iconst 0, 1) := by decide +kernel
theorem dX12_readText_26 : decode cX12_readText 26 = .ok (.putfield 139, 3) := by decide +kernel
theorem dX12_readText_29 : decode cX12_readText 29 = .ok (.aload_n 0, 1) := by decide +kernel
theorem dX12_readText_30 : decode cX12_readText 30 = .ok (.iconst 0, 1) := by decide +kernel
theorem dX12_readText_31 : decode cX12_readText 31 = .ok (.putfield 241, 3) := by decide +kernel
theorem dX12_readText_34 : decode cX12_readText 34 = .ok (.aload_n 0, 1) := by decide +kernel
theorem dX12_readText_35 : decode cX12_readText 35 = .ok (.iconst 0, 1) := by decide +kernel
theorem dX12_readText_36 : decode cX12_readText 36 = .ok (.putfield 88, 3) := by decide +kernel
theorem dX12_readText_39 : decode cX12_readText 39 = .ok (.aload_n 0, 1) := by decide +kernel
theorem dX12_readText_40 : decode cX12_readText 40 = .ok (.invokevirtual 166, 3) := by decide +kernel
theorem dX12_readText_43 : decode cX12_readText 43 = .ok (.aload_n 0, 1) := by decide +kernel
theorem dX12_readText_44 : decode cX12_readText 44 = .ok (.getfield 98, 3) := by decide +kernel
theorem dX12_readText_47 : decode cX12_readText 47 = .ok (.ifCond .eq 17, 3) := by decide +kernel
theorem dX12_readText_64 : decode cX12_readText 64 = .ok (.iconst 0, 1) := by decide +kernel
theorem dX12_readText_65 : decode cX12_readText 65 = .ok (.ireturn, 1) := by decide +kernel
theorem dX12_readText_50 : decode cX12_readText 50 = .ok (.aload_n 0, 1) := by decide +kernel
theorem dX12_readText_51 : decode cX12_readText 51 = .ok (.invokevirtual 251, 3) := by decide +kernel
theorem cw_X12_clause : CWv yX12_clause cX12_clause 5 (some .int) 0 := ⟨⟨⟨List.mem_of_getElem? (i := 137) (by decide +kernel), by decide +kernel⟩, ⟨List.mem_of_getElem? (i := 1646) (by decide +kernel), by decide +kernel⟩, by decide +kernel⟩, ⟨List.mem_of_getElem? (i := 1645) (by decide +kernel), by decide +kernel⟩, ⟨List.mem_of_getElem? (i := 52) (by decide +kernel), by decide +kernel⟩⟩
theorem km12_251 : inW (Cond.methodLink RX12 251 yX12_clause) := ⟨List.mem_of_getElem? (i := 1643) (by decide +kernel), by decide +kernel⟩
theorem dX12_readText_54 : decode cX12_readText 54 = .ok (.istore_n 1, 1) := by decide +kernel
theorem dX12_readText_55 : decode cX12_readText 55 = .ok (.iload_n 1, 1) := by decide +kernel
theorem dX12_readText_56 : decode cX12_readText 56 = .ok (.ifCond .eq 5, 3) := by decide +kernel
theorem dX12_readText_61 : decode cX12_readText 61 = .ok (.goto (-18), 3) := by decide +kernel
theorem dX12_readText_59 : decode cX12_readText 59 = .ok (.iload_n 1, 1) := by decide +kernel
theorem dX12_readText_60 : decode cX12_readText 60 = .ok (.ireturn, 1) := by decide +kernel
theorem dX12_text_0 : decode cX12_text 0 = .ok (.aload_n 0, 1) := by decide +kernel
theorem dX12_text_1 : decode cX12_text 1 = .ok (.getfield 7, 3) := by decide +kernel
theorem dX12_text_4 : decode cX12_text 4 = .ok (.iconst 1, 1) := by decide +kernel
theorem dX12_text_5 : decode cX12_text 5 = .ok (.iaload, 1) := by decide +kernel
theorem dX12_text_6 : decode cX12_text 6 = .ok (.iconst 4, 1) := by decide +kernel
theorem dX12_text_7 : decode cX12_text 7 = .ok (.if_icmp .ne 5, 3) := by decide +kernel
theorem dX12_text_12 : decode cX12_text 12 = .ok (.aload_n 0, 1) := by decide +kernel
theorem dX12_text_13 : decode cX12_text 13 = .ok (.aload_n 0, 1) := by decide +kernel
theorem dX12_text_14 : decode cX12_text 14 = .ok (.invokevirtual 254, 3) := by decide +kernel
theorem cw_X12_readText : CWv yX12_readText cX12_readText 2 (some .int) 0 := ⟨⟨⟨List.mem_of_getElem? (i := 137) (by decide +kernel), by decide +kernel⟩, ⟨List.mem_of_getElem? (i := 1623) (by decide +kernel), by decide +kernel⟩, by decide +kernel⟩, ⟨List.mem_of_getElem? (i := 1622) (by decide +kernel), by decide +kernel⟩, ⟨List.mem_of_getElem? (i := 49) (by decide +kernel), by decide +kernel⟩⟩
theorem km12_254 : inW (Cond.methodLink RX12 254 yX12_readText) := ⟨List.mem_of_getElem? (i := 1620) (by decide +kernel), by decide +kernel⟩
theorem dX12_text_17 : decode cX12_text 17 = .ok (.putfield 22, 3) := by decide +kernel
theorem dX12_text_20 : decode cX12_text 20 = .ok (.aload_n 0, 1) := by decide +kernel
theorem dX12_text_21 : decode cX12_text 21 = .ok (.aload_n 0, 1) := by decide +kernel
theorem dX12_text_22 : decode cX12_text 22 = .ok (.getfield 22, 3) := by decide +kernel
theorem dX12_text_25 : decode cX12_text 25 = .ok (.ifCond .ne 7, 3) := by decide +kernel
theorem dX12_text_32 : decode cX12_text 32 = .ok (.aload_n 0, 1) := by decide +kernel
theorem dX12_text_33 : decode cX12_text 33 = .ok (.getfield 95, 3) := by decide +kernel
theorem dX12_text_36 : decode cX12_text 36 = .ok (.putfield 26, 3) := by decide +kernel
theorem dX12_text_39 : decode cX12_text 39 = .ok (.aload_n 0, 1) := by decide +kernel
theorem dX12_text_40 : decode cX12_text 40 = .ok (.iconst 0, 1) := by decide +kernel
theorem dX12_text_41 : decode cX12_text 41 = .ok (.putfield 81, 3) := by decide +kernel
theorem dX12_text_44 : decode cX12_text 44 = .ok (.aload_n 0, 1) := by decide +kernel
theorem dX12_text_45 : decode cX12_text 45 = .ok (.getfield 22, 3) := by decide +kernel
theorem dX12_text_48 : decode cX12_text 48 = .ok (.ifCond .eq 5, 3) := by decide +kernel
theorem dX12_text_51 : decode cX12_text 51 = .ok (.iconst (-1), 1) := by decide +kernel
theorem dX12_text_52 : decode cX12_text 52 = .ok (.ireturn, 1) := by decide +kernel
theorem dX12_text_28 : decode cX12_text 28 = .ok (.iconst (-1), 1) := by decide +kernel
theorem dX12_text_29 : decode cX12_text 29 = .ok (.goto 7, 3) := by decide +kernel
theorem dX12_text_53 : decode cX12_text 53 = .ok (.aload_n 0, 1) := by decide +kernel
theorem dX12_text_54 : decode cX12_text 54 = .ok (.getfield 7, 3) := by decide +kernel
theorem dX12_text_57 : decode cX12_text 57 = .ok (.iconst 1, 1) := by decide +kernel
theorem dX12_text_58 : decode cX12_text 58 = .ok (.dup2, 1) := by decide +kernel
theorem dX12_text_59 : decode cX12_text 59 = .ok (.iaload, 1) := by decide +kernel
theorem dX12_text_60 : decode cX12_text 60 = .ok (.iconst 1, 1) := by decide +kernel
theorem dX12_text_61 : decode cX12_text 61 = .ok (.iadd, 1) := by decide +kernel
theorem dX12_text_62 : decode cX12_text 62 = .ok (.iastore, 1) := by decide +kernel
theorem dX12_text_63 : decode cX12_text 63 = .ok (.aload_n 0, 1) := by decide +kernel
theorem dX12_text_64 : decode cX12_text 64 = .ok (.getfield 7, 3) := by decide +kernel
theorem dX12_text_67 : decode cX12_text 67 = .ok (.iconst 1, 1) := by decide +kernel
theorem dX12_text_68 : decode cX12_text 68 = .ok (.iaload, 1) := by decide +kernel
theorem dX12_text_69 : decode cX12_text 69 = .ok (.iconst 1, 1) := by decide +kernel
theorem dX12_text_70 : decode cX12_text 70 = .ok (.isub, 1) := by decide +kernel
theorem dX12_text_71 : decode cX12_text 71 = .ok (.ireturn, 1) := by decide +kernel
theorem dX12_text_10 : decode cX12_text 10 = .ok (.iconst (-1), 1) := by decide +kernel
theorem dX12_text_11 : decode cX12_text 11 = .ok (.ireturn, 1) := by decide +kernel
theorem has8 : ∀ a : Fin 256, ∀ c : Fin 8, ((Int32.ofNat a.1 >>> (Int32.ofNat c.1 &&& 31)) &&& 1) = (if a.1.testBit c.1 = true then (1 : Int32) else 0) := by decide +kernel
theorem has_bit9 {x y : Int32} (hx : bn 0 255 x) (hy : bn 0 7 y) : ((x >>> (y &&& 31)) &&& 1) = (if x.toInt.toNat.testBit y.toInt.toNat = true then 1 else 0) := by
  have a := has8 ⟨x.toInt.toNat, by have := hx.1; have := hx.2; omega⟩ ⟨y.toInt.toNat, by have := hy.1; have := hy.2; omega⟩
  dsimp only at a
  rw [n32 hx, n32 hy] at a
  exact a
theorem hs_1 {x : Int32} {p : Prop} [Decidable p] (e : x = if p then 1 else 0) (h : x = 1) : (1 : Int32) = if p then 1 else 0 := h.symm.trans e
theorem hs_0 {x : Int32} {p : Prop} [Decidable p] (e : x = if p then 1 else 0) (h : ¬ x = 1) : (0 : Int32) = if p then 1 else 0 := by
  by_cases q : p
  · rw [if_pos q] at e; exact absurd e h
  · rw [if_neg q]
theorem rl_y {r : Int32} {A B : Prop} (e : (r = 1 ∧ A) ∨ (r = 0 ∧ B)) (h : ¬ r = 0) : A := by
  rcases e with e | e
  · exact e.2
  · exact absurd e.1 h
theorem rl_n {r : Int32} {A B : Prop} (e : (r = 1 ∧ A) ∨ (r = 0 ∧ B)) (h : r = 0) : B := by
  rcases e with e | e
  · rw [e.1] at h; exact absurd h (by decide)
  · exact e.2
theorem so_y {r : Int32} {A B : Prop} (e : (r = -1 ∧ A) ∨ B) (h : 0 ≤ r.toInt) : B := by
  rcases e with e | e
  · rw [e.1] at h; exact absurd h (by decide)
  · exact e
theorem so_n {r : Int32} {k : Int} (e : (r = -1 ∧ ¬ (0 ≤ k ∧ k ≤ 9)) ∨ SO8 k r.toInt) (h : r.toInt < 0) : ¬ (0 ≤ k ∧ k ≤ 9) := by
  rcases e with e | e
  · exact e.2
  · obtain ⟨_, _, e⟩ := e; omega
set_option maxHeartbeats 4000000 in
set_option maxRecDepth 100000 in
theorem x_X12_isRelease {l : Launch} {G : GG}  {L : List Nat} {f : HF} {ad : Nat → Nat → Nat} {pa : (Nat → Int32) → Prop} {PA : (Nat → Int32) → Prop} {PI : PIT} {PX : (Nat → Int32) → Prop} {td fa fp at9 ps9 tk nu t0 wr so pd op9 cg iw on9 is9 se : Int32} {wd : Int64} {gt : Nat → Int32} {i9 : Nat} (I : SH (spM PA PI PX pa) nnM G ad L f) (p_ad_0_0 : pt L f (ad 0 0) (.inr (12, [.ref (ad 1 0), .ref (ad 2 0), .ref (ad 3 0), .ref (ad 4 0), .int td, .int fa, .int fp, .int at9, .int ps9, .int tk, .int nu, .long wd, .int t0, .int wr, .int so, .ref (ad 5 0), .ref (ad 6 0), .int pd, .int op9, .int cg, .int iw, .int on9, .ref (ad 7 0), .ref (ad 8 0), .ref (ad 9 0), .int is9, .ref (ad 10 0), .ref (ad 11 0), .ref (ad 12 0), .ref (ad 13 0), .int se, .ref (ad 14 0)]))) (p_ad_4_0 : pt L f (ad 4 0) (.inl (G.2 0, 300, .inl gt))) (hB : BYT gt) (hTN : TKN (bI gt) td.toInt.toNat i9 at9 ps9 tk nu wd) : PMp l yX12_isRelease cX12_isRelease 1 .boolean 3 0 0 G [.ref (ad 0 0)] L f (fun r => (bn 0 1 r ∧ (¬ r = 0 → tk = 2) ∧ ((r = 1 ∧ (tkK (bI gt) td.toInt.toNat i9) = 6) ∨ (r = 0 ∧ (tkK (bI gt) td.toInt.toNat i9) ≠ 6)))) := by
  refine PMi.of (post := fun r L1 f1 => ((bn 0 1 r ∧ (¬ r = 0 → tk = 2) ∧ ((r = 1 ∧ (tkK (bI gt) td.toInt.toNat i9) = 6) ∨ (r = 0 ∧ (tkK (bI gt) td.toInt.toNat i9) ≠ 6)))) ∧ L1 = L ∧ f1 = f) (own := RX12) (by decide) rfl (Nat.le_of_ble_eq_true rfl) (fun sz p e s m args below meth c A ls hA1 hname S Y hl => ?_)
  have hx := S.hx
  have hb := S.hb
  have hl : lv_has ls 1 [(0, .ref (ad 0 0))] := hl
  obtain ⟨bfe_4, bfe_5, bfe_6, bfe_7, bfe_8, bfe_12, bfe_13, bfe_17, bfe_18, bfe_19, bfe_20, bfe_25⟩ := obM I p_ad_0_0
  refine lv_aload_n hx hb dX12_isRelease_0 rfl (lv_at hl 0 rfl) ?_
  refine pg_get S Y ok_X12 9 (by decide) kf12_98 (v := .int tk) p_ad_0_0 rfl dX12_isRelease_1 ?_
  refine lv_iconst (v := 2) hx hb dX12_isRelease_4 (by decide) ?_
  refine lv_icmp_ne (tgt := 129) hx hb dX12_isRelease_5 (by decide) (fun c_89947 => ?_) (fun c_89947 => ?_)
  · refine lv_iconst (v := 0) hx hb dX12_isRelease_129 (by decide) ?_
    exact prI (post := fun r L1 f1 => ((bn 0 1 r ∧ (¬ r = 0 → tk = 2) ∧ ((r = 1 ∧ (tkK (bI gt) td.toInt.toNat i9) = 6) ∨ (r = 0 ∧ (tkK (bI gt) td.toInt.toNat i9) ≠ 6)))) ∧ L1 = L ∧ f1 = f) S Y rfl (by decide) (by decide) hA1 ⟨⟨bn_k (by decide), fun h => absurd rfl h, Or.inr ⟨rfl, fun hk => c_89947 (Int32.toInt_inj.mp (((tk_k hTN.2.2).2.2.2.2.2.2 (by omega)).trans rfl))⟩⟩, rfl, rfl⟩ dX12_isRelease_130
  · have B_89948 : bn 2 2 tk := bn_w (bn_eq c_89947 (show bn 2 2 (2 : Int32) from bn_k (by decide))) (by decide)
    refine lv_aload_n hx hb dX12_isRelease_8 rfl (lv_at hl 0 rfl) ?_
    refine pg_get S Y ok_X12 7 (by decide) kf12_88 (v := .int at9) p_ad_0_0 rfl dX12_isRelease_9 ?_
    refine lv_aload_n hx hb dX12_isRelease_12 rfl (lv_at hl 0 rfl) ?_
    refine pg_get S Y ok_X12 8 (by decide) kf12_95 (v := .int ps9) p_ad_0_0 rfl dX12_isRelease_13 ?_
    refine lv_isub hx hb dX12_isRelease_16 ?_
    refine lv_topi (fun x_89949 ex_89949 => ?_)
    refine lv_bipush (v := 7) hx hb dX12_isRelease_17 (by decide) ?_
    refine lv_icmp_ne (tgt := 129) hx hb dX12_isRelease_19 (by decide) (fun c_89950 => ?_) (fun c_89950 => ?_)
    · refine lv_iconst (v := 0) hx hb dX12_isRelease_129 (by decide) ?_
      exact prI (post := fun r L1 f1 => ((bn 0 1 r ∧ (¬ r = 0 → tk = 2) ∧ ((r = 1 ∧ (tkK (bI gt) td.toInt.toNat i9) = 6) ∨ (r = 0 ∧ (tkK (bI gt) td.toInt.toNat i9) ≠ 6)))) ∧ L1 = L ∧ f1 = f) S Y rfl (by decide) (by decide) hA1 ⟨⟨bn_k (by decide), fun h => absurd rfl h, Or.inr ⟨rfl, fun hk => c_89950 (Int32.toInt_inj.mp (by have z9 := rel_7 hTN c_89947 hk; have z8 := (la_sub ex_89949 (rfl : at9.toInt = at9.toInt) (rfl : ps9.toInt = ps9.toInt) bfe_7 bfe_8 (by decide)); have z7 : (7 : Int32).toInt = 7 := rfl; omega))⟩⟩, rfl, rfl⟩ dX12_isRelease_130
    · have B_89951 : bn 7 7 x_89949 := bn_w (bn_eq c_89950 (show bn 7 7 (7 : Int32) from bn_k (by decide))) (by decide)
      refine lv_aload_n hx hb dX12_isRelease_22 rfl (lv_at hl 0 rfl) ?_
      refine lv_aload_n hx hb dX12_isRelease_23 rfl (lv_at hl 0 rfl) ?_
      refine pg_get S Y ok_X12 8 (by decide) kf12_95 (v := .int ps9) p_ad_0_0 rfl dX12_isRelease_24 ?_
      refine cVp (As := [.int ps9]) (rest := []) S Y (x_X12_byteAt (l := l) I p_ad_0_0 p_ad_4_0 (bn_w bfe_8 (by decide))) cw_X12_byteAt km12_91 p_ad_0_0 ok_X12.1 rfl rfl ⟨Nat.le_of_ble_eq_true rfl, Nat.le_of_ble_eq_true rfl⟩ hl.1 rfl (Nat.le_of_ble_eq_true rfl) ⟨Nat.le_of_ble_eq_true rfl, Nat.le_of_ble_eq_true rfl⟩ dX12_isRelease_27 (fun r_89952 H locs er_89952 Y => ?_)
      refine lv_aload_n hx hb dX12_isRelease_30 rfl (lv_at hl 0 rfl) ?_
      refine lv_aload_n hx hb dX12_isRelease_31 rfl (lv_at hl 0 rfl) ?_
      refine pg_get S Y ok_X12 8 (by decide) kf12_95 (v := .int ps9) p_ad_0_0 rfl dX12_isRelease_32 ?_
      refine lv_iconst (v := 1) hx hb dX12_isRelease_35 (by decide) ?_
      refine lv_iadd hx hb dX12_isRelease_36 ?_
      refine lv_topi (fun x_89953 ex_89953 => ?_)
      refine cVp (As := [.int x_89953]) (rest := [.int r_89952]) S Y (x_X12_byteAt (l := l) I p_ad_0_0 p_ad_4_0 (bn_w (bn_eq ex_89953 (bn_add bfe_8 (show bn 1 1 (1 : Int32) from bn_k (by decide)) (by decide))) (by decide))) cw_X12_byteAt km12_91 p_ad_0_0 ok_X12.1 rfl rfl ⟨Nat.le_of_ble_eq_true rfl, Nat.le_of_ble_eq_true rfl⟩ hl.1 rfl (Nat.le_of_ble_eq_true rfl) ⟨Nat.le_of_ble_eq_true rfl, Nat.le_of_ble_eq_true rfl⟩ dX12_isRelease_37 (fun r_89954 H locs er_89954 Y => ?_)
      refine lv_aload_n hx hb dX12_isRelease_40 rfl (lv_at hl 0 rfl) ?_
      refine lv_aload_n hx hb dX12_isRelease_41 rfl (lv_at hl 0 rfl) ?_
      refine pg_get S Y ok_X12 8 (by decide) kf12_95 (v := .int ps9) p_ad_0_0 rfl dX12_isRelease_42 ?_
      refine lv_iconst (v := 2) hx hb dX12_isRelease_45 (by decide) ?_
      refine lv_iadd hx hb dX12_isRelease_46 ?_
      refine lv_topi (fun x_89955 ex_89955 => ?_)
      refine cVp (As := [.int x_89955]) (rest := [.int r_89954, .int r_89952]) S Y (x_X12_byteAt (l := l) I p_ad_0_0 p_ad_4_0 (bn_w (bn_eq ex_89955 (bn_add bfe_8 (show bn 2 2 (2 : Int32) from bn_k (by decide)) (by decide))) (by decide))) cw_X12_byteAt km12_91 p_ad_0_0 ok_X12.1 rfl rfl ⟨Nat.le_of_ble_eq_true rfl, Nat.le_of_ble_eq_true rfl⟩ hl.1 rfl (Nat.le_of_ble_eq_true rfl) ⟨Nat.le_of_ble_eq_true rfl, Nat.le_of_ble_eq_true rfl⟩ dX12_isRelease_47 (fun r_89956 H locs er_89956 Y => ?_)
      refine lv_aload_n hx hb dX12_isRelease_50 rfl (lv_at hl 0 rfl) ?_
      refine lv_aload_n hx hb dX12_isRelease_51 rfl (lv_at hl 0 rfl) ?_
      refine pg_get S Y ok_X12 8 (by decide) kf12_95 (v := .int ps9) p_ad_0_0 rfl dX12_isRelease_52 ?_
      refine lv_iconst (v := 3) hx hb dX12_isRelease_55 (by decide) ?_
      refine lv_iadd hx hb dX12_isRelease_56 ?_
      refine lv_topi (fun x_89957 ex_89957 => ?_)
      refine cVp (As := [.int x_89957]) (rest := [.int r_89956, .int r_89954, .int r_89952]) S Y (x_X12_byteAt (l := l) I p_ad_0_0 p_ad_4_0 (bn_w (bn_eq ex_89957 (bn_add bfe_8 (show bn 3 3 (3 : Int32) from bn_k (by decide)) (by decide))) (by decide))) cw_X12_byteAt km12_91 p_ad_0_0 ok_X12.1 rfl rfl ⟨Nat.le_of_ble_eq_true rfl, Nat.le_of_ble_eq_true rfl⟩ hl.1 rfl (Nat.le_of_ble_eq_true rfl) ⟨Nat.le_of_ble_eq_true rfl, Nat.le_of_ble_eq_true rfl⟩ dX12_isRelease_57 (fun r_89958 H locs er_89958 Y => ?_)
      refine cSlp (As := [.int r_89952, .int r_89954, .int r_89956, .int r_89958]) (rest := []) S Y (x_X12_w4 (l := l) ) cw_X12_w4 km12_128 rfl ⟨Nat.le_of_ble_eq_true rfl, Nat.le_of_ble_eq_true rfl⟩ hl.1 rfl (Nat.le_of_ble_eq_true rfl) ⟨Nat.le_of_ble_eq_true rfl, Nat.le_of_ble_eq_true rfl⟩ dX12_isRelease_60 (fun r_89959 H locs er_89959 Y => ?_)
      refine lv_bipush (v := 114) hx hb dX12_isRelease_63 (by decide) ?_
      refine lv_bipush (v := 101) hx hb dX12_isRelease_65 (by decide) ?_
      refine lv_bipush (v := 108) hx hb dX12_isRelease_67 (by decide) ?_
      refine lv_bipush (v := 101) hx hb dX12_isRelease_69 (by decide) ?_
      refine cSlp (As := [.int 114, .int 101, .int 108, .int 101]) (rest := [.long r_89959]) S Y (x_X12_w4 (l := l) ) cw_X12_w4 km12_128 rfl ⟨Nat.le_of_ble_eq_true rfl, Nat.le_of_ble_eq_true rfl⟩ hl.1 rfl (Nat.le_of_ble_eq_true rfl) ⟨Nat.le_of_ble_eq_true rfl, Nat.le_of_ble_eq_true rfl⟩ dX12_isRelease_71 (fun r_89960 H locs er_89960 Y => ?_)
      refine W.lcmp hx hb dX12_isRelease_74 ?_
      refine lv_topi (fun x_89961 ex_89961 => ?_)
      refine lv_if_ne (tgt := 129) hx hb dX12_isRelease_75 (by decide) (fun c_89962 => ?_) (fun c_89962 => ?_)
      · refine lv_iconst (v := 0) hx hb dX12_isRelease_129 (by decide) ?_
        exact prI (post := fun r L1 f1 => ((bn 0 1 r ∧ (¬ r = 0 → tk = 2) ∧ ((r = 1 ∧ (tkK (bI gt) td.toInt.toNat i9) = 6) ∨ (r = 0 ∧ (tkK (bI gt) td.toInt.toNat i9) ≠ 6)))) ∧ L1 = L ∧ f1 = f) S Y rfl (by decide) (by decide) hA1 ⟨⟨bn_k (by decide), fun h => absurd rfl h, Or.inr ⟨rfl, rel_n4 hTN c_89947 (by have z8 := (la_sub ex_89949 (rfl : at9.toInt = at9.toInt) (rfl : ps9.toInt = ps9.toInt) bfe_7 bfe_8 (by decide)); rw [c_89950] at z8; have z7 : (7 : Int32).toInt = 7 := rfl; omega) er_89952.2 (by have z9 := (rfl : ps9.toInt = ps9.toInt); omega) er_89954.2 (by have z9 := (la_add ex_89953 (rfl : ps9.toInt = ps9.toInt) (show (1 : Int32).toInt = 1 from rfl) bfe_8 (show bn 1 1 (1 : Int32) from bn_k (by decide)) (by decide)); omega) er_89956.2 (by have z9 := (la_add ex_89955 (rfl : ps9.toInt = ps9.toInt) (show (2 : Int32).toInt = 2 from rfl) bfe_8 (show bn 2 2 (2 : Int32) from bn_k (by decide)) (by decide)); omega) er_89958.2 (by have z9 := (la_add ex_89957 (rfl : ps9.toInt = ps9.toInt) (show (3 : Int32).toInt = 3 from rfl) bfe_8 (show bn 3 3 (3 : Int32) from bn_k (by decide)) (by decide)); omega) (fun z => c_89962 ((lc_eq ex_89961).mpr (er_89959.trans (z.trans er_89960.symm))))⟩⟩, rfl, rfl⟩ dX12_isRelease_130
      · have B_89963 : bn 0 0 x_89961 := bn_w (bn_eq c_89962 (show bn 0 0 (0 : Int32) from bn_k (by decide))) (by decide)
        refine lv_aload_n hx hb dX12_isRelease_78 rfl (lv_at hl 0 rfl) ?_
        refine lv_aload_n hx hb dX12_isRelease_79 rfl (lv_at hl 0 rfl) ?_
        refine pg_get S Y ok_X12 8 (by decide) kf12_95 (v := .int ps9) p_ad_0_0 rfl dX12_isRelease_80 ?_
        refine lv_iconst (v := 4) hx hb dX12_isRelease_83 (by decide) ?_
        refine lv_iadd hx hb dX12_isRelease_84 ?_
        refine lv_topi (fun x_89964 ex_89964 => ?_)
        refine cVp (As := [.int x_89964]) (rest := []) S Y (x_X12_byteAt (l := l) I p_ad_0_0 p_ad_4_0 (bn_w (bn_eq ex_89964 (bn_add bfe_8 (show bn 4 4 (4 : Int32) from bn_k (by decide)) (by decide))) (by decide))) cw_X12_byteAt km12_91 p_ad_0_0 ok_X12.1 rfl rfl ⟨Nat.le_of_ble_eq_true rfl, Nat.le_of_ble_eq_true rfl⟩ hl.1 rfl (Nat.le_of_ble_eq_true rfl) ⟨Nat.le_of_ble_eq_true rfl, Nat.le_of_ble_eq_true rfl⟩ dX12_isRelease_85 (fun r_89965 H locs er_89965 Y => ?_)
        refine lv_aload_n hx hb dX12_isRelease_88 rfl (lv_at hl 0 rfl) ?_
        refine lv_aload_n hx hb dX12_isRelease_89 rfl (lv_at hl 0 rfl) ?_
        refine pg_get S Y ok_X12 8 (by decide) kf12_95 (v := .int ps9) p_ad_0_0 rfl dX12_isRelease_90 ?_
        refine lv_iconst (v := 5) hx hb dX12_isRelease_93 (by decide) ?_
        refine lv_iadd hx hb dX12_isRelease_94 ?_
        refine lv_topi (fun x_89966 ex_89966 => ?_)
        refine cVp (As := [.int x_89966]) (rest := [.int r_89965]) S Y (x_X12_byteAt (l := l) I p_ad_0_0 p_ad_4_0 (bn_w (bn_eq ex_89966 (bn_add bfe_8 (show bn 5 5 (5 : Int32) from bn_k (by decide)) (by decide))) (by decide))) cw_X12_byteAt km12_91 p_ad_0_0 ok_X12.1 rfl rfl ⟨Nat.le_of_ble_eq_true rfl, Nat.le_of_ble_eq_true rfl⟩ hl.1 rfl (Nat.le_of_ble_eq_true rfl) ⟨Nat.le_of_ble_eq_true rfl, Nat.le_of_ble_eq_true rfl⟩ dX12_isRelease_95 (fun r_89967 H locs er_89967 Y => ?_)
        refine lv_aload_n hx hb dX12_isRelease_98 rfl (lv_at hl 0 rfl) ?_
        refine lv_aload_n hx hb dX12_isRelease_99 rfl (lv_at hl 0 rfl) ?_
        refine pg_get S Y ok_X12 8 (by decide) kf12_95 (v := .int ps9) p_ad_0_0 rfl dX12_isRelease_100 ?_
        refine lv_bipush (v := 6) hx hb dX12_isRelease_103 (by decide) ?_
        refine lv_iadd hx hb dX12_isRelease_105 ?_
        refine lv_topi (fun x_89968 ex_89968 => ?_)
        refine cVp (As := [.int x_89968]) (rest := [.int r_89967, .int r_89965]) S Y (x_X12_byteAt (l := l) I p_ad_0_0 p_ad_4_0 (bn_w (bn_eq ex_89968 (bn_add bfe_8 (show bn 6 6 (6 : Int32) from bn_k (by decide)) (by decide))) (by decide))) cw_X12_byteAt km12_91 p_ad_0_0 ok_X12.1 rfl rfl ⟨Nat.le_of_ble_eq_true rfl, Nat.le_of_ble_eq_true rfl⟩ hl.1 rfl (Nat.le_of_ble_eq_true rfl) ⟨Nat.le_of_ble_eq_true rfl, Nat.le_of_ble_eq_true rfl⟩ dX12_isRelease_106 (fun r_89969 H locs er_89969 Y => ?_)
        refine cSlp (As := [.int r_89965, .int r_89967, .int r_89969]) (rest := []) S Y (x_X12_w3 (l := l) ) cw_X12_w3 km12_124 rfl ⟨Nat.le_of_ble_eq_true rfl, Nat.le_of_ble_eq_true rfl⟩ hl.1 rfl (Nat.le_of_ble_eq_true rfl) ⟨Nat.le_of_ble_eq_true rfl, Nat.le_of_ble_eq_true rfl⟩ dX12_isRelease_109 (fun r_89970 H locs er_89970 Y => ?_)
        refine lv_bipush (v := 97) hx hb dX12_isRelease_112 (by decide) ?_
        refine lv_bipush (v := 115) hx hb dX12_isRelease_114 (by decide) ?_
        refine lv_bipush (v := 101) hx hb dX12_isRelease_116 (by decide) ?_
        refine cSlp (As := [.int 97, .int 115, .int 101]) (rest := [.long r_89970]) S Y (x_X12_w3 (l := l) ) cw_X12_w3 km12_124 rfl ⟨Nat.le_of_ble_eq_true rfl, Nat.le_of_ble_eq_true rfl⟩ hl.1 rfl (Nat.le_of_ble_eq_true rfl) ⟨Nat.le_of_ble_eq_true rfl, Nat.le_of_ble_eq_true rfl⟩ dX12_isRelease_118 (fun r_89971 H locs er_89971 Y => ?_)
        refine W.lcmp hx hb dX12_isRelease_121 ?_
        refine lv_topi (fun x_89972 ex_89972 => ?_)
        refine lv_if_ne (tgt := 129) hx hb dX12_isRelease_122 (by decide) (fun c_89973 => ?_) (fun c_89973 => ?_)
        · refine lv_iconst (v := 0) hx hb dX12_isRelease_129 (by decide) ?_
          exact prI (post := fun r L1 f1 => ((bn 0 1 r ∧ (¬ r = 0 → tk = 2) ∧ ((r = 1 ∧ (tkK (bI gt) td.toInt.toNat i9) = 6) ∨ (r = 0 ∧ (tkK (bI gt) td.toInt.toNat i9) ≠ 6)))) ∧ L1 = L ∧ f1 = f) S Y rfl (by decide) (by decide) hA1 ⟨⟨bn_k (by decide), fun h => absurd rfl h, Or.inr ⟨rfl, rel_n3 hTN c_89947 (by have z8 := (la_sub ex_89949 (rfl : at9.toInt = at9.toInt) (rfl : ps9.toInt = ps9.toInt) bfe_7 bfe_8 (by decide)); rw [c_89950] at z8; have z7 : (7 : Int32).toInt = 7 := rfl; omega) (show RB gt td ps9 _ _ _ _ _ _ _ _ _ _ _ _ _ _ from ⟨⟨er_89952.2, (by have z9 := (rfl : ps9.toInt = ps9.toInt); omega)⟩, ⟨er_89954.2, (by have z9 := (la_add ex_89953 (rfl : ps9.toInt = ps9.toInt) (show (1 : Int32).toInt = 1 from rfl) bfe_8 (show bn 1 1 (1 : Int32) from bn_k (by decide)) (by decide)); omega)⟩, ⟨er_89956.2, (by have z9 := (la_add ex_89955 (rfl : ps9.toInt = ps9.toInt) (show (2 : Int32).toInt = 2 from rfl) bfe_8 (show bn 2 2 (2 : Int32) from bn_k (by decide)) (by decide)); omega)⟩, ⟨er_89958.2, (by have z9 := (la_add ex_89957 (rfl : ps9.toInt = ps9.toInt) (show (3 : Int32).toInt = 3 from rfl) bfe_8 (show bn 3 3 (3 : Int32) from bn_k (by decide)) (by decide)); omega)⟩, ⟨er_89965.2, (by have z9 := (la_add ex_89964 (rfl : ps9.toInt = ps9.toInt) (show (4 : Int32).toInt = 4 from rfl) bfe_8 (show bn 4 4 (4 : Int32) from bn_k (by decide)) (by decide)); omega)⟩, ⟨er_89967.2, (by have z9 := (la_add ex_89966 (rfl : ps9.toInt = ps9.toInt) (show (5 : Int32).toInt = 5 from rfl) bfe_8 (show bn 5 5 (5 : Int32) from bn_k (by decide)) (by decide)); omega)⟩, ⟨er_89969.2, (by have z9 := (la_add ex_89968 (rfl : ps9.toInt = ps9.toInt) (show (6 : Int32).toInt = 6 from rfl) bfe_8 (show bn 6 6 (6 : Int32) from bn_k (by decide)) (by decide)); omega)⟩⟩) (fun z => c_89973 ((lc_eq ex_89972).mpr (er_89970.trans (z.trans er_89971.symm))))⟩⟩, rfl, rfl⟩ dX12_isRelease_130
        · have B_89974 : bn 0 0 x_89972 := bn_w (bn_eq c_89973 (show bn 0 0 (0 : Int32) from bn_k (by decide))) (by decide)
          refine lv_iconst (v := 1) hx hb dX12_isRelease_125 (by decide) ?_
          refine lv_goto (tgt := 130) hx hb dX12_isRelease_126 (by decide) ?_
          exact prI (post := fun r L1 f1 => ((bn 0 1 r ∧ (¬ r = 0 → tk = 2) ∧ ((r = 1 ∧ (tkK (bI gt) td.toInt.toNat i9) = 6) ∨ (r = 0 ∧ (tkK (bI gt) td.toInt.toNat i9) ≠ 6)))) ∧ L1 = L ∧ f1 = f) S Y rfl (by decide) (by decide) hA1 ⟨⟨bn_k (by decide), fun _ => c_89947, Or.inl ⟨rfl, rel_yes hB hTN c_89947 (by have z8 := (la_sub ex_89949 (rfl : at9.toInt = at9.toInt) (rfl : ps9.toInt = ps9.toInt) bfe_7 bfe_8 (by decide)); rw [c_89950] at z8; have z7 : (7 : Int32).toInt = 7 := rfl; omega) (show RB gt td ps9 _ _ _ _ _ _ _ _ _ _ _ _ _ _ from ⟨⟨er_89952.2, (by have z9 := (rfl : ps9.toInt = ps9.toInt); omega)⟩, ⟨er_89954.2, (by have z9 := (la_add ex_89953 (rfl : ps9.toInt = ps9.toInt) (show (1 : Int32).toInt = 1 from rfl) bfe_8 (show bn 1 1 (1 : Int32) from bn_k (by decide)) (by decide)); omega)⟩, ⟨er_89956.2, (by have z9 := (la_add ex_89955 (rfl : ps9.toInt = ps9.toInt) (show (2 : Int32).toInt = 2 from rfl) bfe_8 (show bn 2 2 (2 : Int32) from bn_k (by decide)) (by decide)); omega)⟩, ⟨er_89958.2, (by have z9 := (la_add ex_89957 (rfl : ps9.toInt = ps9.toInt) (show (3 : Int32).toInt = 3 from rfl) bfe_8 (show bn 3 3 (3 : Int32) from bn_k (by decide)) (by decide)); omega)⟩, ⟨er_89965.2, (by have z9 := (la_add ex_89964 (rfl : ps9.toInt = ps9.toInt) (show (4 : Int32).toInt = 4 from rfl) bfe_8 (show bn 4 4 (4 : Int32) from bn_k (by decide)) (by decide)); omega)⟩, ⟨er_89967.2, (by have z9 := (la_add ex_89966 (rfl : ps9.toInt = ps9.toInt) (show (5 : Int32).toInt = 5 from rfl) bfe_8 (show bn 5 5 (5 : Int32) from bn_k (by decide)) (by decide)); omega)⟩, ⟨er_89969.2, (by have z9 := (la_add ex_89968 (rfl : ps9.toInt = ps9.toInt) (show (6 : Int32).toInt = 6 from rfl) bfe_8 (show bn 6 6 (6 : Int32) from bn_k (by decide)) (by decide)); omega)⟩⟩) (er_89959.symm.trans (((lc_eq ex_89961).mp c_89962).trans er_89960)) (er_89970.symm.trans (((lc_eq ex_89972).mp c_89973).trans er_89971))⟩⟩, rfl, rfl⟩ dX12_isRelease_130
set_option maxHeartbeats 4000000 in
set_option maxRecDepth 100000 in
theorem x_X12_sortOf {l : Launch} {G : GG}  {L : List Nat} {f : HF} {ad : Nat → Nat → Nat} {pa : (Nat → Int32) → Prop} {PA : (Nat → Int32) → Prop} {PI : PIT} {PX : (Nat → Int32) → Prop} {td fa fp at9 ps9 tk nu t0 wr so pd op9 cg iw on9 is9 se : Int32} {wd : Int64} {gt : Nat → Int32} {i9 : Nat} (I : SH (spM PA PI PX pa) nnM G ad L f) (p_ad_0_0 : pt L f (ad 0 0) (.inr (12, [.ref (ad 1 0), .ref (ad 2 0), .ref (ad 3 0), .ref (ad 4 0), .int td, .int fa, .int fp, .int at9, .int ps9, .int tk, .int nu, .long wd, .int t0, .int wr, .int so, .ref (ad 5 0), .ref (ad 6 0), .int pd, .int op9, .int cg, .int iw, .int on9, .ref (ad 7 0), .ref (ad 8 0), .ref (ad 9 0), .int is9, .ref (ad 10 0), .ref (ad 11 0), .ref (ad 12 0), .ref (ad 13 0), .int se, .ref (ad 14 0)]))) (p_ad_4_0 : pt L f (ad 4 0) (.inl (G.2 0, 300, .inl gt))) (hB : BYT gt) (hTN : TKN (bI gt) td.toInt.toNat i9 at9 ps9 tk nu wd) : PMp l yX12_sortOf cX12_sortOf 1 .int 4 0 0 G [.ref (ad 0 0)] L f (fun r => (bn (-1) 10 r ∧ (¬ r = -1 → tk = 2) ∧ ((r = -1 ∧ ¬ (0 ≤ (tkK (bI gt) td.toInt.toNat i9) ∧ (tkK (bI gt) td.toInt.toNat i9) ≤ 9)) ∨ SO8 (tkK (bI gt) td.toInt.toNat i9) r.toInt))) := by
  refine PMi.of (post := fun r L1 f1 => ((bn (-1) 10 r ∧ (¬ r = -1 → tk = 2) ∧ ((r = -1 ∧ ¬ (0 ≤ (tkK (bI gt) td.toInt.toNat i9) ∧ (tkK (bI gt) td.toInt.toNat i9) ≤ 9)) ∨ SO8 (tkK (bI gt) td.toInt.toNat i9) r.toInt))) ∧ L1 = L ∧ f1 = f) (own := RX12) (by decide) rfl (Nat.le_of_ble_eq_true rfl) (fun sz p e s m args below meth c A ls hA1 hname S Y hl => ?_)
  have hx := S.hx
  have hb := S.hb
  have hl : lv_has ls 1 [(0, .ref (ad 0 0))] := hl
  obtain ⟨bfe_4, bfe_5, bfe_6, bfe_7, bfe_8, bfe_12, bfe_13, bfe_17, bfe_18, bfe_19, bfe_20, bfe_25⟩ := obM I p_ad_0_0
  refine lv_aload_n hx hb dX12_sortOf_0 rfl (lv_at hl 0 rfl) ?_
  refine lv_bipush (v := 119) hx hb dX12_sortOf_1 (by decide) ?_
  refine lv_bipush (v := 101) hx hb dX12_sortOf_3 (by decide) ?_
  refine lv_bipush (v := 97) hx hb dX12_sortOf_5 (by decide) ?_
  refine lv_bipush (v := 114) hx hb dX12_sortOf_7 (by decide) ?_
  refine lv_bipush (v := 115) hx hb dX12_sortOf_9 (by decide) ?_
  refine cSlp (As := [.int 119, .int 101, .int 97, .int 114, .int 115]) (rest := [.ref (ad 0 0)]) S Y (x_X12_w5 (l := l) ) cw_X12_w5 km12_132 rfl ⟨Nat.le_of_ble_eq_true rfl, Nat.le_of_ble_eq_true rfl⟩ hl.1 rfl (Nat.le_of_ble_eq_true rfl) ⟨Nat.le_of_ble_eq_true rfl, Nat.le_of_ble_eq_true rfl⟩ dX12_sortOf_11 (fun r_90073 H locs er_90073 Y => ?_)
  refine cVp (As := [.long r_90073]) (rest := []) S Y (x_X12_isWord (l := l) I p_ad_0_0) cw_X12_isWord km12_187 p_ad_0_0 ok_X12.1 rfl rfl ⟨Nat.le_of_ble_eq_true rfl, Nat.le_of_ble_eq_true rfl⟩ hl.1 rfl (Nat.le_of_ble_eq_true rfl) ⟨Nat.le_of_ble_eq_true rfl, Nat.le_of_ble_eq_true rfl⟩ dX12_sortOf_14 (fun r_90074 H locs er_90074 Y => ?_)
  refine lv_if_eq (tgt := 22) hx hb dX12_sortOf_17 (by decide) (fun c_90075 => ?_) (fun c_90075 => ?_)
  · have B_90076 : bn 0 0 r_90074 := bn_w (bn_eq c_90075 (show bn 0 0 (0 : Int32) from bn_k (by decide))) (by decide)
    refine lv_aload_n hx hb dX12_sortOf_22 rfl (lv_at hl 0 rfl) ?_
    refine lv_bipush (v := 97) hx hb dX12_sortOf_23 (by decide) ?_
    refine lv_bipush (v := 99) hx hb dX12_sortOf_25 (by decide) ?_
    refine lv_bipush (v := 104) hx hb dX12_sortOf_27 (by decide) ?_
    refine lv_bipush (v := 101) hx hb dX12_sortOf_29 (by decide) ?_
    refine lv_bipush (v := 115) hx hb dX12_sortOf_31 (by decide) ?_
    refine cSlp (As := [.int 97, .int 99, .int 104, .int 101, .int 115]) (rest := [.ref (ad 0 0)]) S Y (x_X12_w5 (l := l) ) cw_X12_w5 km12_132 rfl ⟨Nat.le_of_ble_eq_true rfl, Nat.le_of_ble_eq_true rfl⟩ hl.1 rfl (Nat.le_of_ble_eq_true rfl) ⟨Nat.le_of_ble_eq_true rfl, Nat.le_of_ble_eq_true rfl⟩ dX12_sortOf_33 (fun r_90078 H locs er_90078 Y => ?_)
    refine cVp (As := [.long r_90078]) (rest := []) S Y (x_X12_isWord (l := l) I p_ad_0_0) cw_X12_isWord km12_187 p_ad_0_0 ok_X12.1 rfl rfl ⟨Nat.le_of_ble_eq_true rfl, Nat.le_of_ble_eq_true rfl⟩ hl.1 rfl (Nat.le_of_ble_eq_true rfl) ⟨Nat.le_of_ble_eq_true rfl, Nat.le_of_ble_eq_true rfl⟩ dX12_sortOf_36 (fun r_90079 H locs er_90079 Y => ?_)
    refine lv_if_eq (tgt := 44) hx hb dX12_sortOf_39 (by decide) (fun c_90080 => ?_) (fun c_90080 => ?_)
    · have B_90081 : bn 0 0 r_90079 := bn_w (bn_eq c_90080 (show bn 0 0 (0 : Int32) from bn_k (by decide))) (by decide)
      refine lv_aload_n hx hb dX12_sortOf_44 rfl (lv_at hl 0 rfl) ?_
      refine lv_bipush (v := 114) hx hb dX12_sortOf_45 (by decide) ?_
      refine lv_bipush (v := 105) hx hb dX12_sortOf_47 (by decide) ?_
      refine lv_bipush (v := 115) hx hb dX12_sortOf_49 (by decide) ?_
      refine lv_bipush (v := 107) hx hb dX12_sortOf_51 (by decide) ?_
      refine cSlp (As := [.int 114, .int 105, .int 115, .int 107]) (rest := [.ref (ad 0 0)]) S Y (x_X12_w4 (l := l) ) cw_X12_w4 km12_128 rfl ⟨Nat.le_of_ble_eq_true rfl, Nat.le_of_ble_eq_true rfl⟩ hl.1 rfl (Nat.le_of_ble_eq_true rfl) ⟨Nat.le_of_ble_eq_true rfl, Nat.le_of_ble_eq_true rfl⟩ dX12_sortOf_53 (fun r_90083 H locs er_90083 Y => ?_)
      refine cVp (As := [.long r_90083]) (rest := []) S Y (x_X12_isWord (l := l) I p_ad_0_0) cw_X12_isWord km12_187 p_ad_0_0 ok_X12.1 rfl rfl ⟨Nat.le_of_ble_eq_true rfl, Nat.le_of_ble_eq_true rfl⟩ hl.1 rfl (Nat.le_of_ble_eq_true rfl) ⟨Nat.le_of_ble_eq_true rfl, Nat.le_of_ble_eq_true rfl⟩ dX12_sortOf_56 (fun r_90084 H locs er_90084 Y => ?_)
      refine lv_if_eq (tgt := 64) hx hb dX12_sortOf_59 (by decide) (fun c_90085 => ?_) (fun c_90085 => ?_)
      · have B_90086 : bn 0 0 r_90084 := bn_w (bn_eq c_90085 (show bn 0 0 (0 : Int32) from bn_k (by decide))) (by decide)
        refine lv_aload_n hx hb dX12_sortOf_64 rfl (lv_at hl 0 rfl) ?_
        refine lv_bipush (v := 111) hx hb dX12_sortOf_65 (by decide) ?_
        refine lv_bipush (v := 110) hx hb dX12_sortOf_67 (by decide) ?_
        refine lv_bipush (v := 101) hx hb dX12_sortOf_69 (by decide) ?_
        refine cSlp (As := [.int 111, .int 110, .int 101]) (rest := [.ref (ad 0 0)]) S Y (x_X12_w3 (l := l) ) cw_X12_w3 km12_124 rfl ⟨Nat.le_of_ble_eq_true rfl, Nat.le_of_ble_eq_true rfl⟩ hl.1 rfl (Nat.le_of_ble_eq_true rfl) ⟨Nat.le_of_ble_eq_true rfl, Nat.le_of_ble_eq_true rfl⟩ dX12_sortOf_71 (fun r_90088 H locs er_90088 Y => ?_)
        refine cVp (As := [.long r_90088]) (rest := []) S Y (x_X12_isWord (l := l) I p_ad_0_0) cw_X12_isWord km12_187 p_ad_0_0 ok_X12.1 rfl rfl ⟨Nat.le_of_ble_eq_true rfl, Nat.le_of_ble_eq_true rfl⟩ hl.1 rfl (Nat.le_of_ble_eq_true rfl) ⟨Nat.le_of_ble_eq_true rfl, Nat.le_of_ble_eq_true rfl⟩ dX12_sortOf_74 (fun r_90089 H locs er_90089 Y => ?_)
        refine lv_if_eq (tgt := 82) hx hb dX12_sortOf_77 (by decide) (fun c_90090 => ?_) (fun c_90090 => ?_)
        · have B_90091 : bn 0 0 r_90089 := bn_w (bn_eq c_90090 (show bn 0 0 (0 : Int32) from bn_k (by decide))) (by decide)
          refine lv_aload_n hx hb dX12_sortOf_82 rfl (lv_at hl 0 rfl) ?_
          refine lv_bipush (v := 115) hx hb dX12_sortOf_83 (by decide) ?_
          refine lv_bipush (v := 119) hx hb dX12_sortOf_85 (by decide) ?_
          refine lv_bipush (v := 101) hx hb dX12_sortOf_87 (by decide) ?_
          refine lv_bipush (v := 97) hx hb dX12_sortOf_89 (by decide) ?_
          refine lv_bipush (v := 114) hx hb dX12_sortOf_91 (by decide) ?_
          refine cSlp (As := [.int 115, .int 119, .int 101, .int 97, .int 114]) (rest := [.ref (ad 0 0)]) S Y (x_X12_w5 (l := l) ) cw_X12_w5 km12_132 rfl ⟨Nat.le_of_ble_eq_true rfl, Nat.le_of_ble_eq_true rfl⟩ hl.1 rfl (Nat.le_of_ble_eq_true rfl) ⟨Nat.le_of_ble_eq_true rfl, Nat.le_of_ble_eq_true rfl⟩ dX12_sortOf_93 (fun r_90093 H locs er_90093 Y => ?_)
          refine cVp (As := [.long r_90093]) (rest := []) S Y (x_X12_isWord (l := l) I p_ad_0_0) cw_X12_isWord km12_187 p_ad_0_0 ok_X12.1 rfl rfl ⟨Nat.le_of_ble_eq_true rfl, Nat.le_of_ble_eq_true rfl⟩ hl.1 rfl (Nat.le_of_ble_eq_true rfl) ⟨Nat.le_of_ble_eq_true rfl, Nat.le_of_ble_eq_true rfl⟩ dX12_sortOf_96 (fun r_90094 H locs er_90094 Y => ?_)
          refine lv_if_eq (tgt := 104) hx hb dX12_sortOf_99 (by decide) (fun c_90095 => ?_) (fun c_90095 => ?_)
          · have B_90096 : bn 0 0 r_90094 := bn_w (bn_eq c_90095 (show bn 0 0 (0 : Int32) from bn_k (by decide))) (by decide)
            refine lv_aload_n hx hb dX12_sortOf_104 rfl (lv_at hl 0 rfl) ?_
            refine lv_bipush (v := 98) hx hb dX12_sortOf_105 (by decide) ?_
            refine lv_bipush (v := 114) hx hb dX12_sortOf_107 (by decide) ?_
            refine lv_bipush (v := 101) hx hb dX12_sortOf_109 (by decide) ?_
            refine lv_bipush (v := 97) hx hb dX12_sortOf_111 (by decide) ?_
            refine lv_bipush (v := 107) hx hb dX12_sortOf_113 (by decide) ?_
            refine cSlp (As := [.int 98, .int 114, .int 101, .int 97, .int 107]) (rest := [.ref (ad 0 0)]) S Y (x_X12_w5 (l := l) ) cw_X12_w5 km12_132 rfl ⟨Nat.le_of_ble_eq_true rfl, Nat.le_of_ble_eq_true rfl⟩ hl.1 rfl (Nat.le_of_ble_eq_true rfl) ⟨Nat.le_of_ble_eq_true rfl, Nat.le_of_ble_eq_true rfl⟩ dX12_sortOf_115 (fun r_90098 H locs er_90098 Y => ?_)
            refine cVp (As := [.long r_90098]) (rest := []) S Y (x_X12_isWord (l := l) I p_ad_0_0) cw_X12_isWord km12_187 p_ad_0_0 ok_X12.1 rfl rfl ⟨Nat.le_of_ble_eq_true rfl, Nat.le_of_ble_eq_true rfl⟩ hl.1 rfl (Nat.le_of_ble_eq_true rfl) ⟨Nat.le_of_ble_eq_true rfl, Nat.le_of_ble_eq_true rfl⟩ dX12_sortOf_118 (fun r_90099 H locs er_90099 Y => ?_)
            refine lv_if_eq (tgt := 127) hx hb dX12_sortOf_121 (by decide) (fun c_90100 => ?_) (fun c_90100 => ?_)
            · have B_90101 : bn 0 0 r_90099 := bn_w (bn_eq c_90100 (show bn 0 0 (0 : Int32) from bn_k (by decide))) (by decide)
              refine lv_aload_n hx hb dX12_sortOf_127 rfl (lv_at hl 0 rfl) ?_
              refine cVp (As := []) (rest := []) S Y (x_X12_isRelease (l := l) I p_ad_0_0 p_ad_4_0 hB hTN) cw_X12_isRelease km12_235 p_ad_0_0 ok_X12.1 rfl rfl ⟨Nat.le_of_ble_eq_true rfl, Nat.le_of_ble_eq_true rfl⟩ hl.1 rfl (Nat.le_of_ble_eq_true rfl) ⟨Nat.le_of_ble_eq_true rfl, Nat.le_of_ble_eq_true rfl⟩ dX12_sortOf_128 (fun r_90103 H locs er_90103 Y => ?_)
              refine lv_if_eq (tgt := 137) hx hb dX12_sortOf_131 (by decide) (fun c_90104 => ?_) (fun c_90104 => ?_)
              · have B_90105 : bn 0 0 r_90103 := bn_w (bn_eq c_90104 (show bn 0 0 (0 : Int32) from bn_k (by decide))) (by decide)
                refine lv_aload_n hx hb dX12_sortOf_137 rfl (lv_at hl 0 rfl) ?_
                refine lv_bipush (v := 107) hx hb dX12_sortOf_138 (by decide) ?_
                refine lv_bipush (v := 110) hx hb dX12_sortOf_140 (by decide) ?_
                refine lv_bipush (v := 101) hx hb dX12_sortOf_142 (by decide) ?_
                refine lv_bipush (v := 101) hx hb dX12_sortOf_144 (by decide) ?_
                refine lv_bipush (v := 108) hx hb dX12_sortOf_146 (by decide) ?_
                refine cSlp (As := [.int 107, .int 110, .int 101, .int 101, .int 108]) (rest := [.ref (ad 0 0)]) S Y (x_X12_w5 (l := l) ) cw_X12_w5 km12_132 rfl ⟨Nat.le_of_ble_eq_true rfl, Nat.le_of_ble_eq_true rfl⟩ hl.1 rfl (Nat.le_of_ble_eq_true rfl) ⟨Nat.le_of_ble_eq_true rfl, Nat.le_of_ble_eq_true rfl⟩ dX12_sortOf_148 (fun r_90107 H locs er_90107 Y => ?_)
                refine cVp (As := [.long r_90107]) (rest := []) S Y (x_X12_isWord (l := l) I p_ad_0_0) cw_X12_isWord km12_187 p_ad_0_0 ok_X12.1 rfl rfl ⟨Nat.le_of_ble_eq_true rfl, Nat.le_of_ble_eq_true rfl⟩ hl.1 rfl (Nat.le_of_ble_eq_true rfl) ⟨Nat.le_of_ble_eq_true rfl, Nat.le_of_ble_eq_true rfl⟩ dX12_sortOf_151 (fun r_90108 H locs er_90108 Y => ?_)
                refine lv_if_eq (tgt := 160) hx hb dX12_sortOf_154 (by decide) (fun c_90109 => ?_) (fun c_90109 => ?_)
                · have B_90110 : bn 0 0 r_90108 := bn_w (bn_eq c_90109 (show bn 0 0 (0 : Int32) from bn_k (by decide))) (by decide)
                  refine lv_aload_n hx hb dX12_sortOf_160 rfl (lv_at hl 0 rfl) ?_
                  refine lv_bipush (v := 115) hx hb dX12_sortOf_161 (by decide) ?_
                  refine lv_bipush (v := 107) hx hb dX12_sortOf_163 (by decide) ?_
                  refine lv_bipush (v := 97) hx hb dX12_sortOf_165 (by decide) ?_
                  refine lv_bipush (v := 116) hx hb dX12_sortOf_167 (by decide) ?_
                  refine lv_bipush (v := 101) hx hb dX12_sortOf_169 (by decide) ?_
                  refine cSlp (As := [.int 115, .int 107, .int 97, .int 116, .int 101]) (rest := [.ref (ad 0 0)]) S Y (x_X12_w5 (l := l) ) cw_X12_w5 km12_132 rfl ⟨Nat.le_of_ble_eq_true rfl, Nat.le_of_ble_eq_true rfl⟩ hl.1 rfl (Nat.le_of_ble_eq_true rfl) ⟨Nat.le_of_ble_eq_true rfl, Nat.le_of_ble_eq_true rfl⟩ dX12_sortOf_171 (fun r_90112 H locs er_90112 Y => ?_)
                  refine cVp (As := [.long r_90112]) (rest := []) S Y (x_X12_isWord (l := l) I p_ad_0_0) cw_X12_isWord km12_187 p_ad_0_0 ok_X12.1 rfl rfl ⟨Nat.le_of_ble_eq_true rfl, Nat.le_of_ble_eq_true rfl⟩ hl.1 rfl (Nat.le_of_ble_eq_true rfl) ⟨Nat.le_of_ble_eq_true rfl, Nat.le_of_ble_eq_true rfl⟩ dX12_sortOf_174 (fun r_90113 H locs er_90113 Y => ?_)
                  refine lv_if_eq (tgt := 185) hx hb dX12_sortOf_177 (by decide) (fun c_90114 => ?_) (fun c_90114 => ?_)
                  · have B_90115 : bn 0 0 r_90113 := bn_w (bn_eq c_90114 (show bn 0 0 (0 : Int32) from bn_k (by decide))) (by decide)
                    refine lv_aload_n hx hb dX12_sortOf_185 rfl (lv_at hl 0 rfl) ?_
                    refine lv_bipush (v := 100) hx hb dX12_sortOf_186 (by decide) ?_
                    refine lv_bipush (v := 97) hx hb dX12_sortOf_188 (by decide) ?_
                    refine lv_bipush (v := 121) hx hb dX12_sortOf_190 (by decide) ?_
                    refine cSlp (As := [.int 100, .int 97, .int 121]) (rest := [.ref (ad 0 0)]) S Y (x_X12_w3 (l := l) ) cw_X12_w3 km12_124 rfl ⟨Nat.le_of_ble_eq_true rfl, Nat.le_of_ble_eq_true rfl⟩ hl.1 rfl (Nat.le_of_ble_eq_true rfl) ⟨Nat.le_of_ble_eq_true rfl, Nat.le_of_ble_eq_true rfl⟩ dX12_sortOf_192 (fun r_90117 H locs er_90117 Y => ?_)
                    refine cVp (As := [.long r_90117]) (rest := []) S Y (x_X12_isWord (l := l) I p_ad_0_0) cw_X12_isWord km12_187 p_ad_0_0 ok_X12.1 rfl rfl ⟨Nat.le_of_ble_eq_true rfl, Nat.le_of_ble_eq_true rfl⟩ hl.1 rfl (Nat.le_of_ble_eq_true rfl) ⟨Nat.le_of_ble_eq_true rfl, Nat.le_of_ble_eq_true rfl⟩ dX12_sortOf_195 (fun r_90118 H locs er_90118 Y => ?_)
                    refine lv_if_eq (tgt := 206) hx hb dX12_sortOf_198 (by decide) (fun c_90119 => ?_) (fun c_90119 => ?_)
                    · have B_90120 : bn 0 0 r_90118 := bn_w (bn_eq c_90119 (show bn 0 0 (0 : Int32) from bn_k (by decide))) (by decide)
                      refine lv_iconst (v := (-1)) hx hb dX12_sortOf_206 (by decide) ?_
                      exact prI (post := fun r L1 f1 => ((bn (-1) 10 r ∧ (¬ r = -1 → tk = 2) ∧ ((r = -1 ∧ ¬ (0 ≤ (tkK (bI gt) td.toInt.toNat i9) ∧ (tkK (bI gt) td.toInt.toNat i9) ≤ 9)) ∨ SO8 (tkK (bI gt) td.toInt.toNat i9) r.toInt))) ∧ L1 = L ∧ f1 = f) S Y rfl (by decide) (by decide) hA1 ⟨⟨bn_k (by decide), fun h => absurd rfl h, Or.inl ⟨rfl, (show ¬ (0 ≤ (tkK (bI gt) td.toInt.toNat i9) ∧ (tkK (bI gt) td.toInt.toNat i9) ≤ 9) from (by have j0 := (mt (tk_w hTN.2.2 (show 0 < 31 from by decide) (show r_90073.toInt = pkR (wdj 0).reverse from by rw [er_90073]; decide +kernel)).mpr (cls_f er_90074.2.2 c_90075)); have j1 := (mt (tk_w hTN.2.2 (show 1 < 31 from by decide) (show r_90078.toInt = pkR (wdj 1).reverse from by rw [er_90078]; decide +kernel)).mpr (cls_f er_90079.2.2 c_90080)); have j2 := (mt (tk_w hTN.2.2 (show 2 < 31 from by decide) (show r_90083.toInt = pkR (wdj 2).reverse from by rw [er_90083]; decide +kernel)).mpr (cls_f er_90084.2.2 c_90085)); have j3 := (mt (tk_w hTN.2.2 (show 3 < 31 from by decide) (show r_90088.toInt = pkR (wdj 3).reverse from by rw [er_90088]; decide +kernel)).mpr (cls_f er_90089.2.2 c_90090)); have j4 := (mt (tk_w hTN.2.2 (show 4 < 31 from by decide) (show r_90093.toInt = pkR (wdj 4).reverse from by rw [er_90093]; decide +kernel)).mpr (cls_f er_90094.2.2 c_90095)); have j5 := (mt (tk_w hTN.2.2 (show 5 < 31 from by decide) (show r_90098.toInt = pkR (wdj 5).reverse from by rw [er_90098]; decide +kernel)).mpr (cls_f er_90099.2.2 c_90100)); have j6 := (mt (tk_w hTN.2.2 (show 7 < 31 from by decide) (show r_90107.toInt = pkR (wdj 7).reverse from by rw [er_90107]; decide +kernel)).mpr (cls_f er_90108.2.2 c_90109)); have j7 := (mt (tk_w hTN.2.2 (show 8 < 31 from by decide) (show r_90112.toInt = pkR (wdj 8).reverse from by rw [er_90112]; decide +kernel)).mpr (cls_f er_90113.2.2 c_90114)); have j8 := (mt (tk_w hTN.2.2 (show 9 < 31 from by decide) (show r_90117.toInt = pkR (wdj 9).reverse from by rw [er_90117]; decide +kernel)).mpr (cls_f er_90118.2.2 c_90119)); have j9 := (rl_n er_90103.2.2 c_90104); omega))⟩⟩, rfl, rfl⟩ dX12_sortOf_207
                    · have B_90121 : bn 1 1 r_90118 := bn_w (bn_nel c_90119 er_90118.1 (show bn 0 0 (0 : Int32) from bn_k (by decide))) (by decide)
                      refine lv_bipush (v := 10) hx hb dX12_sortOf_201 (by decide) ?_
                      refine lv_goto (tgt := 207) hx hb dX12_sortOf_203 (by decide) ?_
                      exact prI (post := fun r L1 f1 => ((bn (-1) 10 r ∧ (¬ r = -1 → tk = 2) ∧ ((r = -1 ∧ ¬ (0 ≤ (tkK (bI gt) td.toInt.toNat i9) ∧ (tkK (bI gt) td.toInt.toNat i9) ≤ 9)) ∨ SO8 (tkK (bI gt) td.toInt.toNat i9) r.toInt))) ∧ L1 = L ∧ f1 = f) S Y rfl (by decide) (by decide) hA1 ⟨⟨bn_k (by decide), fun _ => ((isw_a er_90118).2 c_90119), Or.inr (by have z9 : (tkK (bI gt) td.toInt.toNat i9) = 9 := (by have j0 := (mt (tk_w hTN.2.2 (show 0 < 31 from by decide) (show r_90073.toInt = pkR (wdj 0).reverse from by rw [er_90073]; decide +kernel)).mpr (cls_f er_90074.2.2 c_90075)); have j1 := (mt (tk_w hTN.2.2 (show 1 < 31 from by decide) (show r_90078.toInt = pkR (wdj 1).reverse from by rw [er_90078]; decide +kernel)).mpr (cls_f er_90079.2.2 c_90080)); have j2 := (mt (tk_w hTN.2.2 (show 2 < 31 from by decide) (show r_90083.toInt = pkR (wdj 2).reverse from by rw [er_90083]; decide +kernel)).mpr (cls_f er_90084.2.2 c_90085)); have j3 := (mt (tk_w hTN.2.2 (show 3 < 31 from by decide) (show r_90088.toInt = pkR (wdj 3).reverse from by rw [er_90088]; decide +kernel)).mpr (cls_f er_90089.2.2 c_90090)); have j4 := (mt (tk_w hTN.2.2 (show 4 < 31 from by decide) (show r_90093.toInt = pkR (wdj 4).reverse from by rw [er_90093]; decide +kernel)).mpr (cls_f er_90094.2.2 c_90095)); have j5 := (mt (tk_w hTN.2.2 (show 5 < 31 from by decide) (show r_90098.toInt = pkR (wdj 5).reverse from by rw [er_90098]; decide +kernel)).mpr (cls_f er_90099.2.2 c_90100)); have j6 := (mt (tk_w hTN.2.2 (show 7 < 31 from by decide) (show r_90107.toInt = pkR (wdj 7).reverse from by rw [er_90107]; decide +kernel)).mpr (cls_f er_90108.2.2 c_90109)); have j7 := (mt (tk_w hTN.2.2 (show 8 < 31 from by decide) (show r_90112.toInt = pkR (wdj 8).reverse from by rw [er_90112]; decide +kernel)).mpr (cls_f er_90113.2.2 c_90114)); have j8 := ((tk_w hTN.2.2 (show 9 < 31 from by decide) (show r_90117.toInt = pkR (wdj 9).reverse from by rw [er_90117]; decide +kernel)).mp (cls_t er_90118.2.2 c_90119)); have j9 := (rl_n er_90103.2.2 c_90104); omega); rw [z9]; exact ⟨by decide, by decide, by decide⟩)⟩, rfl, rfl⟩ dX12_sortOf_207
                  · have B_90116 : bn 1 1 r_90113 := bn_w (bn_nel c_90114 er_90113.1 (show bn 0 0 (0 : Int32) from bn_k (by decide))) (by decide)
                    refine lv_bipush (v := 9) hx hb dX12_sortOf_180 (by decide) ?_
                    refine lv_goto (tgt := 207) hx hb dX12_sortOf_182 (by decide) ?_
                    exact prI (post := fun r L1 f1 => ((bn (-1) 10 r ∧ (¬ r = -1 → tk = 2) ∧ ((r = -1 ∧ ¬ (0 ≤ (tkK (bI gt) td.toInt.toNat i9) ∧ (tkK (bI gt) td.toInt.toNat i9) ≤ 9)) ∨ SO8 (tkK (bI gt) td.toInt.toNat i9) r.toInt))) ∧ L1 = L ∧ f1 = f) S Y rfl (by decide) (by decide) hA1 ⟨⟨bn_k (by decide), fun _ => ((isw_a er_90113).2 c_90114), Or.inr (by have z9 : (tkK (bI gt) td.toInt.toNat i9) = 8 := (by have j0 := (mt (tk_w hTN.2.2 (show 0 < 31 from by decide) (show r_90073.toInt = pkR (wdj 0).reverse from by rw [er_90073]; decide +kernel)).mpr (cls_f er_90074.2.2 c_90075)); have j1 := (mt (tk_w hTN.2.2 (show 1 < 31 from by decide) (show r_90078.toInt = pkR (wdj 1).reverse from by rw [er_90078]; decide +kernel)).mpr (cls_f er_90079.2.2 c_90080)); have j2 := (mt (tk_w hTN.2.2 (show 2 < 31 from by decide) (show r_90083.toInt = pkR (wdj 2).reverse from by rw [er_90083]; decide +kernel)).mpr (cls_f er_90084.2.2 c_90085)); have j3 := (mt (tk_w hTN.2.2 (show 3 < 31 from by decide) (show r_90088.toInt = pkR (wdj 3).reverse from by rw [er_90088]; decide +kernel)).mpr (cls_f er_90089.2.2 c_90090)); have j4 := (mt (tk_w hTN.2.2 (show 4 < 31 from by decide) (show r_90093.toInt = pkR (wdj 4).reverse from by rw [er_90093]; decide +kernel)).mpr (cls_f er_90094.2.2 c_90095)); have j5 := (mt (tk_w hTN.2.2 (show 5 < 31 from by decide) (show r_90098.toInt = pkR (wdj 5).reverse from by rw [er_90098]; decide +kernel)).mpr (cls_f er_90099.2.2 c_90100)); have j6 := (mt (tk_w hTN.2.2 (show 7 < 31 from by decide) (show r_90107.toInt = pkR (wdj 7).reverse from by rw [er_90107]; decide +kernel)).mpr (cls_f er_90108.2.2 c_90109)); have j7 := ((tk_w hTN.2.2 (show 8 < 31 from by decide) (show r_90112.toInt = pkR (wdj 8).reverse from by rw [er_90112]; decide +kernel)).mp (cls_t er_90113.2.2 c_90114)); have j8 := (rl_n er_90103.2.2 c_90104); omega); rw [z9]; exact ⟨by decide, by decide, by decide⟩)⟩, rfl, rfl⟩ dX12_sortOf_207
                · have B_90111 : bn 1 1 r_90108 := bn_w (bn_nel c_90109 er_90108.1 (show bn 0 0 (0 : Int32) from bn_k (by decide))) (by decide)
                  refine lv_bipush (v := 8) hx hb dX12_sortOf_157 (by decide) ?_
                  exact prI (post := fun r L1 f1 => ((bn (-1) 10 r ∧ (¬ r = -1 → tk = 2) ∧ ((r = -1 ∧ ¬ (0 ≤ (tkK (bI gt) td.toInt.toNat i9) ∧ (tkK (bI gt) td.toInt.toNat i9) ≤ 9)) ∨ SO8 (tkK (bI gt) td.toInt.toNat i9) r.toInt))) ∧ L1 = L ∧ f1 = f) S Y rfl (by decide) (by decide) hA1 ⟨⟨bn_k (by decide), fun _ => ((isw_a er_90108).2 c_90109), Or.inr (by have z9 : (tkK (bI gt) td.toInt.toNat i9) = 7 := (by have j0 := (mt (tk_w hTN.2.2 (show 0 < 31 from by decide) (show r_90073.toInt = pkR (wdj 0).reverse from by rw [er_90073]; decide +kernel)).mpr (cls_f er_90074.2.2 c_90075)); have j1 := (mt (tk_w hTN.2.2 (show 1 < 31 from by decide) (show r_90078.toInt = pkR (wdj 1).reverse from by rw [er_90078]; decide +kernel)).mpr (cls_f er_90079.2.2 c_90080)); have j2 := (mt (tk_w hTN.2.2 (show 2 < 31 from by decide) (show r_90083.toInt = pkR (wdj 2).reverse from by rw [er_90083]; decide +kernel)).mpr (cls_f er_90084.2.2 c_90085)); have j3 := (mt (tk_w hTN.2.2 (show 3 < 31 from by decide) (show r_90088.toInt = pkR (wdj 3).reverse from by rw [er_90088]; decide +kernel)).mpr (cls_f er_90089.2.2 c_90090)); have j4 := (mt (tk_w hTN.2.2 (show 4 < 31 from by decide) (show r_90093.toInt = pkR (wdj 4).reverse from by rw [er_90093]; decide +kernel)).mpr (cls_f er_90094.2.2 c_90095)); have j5 := (mt (tk_w hTN.2.2 (show 5 < 31 from by decide) (show r_90098.toInt = pkR (wdj 5).reverse from by rw [er_90098]; decide +kernel)).mpr (cls_f er_90099.2.2 c_90100)); have j6 := ((tk_w hTN.2.2 (show 7 < 31 from by decide) (show r_90107.toInt = pkR (wdj 7).reverse from by rw [er_90107]; decide +kernel)).mp (cls_t er_90108.2.2 c_90109)); have j7 := (rl_n er_90103.2.2 c_90104); omega); rw [z9]; exact ⟨by decide, by decide, by decide⟩)⟩, rfl, rfl⟩ dX12_sortOf_159
              · have B_90106 : bn 1 1 r_90103 := bn_w (bn_nel c_90104 er_90103.1 (show bn 0 0 (0 : Int32) from bn_k (by decide))) (by decide)
                refine lv_bipush (v := 7) hx hb dX12_sortOf_134 (by decide) ?_
                exact prI (post := fun r L1 f1 => ((bn (-1) 10 r ∧ (¬ r = -1 → tk = 2) ∧ ((r = -1 ∧ ¬ (0 ≤ (tkK (bI gt) td.toInt.toNat i9) ∧ (tkK (bI gt) td.toInt.toNat i9) ≤ 9)) ∨ SO8 (tkK (bI gt) td.toInt.toNat i9) r.toInt))) ∧ L1 = L ∧ f1 = f) S Y rfl (by decide) (by decide) hA1 ⟨⟨bn_k (by decide), fun _ => ((isw_a er_90103).2 c_90104), Or.inr (by have z9 : (tkK (bI gt) td.toInt.toNat i9) = 6 := (by have j0 := (mt (tk_w hTN.2.2 (show 0 < 31 from by decide) (show r_90073.toInt = pkR (wdj 0).reverse from by rw [er_90073]; decide +kernel)).mpr (cls_f er_90074.2.2 c_90075)); have j1 := (mt (tk_w hTN.2.2 (show 1 < 31 from by decide) (show r_90078.toInt = pkR (wdj 1).reverse from by rw [er_90078]; decide +kernel)).mpr (cls_f er_90079.2.2 c_90080)); have j2 := (mt (tk_w hTN.2.2 (show 2 < 31 from by decide) (show r_90083.toInt = pkR (wdj 2).reverse from by rw [er_90083]; decide +kernel)).mpr (cls_f er_90084.2.2 c_90085)); have j3 := (mt (tk_w hTN.2.2 (show 3 < 31 from by decide) (show r_90088.toInt = pkR (wdj 3).reverse from by rw [er_90088]; decide +kernel)).mpr (cls_f er_90089.2.2 c_90090)); have j4 := (mt (tk_w hTN.2.2 (show 4 < 31 from by decide) (show r_90093.toInt = pkR (wdj 4).reverse from by rw [er_90093]; decide +kernel)).mpr (cls_f er_90094.2.2 c_90095)); have j5 := (mt (tk_w hTN.2.2 (show 5 < 31 from by decide) (show r_90098.toInt = pkR (wdj 5).reverse from by rw [er_90098]; decide +kernel)).mpr (cls_f er_90099.2.2 c_90100)); have j6 := (rl_y er_90103.2.2 c_90104); omega); rw [z9]; exact ⟨by decide, by decide, by decide⟩)⟩, rfl, rfl⟩ dX12_sortOf_136
            · have B_90102 : bn 1 1 r_90099 := bn_w (bn_nel c_90100 er_90099.1 (show bn 0 0 (0 : Int32) from bn_k (by decide))) (by decide)
              refine lv_bipush (v := 6) hx hb dX12_sortOf_124 (by decide) ?_
              exact prI (post := fun r L1 f1 => ((bn (-1) 10 r ∧ (¬ r = -1 → tk = 2) ∧ ((r = -1 ∧ ¬ (0 ≤ (tkK (bI gt) td.toInt.toNat i9) ∧ (tkK (bI gt) td.toInt.toNat i9) ≤ 9)) ∨ SO8 (tkK (bI gt) td.toInt.toNat i9) r.toInt))) ∧ L1 = L ∧ f1 = f) S Y rfl (by decide) (by decide) hA1 ⟨⟨bn_k (by decide), fun _ => ((isw_a er_90099).2 c_90100), Or.inr (by have z9 : (tkK (bI gt) td.toInt.toNat i9) = 5 := (by have j0 := (mt (tk_w hTN.2.2 (show 0 < 31 from by decide) (show r_90073.toInt = pkR (wdj 0).reverse from by rw [er_90073]; decide +kernel)).mpr (cls_f er_90074.2.2 c_90075)); have j1 := (mt (tk_w hTN.2.2 (show 1 < 31 from by decide) (show r_90078.toInt = pkR (wdj 1).reverse from by rw [er_90078]; decide +kernel)).mpr (cls_f er_90079.2.2 c_90080)); have j2 := (mt (tk_w hTN.2.2 (show 2 < 31 from by decide) (show r_90083.toInt = pkR (wdj 2).reverse from by rw [er_90083]; decide +kernel)).mpr (cls_f er_90084.2.2 c_90085)); have j3 := (mt (tk_w hTN.2.2 (show 3 < 31 from by decide) (show r_90088.toInt = pkR (wdj 3).reverse from by rw [er_90088]; decide +kernel)).mpr (cls_f er_90089.2.2 c_90090)); have j4 := (mt (tk_w hTN.2.2 (show 4 < 31 from by decide) (show r_90093.toInt = pkR (wdj 4).reverse from by rw [er_90093]; decide +kernel)).mpr (cls_f er_90094.2.2 c_90095)); have j5 := ((tk_w hTN.2.2 (show 5 < 31 from by decide) (show r_90098.toInt = pkR (wdj 5).reverse from by rw [er_90098]; decide +kernel)).mp (cls_t er_90099.2.2 c_90100)); omega); rw [z9]; exact ⟨by decide, by decide, by decide⟩)⟩, rfl, rfl⟩ dX12_sortOf_126
          · have B_90097 : bn 1 1 r_90094 := bn_w (bn_nel c_90095 er_90094.1 (show bn 0 0 (0 : Int32) from bn_k (by decide))) (by decide)
            refine lv_iconst (v := 4) hx hb dX12_sortOf_102 (by decide) ?_
            exact prI (post := fun r L1 f1 => ((bn (-1) 10 r ∧ (¬ r = -1 → tk = 2) ∧ ((r = -1 ∧ ¬ (0 ≤ (tkK (bI gt) td.toInt.toNat i9) ∧ (tkK (bI gt) td.toInt.toNat i9) ≤ 9)) ∨ SO8 (tkK (bI gt) td.toInt.toNat i9) r.toInt))) ∧ L1 = L ∧ f1 = f) S Y rfl (by decide) (by decide) hA1 ⟨⟨bn_k (by decide), fun _ => ((isw_a er_90094).2 c_90095), Or.inr (by have z9 : (tkK (bI gt) td.toInt.toNat i9) = 4 := (by have j0 := (mt (tk_w hTN.2.2 (show 0 < 31 from by decide) (show r_90073.toInt = pkR (wdj 0).reverse from by rw [er_90073]; decide +kernel)).mpr (cls_f er_90074.2.2 c_90075)); have j1 := (mt (tk_w hTN.2.2 (show 1 < 31 from by decide) (show r_90078.toInt = pkR (wdj 1).reverse from by rw [er_90078]; decide +kernel)).mpr (cls_f er_90079.2.2 c_90080)); have j2 := (mt (tk_w hTN.2.2 (show 2 < 31 from by decide) (show r_90083.toInt = pkR (wdj 2).reverse from by rw [er_90083]; decide +kernel)).mpr (cls_f er_90084.2.2 c_90085)); have j3 := (mt (tk_w hTN.2.2 (show 3 < 31 from by decide) (show r_90088.toInt = pkR (wdj 3).reverse from by rw [er_90088]; decide +kernel)).mpr (cls_f er_90089.2.2 c_90090)); have j4 := ((tk_w hTN.2.2 (show 4 < 31 from by decide) (show r_90093.toInt = pkR (wdj 4).reverse from by rw [er_90093]; decide +kernel)).mp (cls_t er_90094.2.2 c_90095)); omega); rw [z9]; exact ⟨by decide, by decide, by decide⟩)⟩, rfl, rfl⟩ dX12_sortOf_103
        · have B_90092 : bn 1 1 r_90089 := bn_w (bn_nel c_90090 er_90089.1 (show bn 0 0 (0 : Int32) from bn_k (by decide))) (by decide)
          refine lv_iconst (v := 3) hx hb dX12_sortOf_80 (by decide) ?_
          exact prI (post := fun r L1 f1 => ((bn (-1) 10 r ∧ (¬ r = -1 → tk = 2) ∧ ((r = -1 ∧ ¬ (0 ≤ (tkK (bI gt) td.toInt.toNat i9) ∧ (tkK (bI gt) td.toInt.toNat i9) ≤ 9)) ∨ SO8 (tkK (bI gt) td.toInt.toNat i9) r.toInt))) ∧ L1 = L ∧ f1 = f) S Y rfl (by decide) (by decide) hA1 ⟨⟨bn_k (by decide), fun _ => ((isw_a er_90089).2 c_90090), Or.inr (by have z9 : (tkK (bI gt) td.toInt.toNat i9) = 3 := (by have j0 := (mt (tk_w hTN.2.2 (show 0 < 31 from by decide) (show r_90073.toInt = pkR (wdj 0).reverse from by rw [er_90073]; decide +kernel)).mpr (cls_f er_90074.2.2 c_90075)); have j1 := (mt (tk_w hTN.2.2 (show 1 < 31 from by decide) (show r_90078.toInt = pkR (wdj 1).reverse from by rw [er_90078]; decide +kernel)).mpr (cls_f er_90079.2.2 c_90080)); have j2 := (mt (tk_w hTN.2.2 (show 2 < 31 from by decide) (show r_90083.toInt = pkR (wdj 2).reverse from by rw [er_90083]; decide +kernel)).mpr (cls_f er_90084.2.2 c_90085)); have j3 := ((tk_w hTN.2.2 (show 3 < 31 from by decide) (show r_90088.toInt = pkR (wdj 3).reverse from by rw [er_90088]; decide +kernel)).mp (cls_t er_90089.2.2 c_90090)); omega); rw [z9]; exact ⟨by decide, by decide, by decide⟩)⟩, rfl, rfl⟩ dX12_sortOf_81
      · have B_90087 : bn 1 1 r_90084 := bn_w (bn_nel c_90085 er_90084.1 (show bn 0 0 (0 : Int32) from bn_k (by decide))) (by decide)
        refine lv_iconst (v := 2) hx hb dX12_sortOf_62 (by decide) ?_
        exact prI (post := fun r L1 f1 => ((bn (-1) 10 r ∧ (¬ r = -1 → tk = 2) ∧ ((r = -1 ∧ ¬ (0 ≤ (tkK (bI gt) td.toInt.toNat i9) ∧ (tkK (bI gt) td.toInt.toNat i9) ≤ 9)) ∨ SO8 (tkK (bI gt) td.toInt.toNat i9) r.toInt))) ∧ L1 = L ∧ f1 = f) S Y rfl (by decide) (by decide) hA1 ⟨⟨bn_k (by decide), fun _ => ((isw_a er_90084).2 c_90085), Or.inr (by have z9 : (tkK (bI gt) td.toInt.toNat i9) = 2 := (by have j0 := (mt (tk_w hTN.2.2 (show 0 < 31 from by decide) (show r_90073.toInt = pkR (wdj 0).reverse from by rw [er_90073]; decide +kernel)).mpr (cls_f er_90074.2.2 c_90075)); have j1 := (mt (tk_w hTN.2.2 (show 1 < 31 from by decide) (show r_90078.toInt = pkR (wdj 1).reverse from by rw [er_90078]; decide +kernel)).mpr (cls_f er_90079.2.2 c_90080)); have j2 := ((tk_w hTN.2.2 (show 2 < 31 from by decide) (show r_90083.toInt = pkR (wdj 2).reverse from by rw [er_90083]; decide +kernel)).mp (cls_t er_90084.2.2 c_90085)); omega); rw [z9]; exact ⟨by decide, by decide, by decide⟩)⟩, rfl, rfl⟩ dX12_sortOf_63
    · have B_90082 : bn 1 1 r_90079 := bn_w (bn_nel c_90080 er_90079.1 (show bn 0 0 (0 : Int32) from bn_k (by decide))) (by decide)
      refine lv_iconst (v := 1) hx hb dX12_sortOf_42 (by decide) ?_
      exact prI (post := fun r L1 f1 => ((bn (-1) 10 r ∧ (¬ r = -1 → tk = 2) ∧ ((r = -1 ∧ ¬ (0 ≤ (tkK (bI gt) td.toInt.toNat i9) ∧ (tkK (bI gt) td.toInt.toNat i9) ≤ 9)) ∨ SO8 (tkK (bI gt) td.toInt.toNat i9) r.toInt))) ∧ L1 = L ∧ f1 = f) S Y rfl (by decide) (by decide) hA1 ⟨⟨bn_k (by decide), fun _ => ((isw_a er_90079).2 c_90080), Or.inr (by have z9 : (tkK (bI gt) td.toInt.toNat i9) = 1 := (by have j0 := (mt (tk_w hTN.2.2 (show 0 < 31 from by decide) (show r_90073.toInt = pkR (wdj 0).reverse from by rw [er_90073]; decide +kernel)).mpr (cls_f er_90074.2.2 c_90075)); have j1 := ((tk_w hTN.2.2 (show 1 < 31 from by decide) (show r_90078.toInt = pkR (wdj 1).reverse from by rw [er_90078]; decide +kernel)).mp (cls_t er_90079.2.2 c_90080)); omega); rw [z9]; exact ⟨by decide, by decide, by decide⟩)⟩, rfl, rfl⟩ dX12_sortOf_43
  · have B_90077 : bn 1 1 r_90074 := bn_w (bn_nel c_90075 er_90074.1 (show bn 0 0 (0 : Int32) from bn_k (by decide))) (by decide)
    refine lv_iconst (v := 0) hx hb dX12_sortOf_20 (by decide) ?_
    exact prI (post := fun r L1 f1 => ((bn (-1) 10 r ∧ (¬ r = -1 → tk = 2) ∧ ((r = -1 ∧ ¬ (0 ≤ (tkK (bI gt) td.toInt.toNat i9) ∧ (tkK (bI gt) td.toInt.toNat i9) ≤ 9)) ∨ SO8 (tkK (bI gt) td.toInt.toNat i9) r.toInt))) ∧ L1 = L ∧ f1 = f) S Y rfl (by decide) (by decide) hA1 ⟨⟨bn_k (by decide), fun _ => ((isw_a er_90074).2 c_90075), Or.inr (by have z9 : (tkK (bI gt) td.toInt.toNat i9) = 0 := (by have j0 := ((tk_w hTN.2.2 (show 0 < 31 from by decide) (show r_90073.toInt = pkR (wdj 0).reverse from by rw [er_90073]; decide +kernel)).mp (cls_t er_90074.2.2 c_90075)); omega); rw [z9]; exact ⟨by decide, by decide, by decide⟩)⟩, rfl, rfl⟩ dX12_sortOf_21
set_option maxHeartbeats 4000000 in
set_option maxRecDepth 100000 in
theorem x_X12_hasE {l : Launch} {G : GG}  {L : List Nat} {f : HF}  {i1 i2 : Int32} (b_i1 : bn 0 255 i1) (b_i2 : bn 0 7 i2) : PMp l yX12_has cX12_has 2 .boolean 0 0 0 G [.int i1, .int i2] L f (fun r => (bn 0 1 r ∧ r = (if i1.toInt.toNat.testBit i2.toInt.toNat = true then 1 else 0))) := by
  refine PMi.of (post := fun r L1 f1 => ((bn 0 1 r ∧ r = (if i1.toInt.toNat.testBit i2.toInt.toNat = true then 1 else 0))) ∧ L1 = L ∧ f1 = f) (own := RX12) (by decide) rfl (Nat.le_of_ble_eq_true rfl) (fun sz p e s m args below meth c A ls hA1 hname S Y hl => ?_)
  have hx := S.hx
  have hb := S.hb
  have hl : lv_has ls 2 [(0, .int i1), (1, .int i2)] := hl
  refine lv_iload_n hx hb dX12_has_0 rfl (lv_at hl 0 rfl) ?_
  refine lv_iload_n hx hb dX12_has_1 rfl (lv_at hl 1 rfl) ?_
  refine lv_ishr hx hb dX12_has_2 ?_
  refine lv_topi (fun x_90130 ex_90130 => ?_)
  refine lv_iconst (v := 1) hx hb dX12_has_3 (by decide) ?_
  refine lv_iand hx hb dX12_has_4 ?_
  refine lv_topi (fun x_90131 ex_90131 => ?_)
  refine lv_iconst (v := 1) hx hb dX12_has_5 (by decide) ?_
  refine lv_icmp_ne (tgt := 13) hx hb dX12_has_6 (by decide) (fun c_90132 => ?_) (fun c_90132 => ?_)
  · refine lv_iconst (v := 0) hx hb dX12_has_13 (by decide) ?_
    exact prI (post := fun r L1 f1 => ((bn 0 1 r ∧ r = (if i1.toInt.toNat.testBit i2.toInt.toNat = true then 1 else 0))) ∧ L1 = L ∧ f1 = f) S Y rfl (by decide) (by decide) hA1 ⟨⟨bn_k (by decide), hs_0 (show x_90131 = _ from by rw [ex_90131, ex_90130]; exact has_bit9 b_i1 b_i2) c_90132⟩, rfl, rfl⟩ dX12_has_14
  · have B_90133 : bn 1 1 x_90131 := bn_w (bn_eq c_90132 (show bn 1 1 (1 : Int32) from bn_k (by decide))) (by decide)
    refine lv_iconst (v := 1) hx hb dX12_has_9 (by decide) ?_
    refine lv_goto (tgt := 14) hx hb dX12_has_10 (by decide) ?_
    exact prI (post := fun r L1 f1 => ((bn 0 1 r ∧ r = (if i1.toInt.toNat.testBit i2.toInt.toNat = true then 1 else 0))) ∧ L1 = L ∧ f1 = f) S Y rfl (by decide) (by decide) hA1 ⟨⟨bn_k (by decide), hs_1 (show x_90131 = _ from by rw [ex_90131, ex_90130]; exact has_bit9 b_i1 b_i2) c_90132⟩, rfl, rfl⟩ dX12_has_14
theorem tzn_mk {g3 : Nat → Int32} {n t0 wr2 : Int32} {nC : Int} (e : n.toInt = nC) (h : TZ t0 wr2 g3 ∧ (g3 t0.toInt.toNat).toInt = n.toInt + 1) : TZN (nC + 1) t0 wr2 g3 := ⟨h.1, by rw [h.2, e]⟩
set_option maxHeartbeats 4000000 in
set_option maxRecDepth 100000 in
theorem x_X12_clause {l : Launch} {G : GG}  {L : List Nat} {f : HF} {ad : Nat → Nat → Nat} {pa : (Nat → Int32) → Prop} {PA : (Nat → Int32) → Prop} {PI : PIT} {td fa fp at9 ps9 tk nu t0 wr so pd op9 cg iw on9 is9 se : Int32} {wd : Int64} {gt : Nat → Int32} {i9 : Nat} {nC : Int} {rr : Int × Nat} (I : SH (spM PA PI (TZN nC t0 wr) pa) nnM G ad L f) (p_ad_0_0 : pt L f (ad 0 0) (.inr (12, [.ref (ad 1 0), .ref (ad 2 0), .ref (ad 3 0), .ref (ad 4 0), .int td, .int fa, .int fp, .int at9, .int ps9, .int tk, .int nu, .long wd, .int t0, .int wr, .int so, .ref (ad 5 0), .ref (ad 6 0), .int pd, .int op9, .int cg, .int iw, .int on9, .ref (ad 7 0), .ref (ad 8 0), .ref (ad 9 0), .int is9, .ref (ad 10 0), .ref (ad 11 0), .ref (ad 12 0), .ref (ad 13 0), .int se, .ref (ad 14 0)]))) (p_ad_4_0 : pt L f (ad 4 0) (.inl (G.2 0, 300, .inl gt))) (hroom : wr.toInt ≤ ps9.toInt) (hT : TK at9 ps9 tk) (ht0 : TT t0) (hB : BYT gt) (hTN : TKN (bI gt) td.toInt.toNat i9 at9 ps9 tk nu wd) (htk : ¬ tk = 0) (ho9 : bn 0 7 on9) (hN9 : ∃ x : Int32, bn 0 24 x ∧ x.toInt = nC) (hcl : LL (tkK (bI gt) td.toInt.toNat) (tkV (bI gt) td.toInt.toNat) [(kCls (on9.toInt * 100 + nC), 0, false)] i9 rr) : PMi l yX12_clause cX12_clause 5 .int 9 0 0 G [.ref (ad 0 0)] L f (fun r L1 f1 => ∃ at92 : Int32, ∃ ps92 : Int32, ∃ tk2 : Int32, ∃ nu2 : Int32, ∃ wd2 : Int64, ∃ wr2 : Int32, ∃ so2 : Int32, ∃ pd2 : Int32, ∃ op92 : Int32, ∃ cg2 : Int32, ∃ iw2 : Int32, ∃ on92 : Int32, bn 0 7 r ∧ SH (spM PA PI (TCN r nC t0 wr2) pa) nnM G ad L1 f1 ∧ pt L1 f1 (ad 0 0) (.inr (12, [.ref (ad 1 0), .ref (ad 2 0), .ref (ad 3 0), .ref (ad 4 0), .int td, .int fa, .int fp, .int at92, .int ps92, .int tk2, .int nu2, .long wd2, .int t0, .int wr2, .int so2, .ref (ad 5 0), .ref (ad 6 0), .int pd2, .int op92, .int cg2, .int iw2, .int on92, .ref (ad 7 0), .ref (ad 8 0), .ref (ad 9 0), .int is9, .ref (ad 10 0), .ref (ad 11 0), .ref (ad 12 0), .ref (ad 13 0), .int se, .ref (ad 14 0)])) ∧ pt L1 f1 (ad 4 0) (.inl (G.2 0, 300, .inl gt)) ∧ TK at92 ps92 tk2 ∧ (r.toInt = 0 → ps9.toInt + 1 ≤ ps92.toInt) ∧ (r.toInt = 0 → wr2.toInt ≤ ps92.toInt) ∧ ∃ j, TKN (bI gt) td.toInt.toNat j at92 ps92 tk2 nu2 wd2 ∧ (r.toInt = 0 → LL (tkK (bI gt) td.toInt.toNat) (tkV (bI gt) td.toInt.toNat) [(kCls (on92.toInt * 100 + nC + 1), 0, false)] j rr ∧ bn 0 7 on92) ∧ (0 < r.toInt → rr = (r.toInt, j))) := by
  refine PMi.of (post := fun r L1 f1 => ∃ at92 : Int32, ∃ ps92 : Int32, ∃ tk2 : Int32, ∃ nu2 : Int32, ∃ wd2 : Int64, ∃ wr2 : Int32, ∃ so2 : Int32, ∃ pd2 : Int32, ∃ op92 : Int32, ∃ cg2 : Int32, ∃ iw2 : Int32, ∃ on92 : Int32, bn 0 7 r ∧ SH (spM PA PI (TCN r nC t0 wr2) pa) nnM G ad L1 f1 ∧ pt L1 f1 (ad 0 0) (.inr (12, [.ref (ad 1 0), .ref (ad 2 0), .ref (ad 3 0), .ref (ad 4 0), .int td, .int fa, .int fp, .int at92, .int ps92, .int tk2, .int nu2, .long wd2, .int t0, .int wr2, .int so2, .ref (ad 5 0), .ref (ad 6 0), .int pd2, .int op92, .int cg2, .int iw2, .int on92, .ref (ad 7 0), .ref (ad 8 0), .ref (ad 9 0), .int is9, .ref (ad 10 0), .ref (ad 11 0), .ref (ad 12 0), .ref (ad 13 0), .int se, .ref (ad 14 0)])) ∧ pt L1 f1 (ad 4 0) (.inl (G.2 0, 300, .inl gt)) ∧ TK at92 ps92 tk2 ∧ (r.toInt = 0 → ps9.toInt + 1 ≤ ps92.toInt) ∧ (r.toInt = 0 → wr2.toInt ≤ ps92.toInt) ∧ ∃ j, TKN (bI gt) td.toInt.toNat j at92 ps92 tk2 nu2 wd2 ∧ (r.toInt = 0 → LL (tkK (bI gt) td.toInt.toNat) (tkV (bI gt) td.toInt.toNat) [(kCls (on92.toInt * 100 + nC + 1), 0, false)] j rr ∧ bn 0 7 on92) ∧ (0 < r.toInt → rr = (r.toInt, j))) (own := RX12) (by decide) rfl (Nat.le_of_ble_eq_true rfl) (fun sz p e s m args below meth c A ls hA1 hname S Y hl => ?_)
  have hx := S.hx
  have hb := S.hb
  have hl : lv_has ls 5 [(0, .ref (ad 0 0))] := hl
  obtain ⟨bfe_4, bfe_5, bfe_6, bfe_7, bfe_8, bfe_12, bfe_13, bfe_17, bfe_18, bfe_19, bfe_20, bfe_25⟩ := obM I p_ad_0_0
  refine lv_aload_n hx hb dX12_clause_0 rfl (lv_at hl 0 rfl) ?_
  refine cVp (As := []) (rest := []) S Y (x_X12_sortOf (l := l) I p_ad_0_0 p_ad_4_0 hB hTN) cw_X12_sortOf km12_238 p_ad_0_0 ok_X12.1 rfl rfl ⟨Nat.le_of_ble_eq_true rfl, Nat.le_of_ble_eq_true rfl⟩ hl.1 rfl (Nat.le_of_ble_eq_true rfl) ⟨Nat.le_of_ble_eq_true rfl, Nat.le_of_ble_eq_true rfl⟩ dX12_clause_1 (fun r_90534 H locs er_90534 Y => ?_)
  refine lv_istore_n (lv' := [(1, .int r_90534), (0, .ref (ad 0 0))]) hx hb dX12_clause_4 rfl hl (by decide) rfl (fun ls hl => ?_)
  refine lv_iload_n hx hb dX12_clause_5 rfl (lv_at hl 0 rfl) ?_
  refine lv_if_ge (tgt := 11) hx hb dX12_clause_6 (by decide) (fun c_90535 => ?_) (fun c_90535 => ?_)
  · have B_90536 : bn 0 10 r_90534 := bn_w (bn_ler c_90535 (show bn 0 0 (0 : Int32) from bn_k (by decide)) er_90534.1) (by decide)
    refine lv_iload_n hx hb dX12_clause_11 rfl (lv_at hl 0 rfl) ?_
    refine lv_iconst (v := 2) hx hb dX12_clause_12 (by decide) ?_
    refine lv_icmp_gt (tgt := 29) hx hb dX12_clause_13 (by decide) (fun c_90538 => ?_) (fun c_90538 => ?_)
    · have B_90539 : bn 3 10 r_90534 := bn_w (bn_ltr c_90538 (show bn 2 2 (2 : Int32) from bn_k (by decide)) B_90536) (by decide)
      refine lv_aload_n hx hb dX12_clause_29 rfl (lv_at hl 1 rfl) ?_
      refine pg_get S Y ok_X12 2 (by decide) kf12_16 (v := .ref (ad 3 0)) p_ad_0_0 rfl dX12_clause_30 ?_
      refine lv_aload_n hx hb dX12_clause_33 rfl (lv_at hl 1 rfl) ?_
      refine pg_get S Y ok_X12 12 (by decide) kf12_136 (v := .int t0) p_ad_0_0 rfl dX12_clause_34 ?_
      obtain ⟨g_90541, p_ad_3_0, o_90542⟩ := I.opi (k := 3) (j := 0) (by decide) rfl
      have p_ad_3_0 : pt L f (ad 3 0) (.inl (G.2 0, 2916, .inl g_90541)) := p_ad_3_0
      obtain ⟨v_90543, ev_90543⟩ : ∃ z, z = g_90541 (t0 : Int32).toNatClampNeg := ⟨_, rfl⟩
      refine pg_iald S Y (v := v_90543) p_ad_3_0 (vp_bn bfe_12 (by decide)) ev_90543.symm dX12_clause_37 ?_
      have hZC := o_90542.2
      have hZ := o_90542.1
      have en0 := ev_90543
      have B_90544 : bn 0 24 v_90543 := TZ_n hZ ht0 ev_90543
      refine lv_istore_n (lv' := [(2, .int v_90543), (1, .int r_90534), (0, .ref (ad 0 0))]) hx hb dX12_clause_38 rfl hl (by decide) rfl (fun ls hl => ?_)
      refine lv_iload_n hx hb dX12_clause_39 rfl (lv_at hl 0 rfl) ?_
      refine lv_bipush (v := 24) hx hb dX12_clause_40 (by decide) ?_
      refine lv_icmp_ne (tgt := 48) hx hb dX12_clause_42 (by decide) (fun c_90545 => ?_) (fun c_90545 => ?_)
      · have B_90546 : bn 0 23 v_90543 := bn_w (bn_neu c_90545 B_90544 (show bn 24 24 (24 : Int32) from bn_k (by decide))) (by decide)
        refine lv_iload_n hx hb dX12_clause_48 rfl (lv_at hl 1 rfl) ?_
        refine lv_iconst (v := 2) hx hb dX12_clause_49 (by decide) ?_
        refine lv_icmp_gt (tgt := 65) hx hb dX12_clause_50 (by decide) (fun _ => ?_) (fun h => absurd c_90538 h)
        refine lv_aload_n hx hb dX12_clause_65 rfl (lv_at hl 2 rfl) ?_
        refine lv_iload_n hx hb dX12_clause_66 rfl (lv_at hl 1 rfl) ?_
        refine pg_put S Y ok_X12 14 (by decide) kf12_175 rfl (fs' := [.ref (ad 1 0), .ref (ad 2 0), .ref (ad 3 0), .ref (ad 4 0), .int td, .int fa, .int fp, .int at9, .int ps9, .int tk, .int nu, .long wd, .int t0, .int wr, .int r_90534, .ref (ad 5 0), .ref (ad 6 0), .int pd, .int op9, .int cg, .int iw, .int on9, .ref (ad 7 0), .ref (ad 8 0), .ref (ad 9 0), .int is9, .ref (ad 10 0), .ref (ad 11 0), .ref (ad 12 0), .ref (ad 13 0), .int se, .ref (ad 14 0)]) (v := .int r_90534) p_ad_0_0 rfl rfl rfl (Nat.le_of_ble_eq_true rfl) dX12_clause_67 (fun f_90548 H locs ef_90548 Y => ?_)
        have p_ad_4_0 := p_ad_4_0.up ef_90548 (I.ne (k := 4) (j := 0) (k' := 0) (j' := 0) (by decide) (by decide) (Or.inl (by decide)))
        have p_ad_3_0 := p_ad_3_0.up ef_90548 (I.ne (k := 3) (j := 0) (k' := 0) (j' := 0) (by decide) (by decide) (Or.inl (by decide)))
        have p_ad_0_0 := p_ad_0_0.me ef_90548
        have I := I.up (k := 0) (j := 0) (by decide) ef_90548 (okE_o (okFs_c okV_r (okFs_c okV_r (okFs_c okV_r (okFs_c okV_r (okFs_c (okV_p bfe_4) (okFs_c (okV_p bfe_5) (okFs_c (okV_p bfe_6) (okFs_c (okV_i bfe_7) (okFs_c (okV_i bfe_8) (okFs_c (okV_i (bn_any _)) (okFs_c (okV_i (bn_any _)) (okFs_c okV_l (okFs_c (okV_i bfe_12) (okFs_c (okV_i bfe_13) (okFs_c (okV_i (bn_w B_90539 (by decide))) (okFs_c okV_r (okFs_c okV_r (okFs_c (okV_i bfe_17) (okFs_c (okV_i bfe_18) (okFs_c (okV_i bfe_19) (okFs_c (okV_i bfe_20) (okFs_c (okV_i (bn_any _)) (okFs_c okV_r (okFs_c okV_r (okFs_c okV_r (okFs_c (okV_i bfe_25) (okFs_c okV_r (okFs_c okV_r (okFs_c okV_r (okFs_c okV_r (okFs_c (okV_i (bn_any _)) (okFs_c okV_r okFs_n)))))))))))))))))))))))))))))))))
        refine lv_aload_n hx hb dX12_clause_70 rfl (lv_at hl 2 rfl) ?_
        have o_90549 : (EQ g_90541) g_90541 := rfl
        have I := I.castS (sp' := spM PA PI (EQ g_90541) pa) (k := 3) (j := 0) (by decide) p_ad_3_0 (okE_a (g := g_90541) o_90549) pXC
        obtain ⟨g_90550, p_ad_5_0, o_90551⟩ := I.opi (k := 5) (j := 0) (by decide) rfl
        have p_ad_5_0 : pt L f_90548 (ad 5 0) (.inl (G.2 0, 160, .inl g_90550)) := p_ad_5_0
        obtain ⟨g_90552, p_ad_6_0, o_90553⟩ := I.opi (k := 6) (j := 0) (by decide) rfl
        have p_ad_6_0 : pt L f_90548 (ad 6 0) (.inl (G.2 0, 9, .inl g_90552)) := p_ad_6_0
        refine cVv (As := []) (rest := []) S Y (x_X12_nextToken (l := l) I p_ad_0_0 p_ad_4_0 p_ad_5_0 p_ad_6_0 hB) cw_X12_nextToken km12_166 p_ad_0_0 ok_X12.1 rfl rfl ⟨Nat.le_of_ble_eq_true rfl, Nat.le_of_ble_eq_true rfl⟩ hl.1 rfl (Nat.le_of_ble_eq_true rfl) ⟨Nat.le_of_ble_eq_true rfl, Nat.le_of_ble_eq_true rfl⟩ dX12_clause_71 (fun L_90554 f_90555 H locs hr_90556 Y => ?_)
        obtain ⟨v_90557, v_90558, v_90559, v_90560, v_90561, I, p_ad_0_0, p_ad_4_0, p_ad_5_0, p_ad_6_0, eT_90562, eP_90563, eN_90564⟩ := hr_90556
        obtain ⟨bfc90564_4, bfc90564_5, bfc90564_6, bfc90564_7, bfc90564_8, bfc90564_12, bfc90564_13, bfc90564_17, bfc90564_18, bfc90564_19, bfc90564_20, bfc90564_25⟩ := obM I p_ad_0_0
        have TN_90566 := NT_s hTN eN_90564
        refine lv_aload_n hx hb dX12_clause_74 rfl (lv_at hl 2 rfl) ?_
        refine pg_get S Y ok_X12 12 (by decide) kf12_136 (v := .int t0) p_ad_0_0 rfl dX12_clause_75 ?_
        refine lv_iconst (v := 1) hx hb dX12_clause_78 (by decide) ?_
        refine lv_iadd hx hb dX12_clause_79 ?_
        refine lv_topi (fun x_90567 ex_90567 => ?_)
        refine lv_iconst (v := 5) hx hb dX12_clause_80 (by decide) ?_
        refine lv_iload_n hx hb dX12_clause_81 rfl (lv_at hl 0 rfl) ?_
        refine lv_imul hx hb dX12_clause_82 ?_
        refine lv_topi (fun x_90568 ex_90568 => ?_)
        refine lv_iadd hx hb dX12_clause_83 ?_
        refine lv_topi (fun x_90569 ex_90569 => ?_)
        refine lv_istore_n (lv' := [(3, .int x_90569), (2, .int v_90543), (1, .int r_90534), (0, .ref (ad 0 0))]) hx hb dX12_clause_84 rfl hl (by decide) rfl (fun ls hl => ?_)
        refine lv_aload_n hx hb dX12_clause_85 rfl (lv_at hl 3 rfl) ?_
        refine pg_get S Y ok_X12 2 (by decide) kf12_16 (v := .ref (ad 3 0)) p_ad_0_0 rfl dX12_clause_86 ?_
        refine lv_iload_n hx hb dX12_clause_89 rfl (lv_at hl 0 rfl) ?_
        refine lv_iload_n hx hb dX12_clause_90 rfl (lv_at hl 2 rfl) ?_
        obtain ⟨g_90570, p_ad_3_0, o_90571⟩ := I.opi (k := 3) (j := 0) (by decide) rfl
        have p_ad_3_0 : pt L_90554 f_90555 (ad 3 0) (.inl (G.2 0, 2916, .inl g_90570)) := p_ad_3_0
        refine pg_iast S Y p_ad_3_0 (vp_bn (bn_eq ex_90569 (bn_add (bn_eq ex_90567 (bn_add bfc90564_12 (show bn 1 1 (1 : Int32) from bn_k (by decide)) (by decide))) (bn_eq ex_90568 (bn_mul (show bn 5 5 (5 : Int32) from bn_k (by decide)) B_90546 (by decide))) (by decide))) (by decide)) dX12_clause_91 (fun f_90573 H locs ef_90573 Y => ?_)
        obtain ⟨g_90572, eg_90572⟩ : ∃ z, z = upd (g_90570) (x_90569 : Int32).toNatClampNeg r_90534 := ⟨_, rfl⟩
        rw [← eg_90572] at ef_90573
        have p_ad_0_0 := p_ad_0_0.up ef_90573 (I.ne (k := 0) (j := 0) (k' := 3) (j' := 0) (by decide) (by decide) (Or.inl (by decide)))
        have p_ad_4_0 := p_ad_4_0.up ef_90573 (I.ne (k := 4) (j := 0) (k' := 3) (j' := 0) (by decide) (by decide) (Or.inl (by decide)))
        have p_ad_5_0 := p_ad_5_0.up ef_90573 (I.ne (k := 5) (j := 0) (k' := 3) (j' := 0) (by decide) (by decide) (Or.inl (by decide)))
        have p_ad_6_0 := p_ad_6_0.up ef_90573 (I.ne (k := 6) (j := 0) (k' := 3) (j' := 0) (by decide) (by decide) (Or.inl (by decide)))
        have p_ad_3_0 := p_ad_3_0.me ef_90573
        have o_90574 : (EQ g_90572) g_90572 := rfl
        have I := I.upS (sp' := spM PA PI (EQ g_90572) pa) (k := 3) (j := 0) (by decide) ef_90573 (okE_a (g := g_90572) o_90574) pXC
        have eg1 : g_90572 = upd g_90541 (x_90569 : Int32).toNatClampNeg r_90534 := by rw [eg_90572, show g_90570 = g_90541 from o_90571]
        refine lv_aload_n hx hb dX12_clause_92 rfl (lv_at hl 3 rfl) ?_
        refine lv_iload_n hx hb dX12_clause_93 rfl (lv_at hl 2 rfl) ?_
        refine lv_iload_n hx hb dX12_clause_94 rfl (lv_at hl 0 rfl) ?_
        refine cVi (As := [.int r_90534, .int x_90569]) (rest := []) S Y (x_X12_body (l := l) I p_ad_0_0 p_ad_4_0 (bn_w B_90539 (by decide)) (bn_w (bn_eq ex_90569 (bn_add (bn_eq ex_90567 (bn_add bfc90564_12 (show bn 1 1 (1 : Int32) from bn_k (by decide)) (by decide))) (bn_eq ex_90568 (bn_mul (show bn 5 5 (5 : Int32) from bn_k (by decide)) B_90546 (by decide))) (by decide))) (by decide)) (show g_90572 x_90569.toInt.toNat = r_90534 from by rw [eg1, ← tnc, pk_us]) rfl (by have z9 := (la_add ex_90569 (la_add ex_90567 (rfl : t0.toInt = t0.toInt) (show (1 : Int32).toInt = 1 from rfl) bfc90564_12 (show bn 1 1 (1 : Int32) from bn_k (by decide)) (by decide)) (la_mul ex_90568 (show (5 : Int32).toInt = 5 from rfl) (rfl : v_90543.toInt = v_90543.toInt) (show bn 5 5 (5 : Int32) from bn_k (by decide)) B_90546 (by decide)) (bn_eq ex_90567 (bn_add bfc90564_12 (show bn 1 1 (1 : Int32) from bn_k (by decide)) (by decide))) (bn_eq ex_90568 (bn_mul (show bn 5 5 (5 : Int32) from bn_k (by decide)) B_90546 (by decide))) (by decide)); have z8 := (B_90546).2; omega) (by have c0 := hT.1; have c1 := hroom; have c2 := eT_90562.1; have c3 := eP_90563; omega) eT_90562 hB TN_90566 (so_y er_90534.2.2 (bn_w (a' := 0) (b' := 10) B_90539 (by decide)).1) (by have z9 := (so_y er_90534.2.2 (bn_w (a' := 0) (b' := 10) B_90539 (by decide)).1); unfold SO8 at z9; omega) (cl_go hcl ho9 (bn_w B_90546 (by decide)) (show v_90543.toInt = nC from by rw [en0, tnc]; exact hZC) (so_y er_90534.2.2 (bn_w (a' := 0) (b' := 10) B_90539 (by decide)).1) (show FRE on9 r_90534 from Or.inl (by have z9 := (B_90539).1; omega)) c_90545)) cw_X12_body km12_248 p_ad_0_0 ok_X12.1 rfl rfl ⟨Nat.le_of_ble_eq_true rfl, Nat.le_of_ble_eq_true rfl⟩ hl.1 rfl (Nat.le_of_ble_eq_true rfl) ⟨Nat.le_of_ble_eq_true rfl, Nat.le_of_ble_eq_true rfl⟩ dX12_clause_95 (fun r_90577 L_90575 f_90576 H locs hr_90577 Y => ?_)
        obtain ⟨v_90578, v_90579, v_90580, v_90581, v_90582, v_90583, v_90584, v_90585, v_90586, v_90587, er_90577, I, p_ad_0_0, p_ad_4_0, eT_90588, eQ_90589, eW_90590, eL_90591⟩ := hr_90577
        obtain ⟨bfc90591_4, bfc90591_5, bfc90591_6, bfc90591_7, bfc90591_8, bfc90591_12, bfc90591_13, bfc90591_17, bfc90591_18, bfc90591_19, bfc90591_20, bfc90591_25⟩ := obM I p_ad_0_0
        obtain ⟨jTN_90593, TN_90593, LZTN_90593, LFTN_90593⟩ := eL_90591
        refine lv_istore (lv' := [(4, .int r_90577), (3, .int x_90569), (2, .int v_90543), (1, .int r_90534), (0, .ref (ad 0 0))]) hx hb dX12_clause_98 hl (by decide) rfl (fun ls hl => ?_)
        refine lv_iload hx hb dX12_clause_100 (lv_at hl 0 rfl) ?_
        refine lv_if_eq (tgt := 108) hx hb dX12_clause_102 (by decide) (fun c_90594 => ?_) (fun c_90594 => ?_)
        · have B_90595 : bn 0 0 r_90577 := bn_w (bn_eq c_90594 (show bn 0 0 (0 : Int32) from bn_k (by decide))) (by decide)
          refine lv_aload_n hx hb dX12_clause_108 rfl (lv_at hl 4 rfl) ?_
          refine pg_get S Y ok_X12 2 (by decide) kf12_16 (v := .ref (ad 3 0)) p_ad_0_0 rfl dX12_clause_109 ?_
          refine lv_aload_n hx hb dX12_clause_112 rfl (lv_at hl 4 rfl) ?_
          refine pg_get S Y ok_X12 12 (by decide) kf12_136 (v := .int t0) p_ad_0_0 rfl dX12_clause_113 ?_
          refine lv_dup2_11 hx hb dX12_clause_116 rfl rfl ?_
          obtain ⟨g_90597, p_ad_3_0, o_90598⟩ := I.opi (k := 3) (j := 0) (by decide) rfl
          have p_ad_3_0 : pt L_90575 f_90576 (ad 3 0) (.inl (G.2 0, 2916, .inl g_90597)) := p_ad_3_0
          obtain ⟨v_90599, ev_90599⟩ : ∃ z, z = g_90597 (t0 : Int32).toNatClampNeg := ⟨_, rfl⟩
          refine pg_iald S Y (v := v_90599) p_ad_3_0 (vp_bn bfc90591_12 (by decide)) ev_90599.symm dX12_clause_117 ?_
          refine lv_iconst (v := 1) hx hb dX12_clause_118 (by decide) ?_
          refine lv_iadd hx hb dX12_clause_119 ?_
          refine lv_topi (fun x_90600 ex_90600 => ?_)
          refine pg_iast S Y p_ad_3_0 (vp_bn bfc90591_12 (by decide)) dX12_clause_120 (fun f_90602 H locs ef_90602 Y => ?_)
          obtain ⟨g_90601, eg_90601⟩ : ∃ z, z = upd (g_90597) (t0 : Int32).toNatClampNeg x_90600 := ⟨_, rfl⟩
          rw [← eg_90601] at ef_90602
          have p_ad_0_0 := p_ad_0_0.up ef_90602 (I.ne (k := 0) (j := 0) (k' := 3) (j' := 0) (by decide) (by decide) (Or.inl (by decide)))
          have p_ad_4_0 := p_ad_4_0.up ef_90602 (I.ne (k := 4) (j := 0) (k' := 3) (j' := 0) (by decide) (by decide) (Or.inl (by decide)))
          have p_ad_3_0 := p_ad_3_0.me ef_90602
          have o_90603 : (TZN (nC + 1) t0 v_90583) g_90601 := (tzn_mk (show v_90543.toInt = nC from by rw [en0, tnc]; exact hZC) (TZ_up hZ ht0 bfe_13.1 en0 (bn_w B_90546 (by decide)) eg1 (by have z9 := (la_add ex_90569 (la_add ex_90567 (rfl : t0.toInt = t0.toInt) (show (1 : Int32).toInt = 1 from rfl) bfc90591_12 (show bn 1 1 (1 : Int32) from bn_k (by decide)) (by decide)) (la_mul ex_90568 (show (5 : Int32).toInt = 5 from rfl) (rfl : v_90543.toInt = v_90543.toInt) (show bn 5 5 (5 : Int32) from bn_k (by decide)) B_90546 (by decide)) (bn_eq ex_90567 (bn_add bfc90564_12 (show bn 1 1 (1 : Int32) from bn_k (by decide)) (by decide))) (bn_eq ex_90568 (bn_mul (show bn 5 5 (5 : Int32) from bn_k (by decide)) B_90546 (by decide))) (by decide)); omega) o_90598 c_90594 ev_90599 ex_90600 eg_90601))
          have I := I.upS (sp' := spM PA PI (TZN (nC + 1) t0 v_90583) pa) (k := 3) (j := 0) (by decide) ef_90602 (okE_a (g := g_90601) o_90603) pXC
          refine lv_aload_n hx hb dX12_clause_121 rfl (lv_at hl 4 rfl) ?_
          refine pg_get S Y ok_X12 9 (by decide) kf12_98 (v := .int v_90580) p_ad_0_0 rfl dX12_clause_122 ?_
          refine lv_bipush (v := 59) hx hb dX12_clause_125 (by decide) ?_
          refine lv_icmp_eq (tgt := 132) hx hb dX12_clause_127 (by decide) (fun c_90604 => ?_) (fun c_90604 => ?_)
          · have B_90605 : bn 59 59 v_90580 := bn_w (bn_eq c_90604 (show bn 59 59 (59 : Int32) from bn_k (by decide))) (by decide)
            refine lv_aload_n hx hb dX12_clause_132 rfl (lv_at hl 4 rfl) ?_
            obtain ⟨g_90606, p_ad_5_0, o_90607⟩ := I.opi (k := 5) (j := 0) (by decide) rfl
            have p_ad_5_0 : pt L_90575 f_90602 (ad 5 0) (.inl (G.2 0, 160, .inl g_90606)) := p_ad_5_0
            obtain ⟨g_90608, p_ad_6_0, o_90609⟩ := I.opi (k := 6) (j := 0) (by decide) rfl
            have p_ad_6_0 : pt L_90575 f_90602 (ad 6 0) (.inl (G.2 0, 9, .inl g_90608)) := p_ad_6_0
            refine cVv (As := []) (rest := []) S Y (x_X12_nextToken (l := l) I p_ad_0_0 p_ad_4_0 p_ad_5_0 p_ad_6_0 hB) cw_X12_nextToken km12_166 p_ad_0_0 ok_X12.1 rfl rfl ⟨Nat.le_of_ble_eq_true rfl, Nat.le_of_ble_eq_true rfl⟩ hl.1 rfl (Nat.le_of_ble_eq_true rfl) ⟨Nat.le_of_ble_eq_true rfl, Nat.le_of_ble_eq_true rfl⟩ dX12_clause_133 (fun L_90610 f_90611 H locs hr_90612 Y => ?_)
            obtain ⟨v_90613, v_90614, v_90615, v_90616, v_90617, I, p_ad_0_0, p_ad_4_0, p_ad_5_0, p_ad_6_0, eT_90618, eP_90619, eN_90620⟩ := hr_90612
            obtain ⟨bfc90620_4, bfc90620_5, bfc90620_6, bfc90620_7, bfc90620_8, bfc90620_12, bfc90620_13, bfc90620_17, bfc90620_18, bfc90620_19, bfc90620_20, bfc90620_25⟩ := obM I p_ad_0_0
            have TN_90622 := NT_s TN_90593 eN_90620
            obtain ⟨g_90623, p_ad_3_0, o_90624⟩ := I.opi (k := 3) (j := 0) (by decide) rfl
            have p_ad_3_0 : pt L_90610 f_90611 (ad 3 0) (.inl (G.2 0, 2916, .inl g_90623)) := p_ad_3_0
            have o_90625 : (TCN 0 nC t0 v_90583) g_90623 := ⟨o_90624.1.1, fun _ => o_90624⟩
            have I := I.castS (sp' := spM PA PI (TCN 0 nC t0 v_90583) pa) (k := 3) (j := 0) (by decide) p_ad_3_0 (okE_a (g := g_90623) o_90625) pXC
            refine lv_iconst (v := 0) hx hb dX12_clause_136 (by decide) ?_
            exact prI (post := fun r L1 f1 => ∃ at92 : Int32, ∃ ps92 : Int32, ∃ tk2 : Int32, ∃ nu2 : Int32, ∃ wd2 : Int64, ∃ wr2 : Int32, ∃ so2 : Int32, ∃ pd2 : Int32, ∃ op92 : Int32, ∃ cg2 : Int32, ∃ iw2 : Int32, ∃ on92 : Int32, bn 0 7 r ∧ SH (spM PA PI (TCN r nC t0 wr2) pa) nnM G ad L1 f1 ∧ pt L1 f1 (ad 0 0) (.inr (12, [.ref (ad 1 0), .ref (ad 2 0), .ref (ad 3 0), .ref (ad 4 0), .int td, .int fa, .int fp, .int at92, .int ps92, .int tk2, .int nu2, .long wd2, .int t0, .int wr2, .int so2, .ref (ad 5 0), .ref (ad 6 0), .int pd2, .int op92, .int cg2, .int iw2, .int on92, .ref (ad 7 0), .ref (ad 8 0), .ref (ad 9 0), .int is9, .ref (ad 10 0), .ref (ad 11 0), .ref (ad 12 0), .ref (ad 13 0), .int se, .ref (ad 14 0)])) ∧ pt L1 f1 (ad 4 0) (.inl (G.2 0, 300, .inl gt)) ∧ TK at92 ps92 tk2 ∧ (r.toInt = 0 → ps9.toInt + 1 ≤ ps92.toInt) ∧ (r.toInt = 0 → wr2.toInt ≤ ps92.toInt) ∧ ∃ j, TKN (bI gt) td.toInt.toNat j at92 ps92 tk2 nu2 wd2 ∧ (r.toInt = 0 → LL (tkK (bI gt) td.toInt.toNat) (tkV (bI gt) td.toInt.toNat) [(kCls (on92.toInt * 100 + nC + 1), 0, false)] j rr ∧ bn 0 7 on92) ∧ (0 < r.toInt → rr = (r.toInt, j))) S Y rfl (by decide) (by decide) hA1 ⟨v_90613, v_90614, v_90615, v_90616, v_90617, v_90583, r_90534, v_90584, v_90585, v_90586, v_90587, on9, bn_w (show bn 0 0 (0 : Int32) from bn_k (by decide)) (by decide), I, p_ad_0_0, p_ad_4_0, eT_90618, (fun _ => by have c0 := hT.2 htk; have c1 := eT_90562.1; have c2 := eP_90563; have c3 := eT_90618.1; have c4 := eP_90619; have c5 := eT_90588.1; have c6 := eQ_90589 (show r_90577.toInt = 0 from by rw [c_90594]; rfl); have c7 := eW_90590 (show r_90577.toInt = 0 from by rw [c_90594]; rfl); omega), (fun _ => by have c0 := hT.2 htk; have c1 := eT_90562.1; have c2 := eP_90563; have c3 := eT_90618.1; have c4 := eP_90619; have c5 := eT_90588.1; have c6 := eQ_90589 (show r_90577.toInt = 0 from by rw [c_90594]; rfl); have c7 := eW_90590 (show r_90577.toInt = 0 from by rw [c_90594]; rfl); omega), ⟨jTN_90593 + 1, TN_90622, fun _ => ⟨(by rw [(⟨on_no (so_y er_90534.2.2 (bn_w (a' := 0) (b' := 10) B_90539 (by decide)).1) (by have z9 := (B_90539).1; omega), ho9⟩ : on9.toInt = onceM on9.toInt _ ∧ bn 0 7 on9).1]; exact kx_y (LZTN_90593 (show r_90577.toInt = 0 from by rw [c_90594]; rfl)) (show (tkK (bI gt) td.toInt.toNat) jTN_90593 = 59 from (by have j0 := (((tk_k TN_90593.2.2).2.2.2.2.1 59 (by decide)).mp (show v_90580.toInt = 59 from by rw [c_90604]; rfl)); omega))), (⟨on_no (so_y er_90534.2.2 (bn_w (a' := 0) (b' := 10) B_90539 (by decide)).1) (by have z9 := (B_90539).1; omega), ho9⟩ : on9.toInt = onceM on9.toInt _ ∧ bn 0 7 on9).2⟩, (fun h => absurd h (by decide))⟩⟩ dX12_clause_137
          · have o_90626 : (TCN 1 nC t0 v_90583) g_90601 := (TCN_no o_90603 (by decide))
            have I := I.castS (sp' := spM PA PI (TCN 1 nC t0 v_90583) pa) (k := 3) (j := 0) (by decide) p_ad_3_0 (okE_a (g := g_90601) o_90626) pXC
            refine lv_iconst (v := 1) hx hb dX12_clause_130 (by decide) ?_
            exact prI (post := fun r L1 f1 => ∃ at92 : Int32, ∃ ps92 : Int32, ∃ tk2 : Int32, ∃ nu2 : Int32, ∃ wd2 : Int64, ∃ wr2 : Int32, ∃ so2 : Int32, ∃ pd2 : Int32, ∃ op92 : Int32, ∃ cg2 : Int32, ∃ iw2 : Int32, ∃ on92 : Int32, bn 0 7 r ∧ SH (spM PA PI (TCN r nC t0 wr2) pa) nnM G ad L1 f1 ∧ pt L1 f1 (ad 0 0) (.inr (12, [.ref (ad 1 0), .ref (ad 2 0), .ref (ad 3 0), .ref (ad 4 0), .int td, .int fa, .int fp, .int at92, .int ps92, .int tk2, .int nu2, .long wd2, .int t0, .int wr2, .int so2, .ref (ad 5 0), .ref (ad 6 0), .int pd2, .int op92, .int cg2, .int iw2, .int on92, .ref (ad 7 0), .ref (ad 8 0), .ref (ad 9 0), .int is9, .ref (ad 10 0), .ref (ad 11 0), .ref (ad 12 0), .ref (ad 13 0), .int se, .ref (ad 14 0)])) ∧ pt L1 f1 (ad 4 0) (.inl (G.2 0, 300, .inl gt)) ∧ TK at92 ps92 tk2 ∧ (r.toInt = 0 → ps9.toInt + 1 ≤ ps92.toInt) ∧ (r.toInt = 0 → wr2.toInt ≤ ps92.toInt) ∧ ∃ j, TKN (bI gt) td.toInt.toNat j at92 ps92 tk2 nu2 wd2 ∧ (r.toInt = 0 → LL (tkK (bI gt) td.toInt.toNat) (tkV (bI gt) td.toInt.toNat) [(kCls (on92.toInt * 100 + nC + 1), 0, false)] j rr ∧ bn 0 7 on92) ∧ (0 < r.toInt → rr = (r.toInt, j))) S Y rfl (by decide) (by decide) hA1 ⟨v_90578, v_90579, v_90580, v_90581, v_90582, v_90583, r_90534, v_90584, v_90585, v_90586, v_90587, on9, bn_w (show bn 1 1 (1 : Int32) from bn_k (by decide)) (by decide), I, p_ad_0_0, p_ad_4_0, eT_90588, (fun h => absurd h (by decide)), (fun h => absurd h (by decide)), ⟨jTN_90593, TN_90593, (fun h => absurd h (by decide)), fun _ => kx_no (LZTN_90593 (show r_90577.toInt = 0 from by rw [c_90594]; rfl)) (show (tkK (bI gt) td.toInt.toNat) jTN_90593 ≠ 59 from (by have j0 := (mt ((tk_k TN_90593.2.2).2.2.2.2.1 59 (by decide)).mpr (show ¬ v_90580.toInt = 59 from fun z => c_90604 (Int32.toInt_inj.mp (z.trans rfl)))); omega))⟩⟩ dX12_clause_131
        · have B_90596 : bn 1 7 r_90577 := bn_w (bn_nel c_90594 er_90577 (show bn 0 0 (0 : Int32) from bn_k (by decide))) (by decide)
          refine lv_iload hx hb dX12_clause_105 (lv_at hl 0 rfl) ?_
          obtain ⟨g_90627, p_ad_3_0, o_90628⟩ := I.opi (k := 3) (j := 0) (by decide) rfl
          have p_ad_3_0 : pt L_90575 f_90576 (ad 3 0) (.inl (G.2 0, 2916, .inl g_90627)) := p_ad_3_0
          have o_90629 : (TCN r_90577 nC t0 v_90583) g_90627 := (TCN_tc (TZ_bd hZ ht0 bfe_13.1 en0 (bn_w B_90546 (by decide)) eg1 (by have z9 := (la_add ex_90569 (la_add ex_90567 (rfl : t0.toInt = t0.toInt) (show (1 : Int32).toInt = 1 from rfl) bfc90591_12 (show bn 1 1 (1 : Int32) from bn_k (by decide)) (by decide)) (la_mul ex_90568 (show (5 : Int32).toInt = 5 from rfl) (rfl : v_90543.toInt = v_90543.toInt) (show bn 5 5 (5 : Int32) from bn_k (by decide)) B_90546 (by decide)) (bn_eq ex_90567 (bn_add bfc90564_12 (show bn 1 1 (1 : Int32) from bn_k (by decide)) (by decide))) (bn_eq ex_90568 (bn_mul (show bn 5 5 (5 : Int32) from bn_k (by decide)) B_90546 (by decide))) (by decide)); omega) o_90628 c_90594) c_90594)
          have I := I.castS (sp' := spM PA PI (TCN r_90577 nC t0 v_90583) pa) (k := 3) (j := 0) (by decide) p_ad_3_0 (okE_a (g := g_90627) o_90629) pXC
          exact prI (post := fun r L1 f1 => ∃ at92 : Int32, ∃ ps92 : Int32, ∃ tk2 : Int32, ∃ nu2 : Int32, ∃ wd2 : Int64, ∃ wr2 : Int32, ∃ so2 : Int32, ∃ pd2 : Int32, ∃ op92 : Int32, ∃ cg2 : Int32, ∃ iw2 : Int32, ∃ on92 : Int32, bn 0 7 r ∧ SH (spM PA PI (TCN r nC t0 wr2) pa) nnM G ad L1 f1 ∧ pt L1 f1 (ad 0 0) (.inr (12, [.ref (ad 1 0), .ref (ad 2 0), .ref (ad 3 0), .ref (ad 4 0), .int td, .int fa, .int fp, .int at92, .int ps92, .int tk2, .int nu2, .long wd2, .int t0, .int wr2, .int so2, .ref (ad 5 0), .ref (ad 6 0), .int pd2, .int op92, .int cg2, .int iw2, .int on92, .ref (ad 7 0), .ref (ad 8 0), .ref (ad 9 0), .int is9, .ref (ad 10 0), .ref (ad 11 0), .ref (ad 12 0), .ref (ad 13 0), .int se, .ref (ad 14 0)])) ∧ pt L1 f1 (ad 4 0) (.inl (G.2 0, 300, .inl gt)) ∧ TK at92 ps92 tk2 ∧ (r.toInt = 0 → ps9.toInt + 1 ≤ ps92.toInt) ∧ (r.toInt = 0 → wr2.toInt ≤ ps92.toInt) ∧ ∃ j, TKN (bI gt) td.toInt.toNat j at92 ps92 tk2 nu2 wd2 ∧ (r.toInt = 0 → LL (tkK (bI gt) td.toInt.toNat) (tkV (bI gt) td.toInt.toNat) [(kCls (on92.toInt * 100 + nC + 1), 0, false)] j rr ∧ bn 0 7 on92) ∧ (0 < r.toInt → rr = (r.toInt, j))) S Y rfl (by decide) (by decide) hA1 ⟨v_90578, v_90579, v_90580, v_90581, v_90582, v_90583, r_90534, v_90584, v_90585, v_90586, v_90587, on9, bn_w B_90596 (by decide), I, p_ad_0_0, p_ad_4_0, eT_90588, (fun h => absurd (Int32.toInt_inj.mp (h.trans rfl)) c_90594), (fun h => absurd (Int32.toInt_inj.mp (h.trans rfl)) c_90594), ⟨jTN_90593, TN_90593, fun z => absurd (Int32.toInt_inj.mp (z.trans rfl)) c_90594, LFTN_90593⟩⟩ dX12_clause_107
      · have B_90547 : bn 24 24 v_90543 := bn_w (bn_eq c_90545 (show bn 24 24 (24 : Int32) from bn_k (by decide))) (by decide)
        have o_90630 : (TCN 6 nC t0 wr) g_90541 := (TCN_no o_90542 (by decide))
        have I := I.castS (sp' := spM PA PI (TCN 6 nC t0 wr) pa) (k := 3) (j := 0) (by decide) p_ad_3_0 (okE_a (g := g_90541) o_90630) pXC
        refine lv_bipush (v := 6) hx hb dX12_clause_45 (by decide) ?_
        exact prI (post := fun r L1 f1 => ∃ at92 : Int32, ∃ ps92 : Int32, ∃ tk2 : Int32, ∃ nu2 : Int32, ∃ wd2 : Int64, ∃ wr2 : Int32, ∃ so2 : Int32, ∃ pd2 : Int32, ∃ op92 : Int32, ∃ cg2 : Int32, ∃ iw2 : Int32, ∃ on92 : Int32, bn 0 7 r ∧ SH (spM PA PI (TCN r nC t0 wr2) pa) nnM G ad L1 f1 ∧ pt L1 f1 (ad 0 0) (.inr (12, [.ref (ad 1 0), .ref (ad 2 0), .ref (ad 3 0), .ref (ad 4 0), .int td, .int fa, .int fp, .int at92, .int ps92, .int tk2, .int nu2, .long wd2, .int t0, .int wr2, .int so2, .ref (ad 5 0), .ref (ad 6 0), .int pd2, .int op92, .int cg2, .int iw2, .int on92, .ref (ad 7 0), .ref (ad 8 0), .ref (ad 9 0), .int is9, .ref (ad 10 0), .ref (ad 11 0), .ref (ad 12 0), .ref (ad 13 0), .int se, .ref (ad 14 0)])) ∧ pt L1 f1 (ad 4 0) (.inl (G.2 0, 300, .inl gt)) ∧ TK at92 ps92 tk2 ∧ (r.toInt = 0 → ps9.toInt + 1 ≤ ps92.toInt) ∧ (r.toInt = 0 → wr2.toInt ≤ ps92.toInt) ∧ ∃ j, TKN (bI gt) td.toInt.toNat j at92 ps92 tk2 nu2 wd2 ∧ (r.toInt = 0 → LL (tkK (bI gt) td.toInt.toNat) (tkV (bI gt) td.toInt.toNat) [(kCls (on92.toInt * 100 + nC + 1), 0, false)] j rr ∧ bn 0 7 on92) ∧ (0 < r.toInt → rr = (r.toInt, j))) S Y rfl (by decide) (by decide) hA1 ⟨at9, ps9, tk, nu, wd, wr, so, pd, op9, cg, iw, on9, bn_w (show bn 6 6 (6 : Int32) from bn_k (by decide)) (by decide), I, p_ad_0_0, p_ad_4_0, hT, (fun h => absurd h (by decide)), (fun h => absurd h (by decide)), ⟨i9, hTN, (fun h => absurd h (by decide)), fun _ => cl_full hcl ho9 (bn_w B_90547 (by decide)) (show v_90543.toInt = nC from by rw [en0, tnc]; exact hZC) (so_y er_90534.2.2 (bn_w (a' := 0) (b' := 10) B_90539 (by decide)).1) (show FRE on9 r_90534 from Or.inl (by have z9 := (B_90539).1; omega)) c_90545⟩⟩ dX12_clause_47
    · have B_90540 : bn 0 2 r_90534 := bn_w (bn_ger c_90538 (show bn 2 2 (2 : Int32) from bn_k (by decide)) B_90536) (by decide)
      refine lv_aload_n hx hb dX12_clause_16 rfl (lv_at hl 1 rfl) ?_
      refine pg_get S Y ok_X12 21 (by decide) kf12_241 (v := .int on9) p_ad_0_0 rfl dX12_clause_17 ?_
      refine lv_iload_n hx hb dX12_clause_20 rfl (lv_at hl 0 rfl) ?_
      refine cSp (As := [.int on9, .int r_90534]) (rest := []) S Y (x_X12_hasE (l := l) (bn_w ho9 (by decide)) (bn_w B_90540 (by decide))) cw_X12_has km12_244 rfl ⟨Nat.le_of_ble_eq_true rfl, Nat.le_of_ble_eq_true rfl⟩ hl.1 rfl (Nat.le_of_ble_eq_true rfl) ⟨Nat.le_of_ble_eq_true rfl, Nat.le_of_ble_eq_true rfl⟩ dX12_clause_21 (fun r_90631 H locs er_90631 Y => ?_)
      refine lv_if_eq (tgt := 29) hx hb dX12_clause_24 (by decide) (fun c_90632 => ?_) (fun c_90632 => ?_)
      · have B_90633 : bn 0 0 r_90631 := bn_w (bn_eq c_90632 (show bn 0 0 (0 : Int32) from bn_k (by decide))) (by decide)
        refine lv_aload_n hx hb dX12_clause_29 rfl (lv_at hl 1 rfl) ?_
        refine pg_get S Y ok_X12 2 (by decide) kf12_16 (v := .ref (ad 3 0)) p_ad_0_0 rfl dX12_clause_30 ?_
        refine lv_aload_n hx hb dX12_clause_33 rfl (lv_at hl 1 rfl) ?_
        refine pg_get S Y ok_X12 12 (by decide) kf12_136 (v := .int t0) p_ad_0_0 rfl dX12_clause_34 ?_
        obtain ⟨g_90635, p_ad_3_0, o_90636⟩ := I.opi (k := 3) (j := 0) (by decide) rfl
        have p_ad_3_0 : pt L f (ad 3 0) (.inl (G.2 0, 2916, .inl g_90635)) := p_ad_3_0
        obtain ⟨v_90637, ev_90637⟩ : ∃ z, z = g_90635 (t0 : Int32).toNatClampNeg := ⟨_, rfl⟩
        refine pg_iald S Y (v := v_90637) p_ad_3_0 (vp_bn bfe_12 (by decide)) ev_90637.symm dX12_clause_37 ?_
        have hZC := o_90636.2
        have hZ := o_90636.1
        have en0 := ev_90637
        have B_90638 : bn 0 24 v_90637 := TZ_n hZ ht0 ev_90637
        refine lv_istore_n (lv' := [(2, .int v_90637), (1, .int r_90534), (0, .ref (ad 0 0))]) hx hb dX12_clause_38 rfl hl (by decide) rfl (fun ls hl => ?_)
        refine lv_iload_n hx hb dX12_clause_39 rfl (lv_at hl 0 rfl) ?_
        refine lv_bipush (v := 24) hx hb dX12_clause_40 (by decide) ?_
        refine lv_icmp_ne (tgt := 48) hx hb dX12_clause_42 (by decide) (fun c_90639 => ?_) (fun c_90639 => ?_)
        · have B_90640 : bn 0 23 v_90637 := bn_w (bn_neu c_90639 B_90638 (show bn 24 24 (24 : Int32) from bn_k (by decide))) (by decide)
          refine lv_iload_n hx hb dX12_clause_48 rfl (lv_at hl 1 rfl) ?_
          refine lv_iconst (v := 2) hx hb dX12_clause_49 (by decide) ?_
          refine lv_icmp_gt (tgt := 65) hx hb dX12_clause_50 (by decide) (fun h => absurd h c_90538) (fun _ => ?_)
          refine lv_aload_n hx hb dX12_clause_53 rfl (lv_at hl 2 rfl) ?_
          refine lv_dup hx hb dX12_clause_54 rfl ?_
          refine pg_get S Y ok_X12 21 (by decide) kf12_241 (v := .int on9) p_ad_0_0 rfl dX12_clause_55 ?_
          refine lv_iconst (v := 1) hx hb dX12_clause_58 (by decide) ?_
          refine lv_iload_n hx hb dX12_clause_59 rfl (lv_at hl 1 rfl) ?_
          refine lv_ishl hx hb dX12_clause_60 ?_
          refine lv_topi (fun x_90642 ex_90642 => ?_)
          refine lv_ior hx hb dX12_clause_61 ?_
          refine lv_topi (fun x_90643 ex_90643 => ?_)
          refine pg_put S Y ok_X12 21 (by decide) kf12_241 rfl (fs' := [.ref (ad 1 0), .ref (ad 2 0), .ref (ad 3 0), .ref (ad 4 0), .int td, .int fa, .int fp, .int at9, .int ps9, .int tk, .int nu, .long wd, .int t0, .int wr, .int so, .ref (ad 5 0), .ref (ad 6 0), .int pd, .int op9, .int cg, .int iw, .int x_90643, .ref (ad 7 0), .ref (ad 8 0), .ref (ad 9 0), .int is9, .ref (ad 10 0), .ref (ad 11 0), .ref (ad 12 0), .ref (ad 13 0), .int se, .ref (ad 14 0)]) (v := .int x_90643) p_ad_0_0 rfl rfl rfl (Nat.le_of_ble_eq_true rfl) dX12_clause_62 (fun f_90644 H locs ef_90644 Y => ?_)
          have p_ad_4_0 := p_ad_4_0.up ef_90644 (I.ne (k := 4) (j := 0) (k' := 0) (j' := 0) (by decide) (by decide) (Or.inl (by decide)))
          have p_ad_3_0 := p_ad_3_0.up ef_90644 (I.ne (k := 3) (j := 0) (k' := 0) (j' := 0) (by decide) (by decide) (Or.inl (by decide)))
          have p_ad_0_0 := p_ad_0_0.me ef_90644
          have I := I.up (k := 0) (j := 0) (by decide) ef_90644 (okE_o (okFs_c okV_r (okFs_c okV_r (okFs_c okV_r (okFs_c okV_r (okFs_c (okV_p bfe_4) (okFs_c (okV_p bfe_5) (okFs_c (okV_p bfe_6) (okFs_c (okV_i bfe_7) (okFs_c (okV_i bfe_8) (okFs_c (okV_i (bn_any _)) (okFs_c (okV_i (bn_any _)) (okFs_c okV_l (okFs_c (okV_i bfe_12) (okFs_c (okV_i bfe_13) (okFs_c (okV_i (bn_any _)) (okFs_c okV_r (okFs_c okV_r (okFs_c (okV_i bfe_17) (okFs_c (okV_i bfe_18) (okFs_c (okV_i bfe_19) (okFs_c (okV_i bfe_20) (okFs_c (okV_i (bn_w (bn_eq ex_90643 (bn_or (n := 3) (bn_w ho9 (by decide) : bn 0 7 on9) (bn_w (bn_eq ex_90642 (bn_shl (n := 2) (bn_w B_90540 (by decide) : bn 0 2 r_90534) (by decide) (by decide))) (by decide) : bn 0 4 x_90642) (by decide) (by decide))) (by decide))) (okFs_c okV_r (okFs_c okV_r (okFs_c okV_r (okFs_c (okV_i bfe_25) (okFs_c okV_r (okFs_c okV_r (okFs_c okV_r (okFs_c okV_r (okFs_c (okV_i (bn_any _)) (okFs_c okV_r okFs_n)))))))))))))))))))))))))))))))))
          refine lv_aload_n hx hb dX12_clause_65 rfl (lv_at hl 2 rfl) ?_
          refine lv_iload_n hx hb dX12_clause_66 rfl (lv_at hl 1 rfl) ?_
          refine pg_put S Y ok_X12 14 (by decide) kf12_175 rfl (fs' := [.ref (ad 1 0), .ref (ad 2 0), .ref (ad 3 0), .ref (ad 4 0), .int td, .int fa, .int fp, .int at9, .int ps9, .int tk, .int nu, .long wd, .int t0, .int wr, .int r_90534, .ref (ad 5 0), .ref (ad 6 0), .int pd, .int op9, .int cg, .int iw, .int x_90643, .ref (ad 7 0), .ref (ad 8 0), .ref (ad 9 0), .int is9, .ref (ad 10 0), .ref (ad 11 0), .ref (ad 12 0), .ref (ad 13 0), .int se, .ref (ad 14 0)]) (v := .int r_90534) p_ad_0_0 rfl rfl rfl (Nat.le_of_ble_eq_true rfl) dX12_clause_67 (fun f_90645 H locs ef_90645 Y => ?_)
          have p_ad_4_0 := p_ad_4_0.up ef_90645 (I.ne (k := 4) (j := 0) (k' := 0) (j' := 0) (by decide) (by decide) (Or.inl (by decide)))
          have p_ad_3_0 := p_ad_3_0.up ef_90645 (I.ne (k := 3) (j := 0) (k' := 0) (j' := 0) (by decide) (by decide) (Or.inl (by decide)))
          have p_ad_0_0 := p_ad_0_0.me ef_90645
          have I := I.up (k := 0) (j := 0) (by decide) ef_90645 (okE_o (okFs_c okV_r (okFs_c okV_r (okFs_c okV_r (okFs_c okV_r (okFs_c (okV_p bfe_4) (okFs_c (okV_p bfe_5) (okFs_c (okV_p bfe_6) (okFs_c (okV_i bfe_7) (okFs_c (okV_i bfe_8) (okFs_c (okV_i (bn_any _)) (okFs_c (okV_i (bn_any _)) (okFs_c okV_l (okFs_c (okV_i bfe_12) (okFs_c (okV_i bfe_13) (okFs_c (okV_i (bn_w B_90540 (by decide))) (okFs_c okV_r (okFs_c okV_r (okFs_c (okV_i bfe_17) (okFs_c (okV_i bfe_18) (okFs_c (okV_i bfe_19) (okFs_c (okV_i bfe_20) (okFs_c (okV_i (bn_w (bn_eq ex_90643 (bn_or (n := 3) (bn_w ho9 (by decide) : bn 0 7 on9) (bn_w (bn_eq ex_90642 (bn_shl (n := 2) (bn_w B_90540 (by decide) : bn 0 2 r_90534) (by decide) (by decide))) (by decide) : bn 0 4 x_90642) (by decide) (by decide))) (by decide))) (okFs_c okV_r (okFs_c okV_r (okFs_c okV_r (okFs_c (okV_i bfe_25) (okFs_c okV_r (okFs_c okV_r (okFs_c okV_r (okFs_c okV_r (okFs_c (okV_i (bn_any _)) (okFs_c okV_r okFs_n)))))))))))))))))))))))))))))))))
          refine lv_aload_n hx hb dX12_clause_70 rfl (lv_at hl 2 rfl) ?_
          have o_90646 : (EQ g_90635) g_90635 := rfl
          have I := I.castS (sp' := spM PA PI (EQ g_90635) pa) (k := 3) (j := 0) (by decide) p_ad_3_0 (okE_a (g := g_90635) o_90646) pXC
          obtain ⟨g_90647, p_ad_5_0, o_90648⟩ := I.opi (k := 5) (j := 0) (by decide) rfl
          have p_ad_5_0 : pt L f_90645 (ad 5 0) (.inl (G.2 0, 160, .inl g_90647)) := p_ad_5_0
          obtain ⟨g_90649, p_ad_6_0, o_90650⟩ := I.opi (k := 6) (j := 0) (by decide) rfl
          have p_ad_6_0 : pt L f_90645 (ad 6 0) (.inl (G.2 0, 9, .inl g_90649)) := p_ad_6_0
          refine cVv (As := []) (rest := []) S Y (x_X12_nextToken (l := l) I p_ad_0_0 p_ad_4_0 p_ad_5_0 p_ad_6_0 hB) cw_X12_nextToken km12_166 p_ad_0_0 ok_X12.1 rfl rfl ⟨Nat.le_of_ble_eq_true rfl, Nat.le_of_ble_eq_true rfl⟩ hl.1 rfl (Nat.le_of_ble_eq_true rfl) ⟨Nat.le_of_ble_eq_true rfl, Nat.le_of_ble_eq_true rfl⟩ dX12_clause_71 (fun L_90651 f_90652 H locs hr_90653 Y => ?_)
          obtain ⟨v_90654, v_90655, v_90656, v_90657, v_90658, I, p_ad_0_0, p_ad_4_0, p_ad_5_0, p_ad_6_0, eT_90659, eP_90660, eN_90661⟩ := hr_90653
          obtain ⟨bfc90661_4, bfc90661_5, bfc90661_6, bfc90661_7, bfc90661_8, bfc90661_12, bfc90661_13, bfc90661_17, bfc90661_18, bfc90661_19, bfc90661_20, bfc90661_25⟩ := obM I p_ad_0_0
          have TN_90663 := NT_s hTN eN_90661
          refine lv_aload_n hx hb dX12_clause_74 rfl (lv_at hl 2 rfl) ?_
          refine pg_get S Y ok_X12 12 (by decide) kf12_136 (v := .int t0) p_ad_0_0 rfl dX12_clause_75 ?_
          refine lv_iconst (v := 1) hx hb dX12_clause_78 (by decide) ?_
          refine lv_iadd hx hb dX12_clause_79 ?_
          refine lv_topi (fun x_90664 ex_90664 => ?_)
          refine lv_iconst (v := 5) hx hb dX12_clause_80 (by decide) ?_
          refine lv_iload_n hx hb dX12_clause_81 rfl (lv_at hl 0 rfl) ?_
          refine lv_imul hx hb dX12_clause_82 ?_
          refine lv_topi (fun x_90665 ex_90665 => ?_)
          refine lv_iadd hx hb dX12_clause_83 ?_
          refine lv_topi (fun x_90666 ex_90666 => ?_)
          refine lv_istore_n (lv' := [(3, .int x_90666), (2, .int v_90637), (1, .int r_90534), (0, .ref (ad 0 0))]) hx hb dX12_clause_84 rfl hl (by decide) rfl (fun ls hl => ?_)
          refine lv_aload_n hx hb dX12_clause_85 rfl (lv_at hl 3 rfl) ?_
          refine pg_get S Y ok_X12 2 (by decide) kf12_16 (v := .ref (ad 3 0)) p_ad_0_0 rfl dX12_clause_86 ?_
          refine lv_iload_n hx hb dX12_clause_89 rfl (lv_at hl 0 rfl) ?_
          refine lv_iload_n hx hb dX12_clause_90 rfl (lv_at hl 2 rfl) ?_
          obtain ⟨g_90667, p_ad_3_0, o_90668⟩ := I.opi (k := 3) (j := 0) (by decide) rfl
          have p_ad_3_0 : pt L_90651 f_90652 (ad 3 0) (.inl (G.2 0, 2916, .inl g_90667)) := p_ad_3_0
          refine pg_iast S Y p_ad_3_0 (vp_bn (bn_eq ex_90666 (bn_add (bn_eq ex_90664 (bn_add bfc90661_12 (show bn 1 1 (1 : Int32) from bn_k (by decide)) (by decide))) (bn_eq ex_90665 (bn_mul (show bn 5 5 (5 : Int32) from bn_k (by decide)) B_90640 (by decide))) (by decide))) (by decide)) dX12_clause_91 (fun f_90670 H locs ef_90670 Y => ?_)
          obtain ⟨g_90669, eg_90669⟩ : ∃ z, z = upd (g_90667) (x_90666 : Int32).toNatClampNeg r_90534 := ⟨_, rfl⟩
          rw [← eg_90669] at ef_90670
          have p_ad_0_0 := p_ad_0_0.up ef_90670 (I.ne (k := 0) (j := 0) (k' := 3) (j' := 0) (by decide) (by decide) (Or.inl (by decide)))
          have p_ad_4_0 := p_ad_4_0.up ef_90670 (I.ne (k := 4) (j := 0) (k' := 3) (j' := 0) (by decide) (by decide) (Or.inl (by decide)))
          have p_ad_5_0 := p_ad_5_0.up ef_90670 (I.ne (k := 5) (j := 0) (k' := 3) (j' := 0) (by decide) (by decide) (Or.inl (by decide)))
          have p_ad_6_0 := p_ad_6_0.up ef_90670 (I.ne (k := 6) (j := 0) (k' := 3) (j' := 0) (by decide) (by decide) (Or.inl (by decide)))
          have p_ad_3_0 := p_ad_3_0.me ef_90670
          have o_90671 : (EQ g_90669) g_90669 := rfl
          have I := I.upS (sp' := spM PA PI (EQ g_90669) pa) (k := 3) (j := 0) (by decide) ef_90670 (okE_a (g := g_90669) o_90671) pXC
          have eg1 : g_90669 = upd g_90635 (x_90666 : Int32).toNatClampNeg r_90534 := by rw [eg_90669, show g_90667 = g_90635 from o_90668]
          refine lv_aload_n hx hb dX12_clause_92 rfl (lv_at hl 3 rfl) ?_
          refine lv_iload_n hx hb dX12_clause_93 rfl (lv_at hl 2 rfl) ?_
          refine lv_iload_n hx hb dX12_clause_94 rfl (lv_at hl 0 rfl) ?_
          refine cVi (As := [.int r_90534, .int x_90666]) (rest := []) S Y (x_X12_body (l := l) I p_ad_0_0 p_ad_4_0 (bn_w B_90540 (by decide)) (bn_w (bn_eq ex_90666 (bn_add (bn_eq ex_90664 (bn_add bfc90661_12 (show bn 1 1 (1 : Int32) from bn_k (by decide)) (by decide))) (bn_eq ex_90665 (bn_mul (show bn 5 5 (5 : Int32) from bn_k (by decide)) B_90640 (by decide))) (by decide))) (by decide)) (show g_90669 x_90666.toInt.toNat = r_90534 from by rw [eg1, ← tnc, pk_us]) rfl (by have z9 := (la_add ex_90666 (la_add ex_90664 (rfl : t0.toInt = t0.toInt) (show (1 : Int32).toInt = 1 from rfl) bfc90661_12 (show bn 1 1 (1 : Int32) from bn_k (by decide)) (by decide)) (la_mul ex_90665 (show (5 : Int32).toInt = 5 from rfl) (rfl : v_90637.toInt = v_90637.toInt) (show bn 5 5 (5 : Int32) from bn_k (by decide)) B_90640 (by decide)) (bn_eq ex_90664 (bn_add bfc90661_12 (show bn 1 1 (1 : Int32) from bn_k (by decide)) (by decide))) (bn_eq ex_90665 (bn_mul (show bn 5 5 (5 : Int32) from bn_k (by decide)) B_90640 (by decide))) (by decide)); have z8 := (B_90640).2; omega) (by have c0 := hT.1; have c1 := hroom; have c2 := eT_90659.1; have c3 := eP_90660; omega) eT_90659 hB TN_90663 (so_y er_90534.2.2 (bn_w (a' := 0) (b' := 10) B_90540 (by decide)).1) (by have z9 := (so_y er_90534.2.2 (bn_w (a' := 0) (b' := 10) B_90540 (by decide)).1); unfold SO8 at z9; omega) (cl_go hcl ho9 (bn_w B_90640 (by decide)) (show v_90637.toInt = nC from by rw [en0, tnc]; exact hZC) (so_y er_90534.2.2 (bn_w (a' := 0) (b' := 10) B_90540 (by decide)).1) (show FRE on9 r_90534 from Or.inr (hs_f er_90631.2 c_90632)) c_90639)) cw_X12_body km12_248 p_ad_0_0 ok_X12.1 rfl rfl ⟨Nat.le_of_ble_eq_true rfl, Nat.le_of_ble_eq_true rfl⟩ hl.1 rfl (Nat.le_of_ble_eq_true rfl) ⟨Nat.le_of_ble_eq_true rfl, Nat.le_of_ble_eq_true rfl⟩ dX12_clause_95 (fun r_90674 L_90672 f_90673 H locs hr_90674 Y => ?_)
          obtain ⟨v_90675, v_90676, v_90677, v_90678, v_90679, v_90680, v_90681, v_90682, v_90683, v_90684, er_90674, I, p_ad_0_0, p_ad_4_0, eT_90685, eQ_90686, eW_90687, eL_90688⟩ := hr_90674
          obtain ⟨bfc90688_4, bfc90688_5, bfc90688_6, bfc90688_7, bfc90688_8, bfc90688_12, bfc90688_13, bfc90688_17, bfc90688_18, bfc90688_19, bfc90688_20, bfc90688_25⟩ := obM I p_ad_0_0
          obtain ⟨jTN_90690, TN_90690, LZTN_90690, LFTN_90690⟩ := eL_90688
          refine lv_istore (lv' := [(4, .int r_90674), (3, .int x_90666), (2, .int v_90637), (1, .int r_90534), (0, .ref (ad 0 0))]) hx hb dX12_clause_98 hl (by decide) rfl (fun ls hl => ?_)
          refine lv_iload hx hb dX12_clause_100 (lv_at hl 0 rfl) ?_
          refine lv_if_eq (tgt := 108) hx hb dX12_clause_102 (by decide) (fun c_90691 => ?_) (fun c_90691 => ?_)
          · have B_90692 : bn 0 0 r_90674 := bn_w (bn_eq c_90691 (show bn 0 0 (0 : Int32) from bn_k (by decide))) (by decide)
            refine lv_aload_n hx hb dX12_clause_108 rfl (lv_at hl 4 rfl) ?_
            refine pg_get S Y ok_X12 2 (by decide) kf12_16 (v := .ref (ad 3 0)) p_ad_0_0 rfl dX12_clause_109 ?_
            refine lv_aload_n hx hb dX12_clause_112 rfl (lv_at hl 4 rfl) ?_
            refine pg_get S Y ok_X12 12 (by decide) kf12_136 (v := .int t0) p_ad_0_0 rfl dX12_clause_113 ?_
            refine lv_dup2_11 hx hb dX12_clause_116 rfl rfl ?_
            obtain ⟨g_90694, p_ad_3_0, o_90695⟩ := I.opi (k := 3) (j := 0) (by decide) rfl
            have p_ad_3_0 : pt L_90672 f_90673 (ad 3 0) (.inl (G.2 0, 2916, .inl g_90694)) := p_ad_3_0
            obtain ⟨v_90696, ev_90696⟩ : ∃ z, z = g_90694 (t0 : Int32).toNatClampNeg := ⟨_, rfl⟩
            refine pg_iald S Y (v := v_90696) p_ad_3_0 (vp_bn bfc90688_12 (by decide)) ev_90696.symm dX12_clause_117 ?_
            refine lv_iconst (v := 1) hx hb dX12_clause_118 (by decide) ?_
            refine lv_iadd hx hb dX12_clause_119 ?_
            refine lv_topi (fun x_90697 ex_90697 => ?_)
            refine pg_iast S Y p_ad_3_0 (vp_bn bfc90688_12 (by decide)) dX12_clause_120 (fun f_90699 H locs ef_90699 Y => ?_)
            obtain ⟨g_90698, eg_90698⟩ : ∃ z, z = upd (g_90694) (t0 : Int32).toNatClampNeg x_90697 := ⟨_, rfl⟩
            rw [← eg_90698] at ef_90699
            have p_ad_0_0 := p_ad_0_0.up ef_90699 (I.ne (k := 0) (j := 0) (k' := 3) (j' := 0) (by decide) (by decide) (Or.inl (by decide)))
            have p_ad_4_0 := p_ad_4_0.up ef_90699 (I.ne (k := 4) (j := 0) (k' := 3) (j' := 0) (by decide) (by decide) (Or.inl (by decide)))
            have p_ad_3_0 := p_ad_3_0.me ef_90699
            have o_90700 : (TZN (nC + 1) t0 v_90680) g_90698 := (tzn_mk (show v_90637.toInt = nC from by rw [en0, tnc]; exact hZC) (TZ_up hZ ht0 bfe_13.1 en0 (bn_w B_90640 (by decide)) eg1 (by have z9 := (la_add ex_90666 (la_add ex_90664 (rfl : t0.toInt = t0.toInt) (show (1 : Int32).toInt = 1 from rfl) bfc90688_12 (show bn 1 1 (1 : Int32) from bn_k (by decide)) (by decide)) (la_mul ex_90665 (show (5 : Int32).toInt = 5 from rfl) (rfl : v_90637.toInt = v_90637.toInt) (show bn 5 5 (5 : Int32) from bn_k (by decide)) B_90640 (by decide)) (bn_eq ex_90664 (bn_add bfc90661_12 (show bn 1 1 (1 : Int32) from bn_k (by decide)) (by decide))) (bn_eq ex_90665 (bn_mul (show bn 5 5 (5 : Int32) from bn_k (by decide)) B_90640 (by decide))) (by decide)); omega) o_90695 c_90691 ev_90696 ex_90697 eg_90698))
            have I := I.upS (sp' := spM PA PI (TZN (nC + 1) t0 v_90680) pa) (k := 3) (j := 0) (by decide) ef_90699 (okE_a (g := g_90698) o_90700) pXC
            refine lv_aload_n hx hb dX12_clause_121 rfl (lv_at hl 4 rfl) ?_
            refine pg_get S Y ok_X12 9 (by decide) kf12_98 (v := .int v_90677) p_ad_0_0 rfl dX12_clause_122 ?_
            refine lv_bipush (v := 59) hx hb dX12_clause_125 (by decide) ?_
            refine lv_icmp_eq (tgt := 132) hx hb dX12_clause_127 (by decide) (fun c_90701 => ?_) (fun c_90701 => ?_)
            · have B_90702 : bn 59 59 v_90677 := bn_w (bn_eq c_90701 (show bn 59 59 (59 : Int32) from bn_k (by decide))) (by decide)
              refine lv_aload_n hx hb dX12_clause_132 rfl (lv_at hl 4 rfl) ?_
              obtain ⟨g_90703, p_ad_5_0, o_90704⟩ := I.opi (k := 5) (j := 0) (by decide) rfl
              have p_ad_5_0 : pt L_90672 f_90699 (ad 5 0) (.inl (G.2 0, 160, .inl g_90703)) := p_ad_5_0
              obtain ⟨g_90705, p_ad_6_0, o_90706⟩ := I.opi (k := 6) (j := 0) (by decide) rfl
              have p_ad_6_0 : pt L_90672 f_90699 (ad 6 0) (.inl (G.2 0, 9, .inl g_90705)) := p_ad_6_0
              refine cVv (As := []) (rest := []) S Y (x_X12_nextToken (l := l) I p_ad_0_0 p_ad_4_0 p_ad_5_0 p_ad_6_0 hB) cw_X12_nextToken km12_166 p_ad_0_0 ok_X12.1 rfl rfl ⟨Nat.le_of_ble_eq_true rfl, Nat.le_of_ble_eq_true rfl⟩ hl.1 rfl (Nat.le_of_ble_eq_true rfl) ⟨Nat.le_of_ble_eq_true rfl, Nat.le_of_ble_eq_true rfl⟩ dX12_clause_133 (fun L_90707 f_90708 H locs hr_90709 Y => ?_)
              obtain ⟨v_90710, v_90711, v_90712, v_90713, v_90714, I, p_ad_0_0, p_ad_4_0, p_ad_5_0, p_ad_6_0, eT_90715, eP_90716, eN_90717⟩ := hr_90709
              obtain ⟨bfc90717_4, bfc90717_5, bfc90717_6, bfc90717_7, bfc90717_8, bfc90717_12, bfc90717_13, bfc90717_17, bfc90717_18, bfc90717_19, bfc90717_20, bfc90717_25⟩ := obM I p_ad_0_0
              have TN_90719 := NT_s TN_90690 eN_90717
              obtain ⟨g_90720, p_ad_3_0, o_90721⟩ := I.opi (k := 3) (j := 0) (by decide) rfl
              have p_ad_3_0 : pt L_90707 f_90708 (ad 3 0) (.inl (G.2 0, 2916, .inl g_90720)) := p_ad_3_0
              have o_90722 : (TCN 0 nC t0 v_90680) g_90720 := ⟨o_90721.1.1, fun _ => o_90721⟩
              have I := I.castS (sp' := spM PA PI (TCN 0 nC t0 v_90680) pa) (k := 3) (j := 0) (by decide) p_ad_3_0 (okE_a (g := g_90720) o_90722) pXC
              refine lv_iconst (v := 0) hx hb dX12_clause_136 (by decide) ?_
              exact prI (post := fun r L1 f1 => ∃ at92 : Int32, ∃ ps92 : Int32, ∃ tk2 : Int32, ∃ nu2 : Int32, ∃ wd2 : Int64, ∃ wr2 : Int32, ∃ so2 : Int32, ∃ pd2 : Int32, ∃ op92 : Int32, ∃ cg2 : Int32, ∃ iw2 : Int32, ∃ on92 : Int32, bn 0 7 r ∧ SH (spM PA PI (TCN r nC t0 wr2) pa) nnM G ad L1 f1 ∧ pt L1 f1 (ad 0 0) (.inr (12, [.ref (ad 1 0), .ref (ad 2 0), .ref (ad 3 0), .ref (ad 4 0), .int td, .int fa, .int fp, .int at92, .int ps92, .int tk2, .int nu2, .long wd2, .int t0, .int wr2, .int so2, .ref (ad 5 0), .ref (ad 6 0), .int pd2, .int op92, .int cg2, .int iw2, .int on92, .ref (ad 7 0), .ref (ad 8 0), .ref (ad 9 0), .int is9, .ref (ad 10 0), .ref (ad 11 0), .ref (ad 12 0), .ref (ad 13 0), .int se, .ref (ad 14 0)])) ∧ pt L1 f1 (ad 4 0) (.inl (G.2 0, 300, .inl gt)) ∧ TK at92 ps92 tk2 ∧ (r.toInt = 0 → ps9.toInt + 1 ≤ ps92.toInt) ∧ (r.toInt = 0 → wr2.toInt ≤ ps92.toInt) ∧ ∃ j, TKN (bI gt) td.toInt.toNat j at92 ps92 tk2 nu2 wd2 ∧ (r.toInt = 0 → LL (tkK (bI gt) td.toInt.toNat) (tkV (bI gt) td.toInt.toNat) [(kCls (on92.toInt * 100 + nC + 1), 0, false)] j rr ∧ bn 0 7 on92) ∧ (0 < r.toInt → rr = (r.toInt, j))) S Y rfl (by decide) (by decide) hA1 ⟨v_90710, v_90711, v_90712, v_90713, v_90714, v_90680, r_90534, v_90681, v_90682, v_90683, v_90684, x_90643, bn_w (show bn 0 0 (0 : Int32) from bn_k (by decide)) (by decide), I, p_ad_0_0, p_ad_4_0, eT_90715, (fun _ => by have c0 := hT.2 htk; have c1 := eT_90659.1; have c2 := eP_90660; have c3 := eT_90715.1; have c4 := eP_90716; have c5 := eT_90685.1; have c6 := eQ_90686 (show r_90674.toInt = 0 from by rw [c_90691]; rfl); have c7 := eW_90687 (show r_90674.toInt = 0 from by rw [c_90691]; rfl); omega), (fun _ => by have c0 := hT.2 htk; have c1 := eT_90659.1; have c2 := eP_90660; have c3 := eT_90715.1; have c4 := eP_90716; have c5 := eT_90685.1; have c6 := eQ_90686 (show r_90674.toInt = 0 from by rw [c_90691]; rfl); have c7 := eW_90687 (show r_90674.toInt = 0 from by rw [c_90691]; rfl); omega), ⟨jTN_90690 + 1, TN_90719, fun _ => ⟨(by rw [(on_up ho9 (so_y er_90534.2.2 (bn_w (a' := 0) (b' := 10) B_90540 (by decide)).1) (by have z9 := (B_90540).2; omega) (show FRE on9 r_90534 from Or.inr (hs_f er_90631.2 c_90632)) (show x_90643 = on9 ||| ((1 : Int32) <<< (r_90534 &&& 31)) from by rw [ex_90643, ex_90642])).1]; exact kx_y (LZTN_90690 (show r_90674.toInt = 0 from by rw [c_90691]; rfl)) (show (tkK (bI gt) td.toInt.toNat) jTN_90690 = 59 from (by have j0 := (((tk_k TN_90690.2.2).2.2.2.2.1 59 (by decide)).mp (show v_90677.toInt = 59 from by rw [c_90701]; rfl)); omega))), (on_up ho9 (so_y er_90534.2.2 (bn_w (a' := 0) (b' := 10) B_90540 (by decide)).1) (by have z9 := (B_90540).2; omega) (show FRE on9 r_90534 from Or.inr (hs_f er_90631.2 c_90632)) (show x_90643 = on9 ||| ((1 : Int32) <<< (r_90534 &&& 31)) from by rw [ex_90643, ex_90642])).2⟩, (fun h => absurd h (by decide))⟩⟩ dX12_clause_137
            · have o_90723 : (TCN 1 nC t0 v_90680) g_90698 := (TCN_no o_90700 (by decide))
              have I := I.castS (sp' := spM PA PI (TCN 1 nC t0 v_90680) pa) (k := 3) (j := 0) (by decide) p_ad_3_0 (okE_a (g := g_90698) o_90723) pXC
              refine lv_iconst (v := 1) hx hb dX12_clause_130 (by decide) ?_
              exact prI (post := fun r L1 f1 => ∃ at92 : Int32, ∃ ps92 : Int32, ∃ tk2 : Int32, ∃ nu2 : Int32, ∃ wd2 : Int64, ∃ wr2 : Int32, ∃ so2 : Int32, ∃ pd2 : Int32, ∃ op92 : Int32, ∃ cg2 : Int32, ∃ iw2 : Int32, ∃ on92 : Int32, bn 0 7 r ∧ SH (spM PA PI (TCN r nC t0 wr2) pa) nnM G ad L1 f1 ∧ pt L1 f1 (ad 0 0) (.inr (12, [.ref (ad 1 0), .ref (ad 2 0), .ref (ad 3 0), .ref (ad 4 0), .int td, .int fa, .int fp, .int at92, .int ps92, .int tk2, .int nu2, .long wd2, .int t0, .int wr2, .int so2, .ref (ad 5 0), .ref (ad 6 0), .int pd2, .int op92, .int cg2, .int iw2, .int on92, .ref (ad 7 0), .ref (ad 8 0), .ref (ad 9 0), .int is9, .ref (ad 10 0), .ref (ad 11 0), .ref (ad 12 0), .ref (ad 13 0), .int se, .ref (ad 14 0)])) ∧ pt L1 f1 (ad 4 0) (.inl (G.2 0, 300, .inl gt)) ∧ TK at92 ps92 tk2 ∧ (r.toInt = 0 → ps9.toInt + 1 ≤ ps92.toInt) ∧ (r.toInt = 0 → wr2.toInt ≤ ps92.toInt) ∧ ∃ j, TKN (bI gt) td.toInt.toNat j at92 ps92 tk2 nu2 wd2 ∧ (r.toInt = 0 → LL (tkK (bI gt) td.toInt.toNat) (tkV (bI gt) td.toInt.toNat) [(kCls (on92.toInt * 100 + nC + 1), 0, false)] j rr ∧ bn 0 7 on92) ∧ (0 < r.toInt → rr = (r.toInt, j))) S Y rfl (by decide) (by decide) hA1 ⟨v_90675, v_90676, v_90677, v_90678, v_90679, v_90680, r_90534, v_90681, v_90682, v_90683, v_90684, x_90643, bn_w (show bn 1 1 (1 : Int32) from bn_k (by decide)) (by decide), I, p_ad_0_0, p_ad_4_0, eT_90685, (fun h => absurd h (by decide)), (fun h => absurd h (by decide)), ⟨jTN_90690, TN_90690, (fun h => absurd h (by decide)), fun _ => kx_no (LZTN_90690 (show r_90674.toInt = 0 from by rw [c_90691]; rfl)) (show (tkK (bI gt) td.toInt.toNat) jTN_90690 ≠ 59 from (by have j0 := (mt ((tk_k TN_90690.2.2).2.2.2.2.1 59 (by decide)).mpr (show ¬ v_90677.toInt = 59 from fun z => c_90701 (Int32.toInt_inj.mp (z.trans rfl)))); omega))⟩⟩ dX12_clause_131
          · have B_90693 : bn 1 7 r_90674 := bn_w (bn_nel c_90691 er_90674 (show bn 0 0 (0 : Int32) from bn_k (by decide))) (by decide)
            refine lv_iload hx hb dX12_clause_105 (lv_at hl 0 rfl) ?_
            obtain ⟨g_90724, p_ad_3_0, o_90725⟩ := I.opi (k := 3) (j := 0) (by decide) rfl
            have p_ad_3_0 : pt L_90672 f_90673 (ad 3 0) (.inl (G.2 0, 2916, .inl g_90724)) := p_ad_3_0
            have o_90726 : (TCN r_90674 nC t0 v_90680) g_90724 := (TCN_tc (TZ_bd hZ ht0 bfe_13.1 en0 (bn_w B_90640 (by decide)) eg1 (by have z9 := (la_add ex_90666 (la_add ex_90664 (rfl : t0.toInt = t0.toInt) (show (1 : Int32).toInt = 1 from rfl) bfc90688_12 (show bn 1 1 (1 : Int32) from bn_k (by decide)) (by decide)) (la_mul ex_90665 (show (5 : Int32).toInt = 5 from rfl) (rfl : v_90637.toInt = v_90637.toInt) (show bn 5 5 (5 : Int32) from bn_k (by decide)) B_90640 (by decide)) (bn_eq ex_90664 (bn_add bfc90661_12 (show bn 1 1 (1 : Int32) from bn_k (by decide)) (by decide))) (bn_eq ex_90665 (bn_mul (show bn 5 5 (5 : Int32) from bn_k (by decide)) B_90640 (by decide))) (by decide)); omega) o_90725 c_90691) c_90691)
            have I := I.castS (sp' := spM PA PI (TCN r_90674 nC t0 v_90680) pa) (k := 3) (j := 0) (by decide) p_ad_3_0 (okE_a (g := g_90724) o_90726) pXC
            exact prI (post := fun r L1 f1 => ∃ at92 : Int32, ∃ ps92 : Int32, ∃ tk2 : Int32, ∃ nu2 : Int32, ∃ wd2 : Int64, ∃ wr2 : Int32, ∃ so2 : Int32, ∃ pd2 : Int32, ∃ op92 : Int32, ∃ cg2 : Int32, ∃ iw2 : Int32, ∃ on92 : Int32, bn 0 7 r ∧ SH (spM PA PI (TCN r nC t0 wr2) pa) nnM G ad L1 f1 ∧ pt L1 f1 (ad 0 0) (.inr (12, [.ref (ad 1 0), .ref (ad 2 0), .ref (ad 3 0), .ref (ad 4 0), .int td, .int fa, .int fp, .int at92, .int ps92, .int tk2, .int nu2, .long wd2, .int t0, .int wr2, .int so2, .ref (ad 5 0), .ref (ad 6 0), .int pd2, .int op92, .int cg2, .int iw2, .int on92, .ref (ad 7 0), .ref (ad 8 0), .ref (ad 9 0), .int is9, .ref (ad 10 0), .ref (ad 11 0), .ref (ad 12 0), .ref (ad 13 0), .int se, .ref (ad 14 0)])) ∧ pt L1 f1 (ad 4 0) (.inl (G.2 0, 300, .inl gt)) ∧ TK at92 ps92 tk2 ∧ (r.toInt = 0 → ps9.toInt + 1 ≤ ps92.toInt) ∧ (r.toInt = 0 → wr2.toInt ≤ ps92.toInt) ∧ ∃ j, TKN (bI gt) td.toInt.toNat j at92 ps92 tk2 nu2 wd2 ∧ (r.toInt = 0 → LL (tkK (bI gt) td.toInt.toNat) (tkV (bI gt) td.toInt.toNat) [(kCls (on92.toInt * 100 + nC + 1), 0, false)] j rr ∧ bn 0 7 on92) ∧ (0 < r.toInt → rr = (r.toInt, j))) S Y rfl (by decide) (by decide) hA1 ⟨v_90675, v_90676, v_90677, v_90678, v_90679, v_90680, r_90534, v_90681, v_90682, v_90683, v_90684, x_90643, bn_w B_90693 (by decide), I, p_ad_0_0, p_ad_4_0, eT_90685, (fun h => absurd (Int32.toInt_inj.mp (h.trans rfl)) c_90691), (fun h => absurd (Int32.toInt_inj.mp (h.trans rfl)) c_90691), ⟨jTN_90690, TN_90690, fun z => absurd (Int32.toInt_inj.mp (z.trans rfl)) c_90691, LFTN_90690⟩⟩ dX12_clause_107
        · have B_90641 : bn 24 24 v_90637 := bn_w (bn_eq c_90639 (show bn 24 24 (24 : Int32) from bn_k (by decide))) (by decide)
          have o_90727 : (TCN 6 nC t0 wr) g_90635 := (TCN_no o_90636 (by decide))
          have I := I.castS (sp' := spM PA PI (TCN 6 nC t0 wr) pa) (k := 3) (j := 0) (by decide) p_ad_3_0 (okE_a (g := g_90635) o_90727) pXC
          refine lv_bipush (v := 6) hx hb dX12_clause_45 (by decide) ?_
          exact prI (post := fun r L1 f1 => ∃ at92 : Int32, ∃ ps92 : Int32, ∃ tk2 : Int32, ∃ nu2 : Int32, ∃ wd2 : Int64, ∃ wr2 : Int32, ∃ so2 : Int32, ∃ pd2 : Int32, ∃ op92 : Int32, ∃ cg2 : Int32, ∃ iw2 : Int32, ∃ on92 : Int32, bn 0 7 r ∧ SH (spM PA PI (TCN r nC t0 wr2) pa) nnM G ad L1 f1 ∧ pt L1 f1 (ad 0 0) (.inr (12, [.ref (ad 1 0), .ref (ad 2 0), .ref (ad 3 0), .ref (ad 4 0), .int td, .int fa, .int fp, .int at92, .int ps92, .int tk2, .int nu2, .long wd2, .int t0, .int wr2, .int so2, .ref (ad 5 0), .ref (ad 6 0), .int pd2, .int op92, .int cg2, .int iw2, .int on92, .ref (ad 7 0), .ref (ad 8 0), .ref (ad 9 0), .int is9, .ref (ad 10 0), .ref (ad 11 0), .ref (ad 12 0), .ref (ad 13 0), .int se, .ref (ad 14 0)])) ∧ pt L1 f1 (ad 4 0) (.inl (G.2 0, 300, .inl gt)) ∧ TK at92 ps92 tk2 ∧ (r.toInt = 0 → ps9.toInt + 1 ≤ ps92.toInt) ∧ (r.toInt = 0 → wr2.toInt ≤ ps92.toInt) ∧ ∃ j, TKN (bI gt) td.toInt.toNat j at92 ps92 tk2 nu2 wd2 ∧ (r.toInt = 0 → LL (tkK (bI gt) td.toInt.toNat) (tkV (bI gt) td.toInt.toNat) [(kCls (on92.toInt * 100 + nC + 1), 0, false)] j rr ∧ bn 0 7 on92) ∧ (0 < r.toInt → rr = (r.toInt, j))) S Y rfl (by decide) (by decide) hA1 ⟨at9, ps9, tk, nu, wd, wr, so, pd, op9, cg, iw, on9, bn_w (show bn 6 6 (6 : Int32) from bn_k (by decide)) (by decide), I, p_ad_0_0, p_ad_4_0, hT, (fun h => absurd h (by decide)), (fun h => absurd h (by decide)), ⟨i9, hTN, (fun h => absurd h (by decide)), fun _ => cl_full hcl ho9 (bn_w B_90641 (by decide)) (show v_90637.toInt = nC from by rw [en0, tnc]; exact hZC) (so_y er_90534.2.2 (bn_w (a' := 0) (b' := 10) B_90540 (by decide)).1) (show FRE on9 r_90534 from Or.inr (hs_f er_90631.2 c_90632)) c_90639⟩⟩ dX12_clause_47
      · have B_90634 : bn 1 1 r_90631 := bn_w (bn_nel c_90632 er_90631.1 (show bn 0 0 (0 : Int32) from bn_k (by decide))) (by decide)
        obtain ⟨g_90728, p_ad_3_0, o_90729⟩ := I.opi (k := 3) (j := 0) (by decide) rfl
        have p_ad_3_0 : pt L f (ad 3 0) (.inl (G.2 0, 2916, .inl g_90728)) := p_ad_3_0
        have o_90730 : (TCN 4 nC t0 wr) g_90728 := (TCN_no o_90729 (by decide))
        have I := I.castS (sp' := spM PA PI (TCN 4 nC t0 wr) pa) (k := 3) (j := 0) (by decide) p_ad_3_0 (okE_a (g := g_90728) o_90730) pXC
        refine lv_iconst (v := 4) hx hb dX12_clause_27 (by decide) ?_
        exact prI (post := fun r L1 f1 => ∃ at92 : Int32, ∃ ps92 : Int32, ∃ tk2 : Int32, ∃ nu2 : Int32, ∃ wd2 : Int64, ∃ wr2 : Int32, ∃ so2 : Int32, ∃ pd2 : Int32, ∃ op92 : Int32, ∃ cg2 : Int32, ∃ iw2 : Int32, ∃ on92 : Int32, bn 0 7 r ∧ SH (spM PA PI (TCN r nC t0 wr2) pa) nnM G ad L1 f1 ∧ pt L1 f1 (ad 0 0) (.inr (12, [.ref (ad 1 0), .ref (ad 2 0), .ref (ad 3 0), .ref (ad 4 0), .int td, .int fa, .int fp, .int at92, .int ps92, .int tk2, .int nu2, .long wd2, .int t0, .int wr2, .int so2, .ref (ad 5 0), .ref (ad 6 0), .int pd2, .int op92, .int cg2, .int iw2, .int on92, .ref (ad 7 0), .ref (ad 8 0), .ref (ad 9 0), .int is9, .ref (ad 10 0), .ref (ad 11 0), .ref (ad 12 0), .ref (ad 13 0), .int se, .ref (ad 14 0)])) ∧ pt L1 f1 (ad 4 0) (.inl (G.2 0, 300, .inl gt)) ∧ TK at92 ps92 tk2 ∧ (r.toInt = 0 → ps9.toInt + 1 ≤ ps92.toInt) ∧ (r.toInt = 0 → wr2.toInt ≤ ps92.toInt) ∧ ∃ j, TKN (bI gt) td.toInt.toNat j at92 ps92 tk2 nu2 wd2 ∧ (r.toInt = 0 → LL (tkK (bI gt) td.toInt.toNat) (tkV (bI gt) td.toInt.toNat) [(kCls (on92.toInt * 100 + nC + 1), 0, false)] j rr ∧ bn 0 7 on92) ∧ (0 < r.toInt → rr = (r.toInt, j))) S Y rfl (by decide) (by decide) hA1 ⟨at9, ps9, tk, nu, wd, wr, so, pd, op9, cg, iw, on9, bn_w (show bn 4 4 (4 : Int32) from bn_k (by decide)) (by decide), I, p_ad_0_0, p_ad_4_0, hT, (fun h => absurd h (by decide)), (fun h => absurd h (by decide)), ⟨i9, hTN, (fun h => absurd h (by decide)), fun _ => (by obtain ⟨x9, hx9, ex9⟩ := hN9; exact cl_two hcl ho9 hx9 ex9 (so_y er_90534.2.2 (bn_w (a' := 0) (b' := 10) B_90540 (by decide)).1) (by have z9 := (B_90540).2; omega) (hs_t er_90631.2 c_90632))⟩⟩ dX12_clause_28
  · have B_90537 : bn (-1) (-1) r_90534 := bn_w (bn_gtr c_90535 (show bn 0 0 (0 : Int32) from bn_k (by decide)) er_90534.1) (by decide)
    obtain ⟨g_90731, p_ad_3_0, o_90732⟩ := I.opi (k := 3) (j := 0) (by decide) rfl
    have p_ad_3_0 : pt L f (ad 3 0) (.inl (G.2 0, 2916, .inl g_90731)) := p_ad_3_0
    have o_90733 : (TCN 1 nC t0 wr) g_90731 := (TCN_no o_90732 (by decide))
    have I := I.castS (sp' := spM PA PI (TCN 1 nC t0 wr) pa) (k := 3) (j := 0) (by decide) p_ad_3_0 (okE_a (g := g_90731) o_90733) pXC
    refine lv_iconst (v := 1) hx hb dX12_clause_9 (by decide) ?_
    exact prI (post := fun r L1 f1 => ∃ at92 : Int32, ∃ ps92 : Int32, ∃ tk2 : Int32, ∃ nu2 : Int32, ∃ wd2 : Int64, ∃ wr2 : Int32, ∃ so2 : Int32, ∃ pd2 : Int32, ∃ op92 : Int32, ∃ cg2 : Int32, ∃ iw2 : Int32, ∃ on92 : Int32, bn 0 7 r ∧ SH (spM PA PI (TCN r nC t0 wr2) pa) nnM G ad L1 f1 ∧ pt L1 f1 (ad 0 0) (.inr (12, [.ref (ad 1 0), .ref (ad 2 0), .ref (ad 3 0), .ref (ad 4 0), .int td, .int fa, .int fp, .int at92, .int ps92, .int tk2, .int nu2, .long wd2, .int t0, .int wr2, .int so2, .ref (ad 5 0), .ref (ad 6 0), .int pd2, .int op92, .int cg2, .int iw2, .int on92, .ref (ad 7 0), .ref (ad 8 0), .ref (ad 9 0), .int is9, .ref (ad 10 0), .ref (ad 11 0), .ref (ad 12 0), .ref (ad 13 0), .int se, .ref (ad 14 0)])) ∧ pt L1 f1 (ad 4 0) (.inl (G.2 0, 300, .inl gt)) ∧ TK at92 ps92 tk2 ∧ (r.toInt = 0 → ps9.toInt + 1 ≤ ps92.toInt) ∧ (r.toInt = 0 → wr2.toInt ≤ ps92.toInt) ∧ ∃ j, TKN (bI gt) td.toInt.toNat j at92 ps92 tk2 nu2 wd2 ∧ (r.toInt = 0 → LL (tkK (bI gt) td.toInt.toNat) (tkV (bI gt) td.toInt.toNat) [(kCls (on92.toInt * 100 + nC + 1), 0, false)] j rr ∧ bn 0 7 on92) ∧ (0 < r.toInt → rr = (r.toInt, j))) S Y rfl (by decide) (by decide) hA1 ⟨at9, ps9, tk, nu, wd, wr, so, pd, op9, cg, iw, on9, bn_w (show bn 1 1 (1 : Int32) from bn_k (by decide)) (by decide), I, p_ad_0_0, p_ad_4_0, hT, (fun h => absurd h (by decide)), (fun h => absurd h (by decide)), ⟨i9, hTN, (fun h => absurd h (by decide)), fun _ => cls_no hcl (mt (tk_k hTN.2.2).1.mpr (fun z => htk (Int32.toInt_inj.mp (z.trans rfl)))) (by have z9 := (so_n er_90534.2.2 (by have z9 := (B_90537).2; omega)); omega)⟩⟩ dX12_clause_10
def RDZ (B : Nat → Int) (n : Nat) (rr : Int × Nat) (t0 wr on9 at2 ps2 tk2 nu2 : Int32) (wd2 : Int64) (z : Nat → Int32) : Prop := TZ t0 wr z ∧ ∃ j, TKN B n j at2 ps2 tk2 nu2 wd2 ∧ LL (tkK B n) (tkV B n) [(kCls (on9.toInt * 100 + (z t0.toInt.toNat).toInt), 0, false)] j rr
section RDX
variable {B : Nat → Int} {n : Nat} {rr : Int × Nat} {t0 wr on9 at2 ps2 tk2 nu2 r : Int32} {wd2 : Int64} {z g : Nat → Int32} {nC : Int}
theorem TZ_00 (e : z = upd g t0.toNatClampNeg 0) : (z t0.toInt.toNat).toInt = 0 := by rw [e, ← tnc, pk_us]; rfl
theorem RDZ_nx (h : TCN r nC t0 wr z) (hr : r = 0) (e : ∃ j, TKN B n j at2 ps2 tk2 nu2 wd2 ∧ (r.toInt = 0 → LL (tkK B n) (tkV B n) [(kCls (on9.toInt * 100 + nC + 1), 0, false)] j rr ∧ bn 0 7 on9) ∧ (0 < r.toInt → rr = (r.toInt, j))) : RDZ B n rr t0 wr on9 at2 ps2 tk2 nu2 wd2 z := by
  obtain ⟨j, e1, e2, _⟩ := e
  obtain ⟨h1, h2⟩ := h.2 hr
  refine ⟨h1, j, e1, ?_⟩
  rw [h2, show on9.toInt * 100 + (nC + 1) = on9.toInt * 100 + nC + 1 by omega]
  exact (e2 (by rw [hr]; rfl)).1
theorem nR_of (h : TZ t0 wr z) (ht : TT t0) : ∃ x : Int32, bn 0 24 x ∧ x.toInt = (z t0.toInt.toNat).toInt := ⟨z t0.toInt.toNat, TZ_n h ht rfl, rfl⟩
end RDX
set_option maxHeartbeats 4000000 in
set_option maxRecDepth 100000 in
theorem x_X12_readText {l : Launch} {G : GG}  {L : List Nat} {f : HF} {ad : Nat → Nat → Nat} {g0 : Nat → Int32} {pa : (Nat → Int32) → Prop} {PI : PIT} {td fa fp at9 ps9 tk nu t0 wr so pd op9 cg iw on9 is9 se : Int32} {wd : Int64} {gt : Nat → Int32} {PA : (Nat → Int32) → Prop} {rr : Int × Nat} (I : SH (spM (T3 PA) PI (EQ g0) pa) nnM G ad L f) (hX : TX g0) (p_ad_0_0 : pt L f (ad 0 0) (.inr (12, [.ref (ad 1 0), .ref (ad 2 0), .ref (ad 3 0), .ref (ad 4 0), .int td, .int fa, .int fp, .int at9, .int ps9, .int tk, .int nu, .long wd, .int t0, .int wr, .int so, .ref (ad 5 0), .ref (ad 6 0), .int pd, .int op9, .int cg, .int iw, .int on9, .ref (ad 7 0), .ref (ad 8 0), .ref (ad 9 0), .int is9, .ref (ad 10 0), .ref (ad 11 0), .ref (ad 12 0), .ref (ad 13 0), .int se, .ref (ad 14 0)]))) (p_ad_4_0 : pt L f (ad 4 0) (.inl (G.2 0, 300, .inl gt))) (hBy : BYT gt) (hR0 : TXR (bI gt) td.toInt.toNat rr) : PMi l yX12_readText cX12_readText 2 .int 10 0 0 G [.ref (ad 0 0)] L f (fun r L1 f1 => ∃ at92 : Int32, ∃ ps92 : Int32, ∃ tk2 : Int32, ∃ nu2 : Int32, ∃ wd2 : Int64, ∃ t02 : Int32, ∃ wr2 : Int32, ∃ so2 : Int32, ∃ pd2 : Int32, ∃ op92 : Int32, ∃ cg2 : Int32, ∃ iw2 : Int32, ∃ on92 : Int32, bn 0 7 r ∧ SH (spM (T3 PA) PI TX pa) nnM G ad L1 f1 ∧ pt L1 f1 (ad 0 0) (.inr (12, [.ref (ad 1 0), .ref (ad 2 0), .ref (ad 3 0), .ref (ad 4 0), .int td, .int fa, .int fp, .int at92, .int ps92, .int tk2, .int nu2, .long wd2, .int t02, .int wr2, .int so2, .ref (ad 5 0), .ref (ad 6 0), .int pd2, .int op92, .int cg2, .int iw2, .int on92, .ref (ad 7 0), .ref (ad 8 0), .ref (ad 9 0), .int is9, .ref (ad 10 0), .ref (ad 11 0), .ref (ad 12 0), .ref (ad 13 0), .int se, .ref (ad 14 0)])) ∧ pt L1 f1 (ad 4 0) (.inl (G.2 0, 300, .inl gt)) ∧ ∃ j, TKN (bI gt) td.toInt.toNat j at92 ps92 tk2 nu2 wd2 ∧ rr = (r.toInt, j)) := by
  refine PMi.of (post := fun r L1 f1 => ∃ at92 : Int32, ∃ ps92 : Int32, ∃ tk2 : Int32, ∃ nu2 : Int32, ∃ wd2 : Int64, ∃ t02 : Int32, ∃ wr2 : Int32, ∃ so2 : Int32, ∃ pd2 : Int32, ∃ op92 : Int32, ∃ cg2 : Int32, ∃ iw2 : Int32, ∃ on92 : Int32, bn 0 7 r ∧ SH (spM (T3 PA) PI TX pa) nnM G ad L1 f1 ∧ pt L1 f1 (ad 0 0) (.inr (12, [.ref (ad 1 0), .ref (ad 2 0), .ref (ad 3 0), .ref (ad 4 0), .int td, .int fa, .int fp, .int at92, .int ps92, .int tk2, .int nu2, .long wd2, .int t02, .int wr2, .int so2, .ref (ad 5 0), .ref (ad 6 0), .int pd2, .int op92, .int cg2, .int iw2, .int on92, .ref (ad 7 0), .ref (ad 8 0), .ref (ad 9 0), .int is9, .ref (ad 10 0), .ref (ad 11 0), .ref (ad 12 0), .ref (ad 13 0), .int se, .ref (ad 14 0)])) ∧ pt L1 f1 (ad 4 0) (.inl (G.2 0, 300, .inl gt)) ∧ ∃ j, TKN (bI gt) td.toInt.toNat j at92 ps92 tk2 nu2 wd2 ∧ rr = (r.toInt, j)) (own := RX12) (by decide) rfl (Nat.le_of_ble_eq_true rfl) (fun sz p e s m args below meth c A ls hA1 hname S Y hl => ?_)
  have hx := S.hx
  have hb := S.hb
  have hl : lv_has ls 2 [(0, .ref (ad 0 0))] := hl
  obtain ⟨bfe_4, bfe_5, bfe_6, bfe_7, bfe_8, bfe_12, bfe_13, bfe_17, bfe_18, bfe_19, bfe_20, bfe_25⟩ := obM I p_ad_0_0
  have J_43 : ∀ (n43 : Nat) (y43_f7 y43_f8 y43_f9 y43_f10 y43_f12 y43_f13 y43_f14 y43_f17 y43_f18 y43_f19 y43_f20 y43_f21 : Int32) (y43_f11 : Int64) (L_43 : List Nat) (f_43 : HF) (H : Heap) (locs : List Loc) (ls : Array Slot), (SH (spM (T3 PA) PI (RDZ (bI gt) td.toInt.toNat rr y43_f12 y43_f13 y43_f21 y43_f7 y43_f8 y43_f9 y43_f10 y43_f11) pa) nnM G ad L_43 f_43) → (bn 0 300 y43_f7) → (bn 0 300 y43_f8) → (bn 0 2187 y43_f12) → (bn 0 300 y43_f13) → (bn 0 160 y43_f17) → (bn 0 8 y43_f18) → (bn 0 8 y43_f19) → (bn 0 1 y43_f20) → (TK y43_f7 y43_f8 y43_f9 ∧ y43_f13.toInt ≤ y43_f8.toInt ∧ TT y43_f12 ∧ bn 0 7 y43_f21) → (pt L_43 f_43 (ad 0 0) (.inr (12, [.ref (ad 1 0), .ref (ad 2 0), .ref (ad 3 0), .ref (ad 4 0), .int td, .int fa, .int fp, .int y43_f7, .int y43_f8, .int y43_f9, .int y43_f10, .long y43_f11, .int y43_f12, .int y43_f13, .int y43_f14, .ref (ad 5 0), .ref (ad 6 0), .int y43_f17, .int y43_f18, .int y43_f19, .int y43_f20, .int y43_f21, .ref (ad 7 0), .ref (ad 8 0), .ref (ad 9 0), .int is9, .ref (ad 10 0), .ref (ad 11 0), .ref (ad 12 0), .ref (ad 13 0), .int se, .ref (ad 14 0)]))) → (pt L_43 f_43 (ad 4 0) (.inl (G.2 0, 300, .inl gt))) → ((300 - y43_f8.toInt).toNat = n43) → (DY G A s [] L_43 f_43 H locs) → (lv_has ls 2 [(0, .ref (ad 0 0))]) → W p l e (rmD 10 0 0) s m args below meth c H locs (0) (0) (MQ below (va_Qi (fun r (u : List Nat × HF) => (fun r L1 f1 => ∃ at92 : Int32, ∃ ps92 : Int32, ∃ tk2 : Int32, ∃ nu2 : Int32, ∃ wd2 : Int64, ∃ t02 : Int32, ∃ wr2 : Int32, ∃ so2 : Int32, ∃ pd2 : Int32, ∃ op92 : Int32, ∃ cg2 : Int32, ∃ iw2 : Int32, ∃ on92 : Int32, bn 0 7 r ∧ SH (spM (T3 PA) PI TX pa) nnM G ad L1 f1 ∧ pt L1 f1 (ad 0 0) (.inr (12, [.ref (ad 1 0), .ref (ad 2 0), .ref (ad 3 0), .ref (ad 4 0), .int td, .int fa, .int fp, .int at92, .int ps92, .int tk2, .int nu2, .long wd2, .int t02, .int wr2, .int so2, .ref (ad 5 0), .ref (ad 6 0), .int pd2, .int op92, .int cg2, .int iw2, .int on92, .ref (ad 7 0), .ref (ad 8 0), .ref (ad 9 0), .int is9, .ref (ad 10 0), .ref (ad 11 0), .ref (ad 12 0), .ref (ad 13 0), .int se, .ref (ad 14 0)])) ∧ pt L1 f1 (ad 4 0) (.inl (G.2 0, 300, .inl gt)) ∧ ∃ j, TKN (bI gt) td.toInt.toNat j at92 ps92 tk2 nu2 wd2 ∧ rr = (r.toInt, j)) r u.1 u.2) (fun u t => pOut G (va_A (va_pl L f) sz) u.1 u.2 t) (va_A (va_pl L f) sz)) args s 0 0 A) (F0 m 43 ls []) := by
    intro n43
    induction n43 using Nat.strongRecOn with
    | _ n43 ih43 =>
      intro y43_f7 y43_f8 y43_f9 y43_f10 y43_f12 y43_f13 y43_f14 y43_f17 y43_f18 y43_f19 y43_f20 y43_f21 y43_f11 L_43 f_43 H locs ls I b_y43_f7 b_y43_f8 b_y43_f12 b_y43_f13 b_y43_f17 b_y43_f18 b_y43_f19 b_y43_f20 hR p_ad_0_0 p_ad_4_0 hm43 Y hl
      obtain ⟨bf43_4, bf43_5, bf43_6, bf43_7, bf43_8, bf43_12, bf43_13, bf43_17, bf43_18, bf43_19, bf43_20, bf43_25⟩ := obM I p_ad_0_0
      refine lv_aload_n hx hb dX12_readText_43 rfl (lv_at hl 0 rfl) ?_
      refine pg_get S Y ok_X12 9 (by decide) kf12_98 (v := .int y43_f9) p_ad_0_0 rfl dX12_readText_44 ?_
      refine lv_if_eq (tgt := 64) hx hb dX12_readText_47 (by decide) (fun c_90896 => ?_) (fun c_90896 => ?_)
      · have B_90897 : bn 0 0 y43_f9 := bn_w (bn_eq c_90896 (show bn 0 0 (0 : Int32) from bn_k (by decide))) (by decide)
        obtain ⟨g_90898, p_ad_3_0, o_90899⟩ := I.opi (k := 3) (j := 0) (by decide) rfl
        have p_ad_3_0 : pt L_43 f_43 (ad 3 0) (.inl (G.2 0, 2916, .inl g_90898)) := p_ad_3_0
        obtain ⟨hTZ, jR, hTR, hLR⟩ := o_90899
        have o_90900 : TX g_90898 := hTZ.1
        have I := I.castS (sp' := spM (T3 PA) PI TX pa) (k := 3) (j := 0) (by decide) p_ad_3_0 (okE_a (g := g_90898) o_90900) pXC
        refine lv_iconst (v := 0) hx hb dX12_readText_64 (by decide) ?_
        exact prI (post := fun r L1 f1 => ∃ at92 : Int32, ∃ ps92 : Int32, ∃ tk2 : Int32, ∃ nu2 : Int32, ∃ wd2 : Int64, ∃ t02 : Int32, ∃ wr2 : Int32, ∃ so2 : Int32, ∃ pd2 : Int32, ∃ op92 : Int32, ∃ cg2 : Int32, ∃ iw2 : Int32, ∃ on92 : Int32, bn 0 7 r ∧ SH (spM (T3 PA) PI TX pa) nnM G ad L1 f1 ∧ pt L1 f1 (ad 0 0) (.inr (12, [.ref (ad 1 0), .ref (ad 2 0), .ref (ad 3 0), .ref (ad 4 0), .int td, .int fa, .int fp, .int at92, .int ps92, .int tk2, .int nu2, .long wd2, .int t02, .int wr2, .int so2, .ref (ad 5 0), .ref (ad 6 0), .int pd2, .int op92, .int cg2, .int iw2, .int on92, .ref (ad 7 0), .ref (ad 8 0), .ref (ad 9 0), .int is9, .ref (ad 10 0), .ref (ad 11 0), .ref (ad 12 0), .ref (ad 13 0), .int se, .ref (ad 14 0)])) ∧ pt L1 f1 (ad 4 0) (.inl (G.2 0, 300, .inl gt)) ∧ ∃ j, TKN (bI gt) td.toInt.toNat j at92 ps92 tk2 nu2 wd2 ∧ rr = (r.toInt, j)) S Y rfl (by decide) (by decide) hA1 ⟨y43_f7, y43_f8, y43_f9, y43_f10, y43_f11, y43_f12, y43_f13, y43_f14, y43_f17, y43_f18, y43_f19, y43_f20, y43_f21, bn_w (show bn 0 0 (0 : Int32) from bn_k (by decide)) (by decide), I, p_ad_0_0, p_ad_4_0, ⟨jR, hTR, (by have q := cls_end hLR ((tk_k hTR.2.2).1.mp (by rw [c_90896]; rfl)); exact q)⟩⟩ dX12_readText_65
      · obtain ⟨g_90901, p_ad_3_0, o_90902⟩ := I.opi (k := 3) (j := 0) (by decide) rfl
        have p_ad_3_0 : pt L_43 f_43 (ad 3 0) (.inl (G.2 0, 2916, .inl g_90901)) := p_ad_3_0
        obtain ⟨hTZ, jR, hTR, hLR⟩ := o_90902
        have hNR := nR_of hTZ hR.2.2.1
        have o_90903 : (TZN ((g_90901 y43_f12.toInt.toNat).toInt) y43_f12 y43_f13) g_90901 := ⟨hTZ, rfl⟩
        have I := I.castS (sp' := spM (T3 PA) PI (TZN ((g_90901 y43_f12.toInt.toNat).toInt) y43_f12 y43_f13) pa) (k := 3) (j := 0) (by decide) p_ad_3_0 (okE_a (g := g_90901) o_90903) pXC
        refine lv_aload_n hx hb dX12_readText_50 rfl (lv_at hl 0 rfl) ?_
        refine cVi (As := []) (rest := []) S Y (x_X12_clause (l := l) I p_ad_0_0 p_ad_4_0 hR.2.1 hR.1 hR.2.2.1 hBy hTR c_90896 hR.2.2.2 hNR hLR) cw_X12_clause km12_251 p_ad_0_0 ok_X12.1 rfl rfl ⟨Nat.le_of_ble_eq_true rfl, Nat.le_of_ble_eq_true rfl⟩ hl.1 rfl (Nat.le_of_ble_eq_true rfl) ⟨Nat.le_of_ble_eq_true rfl, Nat.le_of_ble_eq_true rfl⟩ dX12_readText_51 (fun r_90906 L_90904 f_90905 H locs hr_90906 Y => ?_)
        obtain ⟨v_90907, v_90908, v_90909, v_90910, v_90911, v_90912, v_90913, v_90914, v_90915, v_90916, v_90917, v_90918, er_90906, I, p_ad_0_0, p_ad_4_0, eT_90919, eR_90920, eW_90921, eL_90922⟩ := hr_90906
        obtain ⟨bfc90922_4, bfc90922_5, bfc90922_6, bfc90922_7, bfc90922_8, bfc90922_12, bfc90922_13, bfc90922_17, bfc90922_18, bfc90922_19, bfc90922_20, bfc90922_25⟩ := obM I p_ad_0_0
        refine lv_istore_n (lv' := [(1, .int r_90906), (0, .ref (ad 0 0))]) hx hb dX12_readText_54 rfl hl (by decide) rfl (fun ls hl => ?_)
        refine lv_iload_n hx hb dX12_readText_55 rfl (lv_at hl 0 rfl) ?_
        refine lv_if_eq (tgt := 61) hx hb dX12_readText_56 (by decide) (fun c_90924 => ?_) (fun c_90924 => ?_)
        · have B_90925 : bn 0 0 r_90906 := bn_w (bn_eq c_90924 (show bn 0 0 (0 : Int32) from bn_k (by decide))) (by decide)
          refine lv_goto (tgt := 43) hx hb dX12_readText_61 (by decide) ?_
          obtain ⟨g_90927, p_ad_3_0, o_90928⟩ := I.opi (k := 3) (j := 0) (by decide) rfl
          have p_ad_3_0 : pt L_90904 f_90905 (ad 3 0) (.inl (G.2 0, 2916, .inl g_90927)) := p_ad_3_0
          have o_90929 : (RDZ (bI gt) td.toInt.toNat rr y43_f12 v_90912 v_90918 v_90907 v_90908 v_90909 v_90910 v_90911) g_90927 := (RDZ_nx o_90928 c_90924 eL_90922)
          have I := I.castS (sp' := spM (T3 PA) PI (RDZ (bI gt) td.toInt.toNat rr y43_f12 v_90912 v_90918 v_90907 v_90908 v_90909 v_90910 v_90911) pa) (k := 3) (j := 0) (by decide) p_ad_3_0 (okE_a (g := g_90927) o_90929) pXC
          exact ih43 _ (by rw [← hm43]; exact (show (300 - v_90908.toInt).toNat < (300 - y43_f8.toInt).toNat from by have z9 := eR_90920 (show r_90906.toInt = 0 from by rw [c_90924]; rfl); have z6 := (bfc90922_8).2; omega)) v_90907 v_90908 v_90909 v_90910 y43_f12 v_90912 v_90913 v_90914 v_90915 v_90916 v_90917 v_90918 v_90911 _ _  _ _ _ I (bn_w bfc90922_7 (by decide)) (bn_w bfc90922_8 (by decide)) (bn_w bfc90922_12 (by decide)) (bn_w bfc90922_13 (by decide)) (bn_w bfc90922_17 (by decide)) (bn_w bfc90922_18 (by decide)) (bn_w bfc90922_19 (by decide)) (bn_w bfc90922_20 (by decide)) ⟨eT_90919, eW_90921 (show r_90906.toInt = 0 from by rw [c_90924]; rfl), hR.2.2.1, (by obtain ⟨j, _, z, _⟩ := eL_90922; exact (z (show r_90906.toInt = 0 from by rw [c_90924]; rfl)).2)⟩ p_ad_0_0 p_ad_4_0 rfl Y (lv_sub hl [1] rfl)
        · have B_90926 : bn 1 7 r_90906 := bn_w (bn_nel c_90924 er_90906 (show bn 0 0 (0 : Int32) from bn_k (by decide))) (by decide)
          obtain ⟨g_90930, p_ad_3_0, o_90931⟩ := I.opi (k := 3) (j := 0) (by decide) rfl
          have p_ad_3_0 : pt L_90904 f_90905 (ad 3 0) (.inl (G.2 0, 2916, .inl g_90930)) := p_ad_3_0
          have o_90932 : TX g_90930 := o_90931.1
          have I := I.castS (sp' := spM (T3 PA) PI TX pa) (k := 3) (j := 0) (by decide) p_ad_3_0 (okE_a (g := g_90930) o_90932) pXC
          refine lv_iload_n hx hb dX12_readText_59 rfl (lv_at hl 0 rfl) ?_
          exact prI (post := fun r L1 f1 => ∃ at92 : Int32, ∃ ps92 : Int32, ∃ tk2 : Int32, ∃ nu2 : Int32, ∃ wd2 : Int64, ∃ t02 : Int32, ∃ wr2 : Int32, ∃ so2 : Int32, ∃ pd2 : Int32, ∃ op92 : Int32, ∃ cg2 : Int32, ∃ iw2 : Int32, ∃ on92 : Int32, bn 0 7 r ∧ SH (spM (T3 PA) PI TX pa) nnM G ad L1 f1 ∧ pt L1 f1 (ad 0 0) (.inr (12, [.ref (ad 1 0), .ref (ad 2 0), .ref (ad 3 0), .ref (ad 4 0), .int td, .int fa, .int fp, .int at92, .int ps92, .int tk2, .int nu2, .long wd2, .int t02, .int wr2, .int so2, .ref (ad 5 0), .ref (ad 6 0), .int pd2, .int op92, .int cg2, .int iw2, .int on92, .ref (ad 7 0), .ref (ad 8 0), .ref (ad 9 0), .int is9, .ref (ad 10 0), .ref (ad 11 0), .ref (ad 12 0), .ref (ad 13 0), .int se, .ref (ad 14 0)])) ∧ pt L1 f1 (ad 4 0) (.inl (G.2 0, 300, .inl gt)) ∧ ∃ j, TKN (bI gt) td.toInt.toNat j at92 ps92 tk2 nu2 wd2 ∧ rr = (r.toInt, j)) S Y rfl (by decide) (by decide) hA1 ⟨v_90907, v_90908, v_90909, v_90910, v_90911, y43_f12, v_90912, v_90913, v_90914, v_90915, v_90916, v_90917, v_90918, bn_w B_90926 (by decide), I, p_ad_0_0, p_ad_4_0, (by obtain ⟨j, z1, _, z3⟩ := eL_90922; exact ⟨j, z1, z3 (by have z9 := (B_90926).1; have z8 : ¬ r_90906.toInt = 0 := fun z => c_90924 (Int32.toInt_inj.mp (z.trans rfl)); omega)⟩)⟩ dX12_readText_60
  refine lv_aload_n hx hb dX12_readText_0 rfl (lv_at hl 0 rfl) ?_
  refine lv_sipush (v := 729) hx hb dX12_readText_1 (by decide) ?_
  refine lv_aload_n hx hb dX12_readText_4 rfl (lv_at hl 0 rfl) ?_
  refine pg_get S Y ok_X12 0 (by decide) kf12_7 (v := .ref (ad 1 0)) p_ad_0_0 rfl dX12_readText_5 ?_
  refine lv_iconst (v := 1) hx hb dX12_readText_8 (by decide) ?_
  obtain ⟨g_90933, p_ad_1_0, o_90934⟩ := I.opi (k := 1) (j := 0) (by decide) rfl
  have p_ad_1_0 : pt L f (ad 1 0) (.inl (G.2 0, 10568, .inl g_90933)) := p_ad_1_0
  obtain ⟨v_90935, ev_90935⟩ : ∃ z, z = g_90933 (1 : Int32).toNatClampNeg := ⟨_, rfl⟩
  refine pg_iald S Y (v := v_90935) p_ad_1_0 (by unfold vp_in; decide) ev_90935.symm dX12_readText_9 ?_
  have B_90936 : bn 0 3 v_90935 := by rw [ev_90935]; exact o_90934.2
  refine lv_imul hx hb dX12_readText_10 ?_
  refine lv_topi (fun x_90937 ex_90937 => ?_)
  refine pg_put S Y ok_X12 12 (by decide) kf12_136 rfl (fs' := [.ref (ad 1 0), .ref (ad 2 0), .ref (ad 3 0), .ref (ad 4 0), .int td, .int fa, .int fp, .int at9, .int ps9, .int tk, .int nu, .long wd, .int x_90937, .int wr, .int so, .ref (ad 5 0), .ref (ad 6 0), .int pd, .int op9, .int cg, .int iw, .int on9, .ref (ad 7 0), .ref (ad 8 0), .ref (ad 9 0), .int is9, .ref (ad 10 0), .ref (ad 11 0), .ref (ad 12 0), .ref (ad 13 0), .int se, .ref (ad 14 0)]) (v := .int x_90937) p_ad_0_0 rfl rfl rfl (Nat.le_of_ble_eq_true rfl) dX12_readText_11 (fun f_90938 H locs ef_90938 Y => ?_)
  have p_ad_4_0 := p_ad_4_0.up ef_90938 (I.ne (k := 4) (j := 0) (k' := 0) (j' := 0) (by decide) (by decide) (Or.inl (by decide)))
  have p_ad_1_0 := p_ad_1_0.up ef_90938 (I.ne (k := 1) (j := 0) (k' := 0) (j' := 0) (by decide) (by decide) (Or.inl (by decide)))
  have p_ad_0_0 := p_ad_0_0.me ef_90938
  have I := I.up (k := 0) (j := 0) (by decide) ef_90938 (okE_o (okFs_c okV_r (okFs_c okV_r (okFs_c okV_r (okFs_c okV_r (okFs_c (okV_p bfe_4) (okFs_c (okV_p bfe_5) (okFs_c (okV_p bfe_6) (okFs_c (okV_i bfe_7) (okFs_c (okV_i bfe_8) (okFs_c (okV_i (bn_any _)) (okFs_c (okV_i (bn_any _)) (okFs_c okV_l (okFs_c (okV_i (bn_w (bn_eq ex_90937 (bn_mul (show bn 729 729 (729 : Int32) from bn_k (by decide)) B_90936 (by decide))) (by decide))) (okFs_c (okV_i bfe_13) (okFs_c (okV_i (bn_any _)) (okFs_c okV_r (okFs_c okV_r (okFs_c (okV_i bfe_17) (okFs_c (okV_i bfe_18) (okFs_c (okV_i bfe_19) (okFs_c (okV_i bfe_20) (okFs_c (okV_i (bn_any _)) (okFs_c okV_r (okFs_c okV_r (okFs_c okV_r (okFs_c (okV_i bfe_25) (okFs_c okV_r (okFs_c okV_r (okFs_c okV_r (okFs_c okV_r (okFs_c (okV_i (bn_any _)) (okFs_c okV_r okFs_n)))))))))))))))))))))))))))))))))
  refine lv_aload_n hx hb dX12_readText_14 rfl (lv_at hl 0 rfl) ?_
  refine pg_get S Y ok_X12 2 (by decide) kf12_16 (v := .ref (ad 3 0)) p_ad_0_0 rfl dX12_readText_15 ?_
  refine lv_aload_n hx hb dX12_readText_18 rfl (lv_at hl 0 rfl) ?_
  refine pg_get S Y ok_X12 12 (by decide) kf12_136 (v := .int x_90937) p_ad_0_0 rfl dX12_readText_19 ?_
  refine lv_iconst (v := 0) hx hb dX12_readText_22 (by decide) ?_
  obtain ⟨g_90939, p_ad_3_0, o_90940⟩ := I.opi (k := 3) (j := 0) (by decide) rfl
  have p_ad_3_0 : pt L f_90938 (ad 3 0) (.inl (G.2 0, 2916, .inl g_90939)) := p_ad_3_0
  refine pg_iast S Y p_ad_3_0 (vp_bn (bn_eq ex_90937 (bn_mul (show bn 729 729 (729 : Int32) from bn_k (by decide)) B_90936 (by decide))) (by decide)) dX12_readText_23 (fun f_90942 H locs ef_90942 Y => ?_)
  obtain ⟨g_90941, eg_90941⟩ : ∃ z, z = upd (g_90939) (x_90937 : Int32).toNatClampNeg 0 := ⟨_, rfl⟩
  rw [← eg_90941] at ef_90942
  have p_ad_0_0 := p_ad_0_0.up ef_90942 (I.ne (k := 0) (j := 0) (k' := 3) (j' := 0) (by decide) (by decide) (Or.inl (by decide)))
  have p_ad_4_0 := p_ad_4_0.up ef_90942 (I.ne (k := 4) (j := 0) (k' := 3) (j' := 0) (by decide) (by decide) (Or.inl (by decide)))
  have p_ad_1_0 := p_ad_1_0.up ef_90942 (I.ne (k := 1) (j := 0) (k' := 3) (j' := 0) (by decide) (by decide) (Or.inl (by decide)))
  have p_ad_3_0 := p_ad_3_0.me ef_90942
  have htt : TT x_90937 := ⟨v_90935.toInt.toNat, by have z8 := B_90936; have z7 := z8.1; have z6 := z8.2; exact ⟨by omega, by have z9 := (la_mul ex_90937 (show (729 : Int32).toInt = 729 from rfl) (rfl : v_90935.toInt = v_90935.toInt) (show bn 729 729 (729 : Int32) from bn_k (by decide)) B_90936 (by decide)); omega⟩⟩
  have o_90943 : (TZN 0 x_90937 0) g_90941 := ⟨TZ_0 (show TX g_90939 from by rw [show g_90939 = g0 from o_90940]; exact hX) htt eg_90941, TZ_00 eg_90941⟩
  have I := I.upS (sp' := spM (T3 PA) PI (TZN 0 x_90937 0) pa) (k := 3) (j := 0) (by decide) ef_90942 (okE_a (g := g_90941) o_90943) pXC
  refine lv_aload_n hx hb dX12_readText_24 rfl (lv_at hl 0 rfl) ?_
  refine lv_iconst (v := 0) hx hb dX12_readText_25 (by decide) ?_
  refine pg_put S Y ok_X12 13 (by decide) kf12_139 rfl (fs' := [.ref (ad 1 0), .ref (ad 2 0), .ref (ad 3 0), .ref (ad 4 0), .int td, .int fa, .int fp, .int at9, .int ps9, .int tk, .int nu, .long wd, .int x_90937, .int 0, .int so, .ref (ad 5 0), .ref (ad 6 0), .int pd, .int op9, .int cg, .int iw, .int on9, .ref (ad 7 0), .ref (ad 8 0), .ref (ad 9 0), .int is9, .ref (ad 10 0), .ref (ad 11 0), .ref (ad 12 0), .ref (ad 13 0), .int se, .ref (ad 14 0)]) (v := .int 0) p_ad_0_0 rfl rfl rfl (Nat.le_of_ble_eq_true rfl) dX12_readText_26 (fun f_90944 H locs ef_90944 Y => ?_)
  have p_ad_4_0 := p_ad_4_0.up ef_90944 (I.ne (k := 4) (j := 0) (k' := 0) (j' := 0) (by decide) (by decide) (Or.inl (by decide)))
  have p_ad_1_0 := p_ad_1_0.up ef_90944 (I.ne (k := 1) (j := 0) (k' := 0) (j' := 0) (by decide) (by decide) (Or.inl (by decide)))
  have p_ad_3_0 := p_ad_3_0.up ef_90944 (I.ne (k := 3) (j := 0) (k' := 0) (j' := 0) (by decide) (by decide) (Or.inl (by decide)))
  have p_ad_0_0 := p_ad_0_0.me ef_90944
  have I := I.up (k := 0) (j := 0) (by decide) ef_90944 (okE_o (okFs_c okV_r (okFs_c okV_r (okFs_c okV_r (okFs_c okV_r (okFs_c (okV_p bfe_4) (okFs_c (okV_p bfe_5) (okFs_c (okV_p bfe_6) (okFs_c (okV_i bfe_7) (okFs_c (okV_i bfe_8) (okFs_c (okV_i (bn_any _)) (okFs_c (okV_i (bn_any _)) (okFs_c okV_l (okFs_c (okV_i (bn_w (bn_eq ex_90937 (bn_mul (show bn 729 729 (729 : Int32) from bn_k (by decide)) B_90936 (by decide))) (by decide))) (okFs_c (okV_i (bn_w (show bn 0 0 (0 : Int32) from bn_k (by decide)) (by decide))) (okFs_c (okV_i (bn_any _)) (okFs_c okV_r (okFs_c okV_r (okFs_c (okV_i bfe_17) (okFs_c (okV_i bfe_18) (okFs_c (okV_i bfe_19) (okFs_c (okV_i bfe_20) (okFs_c (okV_i (bn_any _)) (okFs_c okV_r (okFs_c okV_r (okFs_c okV_r (okFs_c (okV_i bfe_25) (okFs_c okV_r (okFs_c okV_r (okFs_c okV_r (okFs_c okV_r (okFs_c (okV_i (bn_any _)) (okFs_c okV_r okFs_n)))))))))))))))))))))))))))))))))
  refine lv_aload_n hx hb dX12_readText_29 rfl (lv_at hl 0 rfl) ?_
  refine lv_iconst (v := 0) hx hb dX12_readText_30 (by decide) ?_
  refine pg_put S Y ok_X12 21 (by decide) kf12_241 rfl (fs' := [.ref (ad 1 0), .ref (ad 2 0), .ref (ad 3 0), .ref (ad 4 0), .int td, .int fa, .int fp, .int at9, .int ps9, .int tk, .int nu, .long wd, .int x_90937, .int 0, .int so, .ref (ad 5 0), .ref (ad 6 0), .int pd, .int op9, .int cg, .int iw, .int 0, .ref (ad 7 0), .ref (ad 8 0), .ref (ad 9 0), .int is9, .ref (ad 10 0), .ref (ad 11 0), .ref (ad 12 0), .ref (ad 13 0), .int se, .ref (ad 14 0)]) (v := .int 0) p_ad_0_0 rfl rfl rfl (Nat.le_of_ble_eq_true rfl) dX12_readText_31 (fun f_90945 H locs ef_90945 Y => ?_)
  have p_ad_4_0 := p_ad_4_0.up ef_90945 (I.ne (k := 4) (j := 0) (k' := 0) (j' := 0) (by decide) (by decide) (Or.inl (by decide)))
  have p_ad_1_0 := p_ad_1_0.up ef_90945 (I.ne (k := 1) (j := 0) (k' := 0) (j' := 0) (by decide) (by decide) (Or.inl (by decide)))
  have p_ad_3_0 := p_ad_3_0.up ef_90945 (I.ne (k := 3) (j := 0) (k' := 0) (j' := 0) (by decide) (by decide) (Or.inl (by decide)))
  have p_ad_0_0 := p_ad_0_0.me ef_90945
  have I := I.up (k := 0) (j := 0) (by decide) ef_90945 (okE_o (okFs_c okV_r (okFs_c okV_r (okFs_c okV_r (okFs_c okV_r (okFs_c (okV_p bfe_4) (okFs_c (okV_p bfe_5) (okFs_c (okV_p bfe_6) (okFs_c (okV_i bfe_7) (okFs_c (okV_i bfe_8) (okFs_c (okV_i (bn_any _)) (okFs_c (okV_i (bn_any _)) (okFs_c okV_l (okFs_c (okV_i (bn_w (bn_eq ex_90937 (bn_mul (show bn 729 729 (729 : Int32) from bn_k (by decide)) B_90936 (by decide))) (by decide))) (okFs_c (okV_i (bn_w (show bn 0 0 (0 : Int32) from bn_k (by decide)) (by decide))) (okFs_c (okV_i (bn_any _)) (okFs_c okV_r (okFs_c okV_r (okFs_c (okV_i bfe_17) (okFs_c (okV_i bfe_18) (okFs_c (okV_i bfe_19) (okFs_c (okV_i bfe_20) (okFs_c (okV_i (bn_w (show bn 0 0 (0 : Int32) from bn_k (by decide)) (by decide))) (okFs_c okV_r (okFs_c okV_r (okFs_c okV_r (okFs_c (okV_i bfe_25) (okFs_c okV_r (okFs_c okV_r (okFs_c okV_r (okFs_c okV_r (okFs_c (okV_i (bn_any _)) (okFs_c okV_r okFs_n)))))))))))))))))))))))))))))))))
  refine lv_aload_n hx hb dX12_readText_34 rfl (lv_at hl 0 rfl) ?_
  refine lv_iconst (v := 0) hx hb dX12_readText_35 (by decide) ?_
  refine pg_put S Y ok_X12 7 (by decide) kf12_88 rfl (fs' := [.ref (ad 1 0), .ref (ad 2 0), .ref (ad 3 0), .ref (ad 4 0), .int td, .int fa, .int fp, .int 0, .int ps9, .int tk, .int nu, .long wd, .int x_90937, .int 0, .int so, .ref (ad 5 0), .ref (ad 6 0), .int pd, .int op9, .int cg, .int iw, .int 0, .ref (ad 7 0), .ref (ad 8 0), .ref (ad 9 0), .int is9, .ref (ad 10 0), .ref (ad 11 0), .ref (ad 12 0), .ref (ad 13 0), .int se, .ref (ad 14 0)]) (v := .int 0) p_ad_0_0 rfl rfl rfl (Nat.le_of_ble_eq_true rfl) dX12_readText_36 (fun f_90946 H locs ef_90946 Y => ?_)
  have p_ad_4_0 := p_ad_4_0.up ef_90946 (I.ne (k := 4) (j := 0) (k' := 0) (j' := 0) (by decide) (by decide) (Or.inl (by decide)))
  have p_ad_1_0 := p_ad_1_0.up ef_90946 (I.ne (k := 1) (j := 0) (k' := 0) (j' := 0) (by decide) (by decide) (Or.inl (by decide)))
  have p_ad_3_0 := p_ad_3_0.up ef_90946 (I.ne (k := 3) (j := 0) (k' := 0) (j' := 0) (by decide) (by decide) (Or.inl (by decide)))
  have p_ad_0_0 := p_ad_0_0.me ef_90946
  have I := I.up (k := 0) (j := 0) (by decide) ef_90946 (okE_o (okFs_c okV_r (okFs_c okV_r (okFs_c okV_r (okFs_c okV_r (okFs_c (okV_p bfe_4) (okFs_c (okV_p bfe_5) (okFs_c (okV_p bfe_6) (okFs_c (okV_i (bn_w (show bn 0 0 (0 : Int32) from bn_k (by decide)) (by decide))) (okFs_c (okV_i bfe_8) (okFs_c (okV_i (bn_any _)) (okFs_c (okV_i (bn_any _)) (okFs_c okV_l (okFs_c (okV_i (bn_w (bn_eq ex_90937 (bn_mul (show bn 729 729 (729 : Int32) from bn_k (by decide)) B_90936 (by decide))) (by decide))) (okFs_c (okV_i (bn_w (show bn 0 0 (0 : Int32) from bn_k (by decide)) (by decide))) (okFs_c (okV_i (bn_any _)) (okFs_c okV_r (okFs_c okV_r (okFs_c (okV_i bfe_17) (okFs_c (okV_i bfe_18) (okFs_c (okV_i bfe_19) (okFs_c (okV_i bfe_20) (okFs_c (okV_i (bn_w (show bn 0 0 (0 : Int32) from bn_k (by decide)) (by decide))) (okFs_c okV_r (okFs_c okV_r (okFs_c okV_r (okFs_c (okV_i bfe_25) (okFs_c okV_r (okFs_c okV_r (okFs_c okV_r (okFs_c okV_r (okFs_c (okV_i (bn_any _)) (okFs_c okV_r okFs_n)))))))))))))))))))))))))))))))))
  refine lv_aload_n hx hb dX12_readText_39 rfl (lv_at hl 0 rfl) ?_
  obtain ⟨g_90947, p_ad_5_0, o_90948⟩ := I.opi (k := 5) (j := 0) (by decide) rfl
  have p_ad_5_0 : pt L f_90946 (ad 5 0) (.inl (G.2 0, 160, .inl g_90947)) := p_ad_5_0
  obtain ⟨g_90949, p_ad_6_0, o_90950⟩ := I.opi (k := 6) (j := 0) (by decide) rfl
  have p_ad_6_0 : pt L f_90946 (ad 6 0) (.inl (G.2 0, 9, .inl g_90949)) := p_ad_6_0
  refine cVv (As := []) (rest := []) S Y (x_X12_nextToken (l := l) I p_ad_0_0 p_ad_4_0 p_ad_5_0 p_ad_6_0 hBy) cw_X12_nextToken km12_166 p_ad_0_0 ok_X12.1 rfl rfl ⟨Nat.le_of_ble_eq_true rfl, Nat.le_of_ble_eq_true rfl⟩ hl.1 rfl (Nat.le_of_ble_eq_true rfl) ⟨Nat.le_of_ble_eq_true rfl, Nat.le_of_ble_eq_true rfl⟩ dX12_readText_40 (fun L_90951 f_90952 H locs hr_90953 Y => ?_)
  obtain ⟨v_90954, v_90955, v_90956, v_90957, v_90958, I, p_ad_0_0, p_ad_4_0, p_ad_5_0, p_ad_6_0, eT_90959, eP_90960, eN_90961⟩ := hr_90953
  obtain ⟨bfc90961_4, bfc90961_5, bfc90961_6, bfc90961_7, bfc90961_8, bfc90961_12, bfc90961_13, bfc90961_17, bfc90961_18, bfc90961_19, bfc90961_20, bfc90961_25⟩ := obM I p_ad_0_0
  obtain ⟨g_90963, p_ad_3_0, o_90964⟩ := I.opi (k := 3) (j := 0) (by decide) rfl
  have p_ad_3_0 : pt L_90951 f_90952 (ad 3 0) (.inl (G.2 0, 2916, .inl g_90963)) := p_ad_3_0
  have o_90965 : (RDZ (bI gt) td.toInt.toNat rr x_90937 0 0 v_90954 v_90955 v_90956 v_90957 v_90958) g_90963 := ⟨o_90964.1, 0, NT_0 eN_90961, (by rw [o_90964.2]; exact hR0)⟩
  have I := I.castS (sp' := spM (T3 PA) PI (RDZ (bI gt) td.toInt.toNat rr x_90937 0 0 v_90954 v_90955 v_90956 v_90957 v_90958) pa) (k := 3) (j := 0) (by decide) p_ad_3_0 (okE_a (g := g_90963) o_90965) pXC
  exact J_43 _ v_90954 v_90955 v_90956 v_90957 x_90937 0 so pd op9 cg iw 0 v_90958 _ _  _ _ _ I (bn_w bfc90961_7 (by decide)) (bn_w bfc90961_8 (by decide)) (bn_w bfc90961_12 (by decide)) (bn_w (show bn 0 0 (0 : Int32) from bn_k (by decide)) (by decide)) (bn_w bfc90961_17 (by decide)) (bn_w bfc90961_18 (by decide)) (bn_w bfc90961_19 (by decide)) (bn_w bfc90961_20 (by decide)) ⟨eT_90959, (bfc90961_8).1, htt, bn_k (by decide)⟩ p_ad_0_0 p_ad_4_0 rfl Y (lv_sub hl [0] rfl)
section TXM
variable {B : Nat → Int} {n j : Nat} {fk fp cn : Int} {rr : Int × Nat} {r v x y ps2 : Int32} {w w2 : WW}
theorem txm_f (hc : v = w.2 1) (h4 : v = 4) : TXP B n (w.2 1).toInt (w.2 1).toInt n fk fp fk fp (-1 : Int32).toInt := Or.inl ⟨by rw [← hc, h4]; rfl, rfl, rfl, rfl, rfl, rfl⟩
theorem txm_n (hc : v = w.2 1) (hv : bn 0 3 v) (hR : TXR B n rr) (e : r.toInt = rr.1) (h : ¬ r = 0) : TXP B n (w.2 1).toInt (w.2 1).toInt 0 fk fp rr.1 (tkPI B n rr.2) (-1 : Int32).toInt := by
  have h1 := hv.1
  have h2 := hv.2
  rw [hc] at h1 h2
  exact Or.inr ⟨by omega, rfl, rr, hR, Or.inr ⟨fun z => h (Int32.toInt_inj.mp ((e.trans z).trans rfl)), rfl, rfl, rfl, rfl⟩⟩
theorem txm_y (hc : v = w.2 1) (hv : bn 0 3 v) (hR : TXR B n rr) (e : r.toInt = rr.1) (h : r = 0) (hx : x.toInt = v.toInt + 1) (hy : y.toInt = v.toInt) : TXP B n (w.2 1).toInt (upd w.2 1 x 1).toInt 0 fk fp rr.1 (-1) y.toInt := by
  have h1 := hv.1
  have h2 := hv.2
  rw [hy, pk_us, hx, hc]
  rw [hc] at h1 h2
  have z : rr.1 = 0 := by rw [← e, h]; rfl
  exact Or.inr ⟨by omega, rfl, rr, hR, Or.inl ⟨z, rfl, rfl, z, rfl⟩⟩
end TXM
set_option maxHeartbeats 4000000 in
set_option maxRecDepth 100000 in
theorem x_X12_text {l : Launch} {G : GG}  {L : List Nat} {f : HF} {ad : Nat → Nat → Nat} {w : WW} {gp2 : (Nat → Int32) → Prop} {nN : Nat} {kF : Int} {pF : Int} {bT : Nat → Int32} {g0 : Nat → Int32} (I : SH (spM (IA 0 0 14 9999 w) ((gp2, (pp (nN : Int)), (pp kF), (pp pF), (EQ bT)) : PIT) (EQ g0) LDa) nnM G ad L f) (hB : BBp 0 0 14 9999 w) (hX : TX g0) (hBT : BYT bT) (hn3 : nN ≤ 300) : PMi l yX12_text cX12_text 1 .int 11 0 0 G [.ref (ad 0 0)] L f (fun r L1 f1 => ∃ w2 : WW, ∃ g2 : Nat → Int32, ∃ n2 : Int, ∃ fk2 : Int, ∃ fp2 : Int, SH (spM (IA 0 0 14 9999 w2) ((gp2, (pp n2), (pp fk2), (pp fp2), (EQ bT)) : PIT) (EQ g2) LDa) nnM G ad L1 f1 ∧ TX g2 ∧ (w2.1 = w.1 ∧ ∀ k, k ≠ 1 → w2.2 k = w.2 k) ∧ BBp 0 0 14 9999 w2 ∧ TXP (bI bT) nN (w.2 1).toInt (w2.2 1).toInt n2 kF pF fk2 fp2 r.toInt) := by
  refine PMi.of (post := fun r L1 f1 => ∃ w2 : WW, ∃ g2 : Nat → Int32, ∃ n2 : Int, ∃ fk2 : Int, ∃ fp2 : Int, SH (spM (IA 0 0 14 9999 w2) ((gp2, (pp n2), (pp fk2), (pp fp2), (EQ bT)) : PIT) (EQ g2) LDa) nnM G ad L1 f1 ∧ TX g2 ∧ (w2.1 = w.1 ∧ ∀ k, k ≠ 1 → w2.2 k = w.2 k) ∧ BBp 0 0 14 9999 w2 ∧ TXP (bI bT) nN (w.2 1).toInt (w2.2 1).toInt n2 kF pF fk2 fp2 r.toInt) (own := RX12) (by decide) rfl (Nat.le_of_ble_eq_true rfl) (fun sz p e s m args below meth c A ls hA1 hname S Y hl => ?_)
  have hx := S.hx
  have hb := S.hb
  have hl : lv_has ls 1 [(0, .ref (ad 0 0))] := hl
  refine lv_aload_n hx hb dX12_text_0 rfl (lv_at hl 0 rfl) ?_
  obtain ⟨v_91158, v_91160, v_91162, v_91164, v_91166, v_91168, v_91170, v_91172, v_91173, v_91175, v_91177, v_91179, v_91181, v_91183, v_91185, v_91187, v_91189, v_91191, p_ad_0_0, b_91159, b_91161, b_91163, b_91165, b_91167, b_91169, b_91171, b_91174, b_91176, b_91178, b_91180, b_91182, b_91184, b_91186, b_91188, b_91190, b_91192⟩ := opnM_0 (j := 0) I (by decide)
  have p_ad_0_0 : pt L f (ad 0 0) (.inr (12, [.ref (ad 1 0), .ref (ad 2 0), .ref (ad 3 0), .ref (ad 4 0), .int v_91158, .int v_91160, .int v_91162, .int v_91164, .int v_91166, .int v_91168, .int v_91170, .long v_91172, .int v_91173, .int v_91175, .int v_91177, .ref (ad 5 0), .ref (ad 6 0), .int v_91179, .int v_91181, .int v_91183, .int v_91185, .int v_91187, .ref (ad 7 0), .ref (ad 8 0), .ref (ad 9 0), .int v_91189, .ref (ad 10 0), .ref (ad 11 0), .ref (ad 12 0), .ref (ad 13 0), .int v_91191, .ref (ad 14 0)])) := p_ad_0_0
  have tt_91193 : v_91158.toInt = (nN : Int) := lim_eq b_91159
  have tt_91194 : v_91160.toInt = kF := lim_eq b_91161
  have tt_91195 : v_91162.toInt = pF := lim_eq b_91163
  refine pg_get S Y ok_X12 0 (by decide) kf12_7 (v := .ref (ad 1 0)) p_ad_0_0 rfl dX12_text_1 ?_
  refine lv_iconst (v := 1) hx hb dX12_text_4 (by decide) ?_
  obtain ⟨g_91196, p_ad_1_0, o_91197⟩ := I.opi (k := 1) (j := 0) (by decide) rfl
  have p_ad_1_0 : pt L f (ad 1 0) (.inl (G.2 0, 10568, .inl g_91196)) := p_ad_1_0
  obtain ⟨v_91198, ev_91198⟩ : ∃ z, z = g_91196 (1 : Int32).toNatClampNeg := ⟨_, rfl⟩
  refine pg_iald S Y (v := v_91198) p_ad_1_0 (by unfold vp_in; decide) ev_91198.symm dX12_text_5 ?_
  have bv_91198 : bn 0 4 v_91198 := bn_eq ev_91198 (IA_1 o_91197)
  refine lv_iconst (v := 4) hx hb dX12_text_6 (by decide) ?_
  refine lv_icmp_ne (tgt := 12) hx hb dX12_text_7 (by decide) (fun c_91199 => ?_) (fun c_91199 => ?_)
  · have B_91200 : bn 0 3 v_91198 := bn_w (bn_neu c_91199 bv_91198 (show bn 4 4 (4 : Int32) from bn_k (by decide))) (by decide)
    have hc1 : v_91198 = w.2 1 := (show v_91198 = g_91196 1 from ev_91198).trans (IA_c o_91197)
    have o_91202 : (T3 (IA 0 0 14 9999 w)) g_91196 := ⟨o_91197, show bn 0 3 (g_91196 1) from by have z9 : v_91198 = g_91196 1 := ev_91198; rw [← z9]; exact bn_w B_91200 (by decide)⟩
    have I := I.castS (sp' := spM (T3 (IA 0 0 14 9999 w)) ((gp2, (pp (nN : Int)), (pp kF), (pp pF), (EQ bT)) : PIT) (EQ g0) LDa) (k := 1) (j := 0) (by decide) p_ad_1_0 (okE_a (g := g_91196) o_91202) pAC
    have tt_91203 : v_91158.toInt = (nN : Int) := lim_eq b_91159
    have tt_91204 : v_91160.toInt = kF := lim_eq b_91161
    have tt_91205 : v_91162.toInt = pF := lim_eq b_91163
    obtain ⟨g_91206, p_ad_4_0, o_91207⟩ := I.opi (k := 4) (j := 0) (by decide) rfl
    have p_ad_4_0 : pt L f (ad 4 0) (.inl (G.2 0, 300, .inl g_91206)) := p_ad_4_0
    obtain ⟨rr, hRR⟩ := TXR_ex (bI bT) nN
    have hg4 : g_91206 = bT := o_91207
    have ht4 : v_91158.toInt.toNat = nN := by have z9 := tt_91203; omega
    refine lv_aload_n hx hb dX12_text_12 rfl (lv_at hl 0 rfl) ?_
    refine lv_aload_n hx hb dX12_text_13 rfl (lv_at hl 0 rfl) ?_
    refine cVi (As := []) (rest := [.ref (ad 0 0)]) S Y (x_X12_readText (l := l) I hX p_ad_0_0 p_ad_4_0 (by rw [hg4]; exact hBT) (show TXR (bI g_91206) v_91158.toInt.toNat rr from by rw [hg4, ht4]; exact hRR)) cw_X12_readText km12_254 p_ad_0_0 ok_X12.1 rfl rfl ⟨Nat.le_of_ble_eq_true rfl, Nat.le_of_ble_eq_true rfl⟩ hl.1 rfl (Nat.le_of_ble_eq_true rfl) ⟨Nat.le_of_ble_eq_true rfl, Nat.le_of_ble_eq_true rfl⟩ dX12_text_14 (fun r_91210 L_91208 f_91209 H locs hr_91210 Y => ?_)
    obtain ⟨v_91211, v_91212, v_91213, v_91214, v_91215, v_91216, v_91217, v_91218, v_91219, v_91220, v_91221, v_91222, v_91223, er_91210, I, p_ad_0_0, p_ad_4_0, eL_91224⟩ := hr_91210
    obtain ⟨bfc91224_4, bfc91224_5, bfc91224_6, bfc91224_7, bfc91224_8, bfc91224_12, bfc91224_13, bfc91224_17, bfc91224_18, bfc91224_19, bfc91224_20, bfc91224_25⟩ := obM I p_ad_0_0
    obtain ⟨jT, hTT, hrr⟩ := eL_91224
    have hr1 : r_91210.toInt = rr.1 := by rw [hrr]
    have hp1 : v_91212.toInt = tkPI (bI bT) nN rr.2 := by have z9 := hTT.1; rw [hg4, ht4] at z9; rw [hrr]; exact z9
    refine pg_put S Y ok_X12 5 (by decide) kf12_22 rfl (fs' := [.ref (ad 1 0), .ref (ad 2 0), .ref (ad 3 0), .ref (ad 4 0), .int v_91158, .int r_91210, .int v_91162, .int v_91211, .int v_91212, .int v_91213, .int v_91214, .long v_91215, .int v_91216, .int v_91217, .int v_91218, .ref (ad 5 0), .ref (ad 6 0), .int v_91219, .int v_91220, .int v_91221, .int v_91222, .int v_91223, .ref (ad 7 0), .ref (ad 8 0), .ref (ad 9 0), .int v_91189, .ref (ad 10 0), .ref (ad 11 0), .ref (ad 12 0), .ref (ad 13 0), .int v_91191, .ref (ad 14 0)]) (v := .int r_91210) p_ad_0_0 rfl rfl rfl (Nat.le_of_ble_eq_true rfl) dX12_text_17 (fun f_91226 H locs ef_91226 Y => ?_)
    have p_ad_4_0 := p_ad_4_0.up ef_91226 (I.ne (k := 4) (j := 0) (k' := 0) (j' := 0) (by decide) (by decide) (Or.inl (by decide)))
    have p_ad_0_0 := p_ad_0_0.me ef_91226
    have I := I.upS (sp' := spM (T3 (IA 0 0 14 9999 w)) ((gp2, (pp (nN : Int)), (pp rr.1), (pp pF), (EQ bT)) : PIT) TX LDa) (k := 0) (j := 0) (by decide) ef_91226 (okE_o (okFs_c okV_r (okFs_c okV_r (okFs_c okV_r (okFs_c okV_r (okFs_c (okV_p bfc91224_4) (okFs_c (okV_p (lim_mk (bn_w er_91210 (by decide) : bn (-2147483648) 2147483647 r_91210) hr1)) (okFs_c (okV_p bfc91224_6) (okFs_c (okV_i bfc91224_7) (okFs_c (okV_i bfc91224_8) (okFs_c (okV_i (bn_any _)) (okFs_c (okV_i (bn_any _)) (okFs_c okV_l (okFs_c (okV_i bfc91224_12) (okFs_c (okV_i bfc91224_13) (okFs_c (okV_i (bn_any _)) (okFs_c okV_r (okFs_c okV_r (okFs_c (okV_i bfc91224_17) (okFs_c (okV_i bfc91224_18) (okFs_c (okV_i bfc91224_19) (okFs_c (okV_i bfc91224_20) (okFs_c (okV_i (bn_any _)) (okFs_c okV_r (okFs_c okV_r (okFs_c okV_r (okFs_c (okV_i bfc91224_25) (okFs_c okV_r (okFs_c okV_r (okFs_c okV_r (okFs_c okV_r (okFs_c (okV_i (bn_any _)) (okFs_c okV_r okFs_n))))))))))))))))))))))))))))))))) pVC
    refine lv_aload_n hx hb dX12_text_20 rfl (lv_at hl 0 rfl) ?_
    refine lv_aload_n hx hb dX12_text_21 rfl (lv_at hl 0 rfl) ?_
    refine pg_get S Y ok_X12 5 (by decide) kf12_22 (v := .int r_91210) p_ad_0_0 rfl dX12_text_22 ?_
    refine lv_if_ne (tgt := 32) hx hb dX12_text_25 (by decide) (fun c_91227 => ?_) (fun c_91227 => ?_)
    · have B_91228 : bn 1 7 r_91210 := bn_w (bn_nel c_91227 er_91210 (show bn 0 0 (0 : Int32) from bn_k (by decide))) (by decide)
      refine lv_aload_n hx hb dX12_text_32 rfl (lv_at hl 0 rfl) ?_
      refine pg_get S Y ok_X12 8 (by decide) kf12_95 (v := .int v_91212) p_ad_0_0 rfl dX12_text_33 ?_
      refine pg_put S Y ok_X12 6 (by decide) kf12_26 rfl (fs' := [.ref (ad 1 0), .ref (ad 2 0), .ref (ad 3 0), .ref (ad 4 0), .int v_91158, .int r_91210, .int v_91212, .int v_91211, .int v_91212, .int v_91213, .int v_91214, .long v_91215, .int v_91216, .int v_91217, .int v_91218, .ref (ad 5 0), .ref (ad 6 0), .int v_91219, .int v_91220, .int v_91221, .int v_91222, .int v_91223, .ref (ad 7 0), .ref (ad 8 0), .ref (ad 9 0), .int v_91189, .ref (ad 10 0), .ref (ad 11 0), .ref (ad 12 0), .ref (ad 13 0), .int v_91191, .ref (ad 14 0)]) (v := .int v_91212) p_ad_0_0 rfl rfl rfl (Nat.le_of_ble_eq_true rfl) dX12_text_36 (fun f_91230 H locs ef_91230 Y => ?_)
      have p_ad_4_0 := p_ad_4_0.up ef_91230 (I.ne (k := 4) (j := 0) (k' := 0) (j' := 0) (by decide) (by decide) (Or.inl (by decide)))
      have p_ad_0_0 := p_ad_0_0.me ef_91230
      have I := I.upS (sp' := spM (T3 (IA 0 0 14 9999 w)) ((gp2, (pp (nN : Int)), (pp rr.1), (pp (tkPI (bI bT) nN rr.2)), (EQ bT)) : PIT) TX LDa) (k := 0) (j := 0) (by decide) ef_91230 (okE_o (okFs_c okV_r (okFs_c okV_r (okFs_c okV_r (okFs_c okV_r (okFs_c (okV_p bfc91224_4) (okFs_c (okV_p (lim_mk (bn_w er_91210 (by decide) : bn (-2147483648) 2147483647 r_91210) hr1)) (okFs_c (okV_p (lim_mk (bn_w bfc91224_8 (by decide) : bn (-2147483648) 2147483647 v_91212) hp1)) (okFs_c (okV_i bfc91224_7) (okFs_c (okV_i bfc91224_8) (okFs_c (okV_i (bn_any _)) (okFs_c (okV_i (bn_any _)) (okFs_c okV_l (okFs_c (okV_i bfc91224_12) (okFs_c (okV_i bfc91224_13) (okFs_c (okV_i (bn_any _)) (okFs_c okV_r (okFs_c okV_r (okFs_c (okV_i bfc91224_17) (okFs_c (okV_i bfc91224_18) (okFs_c (okV_i bfc91224_19) (okFs_c (okV_i bfc91224_20) (okFs_c (okV_i (bn_any _)) (okFs_c okV_r (okFs_c okV_r (okFs_c okV_r (okFs_c (okV_i bfc91224_25) (okFs_c okV_r (okFs_c okV_r (okFs_c okV_r (okFs_c okV_r (okFs_c (okV_i (bn_any _)) (okFs_c okV_r okFs_n))))))))))))))))))))))))))))))))) pVC
      refine lv_aload_n hx hb dX12_text_39 rfl (lv_at hl 0 rfl) ?_
      refine lv_iconst (v := 0) hx hb dX12_text_40 (by decide) ?_
      refine pg_put S Y ok_X12 4 (by decide) kf12_81 rfl (fs' := [.ref (ad 1 0), .ref (ad 2 0), .ref (ad 3 0), .ref (ad 4 0), .int 0, .int r_91210, .int v_91212, .int v_91211, .int v_91212, .int v_91213, .int v_91214, .long v_91215, .int v_91216, .int v_91217, .int v_91218, .ref (ad 5 0), .ref (ad 6 0), .int v_91219, .int v_91220, .int v_91221, .int v_91222, .int v_91223, .ref (ad 7 0), .ref (ad 8 0), .ref (ad 9 0), .int v_91189, .ref (ad 10 0), .ref (ad 11 0), .ref (ad 12 0), .ref (ad 13 0), .int v_91191, .ref (ad 14 0)]) (v := .int 0) p_ad_0_0 rfl rfl rfl (Nat.le_of_ble_eq_true rfl) dX12_text_41 (fun f_91231 H locs ef_91231 Y => ?_)
      have p_ad_4_0 := p_ad_4_0.up ef_91231 (I.ne (k := 4) (j := 0) (k' := 0) (j' := 0) (by decide) (by decide) (Or.inl (by decide)))
      have p_ad_0_0 := p_ad_0_0.me ef_91231
      have I := I.upS (sp' := spM (T3 (IA 0 0 14 9999 w)) ((gp2, (pp 0), (pp rr.1), (pp (tkPI (bI bT) nN rr.2)), (EQ bT)) : PIT) TX LDa) (k := 0) (j := 0) (by decide) ef_91231 (okE_o (okFs_c okV_r (okFs_c okV_r (okFs_c okV_r (okFs_c okV_r (okFs_c (okV_p (lim_mk (bn_w (show bn 0 0 (0 : Int32) from bn_k (by decide)) (by decide) : bn 0 300 (0 : Int32)) (show (0 : Int32).toInt = 0 from rfl))) (okFs_c (okV_p (lim_mk (bn_w er_91210 (by decide) : bn (-2147483648) 2147483647 r_91210) hr1)) (okFs_c (okV_p (lim_mk (bn_w bfc91224_8 (by decide) : bn (-2147483648) 2147483647 v_91212) hp1)) (okFs_c (okV_i bfc91224_7) (okFs_c (okV_i bfc91224_8) (okFs_c (okV_i (bn_any _)) (okFs_c (okV_i (bn_any _)) (okFs_c okV_l (okFs_c (okV_i bfc91224_12) (okFs_c (okV_i bfc91224_13) (okFs_c (okV_i (bn_any _)) (okFs_c okV_r (okFs_c okV_r (okFs_c (okV_i bfc91224_17) (okFs_c (okV_i bfc91224_18) (okFs_c (okV_i bfc91224_19) (okFs_c (okV_i bfc91224_20) (okFs_c (okV_i (bn_any _)) (okFs_c okV_r (okFs_c okV_r (okFs_c okV_r (okFs_c (okV_i bfc91224_25) (okFs_c okV_r (okFs_c okV_r (okFs_c okV_r (okFs_c okV_r (okFs_c (okV_i (bn_any _)) (okFs_c okV_r okFs_n))))))))))))))))))))))))))))))))) pVC
      refine lv_aload_n hx hb dX12_text_44 rfl (lv_at hl 0 rfl) ?_
      refine pg_get S Y ok_X12 5 (by decide) kf12_22 (v := .int r_91210) p_ad_0_0 rfl dX12_text_45 ?_
      refine lv_if_eq (tgt := 53) hx hb dX12_text_48 (by decide) (fun h => absurd h c_91227) (fun _ => ?_)
      obtain ⟨g_91232, p_ad_1_0, o_91233⟩ := I.opi (k := 1) (j := 0) (by decide) rfl
      have p_ad_1_0 : pt L_91208 f_91231 (ad 1 0) (.inl (G.2 0, 10568, .inl g_91232)) := p_ad_1_0
      have o_91234 : (IA 0 0 14 9999 w) g_91232 := o_91233.1
      have I := I.castS (sp' := spM (IA 0 0 14 9999 w) ((gp2, (pp 0), (pp rr.1), (pp (tkPI (bI bT) nN rr.2)), (EQ bT)) : PIT) TX LDa) (k := 1) (j := 0) (by decide) p_ad_1_0 (okE_a (g := g_91232) o_91234) pAC
      obtain ⟨g_91235, p_ad_3_0, o_91236⟩ := I.opi (k := 3) (j := 0) (by decide) rfl
      have p_ad_3_0 : pt L_91208 f_91231 (ad 3 0) (.inl (G.2 0, 2916, .inl g_91235)) := p_ad_3_0
      have o_91237 : (EQ g_91235) g_91235 := rfl
      have I := I.castS (sp' := spM (IA 0 0 14 9999 w) ((gp2, (pp 0), (pp rr.1), (pp (tkPI (bI bT) nN rr.2)), (EQ bT)) : PIT) (EQ g_91235) LDa) (k := 3) (j := 0) (by decide) p_ad_3_0 (okE_a (g := g_91235) o_91237) pXC
      refine lv_iconst (v := (-1)) hx hb dX12_text_51 (by decide) ?_
      exact prI (post := fun r L1 f1 => ∃ w2 : WW, ∃ g2 : Nat → Int32, ∃ n2 : Int, ∃ fk2 : Int, ∃ fp2 : Int, SH (spM (IA 0 0 14 9999 w2) ((gp2, (pp n2), (pp fk2), (pp fp2), (EQ bT)) : PIT) (EQ g2) LDa) nnM G ad L1 f1 ∧ TX g2 ∧ (w2.1 = w.1 ∧ ∀ k, k ≠ 1 → w2.2 k = w.2 k) ∧ BBp 0 0 14 9999 w2 ∧ TXP (bI bT) nN (w.2 1).toInt (w2.2 1).toInt n2 kF pF fk2 fp2 r.toInt) S Y rfl (by decide) (by decide) hA1 ⟨w, g_91235, 0, rr.1, (tkPI (bI bT) nN rr.2), I, o_91236, ⟨rfl, fun _ _ => rfl⟩, hB, (txm_n hc1 (bn_w B_91200 (by decide) : bn 0 3 v_91198) hRR hr1 c_91227)⟩ dX12_text_52
    · have B_91229 : bn 0 0 r_91210 := bn_w (bn_eq c_91227 (show bn 0 0 (0 : Int32) from bn_k (by decide))) (by decide)
      refine lv_iconst (v := (-1)) hx hb dX12_text_28 (by decide) ?_
      refine lv_goto (tgt := 36) hx hb dX12_text_29 (by decide) ?_
      refine pg_put S Y ok_X12 6 (by decide) kf12_26 rfl (fs' := [.ref (ad 1 0), .ref (ad 2 0), .ref (ad 3 0), .ref (ad 4 0), .int v_91158, .int r_91210, .int (-1), .int v_91211, .int v_91212, .int v_91213, .int v_91214, .long v_91215, .int v_91216, .int v_91217, .int v_91218, .ref (ad 5 0), .ref (ad 6 0), .int v_91219, .int v_91220, .int v_91221, .int v_91222, .int v_91223, .ref (ad 7 0), .ref (ad 8 0), .ref (ad 9 0), .int v_91189, .ref (ad 10 0), .ref (ad 11 0), .ref (ad 12 0), .ref (ad 13 0), .int v_91191, .ref (ad 14 0)]) (v := .int (-1)) p_ad_0_0 rfl rfl rfl (Nat.le_of_ble_eq_true rfl) dX12_text_36 (fun f_91238 H locs ef_91238 Y => ?_)
      have p_ad_4_0 := p_ad_4_0.up ef_91238 (I.ne (k := 4) (j := 0) (k' := 0) (j' := 0) (by decide) (by decide) (Or.inl (by decide)))
      have p_ad_0_0 := p_ad_0_0.me ef_91238
      have I := I.upS (sp' := spM (T3 (IA 0 0 14 9999 w)) ((gp2, (pp (nN : Int)), (pp rr.1), (pp (-1)), (EQ bT)) : PIT) TX LDa) (k := 0) (j := 0) (by decide) ef_91238 (okE_o (okFs_c okV_r (okFs_c okV_r (okFs_c okV_r (okFs_c okV_r (okFs_c (okV_p bfc91224_4) (okFs_c (okV_p (lim_mk (bn_w er_91210 (by decide) : bn (-2147483648) 2147483647 r_91210) hr1)) (okFs_c (okV_p (lim_mk (bn_w (show bn (-1) (-1) ((-1) : Int32) from bn_k (by decide)) (by decide) : bn (-2147483648) 2147483647 ((-1) : Int32)) (show ((-1) : Int32).toInt = (-1) from rfl))) (okFs_c (okV_i bfc91224_7) (okFs_c (okV_i bfc91224_8) (okFs_c (okV_i (bn_any _)) (okFs_c (okV_i (bn_any _)) (okFs_c okV_l (okFs_c (okV_i bfc91224_12) (okFs_c (okV_i bfc91224_13) (okFs_c (okV_i (bn_any _)) (okFs_c okV_r (okFs_c okV_r (okFs_c (okV_i bfc91224_17) (okFs_c (okV_i bfc91224_18) (okFs_c (okV_i bfc91224_19) (okFs_c (okV_i bfc91224_20) (okFs_c (okV_i (bn_any _)) (okFs_c okV_r (okFs_c okV_r (okFs_c okV_r (okFs_c (okV_i bfc91224_25) (okFs_c okV_r (okFs_c okV_r (okFs_c okV_r (okFs_c okV_r (okFs_c (okV_i (bn_any _)) (okFs_c okV_r okFs_n))))))))))))))))))))))))))))))))) pVC
      refine lv_aload_n hx hb dX12_text_39 rfl (lv_at hl 0 rfl) ?_
      refine lv_iconst (v := 0) hx hb dX12_text_40 (by decide) ?_
      refine pg_put S Y ok_X12 4 (by decide) kf12_81 rfl (fs' := [.ref (ad 1 0), .ref (ad 2 0), .ref (ad 3 0), .ref (ad 4 0), .int 0, .int r_91210, .int (-1), .int v_91211, .int v_91212, .int v_91213, .int v_91214, .long v_91215, .int v_91216, .int v_91217, .int v_91218, .ref (ad 5 0), .ref (ad 6 0), .int v_91219, .int v_91220, .int v_91221, .int v_91222, .int v_91223, .ref (ad 7 0), .ref (ad 8 0), .ref (ad 9 0), .int v_91189, .ref (ad 10 0), .ref (ad 11 0), .ref (ad 12 0), .ref (ad 13 0), .int v_91191, .ref (ad 14 0)]) (v := .int 0) p_ad_0_0 rfl rfl rfl (Nat.le_of_ble_eq_true rfl) dX12_text_41 (fun f_91239 H locs ef_91239 Y => ?_)
      have p_ad_4_0 := p_ad_4_0.up ef_91239 (I.ne (k := 4) (j := 0) (k' := 0) (j' := 0) (by decide) (by decide) (Or.inl (by decide)))
      have p_ad_0_0 := p_ad_0_0.me ef_91239
      have I := I.upS (sp' := spM (T3 (IA 0 0 14 9999 w)) ((gp2, (pp 0), (pp rr.1), (pp (-1)), (EQ bT)) : PIT) TX LDa) (k := 0) (j := 0) (by decide) ef_91239 (okE_o (okFs_c okV_r (okFs_c okV_r (okFs_c okV_r (okFs_c okV_r (okFs_c (okV_p (lim_mk (bn_w (show bn 0 0 (0 : Int32) from bn_k (by decide)) (by decide) : bn 0 300 (0 : Int32)) (show (0 : Int32).toInt = 0 from rfl))) (okFs_c (okV_p (lim_mk (bn_w er_91210 (by decide) : bn (-2147483648) 2147483647 r_91210) hr1)) (okFs_c (okV_p (lim_mk (bn_w (show bn (-1) (-1) ((-1) : Int32) from bn_k (by decide)) (by decide) : bn (-2147483648) 2147483647 ((-1) : Int32)) (show ((-1) : Int32).toInt = (-1) from rfl))) (okFs_c (okV_i bfc91224_7) (okFs_c (okV_i bfc91224_8) (okFs_c (okV_i (bn_any _)) (okFs_c (okV_i (bn_any _)) (okFs_c okV_l (okFs_c (okV_i bfc91224_12) (okFs_c (okV_i bfc91224_13) (okFs_c (okV_i (bn_any _)) (okFs_c okV_r (okFs_c okV_r (okFs_c (okV_i bfc91224_17) (okFs_c (okV_i bfc91224_18) (okFs_c (okV_i bfc91224_19) (okFs_c (okV_i bfc91224_20) (okFs_c (okV_i (bn_any _)) (okFs_c okV_r (okFs_c okV_r (okFs_c okV_r (okFs_c (okV_i bfc91224_25) (okFs_c okV_r (okFs_c okV_r (okFs_c okV_r (okFs_c okV_r (okFs_c (okV_i (bn_any _)) (okFs_c okV_r okFs_n))))))))))))))))))))))))))))))))) pVC
      refine lv_aload_n hx hb dX12_text_44 rfl (lv_at hl 0 rfl) ?_
      refine pg_get S Y ok_X12 5 (by decide) kf12_22 (v := .int r_91210) p_ad_0_0 rfl dX12_text_45 ?_
      refine lv_if_eq (tgt := 53) hx hb dX12_text_48 (by decide) (fun _ => ?_) (fun h => absurd c_91227 h)
      obtain ⟨g_91240, p_ad_1_0, o_91241⟩ := I.opi (k := 1) (j := 0) (by decide) rfl
      have p_ad_1_0 : pt L_91208 f_91239 (ad 1 0) (.inl (G.2 0, 10568, .inl g_91240)) := p_ad_1_0
      have o_91242 : (IA 0 0 14 9999 w) g_91240 := o_91241.1
      have I := I.castS (sp' := spM (IA 0 0 14 9999 w) ((gp2, (pp 0), (pp rr.1), (pp (-1)), (EQ bT)) : PIT) TX LDa) (k := 1) (j := 0) (by decide) p_ad_1_0 (okE_a (g := g_91240) o_91242) pAC
      obtain ⟨g_91243, p_ad_3_0, o_91244⟩ := I.opi (k := 3) (j := 0) (by decide) rfl
      have p_ad_3_0 : pt L_91208 f_91239 (ad 3 0) (.inl (G.2 0, 2916, .inl g_91243)) := p_ad_3_0
      have o_91245 : (EQ g_91243) g_91243 := rfl
      have I := I.castS (sp' := spM (IA 0 0 14 9999 w) ((gp2, (pp 0), (pp rr.1), (pp (-1)), (EQ bT)) : PIT) (EQ g_91243) LDa) (k := 3) (j := 0) (by decide) p_ad_3_0 (okE_a (g := g_91243) o_91245) pXC
      refine lv_aload_n hx hb dX12_text_53 rfl (lv_at hl 0 rfl) ?_
      refine pg_get S Y ok_X12 0 (by decide) kf12_7 (v := .ref (ad 1 0)) p_ad_0_0 rfl dX12_text_54 ?_
      refine lv_iconst (v := 1) hx hb dX12_text_57 (by decide) ?_
      refine lv_dup2_11 hx hb dX12_text_58 rfl rfl ?_
      obtain ⟨v_91246, ev_91246⟩ : ∃ z, z = g_91240 (1 : Int32).toNatClampNeg := ⟨_, rfl⟩
      refine pg_iald S Y (v := v_91246) p_ad_1_0 (by unfold vp_in; decide) ev_91246.symm dX12_text_59 ?_
      have bv_91246 : bn 0 4 v_91246 := bn_eq ev_91246 (IA_1 o_91242)
      have B_91247 : bn 0 3 v_91246 := by rw [ev_91246]; exact o_91241.2
      have hc3 : v_91246 = w.2 1 := (show v_91246 = g_91240 1 from ev_91246).trans (IA_c o_91241.1)
      refine lv_iconst (v := 1) hx hb dX12_text_60 (by decide) ?_
      refine lv_iadd hx hb dX12_text_61 ?_
      refine lv_topi (fun x_91248 ex_91248 => ?_)
      refine pg_iast S Y p_ad_1_0 (by unfold vp_in; decide) dX12_text_62 (fun f_91250 H locs ef_91250 Y => ?_)
      obtain ⟨g_91249, eg_91249⟩ : ∃ z, z = upd (g_91240) (1 : Int32).toNatClampNeg x_91248 := ⟨_, rfl⟩
      rw [← eg_91249] at ef_91250
      have p_ad_0_0 := p_ad_0_0.up ef_91250 (I.ne (k := 0) (j := 0) (k' := 1) (j' := 0) (by decide) (by decide) (Or.inl (by decide)))
      have p_ad_4_0 := p_ad_4_0.up ef_91250 (I.ne (k := 4) (j := 0) (k' := 1) (j' := 0) (by decide) (by decide) (Or.inl (by decide)))
      have p_ad_3_0 := p_ad_3_0.up ef_91250 (I.ne (k := 3) (j := 0) (k' := 1) (j' := 0) (by decide) (by decide) (Or.inl (by decide)))
      have p_ad_1_0 := p_ad_1_0.me ef_91250
      have o_91251 : (IA 0 0 14 9999 (((w.1, upd w.2 1 x_91248) : (Int × Int) × (Nat → Int32)) : WW)) g_91249 := (by rw [eg_91249]; exact IA_s1 o_91242 (bn_w (bn_eq ex_91248 (bn_add B_91247 (show bn 1 1 (1 : Int32) from bn_k (by decide)) (by decide))) (by decide)))
      have I := I.upS (sp' := spM (IA 0 0 14 9999 (((w.1, upd w.2 1 x_91248) : (Int × Int) × (Nat → Int32)) : WW)) ((gp2, (pp 0), (pp rr.1), (pp (-1)), (EQ bT)) : PIT) (EQ g_91243) LDa) (k := 1) (j := 0) (by decide) ef_91250 (okE_a (g := g_91249) o_91251) pAC
      have q_91252 : g_91249 (1 : Int32).toNatClampNeg = x_91248 := by rw [eg_91249]; exact pk_us
      refine lv_aload_n hx hb dX12_text_63 rfl (lv_at hl 0 rfl) ?_
      refine pg_get S Y ok_X12 0 (by decide) kf12_7 (v := .ref (ad 1 0)) p_ad_0_0 rfl dX12_text_64 ?_
      refine lv_iconst (v := 1) hx hb dX12_text_67 (by decide) ?_
      refine pg_iald S Y (v := x_91248) p_ad_1_0 (by unfold vp_in; decide) q_91252 dX12_text_68 ?_
      refine lv_iconst (v := 1) hx hb dX12_text_69 (by decide) ?_
      refine lv_isub hx hb dX12_text_70 ?_
      refine lv_topi (fun x_91253 ex_91253 => ?_)
      exact prI (post := fun r L1 f1 => ∃ w2 : WW, ∃ g2 : Nat → Int32, ∃ n2 : Int, ∃ fk2 : Int, ∃ fp2 : Int, SH (spM (IA 0 0 14 9999 w2) ((gp2, (pp n2), (pp fk2), (pp fp2), (EQ bT)) : PIT) (EQ g2) LDa) nnM G ad L1 f1 ∧ TX g2 ∧ (w2.1 = w.1 ∧ ∀ k, k ≠ 1 → w2.2 k = w.2 k) ∧ BBp 0 0 14 9999 w2 ∧ TXP (bI bT) nN (w.2 1).toInt (w2.2 1).toInt n2 kF pF fk2 fp2 r.toInt) S Y rfl (by decide) (by decide) hA1 ⟨(((w.1, upd w.2 1 x_91248) : (Int × Int) × (Nat → Int32)) : WW), g_91243, 0, rr.1, (-1), I, o_91244, ⟨rfl, fun k hk => (pk_un hk)⟩, (show BBp 0 0 14 9999 (((w.1, upd w.2 1 x_91248) : (Int × Int) × (Nat → Int32)) : WW) from hB), (txm_y (x := x_91248) hc3 B_91247 hRR hr1 c_91227 (by have z9 := (la_add ex_91248 (rfl : v_91246.toInt = v_91246.toInt) (show (1 : Int32).toInt = 1 from rfl) B_91247 (show bn 1 1 (1 : Int32) from bn_k (by decide)) (by decide)); omega) (by have z9 := (la_sub ex_91253 (la_add ex_91248 (rfl : v_91246.toInt = v_91246.toInt) (show (1 : Int32).toInt = 1 from rfl) B_91247 (show bn 1 1 (1 : Int32) from bn_k (by decide)) (by decide)) (show (1 : Int32).toInt = 1 from rfl) (bn_eq ex_91248 (bn_add B_91247 (show bn 1 1 (1 : Int32) from bn_k (by decide)) (by decide))) (show bn 1 1 (1 : Int32) from bn_k (by decide)) (by decide)); omega))⟩ dX12_text_71
  · have B_91201 : bn 4 4 v_91198 := bn_w (bn_eq c_91199 (show bn 4 4 (4 : Int32) from bn_k (by decide))) (by decide)
    refine lv_iconst (v := (-1)) hx hb dX12_text_10 (by decide) ?_
    exact prI (post := fun r L1 f1 => ∃ w2 : WW, ∃ g2 : Nat → Int32, ∃ n2 : Int, ∃ fk2 : Int, ∃ fp2 : Int, SH (spM (IA 0 0 14 9999 w2) ((gp2, (pp n2), (pp fk2), (pp fp2), (EQ bT)) : PIT) (EQ g2) LDa) nnM G ad L1 f1 ∧ TX g2 ∧ (w2.1 = w.1 ∧ ∀ k, k ≠ 1 → w2.2 k = w.2 k) ∧ BBp 0 0 14 9999 w2 ∧ TXP (bI bT) nN (w.2 1).toInt (w2.2 1).toInt n2 kF pF fk2 fp2 r.toInt) S Y rfl (by decide) (by decide) hA1 ⟨w, g0, (nN : Int), kF, pF, I, hX, ⟨rfl, fun _ _ => rfl⟩, hB, (txm_f ((show v_91198 = g_91196 1 from ev_91198).trans (IA_c o_91197)) c_91199)⟩ dX12_text_11
