theorem dX12_beginOne_0 : decode cX12_beginOne 0 = .ok (.aload_n 0, 1) := by decide +kernel
theorem dX12_beginOne_1 : decode cX12_beginOne 1 = .ok (.getfield 98, 3) := by decide +kernel
theorem dX12_beginOne_4 : decode cX12_beginOne 4 = .ok (.iconst 1, 1) := by decide +kernel
theorem dX12_beginOne_5 : decode cX12_beginOne 5 = .ok (.if_icmp .ne 15, 3) := by decide +kernel
theorem dX12_beginOne_20 : decode cX12_beginOne 20 = .ok (.aload_n 0, 1) := by decide +kernel
theorem dX12_beginOne_21 : decode cX12_beginOne 21 = .ok (.invokevirtual 172, 3) := by decide +kernel
theorem cw_X12_nameOf : CWv yX12_nameOf cX12_nameOf 1 (some .int) 0 := ⟨⟨⟨List.mem_of_getElem? (i := 137) (by decide +kernel), by decide +kernel⟩, ⟨List.mem_of_getElem? (i := 1756) (by decide +kernel), by decide +kernel⟩, by decide +kernel⟩, ⟨List.mem_of_getElem? (i := 1755) (by decide +kernel), by decide +kernel⟩, ⟨List.mem_of_getElem? (i := 75) (by decide +kernel), by decide +kernel⟩⟩
theorem km12_172 : inW (Cond.methodLink RX12 172 yX12_nameOf) := ⟨List.mem_of_getElem? (i := 1753) (by decide +kernel), by decide +kernel⟩
theorem dX12_beginOne_24 : decode cX12_beginOne 24 = .ok (.istore_n 1, 1) := by decide +kernel
theorem dX12_beginOne_25 : decode cX12_beginOne 25 = .ok (.iload_n 1, 1) := by decide +kernel
theorem dX12_beginOne_26 : decode cX12_beginOne 26 = .ok (.iconst 4, 1) := by decide +kernel
theorem dX12_beginOne_27 : decode cX12_beginOne 27 = .ok (.if_icmp .le 13, 3) := by decide +kernel
theorem dX12_beginOne_40 : decode cX12_beginOne 40 = .ok (.aload_n 0, 1) := by decide +kernel
theorem dX12_beginOne_41 : decode cX12_beginOne 41 = .ok (.getfield 98, 3) := by decide +kernel
theorem dX12_beginOne_44 : decode cX12_beginOne 44 = .ok (.iconst 1, 1) := by decide +kernel
theorem dX12_beginOne_45 : decode cX12_beginOne 45 = .ok (.if_icmp .eq 7, 3) := by decide +kernel
theorem dX12_beginOne_48 : decode cX12_beginOne 48 = .ok (.iload_n 1, 1) := by decide +kernel
theorem dX12_beginOne_49 : decode cX12_beginOne 49 = .ok (.ifCond .lt 53, 3) := by decide +kernel
theorem dX12_beginOne_102 : decode cX12_beginOne 102 = .ok (.aload_n 0, 1) := by decide +kernel
theorem dX12_beginOne_103 : decode cX12_beginOne 103 = .ok (.getfield 98, 3) := by decide +kernel
theorem dX12_beginOne_106 : decode cX12_beginOne 106 = .ok (.bipush 40, 2) := by decide +kernel
theorem dX12_beginOne_108 : decode cX12_beginOne 108 = .ok (.if_icmp .ne 10, 3) := by decide +kernel
theorem dX12_beginOne_118 : decode cX12_beginOne 118 = .ok (.aload_n 0, 1) := by decide +kernel
theorem dX12_beginOne_119 : decode cX12_beginOne 119 = .ok (.getfield 98, 3) := by decide +kernel
theorem dX12_beginOne_122 : decode cX12_beginOne 122 = .ok (.bipush 45, 2) := by decide +kernel
theorem dX12_beginOne_124 : decode cX12_beginOne 124 = .ok (.if_icmp .ne 9, 3) := by decide +kernel
theorem dX12_beginOne_133 : decode cX12_beginOne 133 = .ok (.aload_n 0, 1) := by decide +kernel
theorem dX12_beginOne_134 : decode cX12_beginOne 134 = .ok (.bipush 109, 2) := by decide +kernel
theorem dX12_beginOne_136 : decode cX12_beginOne 136 = .ok (.bipush 97, 2) := by decide +kernel
theorem dX12_beginOne_138 : decode cX12_beginOne 138 = .ok (.bipush 114, 2) := by decide +kernel
theorem dX12_beginOne_140 : decode cX12_beginOne 140 = .ok (.bipush 107, 2) := by decide +kernel
theorem dX12_beginOne_142 : decode cX12_beginOne 142 = .ok (.bipush 115, 2) := by decide +kernel
theorem dX12_beginOne_144 : decode cX12_beginOne 144 = .ok (.invokestatic 132, 3) := by decide +kernel
theorem dX12_beginOne_147 : decode cX12_beginOne 147 = .ok (.invokevirtual 187, 3) := by decide +kernel
theorem dX12_beginOne_150 : decode cX12_beginOne 150 = .ok (.ifCond .eq 9, 3) := by decide +kernel
theorem dX12_beginOne_159 : decode cX12_beginOne 159 = .ok (.aload_n 0, 1) := by decide +kernel
theorem dX12_beginOne_160 : decode cX12_beginOne 160 = .ok (.bipush 105, 2) := by decide +kernel
theorem dX12_beginOne_162 : decode cX12_beginOne 162 = .ok (.bipush 102, 2) := by decide +kernel
theorem dX12_beginOne_164 : decode cX12_beginOne 164 = .ok (.invokestatic 120, 3) := by decide +kernel
theorem dX12_beginOne_167 : decode cX12_beginOne 167 = .ok (.invokevirtual 187, 3) := by decide +kernel
theorem dX12_beginOne_170 : decode cX12_beginOne 170 = .ok (.ifCond .eq 10, 3) := by decide +kernel
theorem dX12_beginOne_180 : decode cX12_beginOne 180 = .ok (.aload_n 0, 1) := by decide +kernel
theorem dX12_beginOne_181 : decode cX12_beginOne 181 = .ok (.invokevirtual 191, 3) := by decide +kernel
theorem cw_X12_isAskAhead : CWv yX12_isAskAhead cX12_isAskAhead 1 (some .boolean) 0 := ⟨⟨⟨List.mem_of_getElem? (i := 137) (by decide +kernel), by decide +kernel⟩, ⟨List.mem_of_getElem? (i := 1764) (by decide +kernel), by decide +kernel⟩, by decide +kernel⟩, ⟨List.mem_of_getElem? (i := 1763) (by decide +kernel), by decide +kernel⟩, ⟨List.mem_of_getElem? (i := 77) (by decide +kernel), by decide +kernel⟩⟩
theorem km12_191 : inW (Cond.methodLink RX12 191 yX12_isAskAhead) := ⟨List.mem_of_getElem? (i := 1761) (by decide +kernel), by decide +kernel⟩
theorem dX12_beginOne_184 : decode cX12_beginOne 184 = .ok (.ifCond .ne 5, 3) := by decide +kernel
theorem dX12_beginOne_189 : decode cX12_beginOne 189 = .ok (.aload_n 0, 1) := by decide +kernel
theorem dX12_beginOne_190 : decode cX12_beginOne 190 = .ok (.bipush 110, 2) := by decide +kernel
theorem dX12_beginOne_192 : decode cX12_beginOne 192 = .ok (.bipush 111, 2) := by decide +kernel
theorem dX12_beginOne_194 : decode cX12_beginOne 194 = .ok (.bipush 116, 2) := by decide +kernel
theorem dX12_beginOne_196 : decode cX12_beginOne 196 = .ok (.invokestatic 124, 3) := by decide +kernel
theorem dX12_beginOne_199 : decode cX12_beginOne 199 = .ok (.invokevirtual 187, 3) := by decide +kernel
theorem dX12_beginOne_202 : decode cX12_beginOne 202 = .ok (.ifCond .eq 12, 3) := by decide +kernel
theorem dX12_beginOne_214 : decode cX12_beginOne 214 = .ok (.aload_n 0, 1) := by decide +kernel
theorem dX12_beginOne_215 : decode cX12_beginOne 215 = .ok (.bipush 106, 2) := by decide +kernel
theorem dX12_beginOne_217 : decode cX12_beginOne 217 = .ok (.bipush 117, 2) := by decide +kernel
theorem dX12_beginOne_219 : decode cX12_beginOne 219 = .ok (.bipush 115, 2) := by decide +kernel
theorem dX12_beginOne_221 : decode cX12_beginOne 221 = .ok (.bipush 116, 2) := by decide +kernel
theorem dX12_beginOne_223 : decode cX12_beginOne 223 = .ok (.invokestatic 128, 3) := by decide +kernel
theorem dX12_beginOne_226 : decode cX12_beginOne 226 = .ok (.invokevirtual 187, 3) := by decide +kernel
theorem dX12_beginOne_229 : decode cX12_beginOne 229 = .ok (.ifCond .eq 12, 3) := by decide +kernel
theorem dX12_beginOne_241 : decode cX12_beginOne 241 = .ok (.iconst 1, 1) := by decide +kernel
theorem dX12_beginOne_242 : decode cX12_beginOne 242 = .ok (.ireturn, 1) := by decide +kernel
theorem dX12_beginOne_232 : decode cX12_beginOne 232 = .ok (.aload_n 0, 1) := by decide +kernel
theorem dX12_beginOne_233 : decode cX12_beginOne 233 = .ok (.bipush 44, 2) := by decide +kernel
theorem dX12_beginOne_235 : decode cX12_beginOne 235 = .ok (.invokevirtual 184, 3) := by decide +kernel
theorem cw_X12_opened : CWv yX12_opened cX12_opened 2 (some .int) 1 := ⟨⟨⟨List.mem_of_getElem? (i := 137) (by decide +kernel), by decide +kernel⟩, ⟨List.mem_of_getElem? (i := 1760) (by decide +kernel), by decide +kernel⟩, by decide +kernel⟩, ⟨List.mem_of_getElem? (i := 1759) (by decide +kernel), by decide +kernel⟩, ⟨List.mem_of_getElem? (i := 76) (by decide +kernel), by decide +kernel⟩⟩
theorem km12_184 : inW (Cond.methodLink RX12 184 yX12_opened) := ⟨List.mem_of_getElem? (i := 1757) (by decide +kernel), by decide +kernel⟩
theorem dX12_beginOne_238 : decode cX12_beginOne 238 = .ok (.goto 4, 3) := by decide +kernel
theorem dX12_beginOne_205 : decode cX12_beginOne 205 = .ok (.aload_n 0, 1) := by decide +kernel
theorem dX12_beginOne_206 : decode cX12_beginOne 206 = .ok (.bipush 20, 2) := by decide +kernel
theorem dX12_beginOne_208 : decode cX12_beginOne 208 = .ok (.invokevirtual 184, 3) := by decide +kernel
theorem dX12_beginOne_211 : decode cX12_beginOne 211 = .ok (.goto 31, 3) := by decide +kernel
theorem dX12_beginOne_187 : decode cX12_beginOne 187 = .ok (.iconst 1, 1) := by decide +kernel
theorem dX12_beginOne_188 : decode cX12_beginOne 188 = .ok (.ireturn, 1) := by decide +kernel
theorem dX12_beginOne_173 : decode cX12_beginOne 173 = .ok (.aload_n 0, 1) := by decide +kernel
theorem dX12_beginOne_174 : decode cX12_beginOne 174 = .ok (.bipush 41, 2) := by decide +kernel
theorem dX12_beginOne_176 : decode cX12_beginOne 176 = .ok (.invokevirtual 184, 3) := by decide +kernel
theorem dX12_beginOne_179 : decode cX12_beginOne 179 = .ok (.ireturn, 1) := by decide +kernel
theorem dX12_beginOne_153 : decode cX12_beginOne 153 = .ok (.aload_n 0, 1) := by decide +kernel
theorem dX12_beginOne_154 : decode cX12_beginOne 154 = .ok (.iconst 2, 1) := by decide +kernel
theorem dX12_beginOne_155 : decode cX12_beginOne 155 = .ok (.invokevirtual 184, 3) := by decide +kernel
theorem dX12_beginOne_158 : decode cX12_beginOne 158 = .ok (.ireturn, 1) := by decide +kernel
theorem dX12_beginOne_127 : decode cX12_beginOne 127 = .ok (.aload_n 0, 1) := by decide +kernel
theorem dX12_beginOne_128 : decode cX12_beginOne 128 = .ok (.iconst 5, 1) := by decide +kernel
theorem dX12_beginOne_129 : decode cX12_beginOne 129 = .ok (.invokevirtual 184, 3) := by decide +kernel
theorem dX12_beginOne_132 : decode cX12_beginOne 132 = .ok (.ireturn, 1) := by decide +kernel
theorem dX12_beginOne_111 : decode cX12_beginOne 111 = .ok (.aload_n 0, 1) := by decide +kernel
theorem dX12_beginOne_112 : decode cX12_beginOne 112 = .ok (.bipush 40, 2) := by decide +kernel
theorem dX12_beginOne_114 : decode cX12_beginOne 114 = .ok (.invokevirtual 184, 3) := by decide +kernel
theorem dX12_beginOne_117 : decode cX12_beginOne 117 = .ok (.ireturn, 1) := by decide +kernel
theorem dX12_beginOne_52 : decode cX12_beginOne 52 = .ok (.aload_n 0, 1) := by decide +kernel
theorem dX12_beginOne_53 : decode cX12_beginOne 53 = .ok (.aload_n 0, 1) := by decide +kernel
theorem dX12_beginOne_54 : decode cX12_beginOne 54 = .ok (.getfield 98, 3) := by decide +kernel
theorem dX12_beginOne_57 : decode cX12_beginOne 57 = .ok (.iconst 1, 1) := by decide +kernel
theorem dX12_beginOne_58 : decode cX12_beginOne 58 = .ok (.if_icmp .ne 7, 3) := by decide +kernel
theorem dX12_beginOne_65 : decode cX12_beginOne 65 = .ok (.iconst 1, 1) := by decide +kernel
theorem dX12_beginOne_66 : decode cX12_beginOne 66 = .ok (.aload_n 0, 1) := by decide +kernel
theorem dX12_beginOne_67 : decode cX12_beginOne 67 = .ok (.getfield 98, 3) := by decide +kernel
theorem dX12_beginOne_70 : decode cX12_beginOne 70 = .ok (.iconst 1, 1) := by decide +kernel
theorem dX12_beginOne_71 : decode cX12_beginOne 71 = .ok (.if_icmp .ne 10, 3) := by decide +kernel
theorem dX12_beginOne_81 : decode cX12_beginOne 81 = .ok (.iload_n 1, 1) := by decide +kernel
theorem dX12_beginOne_82 : decode cX12_beginOne 82 = .ok (.invokevirtual 148, 3) := by decide +kernel
theorem dX12_beginOne_85 : decode cX12_beginOne 85 = .ok (.aload_n 0, 1) := by decide +kernel
theorem dX12_beginOne_86 : decode cX12_beginOne 86 = .ok (.invokevirtual 166, 3) := by decide +kernel
theorem dX12_beginOne_89 : decode cX12_beginOne 89 = .ok (.aload_n 0, 1) := by decide +kernel
theorem dX12_beginOne_90 : decode cX12_beginOne 90 = .ok (.iconst 1, 1) := by decide +kernel
theorem dX12_beginOne_91 : decode cX12_beginOne 91 = .ok (.putfield 178, 3) := by decide +kernel
theorem kf12_178 : inW (Cond.fieldLink RX12 178 "KneeOathsModel" "isWhole" "Z") := ⟨List.mem_of_getElem? (i := 1518) (by decide +kernel), by decide +kernel⟩
theorem dX12_beginOne_94 : decode cX12_beginOne 94 = .ok (.aload_n 0, 1) := by decide +kernel
theorem dX12_beginOne_95 : decode cX12_beginOne 95 = .ok (.bipush 7, 2) := by decide +kernel
theorem dX12_beginOne_97 : decode cX12_beginOne 97 = .ok (.invokevirtual 181, 3) := by decide +kernel
theorem dX12_beginOne_100 : decode cX12_beginOne 100 = .ok (.iconst 0, 1) := by decide +kernel
theorem dX12_beginOne_101 : decode cX12_beginOne 101 = .ok (.ireturn, 1) := by decide +kernel
theorem dX12_beginOne_30 : decode cX12_beginOne 30 = .ok (.aload_n 0, 1) := by decide +kernel
theorem dX12_beginOne_31 : decode cX12_beginOne 31 = .ok (.getfield 175, 3) := by decide +kernel
theorem kf12_175 : inW (Cond.fieldLink RX12 175 "KneeOathsModel" "sort0" "I") := ⟨List.mem_of_getElem? (i := 1512) (by decide +kernel), by decide +kernel⟩
theorem dX12_beginOne_34 : decode cX12_beginOne 34 = .ok (.iconst 2, 1) := by decide +kernel
theorem dX12_beginOne_35 : decode cX12_beginOne 35 = .ok (.if_icmp .ne 5, 3) := by decide +kernel
theorem dX12_beginOne_38 : decode cX12_beginOne 38 = .ok (.iconst 5, 1) := by decide +kernel
theorem dX12_beginOne_39 : decode cX12_beginOne 39 = .ok (.ireturn, 1) := by decide +kernel
theorem dX12_beginOne_8 : decode cX12_beginOne 8 = .ok (.aload_n 0, 1) := by decide +kernel
theorem dX12_beginOne_9 : decode cX12_beginOne 9 = .ok (.getfield 104, 3) := by decide +kernel
theorem dX12_beginOne_12 : decode cX12_beginOne 12 = .ok (.sipush 9999, 3) := by decide +kernel
theorem dX12_beginOne_15 : decode cX12_beginOne 15 = .ok (.if_icmp .le 5, 3) := by decide +kernel
theorem dX12_beginOne_61 : decode cX12_beginOne 61 = .ok (.iconst 0, 1) := by decide +kernel
theorem dX12_beginOne_62 : decode cX12_beginOne 62 = .ok (.goto 4, 3) := by decide +kernel
theorem dX12_beginOne_74 : decode cX12_beginOne 74 = .ok (.aload_n 0, 1) := by decide +kernel
theorem dX12_beginOne_75 : decode cX12_beginOne 75 = .ok (.getfield 104, 3) := by decide +kernel
theorem dX12_beginOne_78 : decode cX12_beginOne 78 = .ok (.goto 4, 3) := by decide +kernel
theorem dX12_beginOne_18 : decode cX12_beginOne 18 = .ok (.iconst 2, 1) := by decide +kernel
theorem dX12_beginOne_19 : decode cX12_beginOne 19 = .ok (.ireturn, 1) := by decide +kernel
theorem dX12_behindOne_0 : decode cX12_behindOne 0 = .ok (.aload_n 0, 1) := by decide +kernel
theorem dX12_behindOne_1 : decode cX12_behindOne 1 = .ok (.invokevirtual 200, 3) := by decide +kernel
theorem cw_X12_betweenOf : CWv yX12_betweenOf cX12_betweenOf 2 (some .int) 0 := ⟨⟨⟨List.mem_of_getElem? (i := 137) (by decide +kernel), by decide +kernel⟩, ⟨List.mem_of_getElem? (i := 1709) (by decide +kernel), by decide +kernel⟩, by decide +kernel⟩, ⟨List.mem_of_getElem? (i := 1708) (by decide +kernel), by decide +kernel⟩, ⟨List.mem_of_getElem? (i := 64) (by decide +kernel), by decide +kernel⟩⟩
theorem km12_200 : inW (Cond.methodLink RX12 200 yX12_betweenOf) := ⟨List.mem_of_getElem? (i := 1706) (by decide +kernel), by decide +kernel⟩
theorem dX12_behindOne_4 : decode cX12_behindOne 4 = .ok (.istore_n 1, 1) := by decide +kernel
theorem dX12_behindOne_5 : decode cX12_behindOne 5 = .ok (.iload_n 1, 1) := by decide +kernel
theorem dX12_behindOne_6 : decode cX12_behindOne 6 = .ok (.ifCond .lt 54, 3) := by decide +kernel
theorem dX12_behindOne_60 : decode cX12_behindOne 60 = .ok (.aload_n 0, 1) := by decide +kernel
theorem dX12_behindOne_61 : decode cX12_behindOne 61 = .ok (.invokevirtual 159, 3) := by decide +kernel
theorem dX12_behindOne_64 : decode cX12_behindOne 64 = .ok (.istore_n 2, 1) := by decide +kernel
theorem dX12_behindOne_65 : decode cX12_behindOne 65 = .ok (.aload_n 0, 1) := by decide +kernel
theorem dX12_behindOne_66 : decode cX12_behindOne 66 = .ok (.iload_n 2, 1) := by decide +kernel
theorem dX12_behindOne_67 : decode cX12_behindOne 67 = .ok (.invokevirtual 203, 3) := by decide +kernel
theorem cw_X12_partOf : CWv yX12_partOf cX12_partOf 2 (some .int) 1 := ⟨⟨⟨List.mem_of_getElem? (i := 137) (by decide +kernel), by decide +kernel⟩, ⟨List.mem_of_getElem? (i := 1744) (by decide +kernel), by decide +kernel⟩, by decide +kernel⟩, ⟨List.mem_of_getElem? (i := 1743) (by decide +kernel), by decide +kernel⟩, ⟨List.mem_of_getElem? (i := 72) (by decide +kernel), by decide +kernel⟩⟩
theorem km12_203 : inW (Cond.methodLink RX12 203 yX12_partOf) := ⟨List.mem_of_getElem? (i := 1741) (by decide +kernel), by decide +kernel⟩
theorem dX12_behindOne_70 : decode cX12_behindOne 70 = .ok (.istore_n 3, 1) := by decide +kernel
theorem dX12_behindOne_71 : decode cX12_behindOne 71 = .ok (.iload_n 3, 1) := by decide +kernel
theorem dX12_behindOne_72 : decode cX12_behindOne 72 = .ok (.ifCond .ge 5, 3) := by decide +kernel
theorem dX12_behindOne_77 : decode cX12_behindOne 77 = .ok (.iload_n 3, 1) := by decide +kernel
theorem dX12_behindOne_78 : decode cX12_behindOne 78 = .ok (.bipush 44, 2) := by decide +kernel
theorem dX12_behindOne_80 : decode cX12_behindOne 80 = .ok (.if_icmp .ne 22, 3) := by decide +kernel
theorem dX12_behindOne_102 : decode cX12_behindOne 102 = .ok (.aload_n 0, 1) := by decide +kernel
theorem dX12_behindOne_103 : decode cX12_behindOne 103 = .ok (.iconst 1, 1) := by decide +kernel
theorem dX12_behindOne_104 : decode cX12_behindOne 104 = .ok (.invokevirtual 181, 3) := by decide +kernel
theorem dX12_behindOne_107 : decode cX12_behindOne 107 = .ok (.iload_n 3, 1) := by decide +kernel
theorem dX12_behindOne_108 : decode cX12_behindOne 108 = .ok (.ifCond .ne 10, 3) := by decide +kernel
theorem dX12_behindOne_118 : decode cX12_behindOne 118 = .ok (.iload_n 3, 1) := by decide +kernel
theorem dX12_behindOne_119 : decode cX12_behindOne 119 = .ok (.bipush 44, 2) := by decide +kernel
theorem dX12_behindOne_121 : decode cX12_behindOne 121 = .ok (.if_icmp .ne 18, 3) := by decide +kernel
theorem dX12_behindOne_139 : decode cX12_behindOne 139 = .ok (.aload_n 0, 1) := by decide +kernel
theorem dX12_behindOne_140 : decode cX12_behindOne 140 = .ok (.getfield 29, 3) := by decide +kernel
theorem dX12_behindOne_143 : decode cX12_behindOne 143 = .ok (.aload_n 0, 1) := by decide +kernel
theorem dX12_behindOne_144 : decode cX12_behindOne 144 = .ok (.invokevirtual 155, 3) := by decide +kernel
theorem dX12_behindOne_147 : decode cX12_behindOne 147 = .ok (.iload_n 3, 1) := by decide +kernel
theorem dX12_behindOne_148 : decode cX12_behindOne 148 = .ok (.iastore, 1) := by decide +kernel
theorem dX12_behindOne_149 : decode cX12_behindOne 149 = .ok (.aload_n 0, 1) := by decide +kernel
theorem dX12_behindOne_150 : decode cX12_behindOne 150 = .ok (.iconst 0, 1) := by decide +kernel
theorem dX12_behindOne_151 : decode cX12_behindOne 151 = .ok (.putfield 178, 3) := by decide +kernel
theorem dX12_behindOne_154 : decode cX12_behindOne 154 = .ok (.aload_n 0, 1) := by decide +kernel
theorem dX12_behindOne_155 : decode cX12_behindOne 155 = .ok (.invokevirtual 166, 3) := by decide +kernel
theorem dX12_behindOne_158 : decode cX12_behindOne 158 = .ok (.iconst 0, 1) := by decide +kernel
theorem dX12_behindOne_159 : decode cX12_behindOne 159 = .ok (.ireturn, 1) := by decide +kernel
theorem dX12_behindOne_111 : decode cX12_behindOne 111 = .ok (.aload_n 0, 1) := by decide +kernel
theorem dX12_behindOne_112 : decode cX12_behindOne 112 = .ok (.iload_n 2, 1) := by decide +kernel
theorem dX12_behindOne_113 : decode cX12_behindOne 113 = .ok (.invokevirtual 206, 3) := by decide +kernel
theorem cw_X12_shut : CWv yX12_shut cX12_shut 2 none 1 := ⟨⟨⟨List.mem_of_getElem? (i := 137) (by decide +kernel), by decide +kernel⟩, ⟨List.mem_of_getElem? (i := 1748) (by decide +kernel), by decide +kernel⟩, by decide +kernel⟩, ⟨List.mem_of_getElem? (i := 1747) (by decide +kernel), by decide +kernel⟩, ⟨List.mem_of_getElem? (i := 73) (by decide +kernel), by decide +kernel⟩⟩
theorem km12_206 : inW (Cond.methodLink RX12 206 yX12_shut) := ⟨List.mem_of_getElem? (i := 1745) (by decide +kernel), by decide +kernel⟩
theorem dX12_behindOne_116 : decode cX12_behindOne 116 = .ok (.iconst 0, 1) := by decide +kernel
theorem dX12_behindOne_117 : decode cX12_behindOne 117 = .ok (.ireturn, 1) := by decide +kernel
theorem dX12_behindOne_83 : decode cX12_behindOne 83 = .ok (.aload_n 0, 1) := by decide +kernel
theorem dX12_behindOne_84 : decode cX12_behindOne 84 = .ok (.getfield 32, 3) := by decide +kernel
theorem dX12_behindOne_87 : decode cX12_behindOne 87 = .ok (.aload_n 0, 1) := by decide +kernel
theorem dX12_behindOne_88 : decode cX12_behindOne 88 = .ok (.getfield 169, 3) := by decide +kernel
theorem dX12_behindOne_91 : decode cX12_behindOne 91 = .ok (.iconst 1, 1) := by decide +kernel
theorem dX12_behindOne_92 : decode cX12_behindOne 92 = .ok (.isub, 1) := by decide +kernel
theorem dX12_behindOne_93 : decode cX12_behindOne 93 = .ok (.iaload, 1) := by decide +kernel
theorem dX12_behindOne_94 : decode cX12_behindOne 94 = .ok (.bipush 6, 2) := by decide +kernel
theorem dX12_behindOne_96 : decode cX12_behindOne 96 = .ok (.if_icmp .ne 6, 3) := by decide +kernel
theorem dX12_behindOne_124 : decode cX12_behindOne 124 = .ok (.aload_n 0, 1) := by decide +kernel
theorem dX12_behindOne_125 : decode cX12_behindOne 125 = .ok (.getfield 32, 3) := by decide +kernel
theorem dX12_behindOne_128 : decode cX12_behindOne 128 = .ok (.aload_n 0, 1) := by decide +kernel
theorem dX12_behindOne_129 : decode cX12_behindOne 129 = .ok (.getfield 169, 3) := by decide +kernel
theorem dX12_behindOne_132 : decode cX12_behindOne 132 = .ok (.iconst 1, 1) := by decide +kernel
theorem dX12_behindOne_133 : decode cX12_behindOne 133 = .ok (.isub, 1) := by decide +kernel
theorem dX12_behindOne_134 : decode cX12_behindOne 134 = .ok (.dup2, 1) := by decide +kernel
theorem dX12_behindOne_135 : decode cX12_behindOne 135 = .ok (.iaload, 1) := by decide +kernel
theorem dX12_behindOne_136 : decode cX12_behindOne 136 = .ok (.iconst 1, 1) := by decide +kernel
theorem dX12_behindOne_137 : decode cX12_behindOne 137 = .ok (.iadd, 1) := by decide +kernel
theorem dX12_behindOne_138 : decode cX12_behindOne 138 = .ok (.iastore, 1) := by decide +kernel
theorem dX12_behindOne_99 : decode cX12_behindOne 99 = .ok (.bipush 7, 2) := by decide +kernel
theorem dX12_behindOne_101 : decode cX12_behindOne 101 = .ok (.ireturn, 1) := by decide +kernel
theorem dX12_behindOne_75 : decode cX12_behindOne 75 = .ok (.iconst (-1), 1) := by decide +kernel
theorem dX12_behindOne_76 : decode cX12_behindOne 76 = .ok (.ireturn, 1) := by decide +kernel
theorem dX12_behindOne_9 : decode cX12_behindOne 9 = .ok (.aload_n 0, 1) := by decide +kernel
theorem dX12_behindOne_10 : decode cX12_behindOne 10 = .ok (.iload_n 1, 1) := by decide +kernel
theorem dX12_behindOne_11 : decode cX12_behindOne 11 = .ok (.invokestatic 145, 3) := by decide +kernel
theorem dX12_behindOne_14 : decode cX12_behindOne 14 = .ok (.iconst 4, 1) := by decide +kernel
theorem dX12_behindOne_15 : decode cX12_behindOne 15 = .ok (.if_icmp .ne 7, 3) := by decide +kernel
theorem dX12_behindOne_22 : decode cX12_behindOne 22 = .ok (.iload_n 1, 1) := by decide +kernel
theorem dX12_behindOne_23 : decode cX12_behindOne 23 = .ok (.invokestatic 145, 3) := by decide +kernel
theorem dX12_behindOne_26 : decode cX12_behindOne 26 = .ok (.invokevirtual 181, 3) := by decide +kernel
theorem dX12_behindOne_29 : decode cX12_behindOne 29 = .ok (.aload_n 0, 1) := by decide +kernel
theorem dX12_behindOne_30 : decode cX12_behindOne 30 = .ok (.getfield 29, 3) := by decide +kernel
theorem dX12_behindOne_33 : decode cX12_behindOne 33 = .ok (.aload_n 0, 1) := by decide +kernel
theorem dX12_behindOne_34 : decode cX12_behindOne 34 = .ok (.getfield 142, 3) := by decide +kernel
theorem dX12_behindOne_37 : decode cX12_behindOne 37 = .ok (.iload_n 1, 1) := by decide +kernel
theorem dX12_behindOne_38 : decode cX12_behindOne 38 = .ok (.iastore, 1) := by decide +kernel
theorem dX12_behindOne_39 : decode cX12_behindOne 39 = .ok (.aload_n 0, 1) := by decide +kernel
theorem dX12_behindOne_40 : decode cX12_behindOne 40 = .ok (.dup, 1) := by decide +kernel
theorem dX12_behindOne_41 : decode cX12_behindOne 41 = .ok (.getfield 142, 3) := by decide +kernel
theorem dX12_behindOne_44 : decode cX12_behindOne 44 = .ok (.iconst 1, 1) := by decide +kernel
theorem dX12_behindOne_45 : decode cX12_behindOne 45 = .ok (.iadd, 1) := by decide +kernel
theorem dX12_behindOne_46 : decode cX12_behindOne 46 = .ok (.putfield 142, 3) := by decide +kernel
theorem dX12_behindOne_49 : decode cX12_behindOne 49 = .ok (.aload_n 0, 1) := by decide +kernel
theorem dX12_behindOne_50 : decode cX12_behindOne 50 = .ok (.iconst 0, 1) := by decide +kernel
theorem dX12_behindOne_51 : decode cX12_behindOne 51 = .ok (.putfield 178, 3) := by decide +kernel
theorem dX12_behindOne_54 : decode cX12_behindOne 54 = .ok (.aload_n 0, 1) := by decide +kernel
theorem dX12_behindOne_55 : decode cX12_behindOne 55 = .ok (.invokevirtual 166, 3) := by decide +kernel
theorem dX12_behindOne_58 : decode cX12_behindOne 58 = .ok (.iconst 0, 1) := by decide +kernel
theorem dX12_behindOne_59 : decode cX12_behindOne 59 = .ok (.ireturn, 1) := by decide +kernel
theorem dX12_behindOne_18 : decode cX12_behindOne 18 = .ok (.iconst 5, 1) := by decide +kernel
theorem dX12_behindOne_19 : decode cX12_behindOne 19 = .ok (.goto 7, 3) := by decide +kernel
set_option maxHeartbeats 4000000 in
set_option maxRecDepth 100000 in
theorem x_X12_beginOne {l : Launch} {G : GG}  {L : List Nat} {f : HF} {ad : Nat → Nat → Nat} {pa : (Nat → Int32) → Prop} {PA : (Nat → Int32) → Prop} {PI : (Nat → Int32) → Prop} {td fa fp at9 ps9 tk nu t0 wr so pd op9 cg iw on9 is9 se : Int32} {wd : Int64} {gp gc : Nat → Int32} {gB : Nat → Int32} {fr : Nat} (I : SH (spM PA PI (XW gB fr gp gc t0 wr pd op9 cg false) pa) nnM G ad L f) (p_ad_0_0 : pt L f (ad 0 0) (.inr (12, [.ref (ad 1 0), .ref (ad 2 0), .ref (ad 3 0), .ref (ad 4 0), .int td, .int fa, .int fp, .int at9, .int ps9, .int tk, .int nu, .long wd, .int t0, .int wr, .int so, .ref (ad 5 0), .ref (ad 6 0), .int pd, .int op9, .int cg, .int iw, .int on9, .ref (ad 7 0), .ref (ad 8 0), .ref (ad 9 0), .int is9, .ref (ad 10 0), .ref (ad 11 0), .ref (ad 12 0), .ref (ad 13 0), .int se, .ref (ad 14 0)]))) (p_ad_5_0 : pt L f (ad 5 0) (.inl (G.2 0, 160, .inl gp))) (p_ad_6_0 : pt L f (ad 6 0) (.inl (G.2 0, 9, .inl gc))) (hiw : iw = 0) (hroom : wr.toInt + pd.toInt ≤ ps9.toInt) (hT : TK at9 ps9 tk) : PMi l yX12_beginOne cX12_beginOne 2 .int 5 0 0 G [.ref (ad 0 0)] L f (fun r L1 f1 => ∃ at92 : Int32, ∃ ps92 : Int32, ∃ tk2 : Int32, ∃ nu2 : Int32, ∃ wd2 : Int64, ∃ wr2 : Int32, ∃ pd2 : Int32, ∃ op92 : Int32, ∃ cg2 : Int32, ∃ iw2 : Int32, ∃ gp2 : Nat → Int32, ∃ gc2 : Nat → Int32, bn 0 5 r ∧ SH (spM PA PI (XR r gB fr gp2 gc2 t0 wr2 pd2 op92 cg2 iw2) pa) nnM G ad L1 f1 ∧ pt L1 f1 (ad 0 0) (.inr (12, [.ref (ad 1 0), .ref (ad 2 0), .ref (ad 3 0), .ref (ad 4 0), .int td, .int fa, .int fp, .int at92, .int ps92, .int tk2, .int nu2, .long wd2, .int t0, .int wr2, .int so, .ref (ad 5 0), .ref (ad 6 0), .int pd2, .int op92, .int cg2, .int iw2, .int on9, .ref (ad 7 0), .ref (ad 8 0), .ref (ad 9 0), .int is9, .ref (ad 10 0), .ref (ad 11 0), .ref (ad 12 0), .ref (ad 13 0), .int se, .ref (ad 14 0)])) ∧ pt L1 f1 (ad 5 0) (.inl (G.2 0, 160, .inl gp2)) ∧ pt L1 f1 (ad 6 0) (.inl (G.2 0, 9, .inl gc2)) ∧ TK at92 ps92 tk2 ∧ (r.toInt = 0 → ps9.toInt + 1 ≤ ps92.toInt) ∧ (r.toInt ≤ 0 → wr2.toInt + pd2.toInt ≤ ps92.toInt) ∧ (r.toInt < 0 → iw2 = 1) ∧ (r.toInt ≤ 0 → ps9.toInt ≤ ps92.toInt)) := by
  refine PMi.of (post := fun r L1 f1 => ∃ at92 : Int32, ∃ ps92 : Int32, ∃ tk2 : Int32, ∃ nu2 : Int32, ∃ wd2 : Int64, ∃ wr2 : Int32, ∃ pd2 : Int32, ∃ op92 : Int32, ∃ cg2 : Int32, ∃ iw2 : Int32, ∃ gp2 : Nat → Int32, ∃ gc2 : Nat → Int32, bn 0 5 r ∧ SH (spM PA PI (XR r gB fr gp2 gc2 t0 wr2 pd2 op92 cg2 iw2) pa) nnM G ad L1 f1 ∧ pt L1 f1 (ad 0 0) (.inr (12, [.ref (ad 1 0), .ref (ad 2 0), .ref (ad 3 0), .ref (ad 4 0), .int td, .int fa, .int fp, .int at92, .int ps92, .int tk2, .int nu2, .long wd2, .int t0, .int wr2, .int so, .ref (ad 5 0), .ref (ad 6 0), .int pd2, .int op92, .int cg2, .int iw2, .int on9, .ref (ad 7 0), .ref (ad 8 0), .ref (ad 9 0), .int is9, .ref (ad 10 0), .ref (ad 11 0), .ref (ad 12 0), .ref (ad 13 0), .int se, .ref (ad 14 0)])) ∧ pt L1 f1 (ad 5 0) (.inl (G.2 0, 160, .inl gp2)) ∧ pt L1 f1 (ad 6 0) (.inl (G.2 0, 9, .inl gc2)) ∧ TK at92 ps92 tk2 ∧ (r.toInt = 0 → ps9.toInt + 1 ≤ ps92.toInt) ∧ (r.toInt ≤ 0 → wr2.toInt + pd2.toInt ≤ ps92.toInt) ∧ (r.toInt < 0 → iw2 = 1) ∧ (r.toInt ≤ 0 → ps9.toInt ≤ ps92.toInt)) (own := RX12) (by decide) rfl (Nat.le_of_ble_eq_true rfl) (fun sz p e s m args below meth c A ls hA1 hname S Y hl => ?_)
  have hx := S.hx
  have hb := S.hb
  have hl : lv_has ls 2 [(0, .ref (ad 0 0))] := hl
  obtain ⟨bfe_4, bfe_7, bfe_8, bfe_12, bfe_13, bfe_17, bfe_18, bfe_19, bfe_20, bfe_25⟩ := obM I p_ad_0_0
  obtain ⟨g_86977, p_ad_3_0, o_86978⟩ := I.opi (k := 3) (j := 0) (by decide) rfl
  have p_ad_3_0 : pt L f (ad 3 0) (.inl (G.2 0, 2916, .inl g_86977)) := p_ad_3_0
  obtain ⟨opn, cmp, hv⟩ := o_86978
  have hI := XV_info hv bfe_18 bfe_19 bfe_17
  have B_86979 : bn 0 53 pd := ⟨bfe_17.1, by have z9 := hI.2.2.1; have z8 := bfe_18.2; omega⟩
  have o_86980 : (XV gB fr gp gc opn cmp t0 wr pd op9 cg false) g_86977 := hv
  have I := I.castS (sp' := spM PA PI (XV gB fr gp gc opn cmp t0 wr pd op9 cg false) pa) (k := 3) (j := 0) (by decide) p_ad_3_0 (okE_a (g := g_86977) o_86980) pXC
  refine lv_aload_n hx hb dX12_beginOne_0 rfl (lv_at hl 0 rfl) ?_
  refine pg_get S Y ok_X12 9 (by decide) kf12_98 (v := .int tk) p_ad_0_0 rfl dX12_beginOne_1 ?_
  refine lv_iconst (v := 1) hx hb dX12_beginOne_4 (by decide) ?_
  refine lv_icmp_ne (tgt := 20) hx hb dX12_beginOne_5 (by decide) (fun c_86981 => ?_) (fun c_86981 => ?_)
  · refine lv_aload_n hx hb dX12_beginOne_20 rfl (lv_at hl 0 rfl) ?_
    refine cVp (As := []) (rest := []) S Y (x_X12_nameOf (l := l) I p_ad_0_0) cw_X12_nameOf km12_172 p_ad_0_0 ok_X12.1 rfl rfl ⟨Nat.le_of_ble_eq_true rfl, Nat.le_of_ble_eq_true rfl⟩ hl.1 rfl (Nat.le_of_ble_eq_true rfl) ⟨Nat.le_of_ble_eq_true rfl, Nat.le_of_ble_eq_true rfl⟩ dX12_beginOne_21 (fun r_86983 H locs er_86983 Y => ?_)
    refine lv_istore_n (lv' := [(1, .int r_86983), (0, .ref (ad 0 0))]) hx hb dX12_beginOne_24 rfl hl (by decide) rfl (fun ls hl => ?_)
    refine lv_iload_n hx hb dX12_beginOne_25 rfl (lv_at hl 0 rfl) ?_
    refine lv_iconst (v := 4) hx hb dX12_beginOne_26 (by decide) ?_
    refine lv_icmp_le (tgt := 40) hx hb dX12_beginOne_27 (by decide) (fun c_86984 => ?_) (fun c_86984 => ?_)
    · have B_86985 : bn (-1) 4 r_86983 := bn_w (bn_lel c_86984 er_86983.1 (show bn 4 4 (4 : Int32) from bn_k (by decide))) (by decide)
      refine lv_aload_n hx hb dX12_beginOne_40 rfl (lv_at hl 1 rfl) ?_
      refine pg_get S Y ok_X12 9 (by decide) kf12_98 (v := .int tk) p_ad_0_0 rfl dX12_beginOne_41 ?_
      refine lv_iconst (v := 1) hx hb dX12_beginOne_44 (by decide) ?_
      refine lv_icmp_eq (tgt := 52) hx hb dX12_beginOne_45 (by decide) (fun h => absurd h c_86981) (fun _ => ?_)
      refine lv_iload_n hx hb dX12_beginOne_48 rfl (lv_at hl 0 rfl) ?_
      refine lv_if_lt (tgt := 102) hx hb dX12_beginOne_49 (by decide) (fun c_86987 => ?_) (fun c_86987 => ?_)
      · have B_86988 : bn (-1) (-1) r_86983 := bn_w (bn_ltl c_86987 B_86985 (show bn 0 0 (0 : Int32) from bn_k (by decide))) (by decide)
        refine lv_aload_n hx hb dX12_beginOne_102 rfl (lv_at hl 1 rfl) ?_
        refine pg_get S Y ok_X12 9 (by decide) kf12_98 (v := .int tk) p_ad_0_0 rfl dX12_beginOne_103 ?_
        refine lv_bipush (v := 40) hx hb dX12_beginOne_106 (by decide) ?_
        refine lv_icmp_ne (tgt := 118) hx hb dX12_beginOne_108 (by decide) (fun c_86990 => ?_) (fun c_86990 => ?_)
        · refine lv_aload_n hx hb dX12_beginOne_118 rfl (lv_at hl 1 rfl) ?_
          refine pg_get S Y ok_X12 9 (by decide) kf12_98 (v := .int tk) p_ad_0_0 rfl dX12_beginOne_119 ?_
          refine lv_bipush (v := 45) hx hb dX12_beginOne_122 (by decide) ?_
          refine lv_icmp_ne (tgt := 133) hx hb dX12_beginOne_124 (by decide) (fun c_86992 => ?_) (fun c_86992 => ?_)
          · refine lv_aload_n hx hb dX12_beginOne_133 rfl (lv_at hl 1 rfl) ?_
            refine lv_bipush (v := 109) hx hb dX12_beginOne_134 (by decide) ?_
            refine lv_bipush (v := 97) hx hb dX12_beginOne_136 (by decide) ?_
            refine lv_bipush (v := 114) hx hb dX12_beginOne_138 (by decide) ?_
            refine lv_bipush (v := 107) hx hb dX12_beginOne_140 (by decide) ?_
            refine lv_bipush (v := 115) hx hb dX12_beginOne_142 (by decide) ?_
            refine cSlp (As := [.int 109, .int 97, .int 114, .int 107, .int 115]) (rest := [.ref (ad 0 0)]) S Y (x_X12_w5 (l := l) ) cw_X12_w5 km12_132 rfl ⟨Nat.le_of_ble_eq_true rfl, Nat.le_of_ble_eq_true rfl⟩ hl.1 rfl (Nat.le_of_ble_eq_true rfl) ⟨Nat.le_of_ble_eq_true rfl, Nat.le_of_ble_eq_true rfl⟩ dX12_beginOne_144 (fun r_86994 H locs er_86994 Y => ?_)
            refine cVp (As := [.long r_86994]) (rest := []) S Y (x_X12_isWord (l := l) I p_ad_0_0) cw_X12_isWord km12_187 p_ad_0_0 ok_X12.1 rfl rfl ⟨Nat.le_of_ble_eq_true rfl, Nat.le_of_ble_eq_true rfl⟩ hl.1 rfl (Nat.le_of_ble_eq_true rfl) ⟨Nat.le_of_ble_eq_true rfl, Nat.le_of_ble_eq_true rfl⟩ dX12_beginOne_147 (fun r_86995 H locs er_86995 Y => ?_)
            refine lv_if_eq (tgt := 159) hx hb dX12_beginOne_150 (by decide) (fun c_86996 => ?_) (fun c_86996 => ?_)
            · have B_86997 : bn 0 0 r_86995 := bn_w (bn_eq c_86996 (show bn 0 0 (0 : Int32) from bn_k (by decide))) (by decide)
              refine lv_aload_n hx hb dX12_beginOne_159 rfl (lv_at hl 1 rfl) ?_
              refine lv_bipush (v := 105) hx hb dX12_beginOne_160 (by decide) ?_
              refine lv_bipush (v := 102) hx hb dX12_beginOne_162 (by decide) ?_
              refine cSlp (As := [.int 105, .int 102]) (rest := [.ref (ad 0 0)]) S Y (x_X12_w2 (l := l) ) cw_X12_w2 km12_120 rfl ⟨Nat.le_of_ble_eq_true rfl, Nat.le_of_ble_eq_true rfl⟩ hl.1 rfl (Nat.le_of_ble_eq_true rfl) ⟨Nat.le_of_ble_eq_true rfl, Nat.le_of_ble_eq_true rfl⟩ dX12_beginOne_164 (fun r_86999 H locs er_86999 Y => ?_)
              refine cVp (As := [.long r_86999]) (rest := []) S Y (x_X12_isWord (l := l) I p_ad_0_0) cw_X12_isWord km12_187 p_ad_0_0 ok_X12.1 rfl rfl ⟨Nat.le_of_ble_eq_true rfl, Nat.le_of_ble_eq_true rfl⟩ hl.1 rfl (Nat.le_of_ble_eq_true rfl) ⟨Nat.le_of_ble_eq_true rfl, Nat.le_of_ble_eq_true rfl⟩ dX12_beginOne_167 (fun r_87000 H locs er_87000 Y => ?_)
              refine lv_if_eq (tgt := 180) hx hb dX12_beginOne_170 (by decide) (fun c_87001 => ?_) (fun c_87001 => ?_)
              · have B_87002 : bn 0 0 r_87000 := bn_w (bn_eq c_87001 (show bn 0 0 (0 : Int32) from bn_k (by decide))) (by decide)
                refine lv_aload_n hx hb dX12_beginOne_180 rfl (lv_at hl 1 rfl) ?_
                refine cVp (As := []) (rest := []) S Y (x_X12_isAskAhead (l := l) I p_ad_0_0 p_ad_5_0) cw_X12_isAskAhead km12_191 p_ad_0_0 ok_X12.1 rfl rfl ⟨Nat.le_of_ble_eq_true rfl, Nat.le_of_ble_eq_true rfl⟩ hl.1 rfl (Nat.le_of_ble_eq_true rfl) ⟨Nat.le_of_ble_eq_true rfl, Nat.le_of_ble_eq_true rfl⟩ dX12_beginOne_181 (fun r_87004 H locs er_87004 Y => ?_)
                refine lv_if_ne (tgt := 189) hx hb dX12_beginOne_184 (by decide) (fun c_87005 => ?_) (fun c_87005 => ?_)
                · have B_87006 : bn 1 1 r_87004 := bn_w (bn_nel c_87005 er_87004.1 (show bn 0 0 (0 : Int32) from bn_k (by decide))) (by decide)
                  refine lv_aload_n hx hb dX12_beginOne_189 rfl (lv_at hl 1 rfl) ?_
                  refine lv_bipush (v := 110) hx hb dX12_beginOne_190 (by decide) ?_
                  refine lv_bipush (v := 111) hx hb dX12_beginOne_192 (by decide) ?_
                  refine lv_bipush (v := 116) hx hb dX12_beginOne_194 (by decide) ?_
                  refine cSlp (As := [.int 110, .int 111, .int 116]) (rest := [.ref (ad 0 0)]) S Y (x_X12_w3 (l := l) ) cw_X12_w3 km12_124 rfl ⟨Nat.le_of_ble_eq_true rfl, Nat.le_of_ble_eq_true rfl⟩ hl.1 rfl (Nat.le_of_ble_eq_true rfl) ⟨Nat.le_of_ble_eq_true rfl, Nat.le_of_ble_eq_true rfl⟩ dX12_beginOne_196 (fun r_87008 H locs er_87008 Y => ?_)
                  refine cVp (As := [.long r_87008]) (rest := []) S Y (x_X12_isWord (l := l) I p_ad_0_0) cw_X12_isWord km12_187 p_ad_0_0 ok_X12.1 rfl rfl ⟨Nat.le_of_ble_eq_true rfl, Nat.le_of_ble_eq_true rfl⟩ hl.1 rfl (Nat.le_of_ble_eq_true rfl) ⟨Nat.le_of_ble_eq_true rfl, Nat.le_of_ble_eq_true rfl⟩ dX12_beginOne_199 (fun r_87009 H locs er_87009 Y => ?_)
                  refine lv_if_eq (tgt := 214) hx hb dX12_beginOne_202 (by decide) (fun c_87010 => ?_) (fun c_87010 => ?_)
                  · have B_87011 : bn 0 0 r_87009 := bn_w (bn_eq c_87010 (show bn 0 0 (0 : Int32) from bn_k (by decide))) (by decide)
                    refine lv_aload_n hx hb dX12_beginOne_214 rfl (lv_at hl 1 rfl) ?_
                    refine lv_bipush (v := 106) hx hb dX12_beginOne_215 (by decide) ?_
                    refine lv_bipush (v := 117) hx hb dX12_beginOne_217 (by decide) ?_
                    refine lv_bipush (v := 115) hx hb dX12_beginOne_219 (by decide) ?_
                    refine lv_bipush (v := 116) hx hb dX12_beginOne_221 (by decide) ?_
                    refine cSlp (As := [.int 106, .int 117, .int 115, .int 116]) (rest := [.ref (ad 0 0)]) S Y (x_X12_w4 (l := l) ) cw_X12_w4 km12_128 rfl ⟨Nat.le_of_ble_eq_true rfl, Nat.le_of_ble_eq_true rfl⟩ hl.1 rfl (Nat.le_of_ble_eq_true rfl) ⟨Nat.le_of_ble_eq_true rfl, Nat.le_of_ble_eq_true rfl⟩ dX12_beginOne_223 (fun r_87013 H locs er_87013 Y => ?_)
                    refine cVp (As := [.long r_87013]) (rest := []) S Y (x_X12_isWord (l := l) I p_ad_0_0) cw_X12_isWord km12_187 p_ad_0_0 ok_X12.1 rfl rfl ⟨Nat.le_of_ble_eq_true rfl, Nat.le_of_ble_eq_true rfl⟩ hl.1 rfl (Nat.le_of_ble_eq_true rfl) ⟨Nat.le_of_ble_eq_true rfl, Nat.le_of_ble_eq_true rfl⟩ dX12_beginOne_226 (fun r_87014 H locs er_87014 Y => ?_)
                    refine lv_if_eq (tgt := 241) hx hb dX12_beginOne_229 (by decide) (fun c_87015 => ?_) (fun c_87015 => ?_)
                    · have B_87016 : bn 0 0 r_87014 := bn_w (bn_eq c_87015 (show bn 0 0 (0 : Int32) from bn_k (by decide))) (by decide)
                      have o_87018 : (XR 1 gB fr gp gc t0 wr pd op9 cg iw) g_86977 := (XR_no o_86980.1 (by decide))
                      have I := I.castS (sp' := spM PA PI (XR 1 gB fr gp gc t0 wr pd op9 cg iw) pa) (k := 3) (j := 0) (by decide) p_ad_3_0 (okE_a (g := g_86977) o_87018) pXC
                      refine lv_iconst (v := 1) hx hb dX12_beginOne_241 (by decide) ?_
                      exact prI (post := fun r L1 f1 => ∃ at92 : Int32, ∃ ps92 : Int32, ∃ tk2 : Int32, ∃ nu2 : Int32, ∃ wd2 : Int64, ∃ wr2 : Int32, ∃ pd2 : Int32, ∃ op92 : Int32, ∃ cg2 : Int32, ∃ iw2 : Int32, ∃ gp2 : Nat → Int32, ∃ gc2 : Nat → Int32, bn 0 5 r ∧ SH (spM PA PI (XR r gB fr gp2 gc2 t0 wr2 pd2 op92 cg2 iw2) pa) nnM G ad L1 f1 ∧ pt L1 f1 (ad 0 0) (.inr (12, [.ref (ad 1 0), .ref (ad 2 0), .ref (ad 3 0), .ref (ad 4 0), .int td, .int fa, .int fp, .int at92, .int ps92, .int tk2, .int nu2, .long wd2, .int t0, .int wr2, .int so, .ref (ad 5 0), .ref (ad 6 0), .int pd2, .int op92, .int cg2, .int iw2, .int on9, .ref (ad 7 0), .ref (ad 8 0), .ref (ad 9 0), .int is9, .ref (ad 10 0), .ref (ad 11 0), .ref (ad 12 0), .ref (ad 13 0), .int se, .ref (ad 14 0)])) ∧ pt L1 f1 (ad 5 0) (.inl (G.2 0, 160, .inl gp2)) ∧ pt L1 f1 (ad 6 0) (.inl (G.2 0, 9, .inl gc2)) ∧ TK at92 ps92 tk2 ∧ (r.toInt = 0 → ps9.toInt + 1 ≤ ps92.toInt) ∧ (r.toInt ≤ 0 → wr2.toInt + pd2.toInt ≤ ps92.toInt) ∧ (r.toInt < 0 → iw2 = 1) ∧ (r.toInt ≤ 0 → ps9.toInt ≤ ps92.toInt)) S Y rfl (by decide) (by decide) hA1 ⟨at9, ps9, tk, nu, wd, wr, pd, op9, cg, iw, gp, gc, bn_w (show bn 1 1 (1 : Int32) from bn_k (by decide)) (by decide), I, p_ad_0_0, p_ad_5_0, p_ad_6_0, hT, (fun h => absurd h (by decide)), (fun h => absurd h (by decide)), (fun h => absurd h (by decide)), (fun h => absurd h (by decide))⟩ dX12_beginOne_242
                    · have B_87017 : bn 1 1 r_87014 := bn_w (bn_nel c_87015 er_87014.1 (show bn 0 0 (0 : Int32) from bn_k (by decide))) (by decide)
                      refine lv_aload_n hx hb dX12_beginOne_232 rfl (lv_at hl 1 rfl) ?_
                      refine lv_bipush (v := 44) hx hb dX12_beginOne_233 (by decide) ?_
                      refine cVi (As := [.int 44]) (rest := []) S Y (x_X12_opened (l := l) I p_ad_0_0 p_ad_5_0 p_ad_6_0 (show OPH 44 opn gp pd from Or.inr ⟨by decide, by have z9 := (er_87004.2 c_87005).1; rw [show opv (fun j => (gp j).toInt) pd.toInt.toNat = opn from hI.1] at z9; exact z9, (er_87004.2 c_87005).2.1.1, (er_87004.2 c_87005).2.2⟩) hiw hroom hT (show ¬ tk = 0 from by rw [er_87014.2 c_87015]; decide)) cw_X12_opened km12_184 p_ad_0_0 ok_X12.1 rfl rfl ⟨Nat.le_of_ble_eq_true rfl, Nat.le_of_ble_eq_true rfl⟩ hl.1 rfl (Nat.le_of_ble_eq_true rfl) ⟨Nat.le_of_ble_eq_true rfl, Nat.le_of_ble_eq_true rfl⟩ dX12_beginOne_235 (fun r_87021 L_87019 f_87020 H locs hr_87021 Y => ?_)
                      obtain ⟨v_87022, v_87023, v_87024, v_87025, v_87026, v_87027, v_87028, v_87029, g_87030, g_87031, er_87021, I, p_ad_0_0, p_ad_5_0, p_ad_6_0, eT_87032, eR_87033, eW_87034⟩ := hr_87021
                      obtain ⟨bfc87034_4, bfc87034_7, bfc87034_8, bfc87034_12, bfc87034_13, bfc87034_17, bfc87034_18, bfc87034_19, bfc87034_20, bfc87034_25⟩ := obM I p_ad_0_0
                      refine lv_goto (tgt := 242) hx hb dX12_beginOne_238 (by decide) ?_
                      exact prI (post := fun r L1 f1 => ∃ at92 : Int32, ∃ ps92 : Int32, ∃ tk2 : Int32, ∃ nu2 : Int32, ∃ wd2 : Int64, ∃ wr2 : Int32, ∃ pd2 : Int32, ∃ op92 : Int32, ∃ cg2 : Int32, ∃ iw2 : Int32, ∃ gp2 : Nat → Int32, ∃ gc2 : Nat → Int32, bn 0 5 r ∧ SH (spM PA PI (XR r gB fr gp2 gc2 t0 wr2 pd2 op92 cg2 iw2) pa) nnM G ad L1 f1 ∧ pt L1 f1 (ad 0 0) (.inr (12, [.ref (ad 1 0), .ref (ad 2 0), .ref (ad 3 0), .ref (ad 4 0), .int td, .int fa, .int fp, .int at92, .int ps92, .int tk2, .int nu2, .long wd2, .int t0, .int wr2, .int so, .ref (ad 5 0), .ref (ad 6 0), .int pd2, .int op92, .int cg2, .int iw2, .int on9, .ref (ad 7 0), .ref (ad 8 0), .ref (ad 9 0), .int is9, .ref (ad 10 0), .ref (ad 11 0), .ref (ad 12 0), .ref (ad 13 0), .int se, .ref (ad 14 0)])) ∧ pt L1 f1 (ad 5 0) (.inl (G.2 0, 160, .inl gp2)) ∧ pt L1 f1 (ad 6 0) (.inl (G.2 0, 9, .inl gc2)) ∧ TK at92 ps92 tk2 ∧ (r.toInt = 0 → ps9.toInt + 1 ≤ ps92.toInt) ∧ (r.toInt ≤ 0 → wr2.toInt + pd2.toInt ≤ ps92.toInt) ∧ (r.toInt < 0 → iw2 = 1) ∧ (r.toInt ≤ 0 → ps9.toInt ≤ ps92.toInt)) S Y rfl (by decide) (by decide) hA1 ⟨v_87022, v_87023, v_87024, v_87025, v_87026, wr, v_87027, v_87028, v_87029, iw, g_87030, g_87031, bn_w er_87021 (by decide), I, p_ad_0_0, p_ad_5_0, p_ad_6_0, eT_87032, eR_87033, eW_87034, (fun h => absurd h (by have z9 := (er_87021).1; omega)), (fun h => by have z9 := eR_87033 (by have z8 := (er_87021).1; omega); omega)⟩ dX12_beginOne_242
                  · have B_87012 : bn 1 1 r_87009 := bn_w (bn_nel c_87010 er_87009.1 (show bn 0 0 (0 : Int32) from bn_k (by decide))) (by decide)
                    refine lv_aload_n hx hb dX12_beginOne_205 rfl (lv_at hl 1 rfl) ?_
                    refine lv_bipush (v := 20) hx hb dX12_beginOne_206 (by decide) ?_
                    refine cVi (As := [.int 20]) (rest := []) S Y (x_X12_opened (l := l) I p_ad_0_0 p_ad_5_0 p_ad_6_0 (show OPH 20 opn gp pd from Or.inr ⟨by decide, by have z9 := (er_87004.2 c_87005).1; rw [show opv (fun j => (gp j).toInt) pd.toInt.toNat = opn from hI.1] at z9; exact z9, (er_87004.2 c_87005).2.1.1, (er_87004.2 c_87005).2.2⟩) hiw hroom hT (show ¬ tk = 0 from by rw [er_87009.2 c_87010]; decide)) cw_X12_opened km12_184 p_ad_0_0 ok_X12.1 rfl rfl ⟨Nat.le_of_ble_eq_true rfl, Nat.le_of_ble_eq_true rfl⟩ hl.1 rfl (Nat.le_of_ble_eq_true rfl) ⟨Nat.le_of_ble_eq_true rfl, Nat.le_of_ble_eq_true rfl⟩ dX12_beginOne_208 (fun r_87038 L_87036 f_87037 H locs hr_87038 Y => ?_)
                    obtain ⟨v_87039, v_87040, v_87041, v_87042, v_87043, v_87044, v_87045, v_87046, g_87047, g_87048, er_87038, I, p_ad_0_0, p_ad_5_0, p_ad_6_0, eT_87049, eR_87050, eW_87051⟩ := hr_87038
                    obtain ⟨bfc87051_4, bfc87051_7, bfc87051_8, bfc87051_12, bfc87051_13, bfc87051_17, bfc87051_18, bfc87051_19, bfc87051_20, bfc87051_25⟩ := obM I p_ad_0_0
                    refine lv_goto (tgt := 242) hx hb dX12_beginOne_211 (by decide) ?_
                    exact prI (post := fun r L1 f1 => ∃ at92 : Int32, ∃ ps92 : Int32, ∃ tk2 : Int32, ∃ nu2 : Int32, ∃ wd2 : Int64, ∃ wr2 : Int32, ∃ pd2 : Int32, ∃ op92 : Int32, ∃ cg2 : Int32, ∃ iw2 : Int32, ∃ gp2 : Nat → Int32, ∃ gc2 : Nat → Int32, bn 0 5 r ∧ SH (spM PA PI (XR r gB fr gp2 gc2 t0 wr2 pd2 op92 cg2 iw2) pa) nnM G ad L1 f1 ∧ pt L1 f1 (ad 0 0) (.inr (12, [.ref (ad 1 0), .ref (ad 2 0), .ref (ad 3 0), .ref (ad 4 0), .int td, .int fa, .int fp, .int at92, .int ps92, .int tk2, .int nu2, .long wd2, .int t0, .int wr2, .int so, .ref (ad 5 0), .ref (ad 6 0), .int pd2, .int op92, .int cg2, .int iw2, .int on9, .ref (ad 7 0), .ref (ad 8 0), .ref (ad 9 0), .int is9, .ref (ad 10 0), .ref (ad 11 0), .ref (ad 12 0), .ref (ad 13 0), .int se, .ref (ad 14 0)])) ∧ pt L1 f1 (ad 5 0) (.inl (G.2 0, 160, .inl gp2)) ∧ pt L1 f1 (ad 6 0) (.inl (G.2 0, 9, .inl gc2)) ∧ TK at92 ps92 tk2 ∧ (r.toInt = 0 → ps9.toInt + 1 ≤ ps92.toInt) ∧ (r.toInt ≤ 0 → wr2.toInt + pd2.toInt ≤ ps92.toInt) ∧ (r.toInt < 0 → iw2 = 1) ∧ (r.toInt ≤ 0 → ps9.toInt ≤ ps92.toInt)) S Y rfl (by decide) (by decide) hA1 ⟨v_87039, v_87040, v_87041, v_87042, v_87043, wr, v_87044, v_87045, v_87046, iw, g_87047, g_87048, bn_w er_87038 (by decide), I, p_ad_0_0, p_ad_5_0, p_ad_6_0, eT_87049, eR_87050, eW_87051, (fun h => absurd h (by have z9 := (er_87038).1; omega)), (fun h => by have z9 := eR_87050 (by have z8 := (er_87038).1; omega); omega)⟩ dX12_beginOne_242
                · have B_87007 : bn 0 0 r_87004 := bn_w (bn_eq c_87005 (show bn 0 0 (0 : Int32) from bn_k (by decide))) (by decide)
                  have o_87053 : (XR 1 gB fr gp gc t0 wr pd op9 cg iw) g_86977 := (XR_no o_86980.1 (by decide))
                  have I := I.castS (sp' := spM PA PI (XR 1 gB fr gp gc t0 wr pd op9 cg iw) pa) (k := 3) (j := 0) (by decide) p_ad_3_0 (okE_a (g := g_86977) o_87053) pXC
                  refine lv_iconst (v := 1) hx hb dX12_beginOne_187 (by decide) ?_
                  exact prI (post := fun r L1 f1 => ∃ at92 : Int32, ∃ ps92 : Int32, ∃ tk2 : Int32, ∃ nu2 : Int32, ∃ wd2 : Int64, ∃ wr2 : Int32, ∃ pd2 : Int32, ∃ op92 : Int32, ∃ cg2 : Int32, ∃ iw2 : Int32, ∃ gp2 : Nat → Int32, ∃ gc2 : Nat → Int32, bn 0 5 r ∧ SH (spM PA PI (XR r gB fr gp2 gc2 t0 wr2 pd2 op92 cg2 iw2) pa) nnM G ad L1 f1 ∧ pt L1 f1 (ad 0 0) (.inr (12, [.ref (ad 1 0), .ref (ad 2 0), .ref (ad 3 0), .ref (ad 4 0), .int td, .int fa, .int fp, .int at92, .int ps92, .int tk2, .int nu2, .long wd2, .int t0, .int wr2, .int so, .ref (ad 5 0), .ref (ad 6 0), .int pd2, .int op92, .int cg2, .int iw2, .int on9, .ref (ad 7 0), .ref (ad 8 0), .ref (ad 9 0), .int is9, .ref (ad 10 0), .ref (ad 11 0), .ref (ad 12 0), .ref (ad 13 0), .int se, .ref (ad 14 0)])) ∧ pt L1 f1 (ad 5 0) (.inl (G.2 0, 160, .inl gp2)) ∧ pt L1 f1 (ad 6 0) (.inl (G.2 0, 9, .inl gc2)) ∧ TK at92 ps92 tk2 ∧ (r.toInt = 0 → ps9.toInt + 1 ≤ ps92.toInt) ∧ (r.toInt ≤ 0 → wr2.toInt + pd2.toInt ≤ ps92.toInt) ∧ (r.toInt < 0 → iw2 = 1) ∧ (r.toInt ≤ 0 → ps9.toInt ≤ ps92.toInt)) S Y rfl (by decide) (by decide) hA1 ⟨at9, ps9, tk, nu, wd, wr, pd, op9, cg, iw, gp, gc, bn_w (show bn 1 1 (1 : Int32) from bn_k (by decide)) (by decide), I, p_ad_0_0, p_ad_5_0, p_ad_6_0, hT, (fun h => absurd h (by decide)), (fun h => absurd h (by decide)), (fun h => absurd h (by decide)), (fun h => absurd h (by decide))⟩ dX12_beginOne_188
              · have B_87003 : bn 1 1 r_87000 := bn_w (bn_nel c_87001 er_87000.1 (show bn 0 0 (0 : Int32) from bn_k (by decide))) (by decide)
                refine lv_aload_n hx hb dX12_beginOne_173 rfl (lv_at hl 1 rfl) ?_
                refine lv_bipush (v := 41) hx hb dX12_beginOne_174 (by decide) ?_
                refine cVi (As := [.int 41]) (rest := []) S Y (x_X12_opened (l := l) I p_ad_0_0 p_ad_5_0 p_ad_6_0 (show OPH 41 opn gp pd from Or.inl (by decide)) hiw hroom hT (show ¬ tk = 0 from by rw [er_87000.2 c_87001]; decide)) cw_X12_opened km12_184 p_ad_0_0 ok_X12.1 rfl rfl ⟨Nat.le_of_ble_eq_true rfl, Nat.le_of_ble_eq_true rfl⟩ hl.1 rfl (Nat.le_of_ble_eq_true rfl) ⟨Nat.le_of_ble_eq_true rfl, Nat.le_of_ble_eq_true rfl⟩ dX12_beginOne_176 (fun r_87056 L_87054 f_87055 H locs hr_87056 Y => ?_)
                obtain ⟨v_87057, v_87058, v_87059, v_87060, v_87061, v_87062, v_87063, v_87064, g_87065, g_87066, er_87056, I, p_ad_0_0, p_ad_5_0, p_ad_6_0, eT_87067, eR_87068, eW_87069⟩ := hr_87056
                obtain ⟨bfc87069_4, bfc87069_7, bfc87069_8, bfc87069_12, bfc87069_13, bfc87069_17, bfc87069_18, bfc87069_19, bfc87069_20, bfc87069_25⟩ := obM I p_ad_0_0
                exact prI (post := fun r L1 f1 => ∃ at92 : Int32, ∃ ps92 : Int32, ∃ tk2 : Int32, ∃ nu2 : Int32, ∃ wd2 : Int64, ∃ wr2 : Int32, ∃ pd2 : Int32, ∃ op92 : Int32, ∃ cg2 : Int32, ∃ iw2 : Int32, ∃ gp2 : Nat → Int32, ∃ gc2 : Nat → Int32, bn 0 5 r ∧ SH (spM PA PI (XR r gB fr gp2 gc2 t0 wr2 pd2 op92 cg2 iw2) pa) nnM G ad L1 f1 ∧ pt L1 f1 (ad 0 0) (.inr (12, [.ref (ad 1 0), .ref (ad 2 0), .ref (ad 3 0), .ref (ad 4 0), .int td, .int fa, .int fp, .int at92, .int ps92, .int tk2, .int nu2, .long wd2, .int t0, .int wr2, .int so, .ref (ad 5 0), .ref (ad 6 0), .int pd2, .int op92, .int cg2, .int iw2, .int on9, .ref (ad 7 0), .ref (ad 8 0), .ref (ad 9 0), .int is9, .ref (ad 10 0), .ref (ad 11 0), .ref (ad 12 0), .ref (ad 13 0), .int se, .ref (ad 14 0)])) ∧ pt L1 f1 (ad 5 0) (.inl (G.2 0, 160, .inl gp2)) ∧ pt L1 f1 (ad 6 0) (.inl (G.2 0, 9, .inl gc2)) ∧ TK at92 ps92 tk2 ∧ (r.toInt = 0 → ps9.toInt + 1 ≤ ps92.toInt) ∧ (r.toInt ≤ 0 → wr2.toInt + pd2.toInt ≤ ps92.toInt) ∧ (r.toInt < 0 → iw2 = 1) ∧ (r.toInt ≤ 0 → ps9.toInt ≤ ps92.toInt)) S Y rfl (by decide) (by decide) hA1 ⟨v_87057, v_87058, v_87059, v_87060, v_87061, wr, v_87062, v_87063, v_87064, iw, g_87065, g_87066, bn_w er_87056 (by decide), I, p_ad_0_0, p_ad_5_0, p_ad_6_0, eT_87067, eR_87068, eW_87069, (fun h => absurd h (by have z9 := (er_87056).1; omega)), (fun h => by have z9 := eR_87068 (by have z8 := (er_87056).1; omega); omega)⟩ dX12_beginOne_179
            · have B_86998 : bn 1 1 r_86995 := bn_w (bn_nel c_86996 er_86995.1 (show bn 0 0 (0 : Int32) from bn_k (by decide))) (by decide)
              refine lv_aload_n hx hb dX12_beginOne_153 rfl (lv_at hl 1 rfl) ?_
              refine lv_iconst (v := 2) hx hb dX12_beginOne_154 (by decide) ?_
              refine cVi (As := [.int 2]) (rest := []) S Y (x_X12_opened (l := l) I p_ad_0_0 p_ad_5_0 p_ad_6_0 (show OPH 2 opn gp pd from Or.inl (by decide)) hiw hroom hT (show ¬ tk = 0 from by rw [er_86995.2 c_86996]; decide)) cw_X12_opened km12_184 p_ad_0_0 ok_X12.1 rfl rfl ⟨Nat.le_of_ble_eq_true rfl, Nat.le_of_ble_eq_true rfl⟩ hl.1 rfl (Nat.le_of_ble_eq_true rfl) ⟨Nat.le_of_ble_eq_true rfl, Nat.le_of_ble_eq_true rfl⟩ dX12_beginOne_155 (fun r_87073 L_87071 f_87072 H locs hr_87073 Y => ?_)
              obtain ⟨v_87074, v_87075, v_87076, v_87077, v_87078, v_87079, v_87080, v_87081, g_87082, g_87083, er_87073, I, p_ad_0_0, p_ad_5_0, p_ad_6_0, eT_87084, eR_87085, eW_87086⟩ := hr_87073
              obtain ⟨bfc87086_4, bfc87086_7, bfc87086_8, bfc87086_12, bfc87086_13, bfc87086_17, bfc87086_18, bfc87086_19, bfc87086_20, bfc87086_25⟩ := obM I p_ad_0_0
              exact prI (post := fun r L1 f1 => ∃ at92 : Int32, ∃ ps92 : Int32, ∃ tk2 : Int32, ∃ nu2 : Int32, ∃ wd2 : Int64, ∃ wr2 : Int32, ∃ pd2 : Int32, ∃ op92 : Int32, ∃ cg2 : Int32, ∃ iw2 : Int32, ∃ gp2 : Nat → Int32, ∃ gc2 : Nat → Int32, bn 0 5 r ∧ SH (spM PA PI (XR r gB fr gp2 gc2 t0 wr2 pd2 op92 cg2 iw2) pa) nnM G ad L1 f1 ∧ pt L1 f1 (ad 0 0) (.inr (12, [.ref (ad 1 0), .ref (ad 2 0), .ref (ad 3 0), .ref (ad 4 0), .int td, .int fa, .int fp, .int at92, .int ps92, .int tk2, .int nu2, .long wd2, .int t0, .int wr2, .int so, .ref (ad 5 0), .ref (ad 6 0), .int pd2, .int op92, .int cg2, .int iw2, .int on9, .ref (ad 7 0), .ref (ad 8 0), .ref (ad 9 0), .int is9, .ref (ad 10 0), .ref (ad 11 0), .ref (ad 12 0), .ref (ad 13 0), .int se, .ref (ad 14 0)])) ∧ pt L1 f1 (ad 5 0) (.inl (G.2 0, 160, .inl gp2)) ∧ pt L1 f1 (ad 6 0) (.inl (G.2 0, 9, .inl gc2)) ∧ TK at92 ps92 tk2 ∧ (r.toInt = 0 → ps9.toInt + 1 ≤ ps92.toInt) ∧ (r.toInt ≤ 0 → wr2.toInt + pd2.toInt ≤ ps92.toInt) ∧ (r.toInt < 0 → iw2 = 1) ∧ (r.toInt ≤ 0 → ps9.toInt ≤ ps92.toInt)) S Y rfl (by decide) (by decide) hA1 ⟨v_87074, v_87075, v_87076, v_87077, v_87078, wr, v_87079, v_87080, v_87081, iw, g_87082, g_87083, bn_w er_87073 (by decide), I, p_ad_0_0, p_ad_5_0, p_ad_6_0, eT_87084, eR_87085, eW_87086, (fun h => absurd h (by have z9 := (er_87073).1; omega)), (fun h => by have z9 := eR_87085 (by have z8 := (er_87073).1; omega); omega)⟩ dX12_beginOne_158
          · have B_86993 : bn 45 45 tk := bn_w (bn_eq c_86992 (show bn 45 45 (45 : Int32) from bn_k (by decide))) (by decide)
            refine lv_aload_n hx hb dX12_beginOne_127 rfl (lv_at hl 1 rfl) ?_
            refine lv_iconst (v := 5) hx hb dX12_beginOne_128 (by decide) ?_
            refine cVi (As := [.int 5]) (rest := []) S Y (x_X12_opened (l := l) I p_ad_0_0 p_ad_5_0 p_ad_6_0 (show OPH 5 opn gp pd from Or.inl (by decide)) hiw hroom hT (show ¬ tk = 0 from by rw [c_86992]; decide)) cw_X12_opened km12_184 p_ad_0_0 ok_X12.1 rfl rfl ⟨Nat.le_of_ble_eq_true rfl, Nat.le_of_ble_eq_true rfl⟩ hl.1 rfl (Nat.le_of_ble_eq_true rfl) ⟨Nat.le_of_ble_eq_true rfl, Nat.le_of_ble_eq_true rfl⟩ dX12_beginOne_129 (fun r_87090 L_87088 f_87089 H locs hr_87090 Y => ?_)
            obtain ⟨v_87091, v_87092, v_87093, v_87094, v_87095, v_87096, v_87097, v_87098, g_87099, g_87100, er_87090, I, p_ad_0_0, p_ad_5_0, p_ad_6_0, eT_87101, eR_87102, eW_87103⟩ := hr_87090
            obtain ⟨bfc87103_4, bfc87103_7, bfc87103_8, bfc87103_12, bfc87103_13, bfc87103_17, bfc87103_18, bfc87103_19, bfc87103_20, bfc87103_25⟩ := obM I p_ad_0_0
            exact prI (post := fun r L1 f1 => ∃ at92 : Int32, ∃ ps92 : Int32, ∃ tk2 : Int32, ∃ nu2 : Int32, ∃ wd2 : Int64, ∃ wr2 : Int32, ∃ pd2 : Int32, ∃ op92 : Int32, ∃ cg2 : Int32, ∃ iw2 : Int32, ∃ gp2 : Nat → Int32, ∃ gc2 : Nat → Int32, bn 0 5 r ∧ SH (spM PA PI (XR r gB fr gp2 gc2 t0 wr2 pd2 op92 cg2 iw2) pa) nnM G ad L1 f1 ∧ pt L1 f1 (ad 0 0) (.inr (12, [.ref (ad 1 0), .ref (ad 2 0), .ref (ad 3 0), .ref (ad 4 0), .int td, .int fa, .int fp, .int at92, .int ps92, .int tk2, .int nu2, .long wd2, .int t0, .int wr2, .int so, .ref (ad 5 0), .ref (ad 6 0), .int pd2, .int op92, .int cg2, .int iw2, .int on9, .ref (ad 7 0), .ref (ad 8 0), .ref (ad 9 0), .int is9, .ref (ad 10 0), .ref (ad 11 0), .ref (ad 12 0), .ref (ad 13 0), .int se, .ref (ad 14 0)])) ∧ pt L1 f1 (ad 5 0) (.inl (G.2 0, 160, .inl gp2)) ∧ pt L1 f1 (ad 6 0) (.inl (G.2 0, 9, .inl gc2)) ∧ TK at92 ps92 tk2 ∧ (r.toInt = 0 → ps9.toInt + 1 ≤ ps92.toInt) ∧ (r.toInt ≤ 0 → wr2.toInt + pd2.toInt ≤ ps92.toInt) ∧ (r.toInt < 0 → iw2 = 1) ∧ (r.toInt ≤ 0 → ps9.toInt ≤ ps92.toInt)) S Y rfl (by decide) (by decide) hA1 ⟨v_87091, v_87092, v_87093, v_87094, v_87095, wr, v_87096, v_87097, v_87098, iw, g_87099, g_87100, bn_w er_87090 (by decide), I, p_ad_0_0, p_ad_5_0, p_ad_6_0, eT_87101, eR_87102, eW_87103, (fun h => absurd h (by have z9 := (er_87090).1; omega)), (fun h => by have z9 := eR_87102 (by have z8 := (er_87090).1; omega); omega)⟩ dX12_beginOne_132
        · have B_86991 : bn 40 40 tk := bn_w (bn_eq c_86990 (show bn 40 40 (40 : Int32) from bn_k (by decide))) (by decide)
          refine lv_aload_n hx hb dX12_beginOne_111 rfl (lv_at hl 1 rfl) ?_
          refine lv_bipush (v := 40) hx hb dX12_beginOne_112 (by decide) ?_
          refine cVi (As := [.int 40]) (rest := []) S Y (x_X12_opened (l := l) I p_ad_0_0 p_ad_5_0 p_ad_6_0 (show OPH 40 opn gp pd from Or.inl (by decide)) hiw hroom hT (show ¬ tk = 0 from by rw [c_86990]; decide)) cw_X12_opened km12_184 p_ad_0_0 ok_X12.1 rfl rfl ⟨Nat.le_of_ble_eq_true rfl, Nat.le_of_ble_eq_true rfl⟩ hl.1 rfl (Nat.le_of_ble_eq_true rfl) ⟨Nat.le_of_ble_eq_true rfl, Nat.le_of_ble_eq_true rfl⟩ dX12_beginOne_114 (fun r_87107 L_87105 f_87106 H locs hr_87107 Y => ?_)
          obtain ⟨v_87108, v_87109, v_87110, v_87111, v_87112, v_87113, v_87114, v_87115, g_87116, g_87117, er_87107, I, p_ad_0_0, p_ad_5_0, p_ad_6_0, eT_87118, eR_87119, eW_87120⟩ := hr_87107
          obtain ⟨bfc87120_4, bfc87120_7, bfc87120_8, bfc87120_12, bfc87120_13, bfc87120_17, bfc87120_18, bfc87120_19, bfc87120_20, bfc87120_25⟩ := obM I p_ad_0_0
          exact prI (post := fun r L1 f1 => ∃ at92 : Int32, ∃ ps92 : Int32, ∃ tk2 : Int32, ∃ nu2 : Int32, ∃ wd2 : Int64, ∃ wr2 : Int32, ∃ pd2 : Int32, ∃ op92 : Int32, ∃ cg2 : Int32, ∃ iw2 : Int32, ∃ gp2 : Nat → Int32, ∃ gc2 : Nat → Int32, bn 0 5 r ∧ SH (spM PA PI (XR r gB fr gp2 gc2 t0 wr2 pd2 op92 cg2 iw2) pa) nnM G ad L1 f1 ∧ pt L1 f1 (ad 0 0) (.inr (12, [.ref (ad 1 0), .ref (ad 2 0), .ref (ad 3 0), .ref (ad 4 0), .int td, .int fa, .int fp, .int at92, .int ps92, .int tk2, .int nu2, .long wd2, .int t0, .int wr2, .int so, .ref (ad 5 0), .ref (ad 6 0), .int pd2, .int op92, .int cg2, .int iw2, .int on9, .ref (ad 7 0), .ref (ad 8 0), .ref (ad 9 0), .int is9, .ref (ad 10 0), .ref (ad 11 0), .ref (ad 12 0), .ref (ad 13 0), .int se, .ref (ad 14 0)])) ∧ pt L1 f1 (ad 5 0) (.inl (G.2 0, 160, .inl gp2)) ∧ pt L1 f1 (ad 6 0) (.inl (G.2 0, 9, .inl gc2)) ∧ TK at92 ps92 tk2 ∧ (r.toInt = 0 → ps9.toInt + 1 ≤ ps92.toInt) ∧ (r.toInt ≤ 0 → wr2.toInt + pd2.toInt ≤ ps92.toInt) ∧ (r.toInt < 0 → iw2 = 1) ∧ (r.toInt ≤ 0 → ps9.toInt ≤ ps92.toInt)) S Y rfl (by decide) (by decide) hA1 ⟨v_87108, v_87109, v_87110, v_87111, v_87112, wr, v_87113, v_87114, v_87115, iw, g_87116, g_87117, bn_w er_87107 (by decide), I, p_ad_0_0, p_ad_5_0, p_ad_6_0, eT_87118, eR_87119, eW_87120, (fun h => absurd h (by have z9 := (er_87107).1; omega)), (fun h => by have z9 := eR_87119 (by have z8 := (er_87107).1; omega); omega)⟩ dX12_beginOne_117
      · have B_86989 : bn 0 4 r_86983 := bn_w (bn_gel c_86987 B_86985 (show bn 0 0 (0 : Int32) from bn_k (by decide))) (by decide)
        refine lv_aload_n hx hb dX12_beginOne_52 rfl (lv_at hl 1 rfl) ?_
        refine lv_aload_n hx hb dX12_beginOne_53 rfl (lv_at hl 1 rfl) ?_
        refine pg_get S Y ok_X12 9 (by decide) kf12_98 (v := .int tk) p_ad_0_0 rfl dX12_beginOne_54 ?_
        refine lv_iconst (v := 1) hx hb dX12_beginOne_57 (by decide) ?_
        refine lv_icmp_ne (tgt := 65) hx hb dX12_beginOne_58 (by decide) (fun _ => ?_) (fun h => absurd h c_86981)
        refine lv_iconst (v := 1) hx hb dX12_beginOne_65 (by decide) ?_
        refine lv_aload_n hx hb dX12_beginOne_66 rfl (lv_at hl 1 rfl) ?_
        refine pg_get S Y ok_X12 9 (by decide) kf12_98 (v := .int tk) p_ad_0_0 rfl dX12_beginOne_67 ?_
        refine lv_iconst (v := 1) hx hb dX12_beginOne_70 (by decide) ?_
        refine lv_icmp_ne (tgt := 81) hx hb dX12_beginOne_71 (by decide) (fun _ => ?_) (fun h => absurd h c_86981)
        refine lv_iload_n hx hb dX12_beginOne_81 rfl (lv_at hl 0 rfl) ?_
        have B_87122 : bn 0 299 wr := ⟨bfe_13.1, by have z9 := hT.2 (show ¬ tk = 0 from by rw [er_86983.2 (ge_nm (bn_w B_86989 (by decide)))]; decide); have z8 := bfe_7.2; have z7 := bfe_17.1; omega⟩
        refine cVv (As := [.int 1, .int r_86983]) (rest := []) S Y (x_X12_emit (l := l) I p_ad_0_0 p_ad_5_0 p_ad_6_0 (bn_w B_87122 (by decide))) cw_X12_emit km12_148 p_ad_0_0 ok_X12.1 rfl rfl ⟨Nat.le_of_ble_eq_true rfl, Nat.le_of_ble_eq_true rfl⟩ hl.1 rfl (Nat.le_of_ble_eq_true rfl) ⟨Nat.le_of_ble_eq_true rfl, Nat.le_of_ble_eq_true rfl⟩ dX12_beginOne_82 (fun L_87123 f_87124 H locs hr_87125 Y => ?_)
        obtain ⟨v_87126, I, p_ad_0_0, p_ad_5_0, p_ad_6_0, e13_87127⟩ := hr_87125
        obtain ⟨bfc87127_4, bfc87127_7, bfc87127_8, bfc87127_12, bfc87127_13, bfc87127_17, bfc87127_18, bfc87127_19, bfc87127_20, bfc87127_25⟩ := obM I p_ad_0_0
        refine lv_aload_n hx hb dX12_beginOne_85 rfl (lv_at hl 1 rfl) ?_
        obtain ⟨g_87129, p_ad_4_0, o_87130⟩ := I.opi (k := 4) (j := 0) (by decide) rfl
        have p_ad_4_0 : pt L_87123 f_87124 (ad 4 0) (.inl (G.2 0, 300, .inl g_87129)) := p_ad_4_0
        refine cVv (As := []) (rest := []) S Y (x_X12_nextToken (l := l) I p_ad_0_0 p_ad_4_0 p_ad_5_0 p_ad_6_0) cw_X12_nextToken km12_166 p_ad_0_0 ok_X12.1 rfl rfl ⟨Nat.le_of_ble_eq_true rfl, Nat.le_of_ble_eq_true rfl⟩ hl.1 rfl (Nat.le_of_ble_eq_true rfl) ⟨Nat.le_of_ble_eq_true rfl, Nat.le_of_ble_eq_true rfl⟩ dX12_beginOne_86 (fun L_87131 f_87132 H locs hr_87133 Y => ?_)
        obtain ⟨v_87134, v_87135, v_87136, v_87137, v_87138, I, p_ad_0_0, p_ad_4_0, p_ad_5_0, p_ad_6_0, eT_87139, eP_87140⟩ := hr_87133
        obtain ⟨bfc87140_4, bfc87140_7, bfc87140_8, bfc87140_12, bfc87140_13, bfc87140_17, bfc87140_18, bfc87140_19, bfc87140_20, bfc87140_25⟩ := obM I p_ad_0_0
        refine lv_aload_n hx hb dX12_beginOne_89 rfl (lv_at hl 1 rfl) ?_
        refine lv_iconst (v := 1) hx hb dX12_beginOne_90 (by decide) ?_
        refine pg_put S Y ok_X12 20 (by decide) kf12_178 rfl (fs' := [.ref (ad 1 0), .ref (ad 2 0), .ref (ad 3 0), .ref (ad 4 0), .int td, .int fa, .int fp, .int v_87134, .int v_87135, .int v_87136, .int v_87137, .long v_87138, .int t0, .int v_87126, .int so, .ref (ad 5 0), .ref (ad 6 0), .int pd, .int op9, .int cg, .int 1, .int on9, .ref (ad 7 0), .ref (ad 8 0), .ref (ad 9 0), .int is9, .ref (ad 10 0), .ref (ad 11 0), .ref (ad 12 0), .ref (ad 13 0), .int se, .ref (ad 14 0)]) (v := .int 1) p_ad_0_0 rfl rfl rfl (Nat.le_of_ble_eq_true rfl) dX12_beginOne_91 (fun f_87142 H locs ef_87142 Y => ?_)
        have p_ad_4_0 := p_ad_4_0.up ef_87142 (I.ne (k := 4) (j := 0) (k' := 0) (j' := 0) (by decide) (by decide) (Or.inl (by decide)))
        have p_ad_5_0 := p_ad_5_0.up ef_87142 (I.ne (k := 5) (j := 0) (k' := 0) (j' := 0) (by decide) (by decide) (Or.inl (by decide)))
        have p_ad_6_0 := p_ad_6_0.up ef_87142 (I.ne (k := 6) (j := 0) (k' := 0) (j' := 0) (by decide) (by decide) (Or.inl (by decide)))
        have p_ad_0_0 := p_ad_0_0.me ef_87142
        have I := I.up (k := 0) (j := 0) (by decide) ef_87142 (okE_o (okFs_c okV_r (okFs_c okV_r (okFs_c okV_r (okFs_c okV_r (okFs_c (okV_i bfc87140_4) (okFs_c (okV_i (bn_any _)) (okFs_c (okV_i (bn_any _)) (okFs_c (okV_i bfc87140_7) (okFs_c (okV_i bfc87140_8) (okFs_c (okV_i (bn_any _)) (okFs_c (okV_i (bn_any _)) (okFs_c okV_l (okFs_c (okV_i bfc87140_12) (okFs_c (okV_i bfc87140_13) (okFs_c (okV_i (bn_any _)) (okFs_c okV_r (okFs_c okV_r (okFs_c (okV_i bfc87140_17) (okFs_c (okV_i bfc87140_18) (okFs_c (okV_i bfc87140_19) (okFs_c (okV_i (bn_w (show bn 1 1 (1 : Int32) from bn_k (by decide)) (by decide))) (okFs_c (okV_i (bn_any _)) (okFs_c okV_r (okFs_c okV_r (okFs_c okV_r (okFs_c (okV_i bfc87140_25) (okFs_c okV_r (okFs_c okV_r (okFs_c okV_r (okFs_c okV_r (okFs_c (okV_i (bn_any _)) (okFs_c okV_r okFs_n)))))))))))))))))))))))))))))))))
        refine lv_aload_n hx hb dX12_beginOne_94 rfl (lv_at hl 1 rfl) ?_
        refine lv_bipush (v := 7) hx hb dX12_beginOne_95 (by decide) ?_
        obtain ⟨g_87143, p_ad_3_0, o_87144⟩ := I.opi (k := 3) (j := 0) (by decide) rfl
        have p_ad_3_0 : pt L_87131 f_87142 (ad 3 0) (.inl (G.2 0, 2916, .inl g_87143)) := p_ad_3_0
        have o_87145 : (XS gB fr gp gc (7 : Int32).toInt.toNat opn true cmp t0 v_87126 pd op9 cg) g_87143 := (XV_num o_87144 rfl (Or.inr ⟨rfl, (show bn 0 9 r_86983 from bn_w B_86989 (by decide)).1, (show bn 0 9 r_86983 from bn_w B_86989 (by decide)).2⟩) e13_87127 B_87122)
        have I := I.castS (sp' := spM PA PI (XS gB fr gp gc (7 : Int32).toInt.toNat opn true cmp t0 v_87126 pd op9 cg) pa) (k := 3) (j := 0) (by decide) p_ad_3_0 (okE_a (g := g_87143) o_87145) pXC
        refine cVv (As := [.int 7]) (rest := []) S Y (x_X12_settle (l := l) I p_ad_0_0 p_ad_5_0 p_ad_6_0 (bn_w (show bn 7 7 (7 : Int32) from bn_k (by decide)) (by decide)) (by have c0 := e13_87127; have c1 := eT_87139.1; have c2 := eP_87140; have c3 := hroom; have c4 := (hT.2 (show ¬ tk = 0 from by rw [er_86983.2 (ge_nm (bn_w B_86989 (by decide)))]; decide)); have c5 := bfe_8.2; have c6 := bfe_7.2; omega)) cw_X12_settle km12_181 p_ad_0_0 ok_X12.1 rfl rfl ⟨Nat.le_of_ble_eq_true rfl, Nat.le_of_ble_eq_true rfl⟩ hl.1 rfl (Nat.le_of_ble_eq_true rfl) ⟨Nat.le_of_ble_eq_true rfl, Nat.le_of_ble_eq_true rfl⟩ dX12_beginOne_97 (fun L_87146 f_87147 H locs hr_87148 Y => ?_)
        obtain ⟨v_87149, v_87150, v_87151, I, p_ad_0_0, p_ad_5_0, p_ad_6_0, es1_87152, es2_87153, es3_87154⟩ := hr_87148
        obtain ⟨bfc87154_4, bfc87154_7, bfc87154_8, bfc87154_12, bfc87154_13, bfc87154_17, bfc87154_18, bfc87154_19, bfc87154_20, bfc87154_25⟩ := obM I p_ad_0_0
        obtain ⟨g_87156, p_ad_3_0, o_87157⟩ := I.opi (k := 3) (j := 0) (by decide) rfl
        have p_ad_3_0 : pt L_87146 f_87147 (ad 3 0) (.inl (G.2 0, 2916, .inl g_87156)) := p_ad_3_0
        have o_87158 : (XR 0 gB fr gp gc t0 v_87149 v_87150 v_87151 cg 1) g_87156 := (XR_t (XS_end5 o_87157 (by decide) es2_87153))
        have I := I.castS (sp' := spM PA PI (XR 0 gB fr gp gc t0 v_87149 v_87150 v_87151 cg 1) pa) (k := 3) (j := 0) (by decide) p_ad_3_0 (okE_a (g := g_87156) o_87158) pXC
        refine lv_iconst (v := 0) hx hb dX12_beginOne_100 (by decide) ?_
        exact prI (post := fun r L1 f1 => ∃ at92 : Int32, ∃ ps92 : Int32, ∃ tk2 : Int32, ∃ nu2 : Int32, ∃ wd2 : Int64, ∃ wr2 : Int32, ∃ pd2 : Int32, ∃ op92 : Int32, ∃ cg2 : Int32, ∃ iw2 : Int32, ∃ gp2 : Nat → Int32, ∃ gc2 : Nat → Int32, bn 0 5 r ∧ SH (spM PA PI (XR r gB fr gp2 gc2 t0 wr2 pd2 op92 cg2 iw2) pa) nnM G ad L1 f1 ∧ pt L1 f1 (ad 0 0) (.inr (12, [.ref (ad 1 0), .ref (ad 2 0), .ref (ad 3 0), .ref (ad 4 0), .int td, .int fa, .int fp, .int at92, .int ps92, .int tk2, .int nu2, .long wd2, .int t0, .int wr2, .int so, .ref (ad 5 0), .ref (ad 6 0), .int pd2, .int op92, .int cg2, .int iw2, .int on9, .ref (ad 7 0), .ref (ad 8 0), .ref (ad 9 0), .int is9, .ref (ad 10 0), .ref (ad 11 0), .ref (ad 12 0), .ref (ad 13 0), .int se, .ref (ad 14 0)])) ∧ pt L1 f1 (ad 5 0) (.inl (G.2 0, 160, .inl gp2)) ∧ pt L1 f1 (ad 6 0) (.inl (G.2 0, 9, .inl gc2)) ∧ TK at92 ps92 tk2 ∧ (r.toInt = 0 → ps9.toInt + 1 ≤ ps92.toInt) ∧ (r.toInt ≤ 0 → wr2.toInt + pd2.toInt ≤ ps92.toInt) ∧ (r.toInt < 0 → iw2 = 1) ∧ (r.toInt ≤ 0 → ps9.toInt ≤ ps92.toInt)) S Y rfl (by decide) (by decide) hA1 ⟨v_87134, v_87135, v_87136, v_87137, v_87138, v_87149, v_87150, v_87151, cg, 1, gp, gc, bn_w (show bn 0 0 (0 : Int32) from bn_k (by decide)) (by decide), I, p_ad_0_0, p_ad_5_0, p_ad_6_0, eT_87139, (fun _ => (by have c0 := e13_87127; have c1 := eT_87139.1; have c2 := eP_87140; have c3 := es1_87152; have c4 := es3_87154; have c5 := hroom; have c6 := (hT.2 (show ¬ tk = 0 from by rw [er_86983.2 (ge_nm (bn_w B_86989 (by decide)))]; decide)); omega)), (fun _ => (by have c0 := e13_87127; have c1 := eT_87139.1; have c2 := eP_87140; have c3 := es1_87152; have c4 := es3_87154; have c5 := hroom; have c6 := (hT.2 (show ¬ tk = 0 from by rw [er_86983.2 (ge_nm (bn_w B_86989 (by decide)))]; decide)); omega)), (fun h => absurd h (by decide)), (fun _ => (by have c0 := e13_87127; have c1 := eT_87139.1; have c2 := eP_87140; have c3 := es1_87152; have c4 := es3_87154; have c5 := hroom; have c6 := (hT.2 (show ¬ tk = 0 from by rw [er_86983.2 (ge_nm (bn_w B_86989 (by decide)))]; decide)); omega))⟩ dX12_beginOne_101
    · have B_86986 : bn 5 9 r_86983 := bn_w (bn_gtl c_86984 er_86983.1 (show bn 4 4 (4 : Int32) from bn_k (by decide))) (by decide)
      refine lv_aload_n hx hb dX12_beginOne_30 rfl (lv_at hl 1 rfl) ?_
      refine pg_get S Y ok_X12 14 (by decide) kf12_175 (v := .int so) p_ad_0_0 rfl dX12_beginOne_31 ?_
      refine lv_iconst (v := 2) hx hb dX12_beginOne_34 (by decide) ?_
      refine lv_icmp_ne (tgt := 40) hx hb dX12_beginOne_35 (by decide) (fun c_87159 => ?_) (fun c_87159 => ?_)
      · refine lv_aload_n hx hb dX12_beginOne_40 rfl (lv_at hl 1 rfl) ?_
        refine pg_get S Y ok_X12 9 (by decide) kf12_98 (v := .int tk) p_ad_0_0 rfl dX12_beginOne_41 ?_
        refine lv_iconst (v := 1) hx hb dX12_beginOne_44 (by decide) ?_
        refine lv_icmp_eq (tgt := 52) hx hb dX12_beginOne_45 (by decide) (fun h => absurd h c_86981) (fun _ => ?_)
        refine lv_iload_n hx hb dX12_beginOne_48 rfl (lv_at hl 0 rfl) ?_
        refine lv_if_lt (tgt := 102) hx hb dX12_beginOne_49 (by decide) (fun h => absurd h (bd_nlt B_86986 (show bn 0 0 (0 : Int32) from bn_k (by decide)) (by decide))) (fun _ => ?_)
        refine lv_aload_n hx hb dX12_beginOne_52 rfl (lv_at hl 1 rfl) ?_
        refine lv_aload_n hx hb dX12_beginOne_53 rfl (lv_at hl 1 rfl) ?_
        refine pg_get S Y ok_X12 9 (by decide) kf12_98 (v := .int tk) p_ad_0_0 rfl dX12_beginOne_54 ?_
        refine lv_iconst (v := 1) hx hb dX12_beginOne_57 (by decide) ?_
        refine lv_icmp_ne (tgt := 65) hx hb dX12_beginOne_58 (by decide) (fun _ => ?_) (fun h => absurd h c_86981)
        refine lv_iconst (v := 1) hx hb dX12_beginOne_65 (by decide) ?_
        refine lv_aload_n hx hb dX12_beginOne_66 rfl (lv_at hl 1 rfl) ?_
        refine pg_get S Y ok_X12 9 (by decide) kf12_98 (v := .int tk) p_ad_0_0 rfl dX12_beginOne_67 ?_
        refine lv_iconst (v := 1) hx hb dX12_beginOne_70 (by decide) ?_
        refine lv_icmp_ne (tgt := 81) hx hb dX12_beginOne_71 (by decide) (fun _ => ?_) (fun h => absurd h c_86981)
        refine lv_iload_n hx hb dX12_beginOne_81 rfl (lv_at hl 0 rfl) ?_
        have B_87161 : bn 0 299 wr := ⟨bfe_13.1, by have z9 := hT.2 (show ¬ tk = 0 from by rw [er_86983.2 (ge_nm (bn_w B_86986 (by decide)))]; decide); have z8 := bfe_7.2; have z7 := bfe_17.1; omega⟩
        refine cVv (As := [.int 1, .int r_86983]) (rest := []) S Y (x_X12_emit (l := l) I p_ad_0_0 p_ad_5_0 p_ad_6_0 (bn_w B_87161 (by decide))) cw_X12_emit km12_148 p_ad_0_0 ok_X12.1 rfl rfl ⟨Nat.le_of_ble_eq_true rfl, Nat.le_of_ble_eq_true rfl⟩ hl.1 rfl (Nat.le_of_ble_eq_true rfl) ⟨Nat.le_of_ble_eq_true rfl, Nat.le_of_ble_eq_true rfl⟩ dX12_beginOne_82 (fun L_87162 f_87163 H locs hr_87164 Y => ?_)
        obtain ⟨v_87165, I, p_ad_0_0, p_ad_5_0, p_ad_6_0, e13_87166⟩ := hr_87164
        obtain ⟨bfc87166_4, bfc87166_7, bfc87166_8, bfc87166_12, bfc87166_13, bfc87166_17, bfc87166_18, bfc87166_19, bfc87166_20, bfc87166_25⟩ := obM I p_ad_0_0
        refine lv_aload_n hx hb dX12_beginOne_85 rfl (lv_at hl 1 rfl) ?_
        obtain ⟨g_87168, p_ad_4_0, o_87169⟩ := I.opi (k := 4) (j := 0) (by decide) rfl
        have p_ad_4_0 : pt L_87162 f_87163 (ad 4 0) (.inl (G.2 0, 300, .inl g_87168)) := p_ad_4_0
        refine cVv (As := []) (rest := []) S Y (x_X12_nextToken (l := l) I p_ad_0_0 p_ad_4_0 p_ad_5_0 p_ad_6_0) cw_X12_nextToken km12_166 p_ad_0_0 ok_X12.1 rfl rfl ⟨Nat.le_of_ble_eq_true rfl, Nat.le_of_ble_eq_true rfl⟩ hl.1 rfl (Nat.le_of_ble_eq_true rfl) ⟨Nat.le_of_ble_eq_true rfl, Nat.le_of_ble_eq_true rfl⟩ dX12_beginOne_86 (fun L_87170 f_87171 H locs hr_87172 Y => ?_)
        obtain ⟨v_87173, v_87174, v_87175, v_87176, v_87177, I, p_ad_0_0, p_ad_4_0, p_ad_5_0, p_ad_6_0, eT_87178, eP_87179⟩ := hr_87172
        obtain ⟨bfc87179_4, bfc87179_7, bfc87179_8, bfc87179_12, bfc87179_13, bfc87179_17, bfc87179_18, bfc87179_19, bfc87179_20, bfc87179_25⟩ := obM I p_ad_0_0
        refine lv_aload_n hx hb dX12_beginOne_89 rfl (lv_at hl 1 rfl) ?_
        refine lv_iconst (v := 1) hx hb dX12_beginOne_90 (by decide) ?_
        refine pg_put S Y ok_X12 20 (by decide) kf12_178 rfl (fs' := [.ref (ad 1 0), .ref (ad 2 0), .ref (ad 3 0), .ref (ad 4 0), .int td, .int fa, .int fp, .int v_87173, .int v_87174, .int v_87175, .int v_87176, .long v_87177, .int t0, .int v_87165, .int so, .ref (ad 5 0), .ref (ad 6 0), .int pd, .int op9, .int cg, .int 1, .int on9, .ref (ad 7 0), .ref (ad 8 0), .ref (ad 9 0), .int is9, .ref (ad 10 0), .ref (ad 11 0), .ref (ad 12 0), .ref (ad 13 0), .int se, .ref (ad 14 0)]) (v := .int 1) p_ad_0_0 rfl rfl rfl (Nat.le_of_ble_eq_true rfl) dX12_beginOne_91 (fun f_87181 H locs ef_87181 Y => ?_)
        have p_ad_4_0 := p_ad_4_0.up ef_87181 (I.ne (k := 4) (j := 0) (k' := 0) (j' := 0) (by decide) (by decide) (Or.inl (by decide)))
        have p_ad_5_0 := p_ad_5_0.up ef_87181 (I.ne (k := 5) (j := 0) (k' := 0) (j' := 0) (by decide) (by decide) (Or.inl (by decide)))
        have p_ad_6_0 := p_ad_6_0.up ef_87181 (I.ne (k := 6) (j := 0) (k' := 0) (j' := 0) (by decide) (by decide) (Or.inl (by decide)))
        have p_ad_0_0 := p_ad_0_0.me ef_87181
        have I := I.up (k := 0) (j := 0) (by decide) ef_87181 (okE_o (okFs_c okV_r (okFs_c okV_r (okFs_c okV_r (okFs_c okV_r (okFs_c (okV_i bfc87179_4) (okFs_c (okV_i (bn_any _)) (okFs_c (okV_i (bn_any _)) (okFs_c (okV_i bfc87179_7) (okFs_c (okV_i bfc87179_8) (okFs_c (okV_i (bn_any _)) (okFs_c (okV_i (bn_any _)) (okFs_c okV_l (okFs_c (okV_i bfc87179_12) (okFs_c (okV_i bfc87179_13) (okFs_c (okV_i (bn_any _)) (okFs_c okV_r (okFs_c okV_r (okFs_c (okV_i bfc87179_17) (okFs_c (okV_i bfc87179_18) (okFs_c (okV_i bfc87179_19) (okFs_c (okV_i (bn_w (show bn 1 1 (1 : Int32) from bn_k (by decide)) (by decide))) (okFs_c (okV_i (bn_any _)) (okFs_c okV_r (okFs_c okV_r (okFs_c okV_r (okFs_c (okV_i bfc87179_25) (okFs_c okV_r (okFs_c okV_r (okFs_c okV_r (okFs_c okV_r (okFs_c (okV_i (bn_any _)) (okFs_c okV_r okFs_n)))))))))))))))))))))))))))))))))
        refine lv_aload_n hx hb dX12_beginOne_94 rfl (lv_at hl 1 rfl) ?_
        refine lv_bipush (v := 7) hx hb dX12_beginOne_95 (by decide) ?_
        obtain ⟨g_87182, p_ad_3_0, o_87183⟩ := I.opi (k := 3) (j := 0) (by decide) rfl
        have p_ad_3_0 : pt L_87170 f_87181 (ad 3 0) (.inl (G.2 0, 2916, .inl g_87182)) := p_ad_3_0
        have o_87184 : (XS gB fr gp gc (7 : Int32).toInt.toNat opn true cmp t0 v_87165 pd op9 cg) g_87182 := (XV_num o_87183 rfl (Or.inr ⟨rfl, (show bn 0 9 r_86983 from bn_w B_86986 (by decide)).1, (show bn 0 9 r_86983 from bn_w B_86986 (by decide)).2⟩) e13_87166 B_87161)
        have I := I.castS (sp' := spM PA PI (XS gB fr gp gc (7 : Int32).toInt.toNat opn true cmp t0 v_87165 pd op9 cg) pa) (k := 3) (j := 0) (by decide) p_ad_3_0 (okE_a (g := g_87182) o_87184) pXC
        refine cVv (As := [.int 7]) (rest := []) S Y (x_X12_settle (l := l) I p_ad_0_0 p_ad_5_0 p_ad_6_0 (bn_w (show bn 7 7 (7 : Int32) from bn_k (by decide)) (by decide)) (by have c0 := e13_87166; have c1 := eT_87178.1; have c2 := eP_87179; have c3 := hroom; have c4 := (hT.2 (show ¬ tk = 0 from by rw [er_86983.2 (ge_nm (bn_w B_86986 (by decide)))]; decide)); have c5 := bfe_8.2; have c6 := bfe_7.2; omega)) cw_X12_settle km12_181 p_ad_0_0 ok_X12.1 rfl rfl ⟨Nat.le_of_ble_eq_true rfl, Nat.le_of_ble_eq_true rfl⟩ hl.1 rfl (Nat.le_of_ble_eq_true rfl) ⟨Nat.le_of_ble_eq_true rfl, Nat.le_of_ble_eq_true rfl⟩ dX12_beginOne_97 (fun L_87185 f_87186 H locs hr_87187 Y => ?_)
        obtain ⟨v_87188, v_87189, v_87190, I, p_ad_0_0, p_ad_5_0, p_ad_6_0, es1_87191, es2_87192, es3_87193⟩ := hr_87187
        obtain ⟨bfc87193_4, bfc87193_7, bfc87193_8, bfc87193_12, bfc87193_13, bfc87193_17, bfc87193_18, bfc87193_19, bfc87193_20, bfc87193_25⟩ := obM I p_ad_0_0
        obtain ⟨g_87195, p_ad_3_0, o_87196⟩ := I.opi (k := 3) (j := 0) (by decide) rfl
        have p_ad_3_0 : pt L_87185 f_87186 (ad 3 0) (.inl (G.2 0, 2916, .inl g_87195)) := p_ad_3_0
        have o_87197 : (XR 0 gB fr gp gc t0 v_87188 v_87189 v_87190 cg 1) g_87195 := (XR_t (XS_end5 o_87196 (by decide) es2_87192))
        have I := I.castS (sp' := spM PA PI (XR 0 gB fr gp gc t0 v_87188 v_87189 v_87190 cg 1) pa) (k := 3) (j := 0) (by decide) p_ad_3_0 (okE_a (g := g_87195) o_87197) pXC
        refine lv_iconst (v := 0) hx hb dX12_beginOne_100 (by decide) ?_
        exact prI (post := fun r L1 f1 => ∃ at92 : Int32, ∃ ps92 : Int32, ∃ tk2 : Int32, ∃ nu2 : Int32, ∃ wd2 : Int64, ∃ wr2 : Int32, ∃ pd2 : Int32, ∃ op92 : Int32, ∃ cg2 : Int32, ∃ iw2 : Int32, ∃ gp2 : Nat → Int32, ∃ gc2 : Nat → Int32, bn 0 5 r ∧ SH (spM PA PI (XR r gB fr gp2 gc2 t0 wr2 pd2 op92 cg2 iw2) pa) nnM G ad L1 f1 ∧ pt L1 f1 (ad 0 0) (.inr (12, [.ref (ad 1 0), .ref (ad 2 0), .ref (ad 3 0), .ref (ad 4 0), .int td, .int fa, .int fp, .int at92, .int ps92, .int tk2, .int nu2, .long wd2, .int t0, .int wr2, .int so, .ref (ad 5 0), .ref (ad 6 0), .int pd2, .int op92, .int cg2, .int iw2, .int on9, .ref (ad 7 0), .ref (ad 8 0), .ref (ad 9 0), .int is9, .ref (ad 10 0), .ref (ad 11 0), .ref (ad 12 0), .ref (ad 13 0), .int se, .ref (ad 14 0)])) ∧ pt L1 f1 (ad 5 0) (.inl (G.2 0, 160, .inl gp2)) ∧ pt L1 f1 (ad 6 0) (.inl (G.2 0, 9, .inl gc2)) ∧ TK at92 ps92 tk2 ∧ (r.toInt = 0 → ps9.toInt + 1 ≤ ps92.toInt) ∧ (r.toInt ≤ 0 → wr2.toInt + pd2.toInt ≤ ps92.toInt) ∧ (r.toInt < 0 → iw2 = 1) ∧ (r.toInt ≤ 0 → ps9.toInt ≤ ps92.toInt)) S Y rfl (by decide) (by decide) hA1 ⟨v_87173, v_87174, v_87175, v_87176, v_87177, v_87188, v_87189, v_87190, cg, 1, gp, gc, bn_w (show bn 0 0 (0 : Int32) from bn_k (by decide)) (by decide), I, p_ad_0_0, p_ad_5_0, p_ad_6_0, eT_87178, (fun _ => (by have c0 := e13_87166; have c1 := eT_87178.1; have c2 := eP_87179; have c3 := es1_87191; have c4 := es3_87193; have c5 := hroom; have c6 := (hT.2 (show ¬ tk = 0 from by rw [er_86983.2 (ge_nm (bn_w B_86986 (by decide)))]; decide)); omega)), (fun _ => (by have c0 := e13_87166; have c1 := eT_87178.1; have c2 := eP_87179; have c3 := es1_87191; have c4 := es3_87193; have c5 := hroom; have c6 := (hT.2 (show ¬ tk = 0 from by rw [er_86983.2 (ge_nm (bn_w B_86986 (by decide)))]; decide)); omega)), (fun h => absurd h (by decide)), (fun _ => (by have c0 := e13_87166; have c1 := eT_87178.1; have c2 := eP_87179; have c3 := es1_87191; have c4 := es3_87193; have c5 := hroom; have c6 := (hT.2 (show ¬ tk = 0 from by rw [er_86983.2 (ge_nm (bn_w B_86986 (by decide)))]; decide)); omega))⟩ dX12_beginOne_101
      · have B_87160 : bn 2 2 so := bn_w (bn_eq c_87159 (show bn 2 2 (2 : Int32) from bn_k (by decide))) (by decide)
        have o_87198 : (XR 5 gB fr gp gc t0 wr pd op9 cg iw) g_86977 := (XR_no o_86980.1 (by decide))
        have I := I.castS (sp' := spM PA PI (XR 5 gB fr gp gc t0 wr pd op9 cg iw) pa) (k := 3) (j := 0) (by decide) p_ad_3_0 (okE_a (g := g_86977) o_87198) pXC
        refine lv_iconst (v := 5) hx hb dX12_beginOne_38 (by decide) ?_
        exact prI (post := fun r L1 f1 => ∃ at92 : Int32, ∃ ps92 : Int32, ∃ tk2 : Int32, ∃ nu2 : Int32, ∃ wd2 : Int64, ∃ wr2 : Int32, ∃ pd2 : Int32, ∃ op92 : Int32, ∃ cg2 : Int32, ∃ iw2 : Int32, ∃ gp2 : Nat → Int32, ∃ gc2 : Nat → Int32, bn 0 5 r ∧ SH (spM PA PI (XR r gB fr gp2 gc2 t0 wr2 pd2 op92 cg2 iw2) pa) nnM G ad L1 f1 ∧ pt L1 f1 (ad 0 0) (.inr (12, [.ref (ad 1 0), .ref (ad 2 0), .ref (ad 3 0), .ref (ad 4 0), .int td, .int fa, .int fp, .int at92, .int ps92, .int tk2, .int nu2, .long wd2, .int t0, .int wr2, .int so, .ref (ad 5 0), .ref (ad 6 0), .int pd2, .int op92, .int cg2, .int iw2, .int on9, .ref (ad 7 0), .ref (ad 8 0), .ref (ad 9 0), .int is9, .ref (ad 10 0), .ref (ad 11 0), .ref (ad 12 0), .ref (ad 13 0), .int se, .ref (ad 14 0)])) ∧ pt L1 f1 (ad 5 0) (.inl (G.2 0, 160, .inl gp2)) ∧ pt L1 f1 (ad 6 0) (.inl (G.2 0, 9, .inl gc2)) ∧ TK at92 ps92 tk2 ∧ (r.toInt = 0 → ps9.toInt + 1 ≤ ps92.toInt) ∧ (r.toInt ≤ 0 → wr2.toInt + pd2.toInt ≤ ps92.toInt) ∧ (r.toInt < 0 → iw2 = 1) ∧ (r.toInt ≤ 0 → ps9.toInt ≤ ps92.toInt)) S Y rfl (by decide) (by decide) hA1 ⟨at9, ps9, tk, nu, wd, wr, pd, op9, cg, iw, gp, gc, bn_w (show bn 5 5 (5 : Int32) from bn_k (by decide)) (by decide), I, p_ad_0_0, p_ad_5_0, p_ad_6_0, hT, (fun h => absurd h (by decide)), (fun h => absurd h (by decide)), (fun h => absurd h (by decide)), (fun h => absurd h (by decide))⟩ dX12_beginOne_39
  · have B_86982 : bn 1 1 tk := bn_w (bn_eq c_86981 (show bn 1 1 (1 : Int32) from bn_k (by decide))) (by decide)
    refine lv_aload_n hx hb dX12_beginOne_8 rfl (lv_at hl 0 rfl) ?_
    refine pg_get S Y ok_X12 10 (by decide) kf12_104 (v := .int nu) p_ad_0_0 rfl dX12_beginOne_9 ?_
    refine lv_sipush (v := 9999) hx hb dX12_beginOne_12 (by decide) ?_
    refine lv_icmp_le (tgt := 20) hx hb dX12_beginOne_15 (by decide) (fun c_87199 => ?_) (fun c_87199 => ?_)
    · have B_87200 : bn (-2147483648) 9999 nu := bn_w (bn_lel c_87199 (bn_any nu) (show bn 9999 9999 (9999 : Int32) from bn_k (by decide))) (by decide)
      refine lv_aload_n hx hb dX12_beginOne_20 rfl (lv_at hl 0 rfl) ?_
      refine cVp (As := []) (rest := []) S Y (x_X12_nameOf (l := l) I p_ad_0_0) cw_X12_nameOf km12_172 p_ad_0_0 ok_X12.1 rfl rfl ⟨Nat.le_of_ble_eq_true rfl, Nat.le_of_ble_eq_true rfl⟩ hl.1 rfl (Nat.le_of_ble_eq_true rfl) ⟨Nat.le_of_ble_eq_true rfl, Nat.le_of_ble_eq_true rfl⟩ dX12_beginOne_21 (fun r_87202 H locs er_87202 Y => ?_)
      refine lv_istore_n (lv' := [(1, .int r_87202), (0, .ref (ad 0 0))]) hx hb dX12_beginOne_24 rfl hl (by decide) rfl (fun ls hl => ?_)
      refine lv_iload_n hx hb dX12_beginOne_25 rfl (lv_at hl 0 rfl) ?_
      refine lv_iconst (v := 4) hx hb dX12_beginOne_26 (by decide) ?_
      refine lv_icmp_le (tgt := 40) hx hb dX12_beginOne_27 (by decide) (fun c_87203 => ?_) (fun c_87203 => ?_)
      · have B_87204 : bn (-1) 4 r_87202 := bn_w (bn_lel c_87203 er_87202.1 (show bn 4 4 (4 : Int32) from bn_k (by decide))) (by decide)
        refine lv_aload_n hx hb dX12_beginOne_40 rfl (lv_at hl 1 rfl) ?_
        refine pg_get S Y ok_X12 9 (by decide) kf12_98 (v := .int tk) p_ad_0_0 rfl dX12_beginOne_41 ?_
        refine lv_iconst (v := 1) hx hb dX12_beginOne_44 (by decide) ?_
        refine lv_icmp_eq (tgt := 52) hx hb dX12_beginOne_45 (by decide) (fun _ => ?_) (fun h => absurd c_86981 h)
        refine lv_aload_n hx hb dX12_beginOne_52 rfl (lv_at hl 1 rfl) ?_
        refine lv_aload_n hx hb dX12_beginOne_53 rfl (lv_at hl 1 rfl) ?_
        refine pg_get S Y ok_X12 9 (by decide) kf12_98 (v := .int tk) p_ad_0_0 rfl dX12_beginOne_54 ?_
        refine lv_iconst (v := 1) hx hb dX12_beginOne_57 (by decide) ?_
        refine lv_icmp_ne (tgt := 65) hx hb dX12_beginOne_58 (by decide) (fun h => absurd c_86981 h) (fun _ => ?_)
        refine lv_iconst (v := 0) hx hb dX12_beginOne_61 (by decide) ?_
        refine lv_goto (tgt := 66) hx hb dX12_beginOne_62 (by decide) ?_
        refine lv_aload_n hx hb dX12_beginOne_66 rfl (lv_at hl 1 rfl) ?_
        refine pg_get S Y ok_X12 9 (by decide) kf12_98 (v := .int tk) p_ad_0_0 rfl dX12_beginOne_67 ?_
        refine lv_iconst (v := 1) hx hb dX12_beginOne_70 (by decide) ?_
        refine lv_icmp_ne (tgt := 81) hx hb dX12_beginOne_71 (by decide) (fun h => absurd c_86981 h) (fun _ => ?_)
        refine lv_aload_n hx hb dX12_beginOne_74 rfl (lv_at hl 1 rfl) ?_
        refine pg_get S Y ok_X12 10 (by decide) kf12_104 (v := .int nu) p_ad_0_0 rfl dX12_beginOne_75 ?_
        refine lv_goto (tgt := 82) hx hb dX12_beginOne_78 (by decide) ?_
        have B_87206 : bn 0 299 wr := ⟨bfe_13.1, by have z9 := hT.2 (show ¬ tk = 0 from by rw [c_86981]; decide); have z8 := bfe_7.2; have z7 := bfe_17.1; omega⟩
        refine cVv (As := [.int 0, .int nu]) (rest := []) S Y (x_X12_emit (l := l) I p_ad_0_0 p_ad_5_0 p_ad_6_0 (bn_w B_87206 (by decide))) cw_X12_emit km12_148 p_ad_0_0 ok_X12.1 rfl rfl ⟨Nat.le_of_ble_eq_true rfl, Nat.le_of_ble_eq_true rfl⟩ hl.1 rfl (Nat.le_of_ble_eq_true rfl) ⟨Nat.le_of_ble_eq_true rfl, Nat.le_of_ble_eq_true rfl⟩ dX12_beginOne_82 (fun L_87207 f_87208 H locs hr_87209 Y => ?_)
        obtain ⟨v_87210, I, p_ad_0_0, p_ad_5_0, p_ad_6_0, e13_87211⟩ := hr_87209
        obtain ⟨bfc87211_4, bfc87211_7, bfc87211_8, bfc87211_12, bfc87211_13, bfc87211_17, bfc87211_18, bfc87211_19, bfc87211_20, bfc87211_25⟩ := obM I p_ad_0_0
        refine lv_aload_n hx hb dX12_beginOne_85 rfl (lv_at hl 1 rfl) ?_
        obtain ⟨g_87213, p_ad_4_0, o_87214⟩ := I.opi (k := 4) (j := 0) (by decide) rfl
        have p_ad_4_0 : pt L_87207 f_87208 (ad 4 0) (.inl (G.2 0, 300, .inl g_87213)) := p_ad_4_0
        refine cVv (As := []) (rest := []) S Y (x_X12_nextToken (l := l) I p_ad_0_0 p_ad_4_0 p_ad_5_0 p_ad_6_0) cw_X12_nextToken km12_166 p_ad_0_0 ok_X12.1 rfl rfl ⟨Nat.le_of_ble_eq_true rfl, Nat.le_of_ble_eq_true rfl⟩ hl.1 rfl (Nat.le_of_ble_eq_true rfl) ⟨Nat.le_of_ble_eq_true rfl, Nat.le_of_ble_eq_true rfl⟩ dX12_beginOne_86 (fun L_87215 f_87216 H locs hr_87217 Y => ?_)
        obtain ⟨v_87218, v_87219, v_87220, v_87221, v_87222, I, p_ad_0_0, p_ad_4_0, p_ad_5_0, p_ad_6_0, eT_87223, eP_87224⟩ := hr_87217
        obtain ⟨bfc87224_4, bfc87224_7, bfc87224_8, bfc87224_12, bfc87224_13, bfc87224_17, bfc87224_18, bfc87224_19, bfc87224_20, bfc87224_25⟩ := obM I p_ad_0_0
        refine lv_aload_n hx hb dX12_beginOne_89 rfl (lv_at hl 1 rfl) ?_
        refine lv_iconst (v := 1) hx hb dX12_beginOne_90 (by decide) ?_
        refine pg_put S Y ok_X12 20 (by decide) kf12_178 rfl (fs' := [.ref (ad 1 0), .ref (ad 2 0), .ref (ad 3 0), .ref (ad 4 0), .int td, .int fa, .int fp, .int v_87218, .int v_87219, .int v_87220, .int v_87221, .long v_87222, .int t0, .int v_87210, .int so, .ref (ad 5 0), .ref (ad 6 0), .int pd, .int op9, .int cg, .int 1, .int on9, .ref (ad 7 0), .ref (ad 8 0), .ref (ad 9 0), .int is9, .ref (ad 10 0), .ref (ad 11 0), .ref (ad 12 0), .ref (ad 13 0), .int se, .ref (ad 14 0)]) (v := .int 1) p_ad_0_0 rfl rfl rfl (Nat.le_of_ble_eq_true rfl) dX12_beginOne_91 (fun f_87226 H locs ef_87226 Y => ?_)
        have p_ad_4_0 := p_ad_4_0.up ef_87226 (I.ne (k := 4) (j := 0) (k' := 0) (j' := 0) (by decide) (by decide) (Or.inl (by decide)))
        have p_ad_5_0 := p_ad_5_0.up ef_87226 (I.ne (k := 5) (j := 0) (k' := 0) (j' := 0) (by decide) (by decide) (Or.inl (by decide)))
        have p_ad_6_0 := p_ad_6_0.up ef_87226 (I.ne (k := 6) (j := 0) (k' := 0) (j' := 0) (by decide) (by decide) (Or.inl (by decide)))
        have p_ad_0_0 := p_ad_0_0.me ef_87226
        have I := I.up (k := 0) (j := 0) (by decide) ef_87226 (okE_o (okFs_c okV_r (okFs_c okV_r (okFs_c okV_r (okFs_c okV_r (okFs_c (okV_i bfc87224_4) (okFs_c (okV_i (bn_any _)) (okFs_c (okV_i (bn_any _)) (okFs_c (okV_i bfc87224_7) (okFs_c (okV_i bfc87224_8) (okFs_c (okV_i (bn_any _)) (okFs_c (okV_i (bn_any _)) (okFs_c okV_l (okFs_c (okV_i bfc87224_12) (okFs_c (okV_i bfc87224_13) (okFs_c (okV_i (bn_any _)) (okFs_c okV_r (okFs_c okV_r (okFs_c (okV_i bfc87224_17) (okFs_c (okV_i bfc87224_18) (okFs_c (okV_i bfc87224_19) (okFs_c (okV_i (bn_w (show bn 1 1 (1 : Int32) from bn_k (by decide)) (by decide))) (okFs_c (okV_i (bn_any _)) (okFs_c okV_r (okFs_c okV_r (okFs_c okV_r (okFs_c (okV_i bfc87224_25) (okFs_c okV_r (okFs_c okV_r (okFs_c okV_r (okFs_c okV_r (okFs_c (okV_i (bn_any _)) (okFs_c okV_r okFs_n)))))))))))))))))))))))))))))))))
        refine lv_aload_n hx hb dX12_beginOne_94 rfl (lv_at hl 1 rfl) ?_
        refine lv_bipush (v := 7) hx hb dX12_beginOne_95 (by decide) ?_
        obtain ⟨g_87227, p_ad_3_0, o_87228⟩ := I.opi (k := 3) (j := 0) (by decide) rfl
        have p_ad_3_0 : pt L_87215 f_87226 (ad 3 0) (.inl (G.2 0, 2916, .inl g_87227)) := p_ad_3_0
        have o_87229 : (XS gB fr gp gc (7 : Int32).toInt.toNat opn true cmp t0 v_87210 pd op9 cg) g_87227 := (XV_num o_87228 rfl (Or.inl rfl) e13_87211 B_87206)
        have I := I.castS (sp' := spM PA PI (XS gB fr gp gc (7 : Int32).toInt.toNat opn true cmp t0 v_87210 pd op9 cg) pa) (k := 3) (j := 0) (by decide) p_ad_3_0 (okE_a (g := g_87227) o_87229) pXC
        refine cVv (As := [.int 7]) (rest := []) S Y (x_X12_settle (l := l) I p_ad_0_0 p_ad_5_0 p_ad_6_0 (bn_w (show bn 7 7 (7 : Int32) from bn_k (by decide)) (by decide)) (by have c0 := e13_87211; have c1 := eT_87223.1; have c2 := eP_87224; have c3 := hroom; have c4 := (hT.2 (show ¬ tk = 0 from by rw [c_86981]; decide)); have c5 := bfe_8.2; have c6 := bfe_7.2; omega)) cw_X12_settle km12_181 p_ad_0_0 ok_X12.1 rfl rfl ⟨Nat.le_of_ble_eq_true rfl, Nat.le_of_ble_eq_true rfl⟩ hl.1 rfl (Nat.le_of_ble_eq_true rfl) ⟨Nat.le_of_ble_eq_true rfl, Nat.le_of_ble_eq_true rfl⟩ dX12_beginOne_97 (fun L_87230 f_87231 H locs hr_87232 Y => ?_)
        obtain ⟨v_87233, v_87234, v_87235, I, p_ad_0_0, p_ad_5_0, p_ad_6_0, es1_87236, es2_87237, es3_87238⟩ := hr_87232
        obtain ⟨bfc87238_4, bfc87238_7, bfc87238_8, bfc87238_12, bfc87238_13, bfc87238_17, bfc87238_18, bfc87238_19, bfc87238_20, bfc87238_25⟩ := obM I p_ad_0_0
        obtain ⟨g_87240, p_ad_3_0, o_87241⟩ := I.opi (k := 3) (j := 0) (by decide) rfl
        have p_ad_3_0 : pt L_87230 f_87231 (ad 3 0) (.inl (G.2 0, 2916, .inl g_87240)) := p_ad_3_0
        have o_87242 : (XR 0 gB fr gp gc t0 v_87233 v_87234 v_87235 cg 1) g_87240 := (XR_t (XS_end5 o_87241 (by decide) es2_87237))
        have I := I.castS (sp' := spM PA PI (XR 0 gB fr gp gc t0 v_87233 v_87234 v_87235 cg 1) pa) (k := 3) (j := 0) (by decide) p_ad_3_0 (okE_a (g := g_87240) o_87242) pXC
        refine lv_iconst (v := 0) hx hb dX12_beginOne_100 (by decide) ?_
        exact prI (post := fun r L1 f1 => ∃ at92 : Int32, ∃ ps92 : Int32, ∃ tk2 : Int32, ∃ nu2 : Int32, ∃ wd2 : Int64, ∃ wr2 : Int32, ∃ pd2 : Int32, ∃ op92 : Int32, ∃ cg2 : Int32, ∃ iw2 : Int32, ∃ gp2 : Nat → Int32, ∃ gc2 : Nat → Int32, bn 0 5 r ∧ SH (spM PA PI (XR r gB fr gp2 gc2 t0 wr2 pd2 op92 cg2 iw2) pa) nnM G ad L1 f1 ∧ pt L1 f1 (ad 0 0) (.inr (12, [.ref (ad 1 0), .ref (ad 2 0), .ref (ad 3 0), .ref (ad 4 0), .int td, .int fa, .int fp, .int at92, .int ps92, .int tk2, .int nu2, .long wd2, .int t0, .int wr2, .int so, .ref (ad 5 0), .ref (ad 6 0), .int pd2, .int op92, .int cg2, .int iw2, .int on9, .ref (ad 7 0), .ref (ad 8 0), .ref (ad 9 0), .int is9, .ref (ad 10 0), .ref (ad 11 0), .ref (ad 12 0), .ref (ad 13 0), .int se, .ref (ad 14 0)])) ∧ pt L1 f1 (ad 5 0) (.inl (G.2 0, 160, .inl gp2)) ∧ pt L1 f1 (ad 6 0) (.inl (G.2 0, 9, .inl gc2)) ∧ TK at92 ps92 tk2 ∧ (r.toInt = 0 → ps9.toInt + 1 ≤ ps92.toInt) ∧ (r.toInt ≤ 0 → wr2.toInt + pd2.toInt ≤ ps92.toInt) ∧ (r.toInt < 0 → iw2 = 1) ∧ (r.toInt ≤ 0 → ps9.toInt ≤ ps92.toInt)) S Y rfl (by decide) (by decide) hA1 ⟨v_87218, v_87219, v_87220, v_87221, v_87222, v_87233, v_87234, v_87235, cg, 1, gp, gc, bn_w (show bn 0 0 (0 : Int32) from bn_k (by decide)) (by decide), I, p_ad_0_0, p_ad_5_0, p_ad_6_0, eT_87223, (fun _ => (by have c0 := e13_87211; have c1 := eT_87223.1; have c2 := eP_87224; have c3 := es1_87236; have c4 := es3_87238; have c5 := hroom; have c6 := (hT.2 (show ¬ tk = 0 from by rw [c_86981]; decide)); omega)), (fun _ => (by have c0 := e13_87211; have c1 := eT_87223.1; have c2 := eP_87224; have c3 := es1_87236; have c4 := es3_87238; have c5 := hroom; have c6 := (hT.2 (show ¬ tk = 0 from by rw [c_86981]; decide)); omega)), (fun h => absurd h (by decide)), (fun _ => (by have c0 := e13_87211; have c1 := eT_87223.1; have c2 := eP_87224; have c3 := es1_87236; have c4 := es3_87238; have c5 := hroom; have c6 := (hT.2 (show ¬ tk = 0 from by rw [c_86981]; decide)); omega))⟩ dX12_beginOne_101
      · have B_87205 : bn 5 9 r_87202 := bn_w (bn_gtl c_87203 er_87202.1 (show bn 4 4 (4 : Int32) from bn_k (by decide))) (by decide)
        refine lv_aload_n hx hb dX12_beginOne_30 rfl (lv_at hl 1 rfl) ?_
        refine pg_get S Y ok_X12 14 (by decide) kf12_175 (v := .int so) p_ad_0_0 rfl dX12_beginOne_31 ?_
        refine lv_iconst (v := 2) hx hb dX12_beginOne_34 (by decide) ?_
        refine lv_icmp_ne (tgt := 40) hx hb dX12_beginOne_35 (by decide) (fun c_87243 => ?_) (fun c_87243 => ?_)
        · refine lv_aload_n hx hb dX12_beginOne_40 rfl (lv_at hl 1 rfl) ?_
          refine pg_get S Y ok_X12 9 (by decide) kf12_98 (v := .int tk) p_ad_0_0 rfl dX12_beginOne_41 ?_
          refine lv_iconst (v := 1) hx hb dX12_beginOne_44 (by decide) ?_
          refine lv_icmp_eq (tgt := 52) hx hb dX12_beginOne_45 (by decide) (fun _ => ?_) (fun h => absurd c_86981 h)
          refine lv_aload_n hx hb dX12_beginOne_52 rfl (lv_at hl 1 rfl) ?_
          refine lv_aload_n hx hb dX12_beginOne_53 rfl (lv_at hl 1 rfl) ?_
          refine pg_get S Y ok_X12 9 (by decide) kf12_98 (v := .int tk) p_ad_0_0 rfl dX12_beginOne_54 ?_
          refine lv_iconst (v := 1) hx hb dX12_beginOne_57 (by decide) ?_
          refine lv_icmp_ne (tgt := 65) hx hb dX12_beginOne_58 (by decide) (fun h => absurd c_86981 h) (fun _ => ?_)
          refine lv_iconst (v := 0) hx hb dX12_beginOne_61 (by decide) ?_
          refine lv_goto (tgt := 66) hx hb dX12_beginOne_62 (by decide) ?_
          refine lv_aload_n hx hb dX12_beginOne_66 rfl (lv_at hl 1 rfl) ?_
          refine pg_get S Y ok_X12 9 (by decide) kf12_98 (v := .int tk) p_ad_0_0 rfl dX12_beginOne_67 ?_
          refine lv_iconst (v := 1) hx hb dX12_beginOne_70 (by decide) ?_
          refine lv_icmp_ne (tgt := 81) hx hb dX12_beginOne_71 (by decide) (fun h => absurd c_86981 h) (fun _ => ?_)
          refine lv_aload_n hx hb dX12_beginOne_74 rfl (lv_at hl 1 rfl) ?_
          refine pg_get S Y ok_X12 10 (by decide) kf12_104 (v := .int nu) p_ad_0_0 rfl dX12_beginOne_75 ?_
          refine lv_goto (tgt := 82) hx hb dX12_beginOne_78 (by decide) ?_
          have B_87245 : bn 0 299 wr := ⟨bfe_13.1, by have z9 := hT.2 (show ¬ tk = 0 from by rw [c_86981]; decide); have z8 := bfe_7.2; have z7 := bfe_17.1; omega⟩
          refine cVv (As := [.int 0, .int nu]) (rest := []) S Y (x_X12_emit (l := l) I p_ad_0_0 p_ad_5_0 p_ad_6_0 (bn_w B_87245 (by decide))) cw_X12_emit km12_148 p_ad_0_0 ok_X12.1 rfl rfl ⟨Nat.le_of_ble_eq_true rfl, Nat.le_of_ble_eq_true rfl⟩ hl.1 rfl (Nat.le_of_ble_eq_true rfl) ⟨Nat.le_of_ble_eq_true rfl, Nat.le_of_ble_eq_true rfl⟩ dX12_beginOne_82 (fun L_87246 f_87247 H locs hr_87248 Y => ?_)
          obtain ⟨v_87249, I, p_ad_0_0, p_ad_5_0, p_ad_6_0, e13_87250⟩ := hr_87248
          obtain ⟨bfc87250_4, bfc87250_7, bfc87250_8, bfc87250_12, bfc87250_13, bfc87250_17, bfc87250_18, bfc87250_19, bfc87250_20, bfc87250_25⟩ := obM I p_ad_0_0
          refine lv_aload_n hx hb dX12_beginOne_85 rfl (lv_at hl 1 rfl) ?_
          obtain ⟨g_87252, p_ad_4_0, o_87253⟩ := I.opi (k := 4) (j := 0) (by decide) rfl
          have p_ad_4_0 : pt L_87246 f_87247 (ad 4 0) (.inl (G.2 0, 300, .inl g_87252)) := p_ad_4_0
          refine cVv (As := []) (rest := []) S Y (x_X12_nextToken (l := l) I p_ad_0_0 p_ad_4_0 p_ad_5_0 p_ad_6_0) cw_X12_nextToken km12_166 p_ad_0_0 ok_X12.1 rfl rfl ⟨Nat.le_of_ble_eq_true rfl, Nat.le_of_ble_eq_true rfl⟩ hl.1 rfl (Nat.le_of_ble_eq_true rfl) ⟨Nat.le_of_ble_eq_true rfl, Nat.le_of_ble_eq_true rfl⟩ dX12_beginOne_86 (fun L_87254 f_87255 H locs hr_87256 Y => ?_)
          obtain ⟨v_87257, v_87258, v_87259, v_87260, v_87261, I, p_ad_0_0, p_ad_4_0, p_ad_5_0, p_ad_6_0, eT_87262, eP_87263⟩ := hr_87256
          obtain ⟨bfc87263_4, bfc87263_7, bfc87263_8, bfc87263_12, bfc87263_13, bfc87263_17, bfc87263_18, bfc87263_19, bfc87263_20, bfc87263_25⟩ := obM I p_ad_0_0
          refine lv_aload_n hx hb dX12_beginOne_89 rfl (lv_at hl 1 rfl) ?_
          refine lv_iconst (v := 1) hx hb dX12_beginOne_90 (by decide) ?_
          refine pg_put S Y ok_X12 20 (by decide) kf12_178 rfl (fs' := [.ref (ad 1 0), .ref (ad 2 0), .ref (ad 3 0), .ref (ad 4 0), .int td, .int fa, .int fp, .int v_87257, .int v_87258, .int v_87259, .int v_87260, .long v_87261, .int t0, .int v_87249, .int so, .ref (ad 5 0), .ref (ad 6 0), .int pd, .int op9, .int cg, .int 1, .int on9, .ref (ad 7 0), .ref (ad 8 0), .ref (ad 9 0), .int is9, .ref (ad 10 0), .ref (ad 11 0), .ref (ad 12 0), .ref (ad 13 0), .int se, .ref (ad 14 0)]) (v := .int 1) p_ad_0_0 rfl rfl rfl (Nat.le_of_ble_eq_true rfl) dX12_beginOne_91 (fun f_87265 H locs ef_87265 Y => ?_)
          have p_ad_4_0 := p_ad_4_0.up ef_87265 (I.ne (k := 4) (j := 0) (k' := 0) (j' := 0) (by decide) (by decide) (Or.inl (by decide)))
          have p_ad_5_0 := p_ad_5_0.up ef_87265 (I.ne (k := 5) (j := 0) (k' := 0) (j' := 0) (by decide) (by decide) (Or.inl (by decide)))
          have p_ad_6_0 := p_ad_6_0.up ef_87265 (I.ne (k := 6) (j := 0) (k' := 0) (j' := 0) (by decide) (by decide) (Or.inl (by decide)))
          have p_ad_0_0 := p_ad_0_0.me ef_87265
          have I := I.up (k := 0) (j := 0) (by decide) ef_87265 (okE_o (okFs_c okV_r (okFs_c okV_r (okFs_c okV_r (okFs_c okV_r (okFs_c (okV_i bfc87263_4) (okFs_c (okV_i (bn_any _)) (okFs_c (okV_i (bn_any _)) (okFs_c (okV_i bfc87263_7) (okFs_c (okV_i bfc87263_8) (okFs_c (okV_i (bn_any _)) (okFs_c (okV_i (bn_any _)) (okFs_c okV_l (okFs_c (okV_i bfc87263_12) (okFs_c (okV_i bfc87263_13) (okFs_c (okV_i (bn_any _)) (okFs_c okV_r (okFs_c okV_r (okFs_c (okV_i bfc87263_17) (okFs_c (okV_i bfc87263_18) (okFs_c (okV_i bfc87263_19) (okFs_c (okV_i (bn_w (show bn 1 1 (1 : Int32) from bn_k (by decide)) (by decide))) (okFs_c (okV_i (bn_any _)) (okFs_c okV_r (okFs_c okV_r (okFs_c okV_r (okFs_c (okV_i bfc87263_25) (okFs_c okV_r (okFs_c okV_r (okFs_c okV_r (okFs_c okV_r (okFs_c (okV_i (bn_any _)) (okFs_c okV_r okFs_n)))))))))))))))))))))))))))))))))
          refine lv_aload_n hx hb dX12_beginOne_94 rfl (lv_at hl 1 rfl) ?_
          refine lv_bipush (v := 7) hx hb dX12_beginOne_95 (by decide) ?_
          obtain ⟨g_87266, p_ad_3_0, o_87267⟩ := I.opi (k := 3) (j := 0) (by decide) rfl
          have p_ad_3_0 : pt L_87254 f_87265 (ad 3 0) (.inl (G.2 0, 2916, .inl g_87266)) := p_ad_3_0
          have o_87268 : (XS gB fr gp gc (7 : Int32).toInt.toNat opn true cmp t0 v_87249 pd op9 cg) g_87266 := (XV_num o_87267 rfl (Or.inl rfl) e13_87250 B_87245)
          have I := I.castS (sp' := spM PA PI (XS gB fr gp gc (7 : Int32).toInt.toNat opn true cmp t0 v_87249 pd op9 cg) pa) (k := 3) (j := 0) (by decide) p_ad_3_0 (okE_a (g := g_87266) o_87268) pXC
          refine cVv (As := [.int 7]) (rest := []) S Y (x_X12_settle (l := l) I p_ad_0_0 p_ad_5_0 p_ad_6_0 (bn_w (show bn 7 7 (7 : Int32) from bn_k (by decide)) (by decide)) (by have c0 := e13_87250; have c1 := eT_87262.1; have c2 := eP_87263; have c3 := hroom; have c4 := (hT.2 (show ¬ tk = 0 from by rw [c_86981]; decide)); have c5 := bfe_8.2; have c6 := bfe_7.2; omega)) cw_X12_settle km12_181 p_ad_0_0 ok_X12.1 rfl rfl ⟨Nat.le_of_ble_eq_true rfl, Nat.le_of_ble_eq_true rfl⟩ hl.1 rfl (Nat.le_of_ble_eq_true rfl) ⟨Nat.le_of_ble_eq_true rfl, Nat.le_of_ble_eq_true rfl⟩ dX12_beginOne_97 (fun L_87269 f_87270 H locs hr_87271 Y => ?_)
          obtain ⟨v_87272, v_87273, v_87274, I, p_ad_0_0, p_ad_5_0, p_ad_6_0, es1_87275, es2_87276, es3_87277⟩ := hr_87271
          obtain ⟨bfc87277_4, bfc87277_7, bfc87277_8, bfc87277_12, bfc87277_13, bfc87277_17, bfc87277_18, bfc87277_19, bfc87277_20, bfc87277_25⟩ := obM I p_ad_0_0
          obtain ⟨g_87279, p_ad_3_0, o_87280⟩ := I.opi (k := 3) (j := 0) (by decide) rfl
          have p_ad_3_0 : pt L_87269 f_87270 (ad 3 0) (.inl (G.2 0, 2916, .inl g_87279)) := p_ad_3_0
          have o_87281 : (XR 0 gB fr gp gc t0 v_87272 v_87273 v_87274 cg 1) g_87279 := (XR_t (XS_end5 o_87280 (by decide) es2_87276))
          have I := I.castS (sp' := spM PA PI (XR 0 gB fr gp gc t0 v_87272 v_87273 v_87274 cg 1) pa) (k := 3) (j := 0) (by decide) p_ad_3_0 (okE_a (g := g_87279) o_87281) pXC
          refine lv_iconst (v := 0) hx hb dX12_beginOne_100 (by decide) ?_
          exact prI (post := fun r L1 f1 => ∃ at92 : Int32, ∃ ps92 : Int32, ∃ tk2 : Int32, ∃ nu2 : Int32, ∃ wd2 : Int64, ∃ wr2 : Int32, ∃ pd2 : Int32, ∃ op92 : Int32, ∃ cg2 : Int32, ∃ iw2 : Int32, ∃ gp2 : Nat → Int32, ∃ gc2 : Nat → Int32, bn 0 5 r ∧ SH (spM PA PI (XR r gB fr gp2 gc2 t0 wr2 pd2 op92 cg2 iw2) pa) nnM G ad L1 f1 ∧ pt L1 f1 (ad 0 0) (.inr (12, [.ref (ad 1 0), .ref (ad 2 0), .ref (ad 3 0), .ref (ad 4 0), .int td, .int fa, .int fp, .int at92, .int ps92, .int tk2, .int nu2, .long wd2, .int t0, .int wr2, .int so, .ref (ad 5 0), .ref (ad 6 0), .int pd2, .int op92, .int cg2, .int iw2, .int on9, .ref (ad 7 0), .ref (ad 8 0), .ref (ad 9 0), .int is9, .ref (ad 10 0), .ref (ad 11 0), .ref (ad 12 0), .ref (ad 13 0), .int se, .ref (ad 14 0)])) ∧ pt L1 f1 (ad 5 0) (.inl (G.2 0, 160, .inl gp2)) ∧ pt L1 f1 (ad 6 0) (.inl (G.2 0, 9, .inl gc2)) ∧ TK at92 ps92 tk2 ∧ (r.toInt = 0 → ps9.toInt + 1 ≤ ps92.toInt) ∧ (r.toInt ≤ 0 → wr2.toInt + pd2.toInt ≤ ps92.toInt) ∧ (r.toInt < 0 → iw2 = 1) ∧ (r.toInt ≤ 0 → ps9.toInt ≤ ps92.toInt)) S Y rfl (by decide) (by decide) hA1 ⟨v_87257, v_87258, v_87259, v_87260, v_87261, v_87272, v_87273, v_87274, cg, 1, gp, gc, bn_w (show bn 0 0 (0 : Int32) from bn_k (by decide)) (by decide), I, p_ad_0_0, p_ad_5_0, p_ad_6_0, eT_87262, (fun _ => (by have c0 := e13_87250; have c1 := eT_87262.1; have c2 := eP_87263; have c3 := es1_87275; have c4 := es3_87277; have c5 := hroom; have c6 := (hT.2 (show ¬ tk = 0 from by rw [c_86981]; decide)); omega)), (fun _ => (by have c0 := e13_87250; have c1 := eT_87262.1; have c2 := eP_87263; have c3 := es1_87275; have c4 := es3_87277; have c5 := hroom; have c6 := (hT.2 (show ¬ tk = 0 from by rw [c_86981]; decide)); omega)), (fun h => absurd h (by decide)), (fun _ => (by have c0 := e13_87250; have c1 := eT_87262.1; have c2 := eP_87263; have c3 := es1_87275; have c4 := es3_87277; have c5 := hroom; have c6 := (hT.2 (show ¬ tk = 0 from by rw [c_86981]; decide)); omega))⟩ dX12_beginOne_101
        · have B_87244 : bn 2 2 so := bn_w (bn_eq c_87243 (show bn 2 2 (2 : Int32) from bn_k (by decide))) (by decide)
          have o_87282 : (XR 5 gB fr gp gc t0 wr pd op9 cg iw) g_86977 := (XR_no o_86980.1 (by decide))
          have I := I.castS (sp' := spM PA PI (XR 5 gB fr gp gc t0 wr pd op9 cg iw) pa) (k := 3) (j := 0) (by decide) p_ad_3_0 (okE_a (g := g_86977) o_87282) pXC
          refine lv_iconst (v := 5) hx hb dX12_beginOne_38 (by decide) ?_
          exact prI (post := fun r L1 f1 => ∃ at92 : Int32, ∃ ps92 : Int32, ∃ tk2 : Int32, ∃ nu2 : Int32, ∃ wd2 : Int64, ∃ wr2 : Int32, ∃ pd2 : Int32, ∃ op92 : Int32, ∃ cg2 : Int32, ∃ iw2 : Int32, ∃ gp2 : Nat → Int32, ∃ gc2 : Nat → Int32, bn 0 5 r ∧ SH (spM PA PI (XR r gB fr gp2 gc2 t0 wr2 pd2 op92 cg2 iw2) pa) nnM G ad L1 f1 ∧ pt L1 f1 (ad 0 0) (.inr (12, [.ref (ad 1 0), .ref (ad 2 0), .ref (ad 3 0), .ref (ad 4 0), .int td, .int fa, .int fp, .int at92, .int ps92, .int tk2, .int nu2, .long wd2, .int t0, .int wr2, .int so, .ref (ad 5 0), .ref (ad 6 0), .int pd2, .int op92, .int cg2, .int iw2, .int on9, .ref (ad 7 0), .ref (ad 8 0), .ref (ad 9 0), .int is9, .ref (ad 10 0), .ref (ad 11 0), .ref (ad 12 0), .ref (ad 13 0), .int se, .ref (ad 14 0)])) ∧ pt L1 f1 (ad 5 0) (.inl (G.2 0, 160, .inl gp2)) ∧ pt L1 f1 (ad 6 0) (.inl (G.2 0, 9, .inl gc2)) ∧ TK at92 ps92 tk2 ∧ (r.toInt = 0 → ps9.toInt + 1 ≤ ps92.toInt) ∧ (r.toInt ≤ 0 → wr2.toInt + pd2.toInt ≤ ps92.toInt) ∧ (r.toInt < 0 → iw2 = 1) ∧ (r.toInt ≤ 0 → ps9.toInt ≤ ps92.toInt)) S Y rfl (by decide) (by decide) hA1 ⟨at9, ps9, tk, nu, wd, wr, pd, op9, cg, iw, gp, gc, bn_w (show bn 5 5 (5 : Int32) from bn_k (by decide)) (by decide), I, p_ad_0_0, p_ad_5_0, p_ad_6_0, hT, (fun h => absurd h (by decide)), (fun h => absurd h (by decide)), (fun h => absurd h (by decide)), (fun h => absurd h (by decide))⟩ dX12_beginOne_39
    · have B_87201 : bn 10000 2147483647 nu := bn_w (bn_gtl c_87199 (bn_any nu) (show bn 9999 9999 (9999 : Int32) from bn_k (by decide))) (by decide)
      have o_87283 : (XR 2 gB fr gp gc t0 wr pd op9 cg iw) g_86977 := (XR_no o_86980.1 (by decide))
      have I := I.castS (sp' := spM PA PI (XR 2 gB fr gp gc t0 wr pd op9 cg iw) pa) (k := 3) (j := 0) (by decide) p_ad_3_0 (okE_a (g := g_86977) o_87283) pXC
      refine lv_iconst (v := 2) hx hb dX12_beginOne_18 (by decide) ?_
      exact prI (post := fun r L1 f1 => ∃ at92 : Int32, ∃ ps92 : Int32, ∃ tk2 : Int32, ∃ nu2 : Int32, ∃ wd2 : Int64, ∃ wr2 : Int32, ∃ pd2 : Int32, ∃ op92 : Int32, ∃ cg2 : Int32, ∃ iw2 : Int32, ∃ gp2 : Nat → Int32, ∃ gc2 : Nat → Int32, bn 0 5 r ∧ SH (spM PA PI (XR r gB fr gp2 gc2 t0 wr2 pd2 op92 cg2 iw2) pa) nnM G ad L1 f1 ∧ pt L1 f1 (ad 0 0) (.inr (12, [.ref (ad 1 0), .ref (ad 2 0), .ref (ad 3 0), .ref (ad 4 0), .int td, .int fa, .int fp, .int at92, .int ps92, .int tk2, .int nu2, .long wd2, .int t0, .int wr2, .int so, .ref (ad 5 0), .ref (ad 6 0), .int pd2, .int op92, .int cg2, .int iw2, .int on9, .ref (ad 7 0), .ref (ad 8 0), .ref (ad 9 0), .int is9, .ref (ad 10 0), .ref (ad 11 0), .ref (ad 12 0), .ref (ad 13 0), .int se, .ref (ad 14 0)])) ∧ pt L1 f1 (ad 5 0) (.inl (G.2 0, 160, .inl gp2)) ∧ pt L1 f1 (ad 6 0) (.inl (G.2 0, 9, .inl gc2)) ∧ TK at92 ps92 tk2 ∧ (r.toInt = 0 → ps9.toInt + 1 ≤ ps92.toInt) ∧ (r.toInt ≤ 0 → wr2.toInt + pd2.toInt ≤ ps92.toInt) ∧ (r.toInt < 0 → iw2 = 1) ∧ (r.toInt ≤ 0 → ps9.toInt ≤ ps92.toInt)) S Y rfl (by decide) (by decide) hA1 ⟨at9, ps9, tk, nu, wd, wr, pd, op9, cg, iw, gp, gc, bn_w (show bn 2 2 (2 : Int32) from bn_k (by decide)) (by decide), I, p_ad_0_0, p_ad_5_0, p_ad_6_0, hT, (fun h => absurd h (by decide)), (fun h => absurd h (by decide)), (fun h => absurd h (by decide)), (fun h => absurd h (by decide))⟩ dX12_beginOne_19
theorem bt_l {gp : Nat → Int32} {pd tk o r : Int32} (h : BTW gp pd tk o) (h0 : bn 0 22 o) (e : r.toInt = (rk o.toInt : Int)) : bn 1 7 r := by
  obtain ⟨q1, q2⟩ := h0
  have k7 : rk o.toInt ≤ 7 := by
    have := rk_bn e
    have := this.2
    omega
  have k1 : 1 ≤ rk o.toInt := by
    rcases Nat.eq_zero_or_pos (rk o.toInt) with z | z
    · have := rk_z z; omega
    · exact z
  exact ⟨by omega, by omega⟩
theorem bt_tk {gp : Nat → Int32} {pd tk o : Int32} (h : BTW gp pd tk o) (h0 : bn 0 22 o) : ¬ tk = 0 := by
  rcases h with h | h
  · have := h0.1; rw [h] at this; exact absurd this (by decide)
  · exact h.1
section PQR
variable {gp gc ga : Nat → Int32} {pd tk o r cg y y6 v0 v6 x : Int32} {opn : Int} {cmp : Bool} {X : Prop}
theorem prt_q (h : PRT gp pd tk o r) (n0 : ¬ r = 0) (n44 : ¬ r = 44) (h0 : bn 0 44 r) (e1 : o.toInt = opn) (e2 : cmkP gp pd = cmp) : (r.toInt = 42 ∧ opn = 41 ∧ cmp = true ∧ gc = gc) ∨ (r.toInt = 43 ∧ opn = 42 ∧ gc = gc) ∨ X := by
  rcases h with h | ⟨_, h⟩
  · have := h0.1; rw [h] at this; exact absurd this (by decide)
  · rcases h with ⟨h, _⟩ | ⟨rfl, rfl, h⟩ | ⟨rfl, rfl⟩ | ⟨h, _⟩
    · exact absurd h n0
    · exact Or.inl ⟨rfl, e1.symm.trans rfl, e2.symm.trans h, rfl⟩
    · exact Or.inr (Or.inl ⟨rfl, e1.symm.trans rfl, rfl⟩)
    · exact absurd h n44
theorem prt_j {Y Z : Prop} (h : PRT gp pd tk o r) (h44 : r = 44) (e1 : opn = 44) (e2 : cmkP gp pd = cmp) (hc : 1 ≤ cg.toInt ∧ 1 ≤ (gc (cg.toInt.toNat - 1)).toInt ∧ (gc (cg.toInt.toNat - 1)).toInt ≤ 6) (ey : y.toInt = cg.toInt - 1) (ey6 : y6.toInt = cg.toInt - 1) (e6 : v6 = gc y6.toNatClampNeg) (n6 : ¬ v6 = 6) (ev : v0 = gc y.toNatClampNeg) (ex : x = v0 + 1) (eg : ga = upd gc y.toNatClampNeg x) : Y ∨ Z ∨ (r.toInt = 44 ∧ opn = 44 ∧ cmp = true ∧ 1 ≤ cg.toInt ∧ y.toInt = cg.toInt - 1 ∧ ¬ (gc y.toNatClampNeg).toInt = 6 ∧ ga = upd gc y.toNatClampNeg x ∧ x.toInt = (gc y.toNatClampNeg).toInt + 1) := by
  have i1 : y.toNatClampNeg = cg.toInt.toNat - 1 := by rw [tnc]; omega
  have i2 : y6.toNatClampNeg = y.toNatClampNeg := by rw [tnc, tnc]; omega
  have hcm : cmp = true := by
    subst h44
    rcases h with h | ⟨_, h⟩
    · exact absurd h (by decide)
    · rcases h with ⟨h, _⟩ | ⟨h, _⟩ | ⟨h, _⟩ | ⟨_, _, h⟩
      · exact absurd h (by decide)
      · exact absurd h (by decide)
      · exact absurd h (by decide)
      · exact e2.symm.trans h
  refine Or.inr (Or.inr ⟨by rw [h44]; rfl, e1, hcm, hc.1, ey, fun q => n6 ?_, eg, ?_⟩)
  · rw [e6, i2]; exact Int32.toInt_inj.mp (q.trans rfl)
  · have b : (gc y.toNatClampNeg).toInt ≤ 6 ∧ 1 ≤ (gc y.toNatClampNeg).toInt := by rw [i1]; exact ⟨hc.2.2, hc.2.1⟩
    rw [ex, ev, ti_add (by show _ ≤ _; have k : (1 : Int32).toInt = 1 := rfl; omega) (by have k : (1 : Int32).toInt = 1 := rfl; omega)]
    rfl
end PQR
set_option maxHeartbeats 4000000 in
set_option maxRecDepth 100000 in
theorem x_X12_behindOne {l : Launch} {G : GG}  {L : List Nat} {f : HF} {ad : Nat → Nat → Nat} {pa : (Nat → Int32) → Prop} {PA : (Nat → Int32) → Prop} {PI : (Nat → Int32) → Prop} {td fa fp at9 ps9 tk nu t0 wr so pd op9 cg iw on9 is9 se : Int32} {wd : Int64} {gp gc : Nat → Int32} {gB : Nat → Int32} {fr : Nat} (I : SH (spM PA PI (XW gB fr gp gc t0 wr pd op9 cg true) pa) nnM G ad L f) (p_ad_0_0 : pt L f (ad 0 0) (.inr (12, [.ref (ad 1 0), .ref (ad 2 0), .ref (ad 3 0), .ref (ad 4 0), .int td, .int fa, .int fp, .int at9, .int ps9, .int tk, .int nu, .long wd, .int t0, .int wr, .int so, .ref (ad 5 0), .ref (ad 6 0), .int pd, .int op9, .int cg, .int iw, .int on9, .ref (ad 7 0), .ref (ad 8 0), .ref (ad 9 0), .int is9, .ref (ad 10 0), .ref (ad 11 0), .ref (ad 12 0), .ref (ad 13 0), .int se, .ref (ad 14 0)]))) (p_ad_5_0 : pt L f (ad 5 0) (.inl (G.2 0, 160, .inl gp))) (p_ad_6_0 : pt L f (ad 6 0) (.inl (G.2 0, 9, .inl gc))) (hiw : iw = 1) (hroom : wr.toInt + pd.toInt ≤ ps9.toInt) (hT : TK at9 ps9 tk) : PMi l yX12_behindOne cX12_behindOne 4 .int 4 0 0 G [.ref (ad 0 0)] L f (fun r L1 f1 => ∃ at92 : Int32, ∃ ps92 : Int32, ∃ tk2 : Int32, ∃ nu2 : Int32, ∃ wd2 : Int64, ∃ wr2 : Int32, ∃ pd2 : Int32, ∃ op92 : Int32, ∃ cg2 : Int32, ∃ iw2 : Int32, ∃ gp2 : Nat → Int32, ∃ gc2 : Nat → Int32, bn (-1) 7 r ∧ SH (spM PA PI (XR r gB fr gp2 gc2 t0 wr2 pd2 op92 cg2 iw2) pa) nnM G ad L1 f1 ∧ pt L1 f1 (ad 0 0) (.inr (12, [.ref (ad 1 0), .ref (ad 2 0), .ref (ad 3 0), .ref (ad 4 0), .int td, .int fa, .int fp, .int at92, .int ps92, .int tk2, .int nu2, .long wd2, .int t0, .int wr2, .int so, .ref (ad 5 0), .ref (ad 6 0), .int pd2, .int op92, .int cg2, .int iw2, .int on9, .ref (ad 7 0), .ref (ad 8 0), .ref (ad 9 0), .int is9, .ref (ad 10 0), .ref (ad 11 0), .ref (ad 12 0), .ref (ad 13 0), .int se, .ref (ad 14 0)])) ∧ pt L1 f1 (ad 5 0) (.inl (G.2 0, 160, .inl gp2)) ∧ pt L1 f1 (ad 6 0) (.inl (G.2 0, 9, .inl gc2)) ∧ TK at92 ps92 tk2 ∧ (r.toInt = 0 → ps9.toInt + 1 ≤ ps92.toInt) ∧ (r.toInt ≤ 0 → wr2.toInt + pd2.toInt ≤ ps92.toInt) ∧ (r.toInt < 0 → iw2 = 1) ∧ (r.toInt ≤ 0 → ps9.toInt ≤ ps92.toInt)) := by
  refine PMi.of (post := fun r L1 f1 => ∃ at92 : Int32, ∃ ps92 : Int32, ∃ tk2 : Int32, ∃ nu2 : Int32, ∃ wd2 : Int64, ∃ wr2 : Int32, ∃ pd2 : Int32, ∃ op92 : Int32, ∃ cg2 : Int32, ∃ iw2 : Int32, ∃ gp2 : Nat → Int32, ∃ gc2 : Nat → Int32, bn (-1) 7 r ∧ SH (spM PA PI (XR r gB fr gp2 gc2 t0 wr2 pd2 op92 cg2 iw2) pa) nnM G ad L1 f1 ∧ pt L1 f1 (ad 0 0) (.inr (12, [.ref (ad 1 0), .ref (ad 2 0), .ref (ad 3 0), .ref (ad 4 0), .int td, .int fa, .int fp, .int at92, .int ps92, .int tk2, .int nu2, .long wd2, .int t0, .int wr2, .int so, .ref (ad 5 0), .ref (ad 6 0), .int pd2, .int op92, .int cg2, .int iw2, .int on9, .ref (ad 7 0), .ref (ad 8 0), .ref (ad 9 0), .int is9, .ref (ad 10 0), .ref (ad 11 0), .ref (ad 12 0), .ref (ad 13 0), .int se, .ref (ad 14 0)])) ∧ pt L1 f1 (ad 5 0) (.inl (G.2 0, 160, .inl gp2)) ∧ pt L1 f1 (ad 6 0) (.inl (G.2 0, 9, .inl gc2)) ∧ TK at92 ps92 tk2 ∧ (r.toInt = 0 → ps9.toInt + 1 ≤ ps92.toInt) ∧ (r.toInt ≤ 0 → wr2.toInt + pd2.toInt ≤ ps92.toInt) ∧ (r.toInt < 0 → iw2 = 1) ∧ (r.toInt ≤ 0 → ps9.toInt ≤ ps92.toInt)) (own := RX12) (by decide) rfl (Nat.le_of_ble_eq_true rfl) (fun sz p e s m args below meth c A ls hA1 hname S Y hl => ?_)
  have hx := S.hx
  have hb := S.hb
  have hl : lv_has ls 4 [(0, .ref (ad 0 0))] := hl
  obtain ⟨bfe_4, bfe_7, bfe_8, bfe_12, bfe_13, bfe_17, bfe_18, bfe_19, bfe_20, bfe_25⟩ := obM I p_ad_0_0
  obtain ⟨g_87682, p_ad_3_0, o_87683⟩ := I.opi (k := 3) (j := 0) (by decide) rfl
  have p_ad_3_0 : pt L f (ad 3 0) (.inl (G.2 0, 2916, .inl g_87682)) := p_ad_3_0
  obtain ⟨opn, cmp, hv⟩ := o_87683
  have hI := XV_info hv bfe_18 bfe_19 bfe_17
  have B_87684 : bn 0 53 pd := ⟨bfe_17.1, by have z9 := hI.2.2.1; have z8 := bfe_18.2; omega⟩
  have o_87685 : (XV gB fr gp gc opn cmp t0 wr pd op9 cg true) g_87682 := hv
  have I := I.castS (sp' := spM PA PI (XV gB fr gp gc opn cmp t0 wr pd op9 cg true) pa) (k := 3) (j := 0) (by decide) p_ad_3_0 (okE_a (g := g_87682) o_87685) pXC
  refine lv_aload_n hx hb dX12_behindOne_0 rfl (lv_at hl 0 rfl) ?_
  refine cVp (As := []) (rest := []) S Y (x_X12_betweenOf (l := l) I p_ad_0_0 p_ad_5_0) cw_X12_betweenOf km12_200 p_ad_0_0 ok_X12.1 rfl rfl ⟨Nat.le_of_ble_eq_true rfl, Nat.le_of_ble_eq_true rfl⟩ hl.1 rfl (Nat.le_of_ble_eq_true rfl) ⟨Nat.le_of_ble_eq_true rfl, Nat.le_of_ble_eq_true rfl⟩ dX12_behindOne_1 (fun r_87686 H locs er_87686 Y => ?_)
  refine lv_istore_n (lv' := [(1, .int r_87686), (0, .ref (ad 0 0))]) hx hb dX12_behindOne_4 rfl hl (by decide) rfl (fun ls hl => ?_)
  refine lv_iload_n hx hb dX12_behindOne_5 rfl (lv_at hl 0 rfl) ?_
  refine lv_if_lt (tgt := 60) hx hb dX12_behindOne_6 (by decide) (fun c_87687 => ?_) (fun c_87687 => ?_)
  · have B_87688 : bn (-1) (-1) r_87686 := bn_w (bn_ltl c_87687 er_87686.1 (show bn 0 0 (0 : Int32) from bn_k (by decide))) (by decide)
    refine lv_aload_n hx hb dX12_behindOne_60 rfl (lv_at hl 1 rfl) ?_
    refine cVp (As := []) (rest := []) S Y (x_X12_openNow (l := l) I p_ad_0_0 p_ad_5_0) cw_X12_openNow km12_159 p_ad_0_0 ok_X12.1 rfl rfl ⟨Nat.le_of_ble_eq_true rfl, Nat.le_of_ble_eq_true rfl⟩ hl.1 rfl (Nat.le_of_ble_eq_true rfl) ⟨Nat.le_of_ble_eq_true rfl, Nat.le_of_ble_eq_true rfl⟩ dX12_behindOne_61 (fun r_87690 H locs er_87690 Y => ?_)
    refine lv_istore_n (lv' := [(2, .int r_87690), (1, .int r_87686), (0, .ref (ad 0 0))]) hx hb dX12_behindOne_64 rfl hl (by decide) rfl (fun ls hl => ?_)
    refine lv_aload_n hx hb dX12_behindOne_65 rfl (lv_at hl 2 rfl) ?_
    refine lv_iload_n hx hb dX12_behindOne_66 rfl (lv_at hl 0 rfl) ?_
    refine cVp (As := [.int r_87690]) (rest := []) S Y (x_X12_partOf (l := l) I p_ad_0_0 p_ad_5_0) cw_X12_partOf km12_203 p_ad_0_0 ok_X12.1 rfl rfl ⟨Nat.le_of_ble_eq_true rfl, Nat.le_of_ble_eq_true rfl⟩ hl.1 rfl (Nat.le_of_ble_eq_true rfl) ⟨Nat.le_of_ble_eq_true rfl, Nat.le_of_ble_eq_true rfl⟩ dX12_behindOne_67 (fun r_87691 H locs er_87691 Y => ?_)
    refine lv_istore_n (lv' := [(3, .int r_87691), (2, .int r_87690), (1, .int r_87686), (0, .ref (ad 0 0))]) hx hb dX12_behindOne_70 rfl hl (by decide) rfl (fun ls hl => ?_)
    refine lv_iload_n hx hb dX12_behindOne_71 rfl (lv_at hl 0 rfl) ?_
    refine lv_if_ge (tgt := 77) hx hb dX12_behindOne_72 (by decide) (fun c_87692 => ?_) (fun c_87692 => ?_)
    · have B_87693 : bn 0 44 r_87691 := bn_w (bn_ler c_87692 (show bn 0 0 (0 : Int32) from bn_k (by decide)) er_87691.1) (by decide)
      have hpw := PRT_w er_87691.2 (bn_w B_87693 (by decide)) er_87690
      rw [show cmkP gp pd = cmp from hI.2.1, show opvP gp pd = opn from hI.1] at hpw
      have heo : r_87690.toInt = opn := er_87690.trans hI.1
      refine lv_iload_n hx hb dX12_behindOne_77 rfl (lv_at hl 0 rfl) ?_
      refine lv_bipush (v := 44) hx hb dX12_behindOne_78 (by decide) ?_
      refine lv_icmp_ne (tgt := 102) hx hb dX12_behindOne_80 (by decide) (fun c_87695 => ?_) (fun c_87695 => ?_)
      · have B_87696 : bn 0 43 r_87691 := bn_w (bn_neu c_87695 B_87693 (show bn 44 44 (44 : Int32) from bn_k (by decide))) (by decide)
        refine lv_aload_n hx hb dX12_behindOne_102 rfl (lv_at hl 3 rfl) ?_
        refine lv_iconst (v := 1) hx hb dX12_behindOne_103 (by decide) ?_
        obtain ⟨cur0, hz, hc, _⟩ := XV_SL (least := (1 : Int32).toInt.toNat) hv (Or.inr hpw.1)
        have o_87698 : (XS gB fr gp gc (1 : Int32).toInt.toNat opn cur0 cmp t0 wr pd op9 cg) g_87682 := hz
        have I := I.castS (sp' := spM PA PI (XS gB fr gp gc (1 : Int32).toInt.toNat opn cur0 cmp t0 wr pd op9 cg) pa) (k := 3) (j := 0) (by decide) p_ad_3_0 (okE_a (g := g_87682) o_87698) pXC
        refine cVv (As := [.int 1]) (rest := []) S Y (x_X12_settle (l := l) I p_ad_0_0 p_ad_5_0 p_ad_6_0 (bn_w (show bn 1 1 (1 : Int32) from bn_k (by decide)) (by decide)) (by have z9 := hroom; have z8 := bfe_8.2; omega)) cw_X12_settle km12_181 p_ad_0_0 ok_X12.1 rfl rfl ⟨Nat.le_of_ble_eq_true rfl, Nat.le_of_ble_eq_true rfl⟩ hl.1 rfl (Nat.le_of_ble_eq_true rfl) ⟨Nat.le_of_ble_eq_true rfl, Nat.le_of_ble_eq_true rfl⟩ dX12_behindOne_104 (fun L_87699 f_87700 H locs hr_87701 Y => ?_)
        obtain ⟨v_87702, v_87703, v_87704, I, p_ad_0_0, p_ad_5_0, p_ad_6_0, es1_87705, es2_87706, es3_87707⟩ := hr_87701
        obtain ⟨bfc87707_4, bfc87707_7, bfc87707_8, bfc87707_12, bfc87707_13, bfc87707_17, bfc87707_18, bfc87707_19, bfc87707_20, bfc87707_25⟩ := obM I p_ad_0_0
        obtain ⟨g_87709, p_ad_3_0, o_87710⟩ := I.opi (k := 3) (j := 0) (by decide) rfl
        have p_ad_3_0 : pt L_87699 f_87700 (ad 3 0) (.inl (G.2 0, 2916, .inl g_87709)) := p_ad_3_0
        have hTp := XS_top o_87710 hc es2_87706 hpw.2.1 (by have z9 := hI.2.2.2.2.2.1; omega)
        have hroom2 : v_87702.toInt + v_87703.toInt ≤ ps9.toInt := (by have c0 := es1_87705; have c1 := es3_87707; have c2 := hroom; omega)
        have B_87711 : bn 1 160 v_87703 := ⟨hTp.1, (bfc87707_17).2⟩
        refine lv_iload_n hx hb dX12_behindOne_107 rfl (lv_at hl 0 rfl) ?_
        refine lv_if_ne (tgt := 118) hx hb dX12_behindOne_108 (by decide) (fun c_87712 => ?_) (fun c_87712 => ?_)
        · have B_87713 : bn 1 43 r_87691 := bn_w (bn_nel c_87712 B_87696 (show bn 0 0 (0 : Int32) from bn_k (by decide))) (by decide)
          refine lv_iload_n hx hb dX12_behindOne_118 rfl (lv_at hl 0 rfl) ?_
          refine lv_bipush (v := 44) hx hb dX12_behindOne_119 (by decide) ?_
          refine lv_icmp_ne (tgt := 139) hx hb dX12_behindOne_121 (by decide) (fun _ => ?_) (fun h => absurd h c_87695)
          refine lv_aload_n hx hb dX12_behindOne_139 rfl (lv_at hl 3 rfl) ?_
          refine pg_get S Y ok_X12 15 (by decide) kf12_29 (v := .ref (ad 5 0)) p_ad_0_0 rfl dX12_behindOne_140 ?_
          refine lv_aload_n hx hb dX12_behindOne_143 rfl (lv_at hl 3 rfl) ?_
          refine cVp (As := []) (rest := [.ref (ad 5 0)]) S Y (x_X12_openAt (l := l) I p_ad_0_0 p_ad_5_0) cw_X12_openAt km12_155 p_ad_0_0 ok_X12.1 rfl rfl ⟨Nat.le_of_ble_eq_true rfl, Nat.le_of_ble_eq_true rfl⟩ hl.1 rfl (Nat.le_of_ble_eq_true rfl) ⟨Nat.le_of_ble_eq_true rfl, Nat.le_of_ble_eq_true rfl⟩ dX12_behindOne_144 (fun r_87715 H locs er_87715 Y => ?_)
          refine lv_iload_n hx hb dX12_behindOne_147 rfl (lv_at hl 0 rfl) ?_
          have B_87716 : bn 0 159 r_87715 := ⟨by have z9 := er_87715.2.trans hTp.2.2.2.1; have z8 := hTp.1; omega, er_87715.1.2⟩
          refine pg_iast S Y p_ad_5_0 (vp_bn B_87716 (by decide)) dX12_behindOne_148 (fun f_87718 H locs ef_87718 Y => ?_)
          obtain ⟨g_87717, eg_87717⟩ : ∃ z, z = upd (gp) (r_87715 : Int32).toNatClampNeg r_87691 := ⟨_, rfl⟩
          rw [← eg_87717] at ef_87718
          have p_ad_0_0 := p_ad_0_0.up ef_87718 (I.ne (k := 0) (j := 0) (k' := 5) (j' := 0) (by decide) (by decide) (Or.inl (by decide)))
          have p_ad_6_0 := p_ad_6_0.up ef_87718 (I.ne (k := 6) (j := 0) (k' := 5) (j' := 0) (by decide) (by decide) (Or.inl (by decide)))
          have p_ad_3_0 := p_ad_3_0.up ef_87718 (I.ne (k := 3) (j := 0) (k' := 5) (j' := 0) (by decide) (by decide) (Or.inl (by decide)))
          have p_ad_5_0 := p_ad_5_0.me ef_87718
          have o_87719 : True := trivial
          have I := I.up (k := 5) (j := 0) (by decide) ef_87718 (okE_a (g := g_87717) o_87719)
          refine lv_aload_n hx hb dX12_behindOne_149 rfl (lv_at hl 3 rfl) ?_
          refine lv_iconst (v := 0) hx hb dX12_behindOne_150 (by decide) ?_
          refine pg_put S Y ok_X12 20 (by decide) kf12_178 rfl (fs' := [.ref (ad 1 0), .ref (ad 2 0), .ref (ad 3 0), .ref (ad 4 0), .int td, .int fa, .int fp, .int at9, .int ps9, .int tk, .int nu, .long wd, .int t0, .int v_87702, .int so, .ref (ad 5 0), .ref (ad 6 0), .int v_87703, .int v_87704, .int cg, .int 0, .int on9, .ref (ad 7 0), .ref (ad 8 0), .ref (ad 9 0), .int is9, .ref (ad 10 0), .ref (ad 11 0), .ref (ad 12 0), .ref (ad 13 0), .int se, .ref (ad 14 0)]) (v := .int 0) p_ad_0_0 rfl rfl rfl (Nat.le_of_ble_eq_true rfl) dX12_behindOne_151 (fun f_87720 H locs ef_87720 Y => ?_)
          have p_ad_5_0 := p_ad_5_0.up ef_87720 (I.ne (k := 5) (j := 0) (k' := 0) (j' := 0) (by decide) (by decide) (Or.inl (by decide)))
          have p_ad_6_0 := p_ad_6_0.up ef_87720 (I.ne (k := 6) (j := 0) (k' := 0) (j' := 0) (by decide) (by decide) (Or.inl (by decide)))
          have p_ad_3_0 := p_ad_3_0.up ef_87720 (I.ne (k := 3) (j := 0) (k' := 0) (j' := 0) (by decide) (by decide) (Or.inl (by decide)))
          have p_ad_0_0 := p_ad_0_0.me ef_87720
          have I := I.up (k := 0) (j := 0) (by decide) ef_87720 (okE_o (okFs_c okV_r (okFs_c okV_r (okFs_c okV_r (okFs_c okV_r (okFs_c (okV_i bfc87707_4) (okFs_c (okV_i (bn_any _)) (okFs_c (okV_i (bn_any _)) (okFs_c (okV_i bfc87707_7) (okFs_c (okV_i bfc87707_8) (okFs_c (okV_i (bn_any _)) (okFs_c (okV_i (bn_any _)) (okFs_c okV_l (okFs_c (okV_i bfc87707_12) (okFs_c (okV_i bfc87707_13) (okFs_c (okV_i (bn_any _)) (okFs_c okV_r (okFs_c okV_r (okFs_c (okV_i bfc87707_17) (okFs_c (okV_i bfc87707_18) (okFs_c (okV_i bfc87707_19) (okFs_c (okV_i (bn_w (show bn 0 0 (0 : Int32) from bn_k (by decide)) (by decide))) (okFs_c (okV_i (bn_any _)) (okFs_c okV_r (okFs_c okV_r (okFs_c okV_r (okFs_c (okV_i bfc87707_25) (okFs_c okV_r (okFs_c okV_r (okFs_c okV_r (okFs_c okV_r (okFs_c (okV_i (bn_any _)) (okFs_c okV_r okFs_n)))))))))))))))))))))))))))))))))
          refine lv_aload_n hx hb dX12_behindOne_154 rfl (lv_at hl 3 rfl) ?_
          obtain ⟨g_87721, p_ad_4_0, o_87722⟩ := I.opi (k := 4) (j := 0) (by decide) rfl
          have p_ad_4_0 : pt L_87699 f_87720 (ad 4 0) (.inl (G.2 0, 300, .inl g_87721)) := p_ad_4_0
          refine cVv (As := []) (rest := []) S Y (x_X12_nextToken (l := l) I p_ad_0_0 p_ad_4_0 p_ad_5_0 p_ad_6_0) cw_X12_nextToken km12_166 p_ad_0_0 ok_X12.1 rfl rfl ⟨Nat.le_of_ble_eq_true rfl, Nat.le_of_ble_eq_true rfl⟩ hl.1 rfl (Nat.le_of_ble_eq_true rfl) ⟨Nat.le_of_ble_eq_true rfl, Nat.le_of_ble_eq_true rfl⟩ dX12_behindOne_155 (fun L_87723 f_87724 H locs hr_87725 Y => ?_)
          obtain ⟨v_87726, v_87727, v_87728, v_87729, v_87730, I, p_ad_0_0, p_ad_4_0, p_ad_5_0, p_ad_6_0, eT_87731, eP_87732⟩ := hr_87725
          obtain ⟨bfc87732_4, bfc87732_7, bfc87732_8, bfc87732_12, bfc87732_13, bfc87732_17, bfc87732_18, bfc87732_19, bfc87732_20, bfc87732_25⟩ := obM I p_ad_0_0
          obtain ⟨g_87734, p_ad_3_0, o_87735⟩ := I.opi (k := 3) (j := 0) (by decide) rfl
          have p_ad_3_0 : pt L_87723 f_87724 (ad 3 0) (.inl (G.2 0, 2916, .inl g_87734)) := p_ad_3_0
          have o_87736 : (XR 0 gB fr g_87717 gc t0 v_87702 v_87703 v_87704 cg 0) g_87734 := (XR_f (XS_part (y := 0) (v := 0) o_87735 hc hI.2.2.2.2.1 es2_87706 hTp.1 eg_87717 (er_87715.2.trans hTp.2.2.2.1) (prt_q er_87691.2 c_87712 c_87695 (bn_w B_87713 (by decide)) heo hI.2.1)))
          have I := I.castS (sp' := spM PA PI (XR 0 gB fr g_87717 gc t0 v_87702 v_87703 v_87704 cg 0) pa) (k := 3) (j := 0) (by decide) p_ad_3_0 (okE_a (g := g_87734) o_87736) pXC
          refine lv_iconst (v := 0) hx hb dX12_behindOne_158 (by decide) ?_
          exact prI (post := fun r L1 f1 => ∃ at92 : Int32, ∃ ps92 : Int32, ∃ tk2 : Int32, ∃ nu2 : Int32, ∃ wd2 : Int64, ∃ wr2 : Int32, ∃ pd2 : Int32, ∃ op92 : Int32, ∃ cg2 : Int32, ∃ iw2 : Int32, ∃ gp2 : Nat → Int32, ∃ gc2 : Nat → Int32, bn (-1) 7 r ∧ SH (spM PA PI (XR r gB fr gp2 gc2 t0 wr2 pd2 op92 cg2 iw2) pa) nnM G ad L1 f1 ∧ pt L1 f1 (ad 0 0) (.inr (12, [.ref (ad 1 0), .ref (ad 2 0), .ref (ad 3 0), .ref (ad 4 0), .int td, .int fa, .int fp, .int at92, .int ps92, .int tk2, .int nu2, .long wd2, .int t0, .int wr2, .int so, .ref (ad 5 0), .ref (ad 6 0), .int pd2, .int op92, .int cg2, .int iw2, .int on9, .ref (ad 7 0), .ref (ad 8 0), .ref (ad 9 0), .int is9, .ref (ad 10 0), .ref (ad 11 0), .ref (ad 12 0), .ref (ad 13 0), .int se, .ref (ad 14 0)])) ∧ pt L1 f1 (ad 5 0) (.inl (G.2 0, 160, .inl gp2)) ∧ pt L1 f1 (ad 6 0) (.inl (G.2 0, 9, .inl gc2)) ∧ TK at92 ps92 tk2 ∧ (r.toInt = 0 → ps9.toInt + 1 ≤ ps92.toInt) ∧ (r.toInt ≤ 0 → wr2.toInt + pd2.toInt ≤ ps92.toInt) ∧ (r.toInt < 0 → iw2 = 1) ∧ (r.toInt ≤ 0 → ps9.toInt ≤ ps92.toInt)) S Y rfl (by decide) (by decide) hA1 ⟨v_87726, v_87727, v_87728, v_87729, v_87730, v_87702, v_87703, v_87704, cg, 0, g_87717, gc, bn_w (show bn 0 0 (0 : Int32) from bn_k (by decide)) (by decide), I, p_ad_0_0, p_ad_5_0, p_ad_6_0, eT_87731, (fun _ => (by have c0 := es1_87705; have c1 := es3_87707; have c2 := eT_87731.1; have c3 := eP_87732; have c4 := hroom; have c5 := (hT.2 hpw.2.2); omega)), (fun _ => (by have c0 := es1_87705; have c1 := es3_87707; have c2 := eT_87731.1; have c3 := eP_87732; have c4 := hroom; have c5 := (hT.2 hpw.2.2); omega)), (fun h => absurd h (by decide)), (fun _ => (by have c0 := es1_87705; have c1 := es3_87707; have c2 := eT_87731.1; have c3 := eP_87732; have c4 := hroom; have c5 := (hT.2 hpw.2.2); omega))⟩ dX12_behindOne_159
        · have B_87714 : bn 0 0 r_87691 := bn_w (bn_eq c_87712 (show bn 0 0 (0 : Int32) from bn_k (by decide))) (by decide)
          refine lv_aload_n hx hb dX12_behindOne_111 rfl (lv_at hl 3 rfl) ?_
          refine lv_iload_n hx hb dX12_behindOne_112 rfl (lv_at hl 1 rfl) ?_
          refine cVv (As := [.int r_87690]) (rest := []) S Y (x_X12_shut (l := l) I p_ad_0_0 p_ad_5_0 p_ad_6_0 hc hI.2.2.2.2.1 es2_87706 heo (by have z9 := PRT_0 er_87691.2 c_87712; rw [heo, show cmkP gp pd = cmp from hI.2.1] at z9; exact z9) hroom2 hT hpw.2.2) cw_X12_shut km12_206 p_ad_0_0 ok_X12.1 rfl rfl ⟨Nat.le_of_ble_eq_true rfl, Nat.le_of_ble_eq_true rfl⟩ hl.1 rfl (Nat.le_of_ble_eq_true rfl) ⟨Nat.le_of_ble_eq_true rfl, Nat.le_of_ble_eq_true rfl⟩ dX12_behindOne_113 (fun L_87737 f_87738 H locs hr_87739 Y => ?_)
          obtain ⟨v_87740, v_87741, v_87742, v_87743, v_87744, v_87745, v_87746, v_87747, v_87748, g_87749, I, p_ad_0_0, p_ad_5_0, p_ad_6_0, eT_87750, eR_87751, eW_87752⟩ := hr_87739
          obtain ⟨bfc87752_4, bfc87752_7, bfc87752_8, bfc87752_12, bfc87752_13, bfc87752_17, bfc87752_18, bfc87752_19, bfc87752_20, bfc87752_25⟩ := obM I p_ad_0_0
          obtain ⟨g_87754, p_ad_3_0, o_87755⟩ := I.opi (k := 3) (j := 0) (by decide) rfl
          have p_ad_3_0 : pt L_87737 f_87738 (ad 3 0) (.inl (G.2 0, 2916, .inl g_87754)) := p_ad_3_0
          have o_87756 : (XR 0 gB fr g_87749 gc t0 v_87745 v_87746 v_87747 v_87748 iw) g_87754 := (by rw [hiw]; exact XR_t o_87755)
          have I := I.castS (sp' := spM PA PI (XR 0 gB fr g_87749 gc t0 v_87745 v_87746 v_87747 v_87748 iw) pa) (k := 3) (j := 0) (by decide) p_ad_3_0 (okE_a (g := g_87754) o_87756) pXC
          refine lv_iconst (v := 0) hx hb dX12_behindOne_116 (by decide) ?_
          exact prI (post := fun r L1 f1 => ∃ at92 : Int32, ∃ ps92 : Int32, ∃ tk2 : Int32, ∃ nu2 : Int32, ∃ wd2 : Int64, ∃ wr2 : Int32, ∃ pd2 : Int32, ∃ op92 : Int32, ∃ cg2 : Int32, ∃ iw2 : Int32, ∃ gp2 : Nat → Int32, ∃ gc2 : Nat → Int32, bn (-1) 7 r ∧ SH (spM PA PI (XR r gB fr gp2 gc2 t0 wr2 pd2 op92 cg2 iw2) pa) nnM G ad L1 f1 ∧ pt L1 f1 (ad 0 0) (.inr (12, [.ref (ad 1 0), .ref (ad 2 0), .ref (ad 3 0), .ref (ad 4 0), .int td, .int fa, .int fp, .int at92, .int ps92, .int tk2, .int nu2, .long wd2, .int t0, .int wr2, .int so, .ref (ad 5 0), .ref (ad 6 0), .int pd2, .int op92, .int cg2, .int iw2, .int on9, .ref (ad 7 0), .ref (ad 8 0), .ref (ad 9 0), .int is9, .ref (ad 10 0), .ref (ad 11 0), .ref (ad 12 0), .ref (ad 13 0), .int se, .ref (ad 14 0)])) ∧ pt L1 f1 (ad 5 0) (.inl (G.2 0, 160, .inl gp2)) ∧ pt L1 f1 (ad 6 0) (.inl (G.2 0, 9, .inl gc2)) ∧ TK at92 ps92 tk2 ∧ (r.toInt = 0 → ps9.toInt + 1 ≤ ps92.toInt) ∧ (r.toInt ≤ 0 → wr2.toInt + pd2.toInt ≤ ps92.toInt) ∧ (r.toInt < 0 → iw2 = 1) ∧ (r.toInt ≤ 0 → ps9.toInt ≤ ps92.toInt)) S Y rfl (by decide) (by decide) hA1 ⟨v_87740, v_87741, v_87742, v_87743, v_87744, v_87745, v_87746, v_87747, v_87748, iw, g_87749, gc, bn_w (show bn 0 0 (0 : Int32) from bn_k (by decide)) (by decide), I, p_ad_0_0, p_ad_5_0, p_ad_6_0, eT_87750, (fun _ => (by have c0 := es1_87705; have c1 := es3_87707; have c2 := eR_87751; have c3 := eW_87752; have c4 := hroom; have c5 := (hT.2 hpw.2.2); omega)), (fun _ => (by have c0 := es1_87705; have c1 := es3_87707; have c2 := eR_87751; have c3 := eW_87752; have c4 := hroom; have c5 := (hT.2 hpw.2.2); omega)), (fun h => absurd h (by decide)), (fun _ => (by have c0 := es1_87705; have c1 := es3_87707; have c2 := eR_87751; have c3 := eW_87752; have c4 := hroom; have c5 := (hT.2 hpw.2.2); omega))⟩ dX12_behindOne_117
      · have B_87697 : bn 44 44 r_87691 := bn_w (bn_eq c_87695 (show bn 44 44 (44 : Int32) from bn_k (by decide))) (by decide)
        have hz44 : opn = 44 := heo.symm.trans (PRT_44 er_87691.2 c_87695)
        have B_87757 : bn 1 8 cg := ⟨XV_ju (by rw [← hz44]; exact hv), bfe_19.2⟩
        refine lv_aload_n hx hb dX12_behindOne_83 rfl (lv_at hl 3 rfl) ?_
        refine pg_get S Y ok_X12 16 (by decide) kf12_32 (v := .ref (ad 6 0)) p_ad_0_0 rfl dX12_behindOne_84 ?_
        refine lv_aload_n hx hb dX12_behindOne_87 rfl (lv_at hl 3 rfl) ?_
        refine pg_get S Y ok_X12 19 (by decide) kf12_169 (v := .int cg) p_ad_0_0 rfl dX12_behindOne_88 ?_
        refine lv_iconst (v := 1) hx hb dX12_behindOne_91 (by decide) ?_
        refine lv_isub hx hb dX12_behindOne_92 ?_
        refine lv_topi (fun x_87758 ex_87758 => ?_)
        obtain ⟨v_87759, ev_87759⟩ : ∃ z, z = gc (x_87758 : Int32).toNatClampNeg := ⟨_, rfl⟩
        refine pg_iald S Y (v := v_87759) p_ad_6_0 (vp_bn (bn_eq ex_87758 (bn_sub B_87757 (show bn 1 1 (1 : Int32) from bn_k (by decide)) (by decide))) (by decide)) ev_87759.symm dX12_behindOne_93 ?_
        refine lv_bipush (v := 6) hx hb dX12_behindOne_94 (by decide) ?_
        refine lv_icmp_ne (tgt := 102) hx hb dX12_behindOne_96 (by decide) (fun c_87760 => ?_) (fun c_87760 => ?_)
        · refine lv_aload_n hx hb dX12_behindOne_102 rfl (lv_at hl 3 rfl) ?_
          refine lv_iconst (v := 1) hx hb dX12_behindOne_103 (by decide) ?_
          obtain ⟨cur0, hz, hc, _⟩ := XV_SL (least := (1 : Int32).toInt.toNat) hv (Or.inr hpw.1)
          have o_87762 : (XS gB fr gp gc (1 : Int32).toInt.toNat opn cur0 cmp t0 wr pd op9 cg) g_87682 := hz
          have I := I.castS (sp' := spM PA PI (XS gB fr gp gc (1 : Int32).toInt.toNat opn cur0 cmp t0 wr pd op9 cg) pa) (k := 3) (j := 0) (by decide) p_ad_3_0 (okE_a (g := g_87682) o_87762) pXC
          refine cVv (As := [.int 1]) (rest := []) S Y (x_X12_settle (l := l) I p_ad_0_0 p_ad_5_0 p_ad_6_0 (bn_w (show bn 1 1 (1 : Int32) from bn_k (by decide)) (by decide)) (by have z9 := hroom; have z8 := bfe_8.2; omega)) cw_X12_settle km12_181 p_ad_0_0 ok_X12.1 rfl rfl ⟨Nat.le_of_ble_eq_true rfl, Nat.le_of_ble_eq_true rfl⟩ hl.1 rfl (Nat.le_of_ble_eq_true rfl) ⟨Nat.le_of_ble_eq_true rfl, Nat.le_of_ble_eq_true rfl⟩ dX12_behindOne_104 (fun L_87763 f_87764 H locs hr_87765 Y => ?_)
          obtain ⟨v_87766, v_87767, v_87768, I, p_ad_0_0, p_ad_5_0, p_ad_6_0, es1_87769, es2_87770, es3_87771⟩ := hr_87765
          obtain ⟨bfc87771_4, bfc87771_7, bfc87771_8, bfc87771_12, bfc87771_13, bfc87771_17, bfc87771_18, bfc87771_19, bfc87771_20, bfc87771_25⟩ := obM I p_ad_0_0
          obtain ⟨g_87773, p_ad_3_0, o_87774⟩ := I.opi (k := 3) (j := 0) (by decide) rfl
          have p_ad_3_0 : pt L_87763 f_87764 (ad 3 0) (.inl (G.2 0, 2916, .inl g_87773)) := p_ad_3_0
          have hTp := XS_top o_87774 hc es2_87770 hpw.2.1 (by have z9 := hI.2.2.2.2.2.1; omega)
          have hroom2 : v_87766.toInt + v_87767.toInt ≤ ps9.toInt := (by have c0 := es1_87769; have c1 := es3_87771; have c2 := hroom; omega)
          have B_87775 : bn 1 160 v_87767 := ⟨hTp.1, (bfc87771_17).2⟩
          refine lv_iload_n hx hb dX12_behindOne_107 rfl (lv_at hl 0 rfl) ?_
          refine lv_if_ne (tgt := 118) hx hb dX12_behindOne_108 (by decide) (fun _ => ?_) (fun h => absurd h (bd_ne B_87697 (show bn 0 0 (0 : Int32) from bn_k (by decide)) (by decide)))
          refine lv_iload_n hx hb dX12_behindOne_118 rfl (lv_at hl 0 rfl) ?_
          refine lv_bipush (v := 44) hx hb dX12_behindOne_119 (by decide) ?_
          refine lv_icmp_ne (tgt := 139) hx hb dX12_behindOne_121 (by decide) (fun h => absurd c_87695 h) (fun _ => ?_)
          refine lv_aload_n hx hb dX12_behindOne_124 rfl (lv_at hl 3 rfl) ?_
          refine pg_get S Y ok_X12 16 (by decide) kf12_32 (v := .ref (ad 6 0)) p_ad_0_0 rfl dX12_behindOne_125 ?_
          refine lv_aload_n hx hb dX12_behindOne_128 rfl (lv_at hl 3 rfl) ?_
          refine pg_get S Y ok_X12 19 (by decide) kf12_169 (v := .int cg) p_ad_0_0 rfl dX12_behindOne_129 ?_
          refine lv_iconst (v := 1) hx hb dX12_behindOne_132 (by decide) ?_
          refine lv_isub hx hb dX12_behindOne_133 ?_
          refine lv_topi (fun x_87776 ex_87776 => ?_)
          refine lv_dup2_11 hx hb dX12_behindOne_134 rfl rfl ?_
          obtain ⟨v_87777, ev_87777⟩ : ∃ z, z = gc (x_87776 : Int32).toNatClampNeg := ⟨_, rfl⟩
          refine pg_iald S Y (v := v_87777) p_ad_6_0 (vp_bn (bn_eq ex_87776 (bn_sub B_87757 (show bn 1 1 (1 : Int32) from bn_k (by decide)) (by decide))) (by decide)) ev_87777.symm dX12_behindOne_135 ?_
          refine lv_iconst (v := 1) hx hb dX12_behindOne_136 (by decide) ?_
          refine lv_iadd hx hb dX12_behindOne_137 ?_
          refine lv_topi (fun x_87778 ex_87778 => ?_)
          refine pg_iast S Y p_ad_6_0 (vp_bn (bn_eq ex_87776 (bn_sub B_87757 (show bn 1 1 (1 : Int32) from bn_k (by decide)) (by decide))) (by decide)) dX12_behindOne_138 (fun f_87780 H locs ef_87780 Y => ?_)
          obtain ⟨g_87779, eg_87779⟩ : ∃ z, z = upd (gc) (x_87776 : Int32).toNatClampNeg x_87778 := ⟨_, rfl⟩
          rw [← eg_87779] at ef_87780
          have p_ad_0_0 := p_ad_0_0.up ef_87780 (I.ne (k := 0) (j := 0) (k' := 6) (j' := 0) (by decide) (by decide) (Or.inl (by decide)))
          have p_ad_5_0 := p_ad_5_0.up ef_87780 (I.ne (k := 5) (j := 0) (k' := 6) (j' := 0) (by decide) (by decide) (Or.inl (by decide)))
          have p_ad_3_0 := p_ad_3_0.up ef_87780 (I.ne (k := 3) (j := 0) (k' := 6) (j' := 0) (by decide) (by decide) (Or.inl (by decide)))
          have p_ad_6_0 := p_ad_6_0.me ef_87780
          have o_87781 : True := trivial
          have I := I.up (k := 6) (j := 0) (by decide) ef_87780 (okE_a (g := g_87779) o_87781)
          refine lv_aload_n hx hb dX12_behindOne_139 rfl (lv_at hl 3 rfl) ?_
          refine pg_get S Y ok_X12 15 (by decide) kf12_29 (v := .ref (ad 5 0)) p_ad_0_0 rfl dX12_behindOne_140 ?_
          refine lv_aload_n hx hb dX12_behindOne_143 rfl (lv_at hl 3 rfl) ?_
          refine cVp (As := []) (rest := [.ref (ad 5 0)]) S Y (x_X12_openAt (l := l) I p_ad_0_0 p_ad_5_0) cw_X12_openAt km12_155 p_ad_0_0 ok_X12.1 rfl rfl ⟨Nat.le_of_ble_eq_true rfl, Nat.le_of_ble_eq_true rfl⟩ hl.1 rfl (Nat.le_of_ble_eq_true rfl) ⟨Nat.le_of_ble_eq_true rfl, Nat.le_of_ble_eq_true rfl⟩ dX12_behindOne_144 (fun r_87782 H locs er_87782 Y => ?_)
          refine lv_iload_n hx hb dX12_behindOne_147 rfl (lv_at hl 0 rfl) ?_
          have B_87783 : bn 0 159 r_87782 := ⟨by have z9 := er_87782.2.trans hTp.2.2.2.1; have z8 := hTp.1; omega, er_87782.1.2⟩
          refine pg_iast S Y p_ad_5_0 (vp_bn B_87783 (by decide)) dX12_behindOne_148 (fun f_87785 H locs ef_87785 Y => ?_)
          obtain ⟨g_87784, eg_87784⟩ : ∃ z, z = upd (gp) (r_87782 : Int32).toNatClampNeg r_87691 := ⟨_, rfl⟩
          rw [← eg_87784] at ef_87785
          have p_ad_0_0 := p_ad_0_0.up ef_87785 (I.ne (k := 0) (j := 0) (k' := 5) (j' := 0) (by decide) (by decide) (Or.inl (by decide)))
          have p_ad_6_0 := p_ad_6_0.up ef_87785 (I.ne (k := 6) (j := 0) (k' := 5) (j' := 0) (by decide) (by decide) (Or.inl (by decide)))
          have p_ad_3_0 := p_ad_3_0.up ef_87785 (I.ne (k := 3) (j := 0) (k' := 5) (j' := 0) (by decide) (by decide) (Or.inl (by decide)))
          have p_ad_5_0 := p_ad_5_0.me ef_87785
          have o_87786 : True := trivial
          have I := I.up (k := 5) (j := 0) (by decide) ef_87785 (okE_a (g := g_87784) o_87786)
          refine lv_aload_n hx hb dX12_behindOne_149 rfl (lv_at hl 3 rfl) ?_
          refine lv_iconst (v := 0) hx hb dX12_behindOne_150 (by decide) ?_
          refine pg_put S Y ok_X12 20 (by decide) kf12_178 rfl (fs' := [.ref (ad 1 0), .ref (ad 2 0), .ref (ad 3 0), .ref (ad 4 0), .int td, .int fa, .int fp, .int at9, .int ps9, .int tk, .int nu, .long wd, .int t0, .int v_87766, .int so, .ref (ad 5 0), .ref (ad 6 0), .int v_87767, .int v_87768, .int cg, .int 0, .int on9, .ref (ad 7 0), .ref (ad 8 0), .ref (ad 9 0), .int is9, .ref (ad 10 0), .ref (ad 11 0), .ref (ad 12 0), .ref (ad 13 0), .int se, .ref (ad 14 0)]) (v := .int 0) p_ad_0_0 rfl rfl rfl (Nat.le_of_ble_eq_true rfl) dX12_behindOne_151 (fun f_87787 H locs ef_87787 Y => ?_)
          have p_ad_5_0 := p_ad_5_0.up ef_87787 (I.ne (k := 5) (j := 0) (k' := 0) (j' := 0) (by decide) (by decide) (Or.inl (by decide)))
          have p_ad_6_0 := p_ad_6_0.up ef_87787 (I.ne (k := 6) (j := 0) (k' := 0) (j' := 0) (by decide) (by decide) (Or.inl (by decide)))
          have p_ad_3_0 := p_ad_3_0.up ef_87787 (I.ne (k := 3) (j := 0) (k' := 0) (j' := 0) (by decide) (by decide) (Or.inl (by decide)))
          have p_ad_0_0 := p_ad_0_0.me ef_87787
          have I := I.up (k := 0) (j := 0) (by decide) ef_87787 (okE_o (okFs_c okV_r (okFs_c okV_r (okFs_c okV_r (okFs_c okV_r (okFs_c (okV_i bfc87771_4) (okFs_c (okV_i (bn_any _)) (okFs_c (okV_i (bn_any _)) (okFs_c (okV_i bfc87771_7) (okFs_c (okV_i bfc87771_8) (okFs_c (okV_i (bn_any _)) (okFs_c (okV_i (bn_any _)) (okFs_c okV_l (okFs_c (okV_i bfc87771_12) (okFs_c (okV_i bfc87771_13) (okFs_c (okV_i (bn_any _)) (okFs_c okV_r (okFs_c okV_r (okFs_c (okV_i bfc87771_17) (okFs_c (okV_i bfc87771_18) (okFs_c (okV_i bfc87771_19) (okFs_c (okV_i (bn_w (show bn 0 0 (0 : Int32) from bn_k (by decide)) (by decide))) (okFs_c (okV_i (bn_any _)) (okFs_c okV_r (okFs_c okV_r (okFs_c okV_r (okFs_c (okV_i bfc87771_25) (okFs_c okV_r (okFs_c okV_r (okFs_c okV_r (okFs_c okV_r (okFs_c (okV_i (bn_any _)) (okFs_c okV_r okFs_n)))))))))))))))))))))))))))))))))
          refine lv_aload_n hx hb dX12_behindOne_154 rfl (lv_at hl 3 rfl) ?_
          obtain ⟨g_87788, p_ad_4_0, o_87789⟩ := I.opi (k := 4) (j := 0) (by decide) rfl
          have p_ad_4_0 : pt L_87763 f_87787 (ad 4 0) (.inl (G.2 0, 300, .inl g_87788)) := p_ad_4_0
          refine cVv (As := []) (rest := []) S Y (x_X12_nextToken (l := l) I p_ad_0_0 p_ad_4_0 p_ad_5_0 p_ad_6_0) cw_X12_nextToken km12_166 p_ad_0_0 ok_X12.1 rfl rfl ⟨Nat.le_of_ble_eq_true rfl, Nat.le_of_ble_eq_true rfl⟩ hl.1 rfl (Nat.le_of_ble_eq_true rfl) ⟨Nat.le_of_ble_eq_true rfl, Nat.le_of_ble_eq_true rfl⟩ dX12_behindOne_155 (fun L_87790 f_87791 H locs hr_87792 Y => ?_)
          obtain ⟨v_87793, v_87794, v_87795, v_87796, v_87797, I, p_ad_0_0, p_ad_4_0, p_ad_5_0, p_ad_6_0, eT_87798, eP_87799⟩ := hr_87792
          obtain ⟨bfc87799_4, bfc87799_7, bfc87799_8, bfc87799_12, bfc87799_13, bfc87799_17, bfc87799_18, bfc87799_19, bfc87799_20, bfc87799_25⟩ := obM I p_ad_0_0
          obtain ⟨g_87801, p_ad_3_0, o_87802⟩ := I.opi (k := 3) (j := 0) (by decide) rfl
          have p_ad_3_0 : pt L_87790 f_87791 (ad 3 0) (.inl (G.2 0, 2916, .inl g_87801)) := p_ad_3_0
          have o_87803 : (XR 0 gB fr g_87784 g_87779 t0 v_87766 v_87767 v_87768 cg 0) g_87801 := (XR_f (XS_part o_87802 hc hI.2.2.2.2.1 es2_87770 hTp.1 eg_87784 (er_87782.2.trans hTp.2.2.2.1) (prt_j er_87691.2 c_87695 hz44 hI.2.1 (hTp.2.2.2.2 hz44) (by have z9 := (la_sub ex_87776 (rfl : cg.toInt = cg.toInt) (show (1 : Int32).toInt = 1 from rfl) B_87757 (show bn 1 1 (1 : Int32) from bn_k (by decide)) (by decide)); omega) (by have z9 := (la_sub ex_87758 (rfl : cg.toInt = cg.toInt) (show (1 : Int32).toInt = 1 from rfl) B_87757 (show bn 1 1 (1 : Int32) from bn_k (by decide)) (by decide)); omega) ev_87759 c_87760 ev_87777 ex_87778 eg_87779)))
          have I := I.castS (sp' := spM PA PI (XR 0 gB fr g_87784 g_87779 t0 v_87766 v_87767 v_87768 cg 0) pa) (k := 3) (j := 0) (by decide) p_ad_3_0 (okE_a (g := g_87801) o_87803) pXC
          refine lv_iconst (v := 0) hx hb dX12_behindOne_158 (by decide) ?_
          exact prI (post := fun r L1 f1 => ∃ at92 : Int32, ∃ ps92 : Int32, ∃ tk2 : Int32, ∃ nu2 : Int32, ∃ wd2 : Int64, ∃ wr2 : Int32, ∃ pd2 : Int32, ∃ op92 : Int32, ∃ cg2 : Int32, ∃ iw2 : Int32, ∃ gp2 : Nat → Int32, ∃ gc2 : Nat → Int32, bn (-1) 7 r ∧ SH (spM PA PI (XR r gB fr gp2 gc2 t0 wr2 pd2 op92 cg2 iw2) pa) nnM G ad L1 f1 ∧ pt L1 f1 (ad 0 0) (.inr (12, [.ref (ad 1 0), .ref (ad 2 0), .ref (ad 3 0), .ref (ad 4 0), .int td, .int fa, .int fp, .int at92, .int ps92, .int tk2, .int nu2, .long wd2, .int t0, .int wr2, .int so, .ref (ad 5 0), .ref (ad 6 0), .int pd2, .int op92, .int cg2, .int iw2, .int on9, .ref (ad 7 0), .ref (ad 8 0), .ref (ad 9 0), .int is9, .ref (ad 10 0), .ref (ad 11 0), .ref (ad 12 0), .ref (ad 13 0), .int se, .ref (ad 14 0)])) ∧ pt L1 f1 (ad 5 0) (.inl (G.2 0, 160, .inl gp2)) ∧ pt L1 f1 (ad 6 0) (.inl (G.2 0, 9, .inl gc2)) ∧ TK at92 ps92 tk2 ∧ (r.toInt = 0 → ps9.toInt + 1 ≤ ps92.toInt) ∧ (r.toInt ≤ 0 → wr2.toInt + pd2.toInt ≤ ps92.toInt) ∧ (r.toInt < 0 → iw2 = 1) ∧ (r.toInt ≤ 0 → ps9.toInt ≤ ps92.toInt)) S Y rfl (by decide) (by decide) hA1 ⟨v_87793, v_87794, v_87795, v_87796, v_87797, v_87766, v_87767, v_87768, cg, 0, g_87784, g_87779, bn_w (show bn 0 0 (0 : Int32) from bn_k (by decide)) (by decide), I, p_ad_0_0, p_ad_5_0, p_ad_6_0, eT_87798, (fun _ => (by have c0 := es1_87769; have c1 := es3_87771; have c2 := eT_87798.1; have c3 := eP_87799; have c4 := hroom; have c5 := (hT.2 hpw.2.2); omega)), (fun _ => (by have c0 := es1_87769; have c1 := es3_87771; have c2 := eT_87798.1; have c3 := eP_87799; have c4 := hroom; have c5 := (hT.2 hpw.2.2); omega)), (fun h => absurd h (by decide)), (fun _ => (by have c0 := es1_87769; have c1 := es3_87771; have c2 := eT_87798.1; have c3 := eP_87799; have c4 := hroom; have c5 := (hT.2 hpw.2.2); omega))⟩ dX12_behindOne_159
        · have B_87761 : bn 6 6 v_87759 := bn_w (bn_eq c_87760 (show bn 6 6 (6 : Int32) from bn_k (by decide))) (by decide)
          have o_87804 : (XR 7 gB fr gp gc t0 wr pd op9 cg iw) g_87682 := (XR_no o_87685.1 (by decide))
          have I := I.castS (sp' := spM PA PI (XR 7 gB fr gp gc t0 wr pd op9 cg iw) pa) (k := 3) (j := 0) (by decide) p_ad_3_0 (okE_a (g := g_87682) o_87804) pXC
          refine lv_bipush (v := 7) hx hb dX12_behindOne_99 (by decide) ?_
          exact prI (post := fun r L1 f1 => ∃ at92 : Int32, ∃ ps92 : Int32, ∃ tk2 : Int32, ∃ nu2 : Int32, ∃ wd2 : Int64, ∃ wr2 : Int32, ∃ pd2 : Int32, ∃ op92 : Int32, ∃ cg2 : Int32, ∃ iw2 : Int32, ∃ gp2 : Nat → Int32, ∃ gc2 : Nat → Int32, bn (-1) 7 r ∧ SH (spM PA PI (XR r gB fr gp2 gc2 t0 wr2 pd2 op92 cg2 iw2) pa) nnM G ad L1 f1 ∧ pt L1 f1 (ad 0 0) (.inr (12, [.ref (ad 1 0), .ref (ad 2 0), .ref (ad 3 0), .ref (ad 4 0), .int td, .int fa, .int fp, .int at92, .int ps92, .int tk2, .int nu2, .long wd2, .int t0, .int wr2, .int so, .ref (ad 5 0), .ref (ad 6 0), .int pd2, .int op92, .int cg2, .int iw2, .int on9, .ref (ad 7 0), .ref (ad 8 0), .ref (ad 9 0), .int is9, .ref (ad 10 0), .ref (ad 11 0), .ref (ad 12 0), .ref (ad 13 0), .int se, .ref (ad 14 0)])) ∧ pt L1 f1 (ad 5 0) (.inl (G.2 0, 160, .inl gp2)) ∧ pt L1 f1 (ad 6 0) (.inl (G.2 0, 9, .inl gc2)) ∧ TK at92 ps92 tk2 ∧ (r.toInt = 0 → ps9.toInt + 1 ≤ ps92.toInt) ∧ (r.toInt ≤ 0 → wr2.toInt + pd2.toInt ≤ ps92.toInt) ∧ (r.toInt < 0 → iw2 = 1) ∧ (r.toInt ≤ 0 → ps9.toInt ≤ ps92.toInt)) S Y rfl (by decide) (by decide) hA1 ⟨at9, ps9, tk, nu, wd, wr, pd, op9, cg, iw, gp, gc, bn_w (show bn 7 7 (7 : Int32) from bn_k (by decide)) (by decide), I, p_ad_0_0, p_ad_5_0, p_ad_6_0, hT, (fun h => absurd h (by decide)), (fun h => absurd h (by decide)), (fun h => absurd h (by decide)), (fun h => absurd h (by decide))⟩ dX12_behindOne_101
    · have B_87694 : bn (-1) (-1) r_87691 := bn_w (bn_gtr c_87692 (show bn 0 0 (0 : Int32) from bn_k (by decide)) er_87691.1) (by decide)
      have o_87805 : (XR (-1) gB fr gp gc t0 wr pd op9 cg iw) g_87682 := (by rw [hiw]; exact XR_t ⟨opn, cmp, o_87685⟩)
      have I := I.castS (sp' := spM PA PI (XR (-1) gB fr gp gc t0 wr pd op9 cg iw) pa) (k := 3) (j := 0) (by decide) p_ad_3_0 (okE_a (g := g_87682) o_87805) pXC
      refine lv_iconst (v := (-1)) hx hb dX12_behindOne_75 (by decide) ?_
      exact prI (post := fun r L1 f1 => ∃ at92 : Int32, ∃ ps92 : Int32, ∃ tk2 : Int32, ∃ nu2 : Int32, ∃ wd2 : Int64, ∃ wr2 : Int32, ∃ pd2 : Int32, ∃ op92 : Int32, ∃ cg2 : Int32, ∃ iw2 : Int32, ∃ gp2 : Nat → Int32, ∃ gc2 : Nat → Int32, bn (-1) 7 r ∧ SH (spM PA PI (XR r gB fr gp2 gc2 t0 wr2 pd2 op92 cg2 iw2) pa) nnM G ad L1 f1 ∧ pt L1 f1 (ad 0 0) (.inr (12, [.ref (ad 1 0), .ref (ad 2 0), .ref (ad 3 0), .ref (ad 4 0), .int td, .int fa, .int fp, .int at92, .int ps92, .int tk2, .int nu2, .long wd2, .int t0, .int wr2, .int so, .ref (ad 5 0), .ref (ad 6 0), .int pd2, .int op92, .int cg2, .int iw2, .int on9, .ref (ad 7 0), .ref (ad 8 0), .ref (ad 9 0), .int is9, .ref (ad 10 0), .ref (ad 11 0), .ref (ad 12 0), .ref (ad 13 0), .int se, .ref (ad 14 0)])) ∧ pt L1 f1 (ad 5 0) (.inl (G.2 0, 160, .inl gp2)) ∧ pt L1 f1 (ad 6 0) (.inl (G.2 0, 9, .inl gc2)) ∧ TK at92 ps92 tk2 ∧ (r.toInt = 0 → ps9.toInt + 1 ≤ ps92.toInt) ∧ (r.toInt ≤ 0 → wr2.toInt + pd2.toInt ≤ ps92.toInt) ∧ (r.toInt < 0 → iw2 = 1) ∧ (r.toInt ≤ 0 → ps9.toInt ≤ ps92.toInt)) S Y rfl (by decide) (by decide) hA1 ⟨at9, ps9, tk, nu, wd, wr, pd, op9, cg, iw, gp, gc, bn_w (show bn (-1) (-1) ((-1) : Int32) from bn_k (by decide)) (by decide), I, p_ad_0_0, p_ad_5_0, p_ad_6_0, hT, (fun h => absurd h (by decide)), (fun _ => hroom), (fun _ => hiw), (fun _ => Int.le_refl _)⟩ dX12_behindOne_76
  · have B_87689 : bn 0 22 r_87686 := bn_w (bn_gel c_87687 er_87686.1 (show bn 0 0 (0 : Int32) from bn_k (by decide))) (by decide)
    refine lv_aload_n hx hb dX12_behindOne_9 rfl (lv_at hl 1 rfl) ?_
    refine lv_iload_n hx hb dX12_behindOne_10 rfl (lv_at hl 0 rfl) ?_
    refine cSp (As := [.int r_87686]) (rest := [.ref (ad 0 0)]) S Y (x_X12_rank (l := l) ) cw_X12_rank km12_145 rfl ⟨Nat.le_of_ble_eq_true rfl, Nat.le_of_ble_eq_true rfl⟩ hl.1 rfl (Nat.le_of_ble_eq_true rfl) ⟨Nat.le_of_ble_eq_true rfl, Nat.le_of_ble_eq_true rfl⟩ dX12_behindOne_11 (fun r_87806 H locs er_87806 Y => ?_)
    have B_87807 : bn 0 7 r_87806 := bn_w (rk_bn er_87806) (by decide)
    refine lv_iconst (v := 4) hx hb dX12_behindOne_14 (by decide) ?_
    refine lv_icmp_ne (tgt := 22) hx hb dX12_behindOne_15 (by decide) (fun c_87808 => ?_) (fun c_87808 => ?_)
    · refine lv_iload_n hx hb dX12_behindOne_22 rfl (lv_at hl 0 rfl) ?_
      refine cSp (As := [.int r_87686]) (rest := [.ref (ad 0 0)]) S Y (x_X12_rank (l := l) ) cw_X12_rank km12_145 rfl ⟨Nat.le_of_ble_eq_true rfl, Nat.le_of_ble_eq_true rfl⟩ hl.1 rfl (Nat.le_of_ble_eq_true rfl) ⟨Nat.le_of_ble_eq_true rfl, Nat.le_of_ble_eq_true rfl⟩ dX12_behindOne_23 (fun r_87810 H locs er_87810 Y => ?_)
      have B_87811 : bn 0 7 r_87810 := bn_w (rk_bn er_87810) (by decide)
      have B_87812 : bn 1 7 r_87810 := bt_l er_87686.2 B_87689 er_87810
      obtain ⟨cur0, hz, hbc⟩ := XV_bt (least := r_87810.toInt.toNat) hv hI.1 hI.2.1 er_87686.2 (bn_w B_87689 (by decide)) (Or.inr ⟨by have z9 := er_87806; have z8 := (show ¬ r_87806.toInt = 4 from fun z => c_87808 (Int32.toInt_inj.mp (z.trans rfl))); omega, by have z9 := er_87810; omega⟩)
      have htk := bt_tk er_87686.2 B_87689
      have o_87813 : (XS gB fr gp gc r_87810.toInt.toNat opn cur0 cmp t0 wr pd op9 cg) g_87682 := hz
      have I := I.castS (sp' := spM PA PI (XS gB fr gp gc r_87810.toInt.toNat opn cur0 cmp t0 wr pd op9 cg) pa) (k := 3) (j := 0) (by decide) p_ad_3_0 (okE_a (g := g_87682) o_87813) pXC
      refine cVv (As := [.int r_87810]) (rest := []) S Y (x_X12_settle (l := l) I p_ad_0_0 p_ad_5_0 p_ad_6_0 (bn_w B_87812 (by decide)) (by have z9 := hroom; have z8 := bfe_8.2; omega)) cw_X12_settle km12_181 p_ad_0_0 ok_X12.1 rfl rfl ⟨Nat.le_of_ble_eq_true rfl, Nat.le_of_ble_eq_true rfl⟩ hl.1 rfl (Nat.le_of_ble_eq_true rfl) ⟨Nat.le_of_ble_eq_true rfl, Nat.le_of_ble_eq_true rfl⟩ dX12_behindOne_26 (fun L_87814 f_87815 H locs hr_87816 Y => ?_)
      obtain ⟨v_87817, v_87818, v_87819, I, p_ad_0_0, p_ad_5_0, p_ad_6_0, es1_87820, es2_87821, es3_87822⟩ := hr_87816
      obtain ⟨bfc87822_4, bfc87822_7, bfc87822_8, bfc87822_12, bfc87822_13, bfc87822_17, bfc87822_18, bfc87822_19, bfc87822_20, bfc87822_25⟩ := obM I p_ad_0_0
      have B_87824 : bn 0 53 v_87818 := ⟨(bfc87822_17).1, by have z9 := es3_87822; have z8 := (B_87684).2; omega⟩
      refine lv_aload_n hx hb dX12_behindOne_29 rfl (lv_at hl 1 rfl) ?_
      refine pg_get S Y ok_X12 15 (by decide) kf12_29 (v := .ref (ad 5 0)) p_ad_0_0 rfl dX12_behindOne_30 ?_
      refine lv_aload_n hx hb dX12_behindOne_33 rfl (lv_at hl 1 rfl) ?_
      refine pg_get S Y ok_X12 17 (by decide) kf12_142 (v := .int v_87818) p_ad_0_0 rfl dX12_behindOne_34 ?_
      refine lv_iload_n hx hb dX12_behindOne_37 rfl (lv_at hl 0 rfl) ?_
      refine pg_iast S Y p_ad_5_0 (vp_bn B_87824 (by decide)) dX12_behindOne_38 (fun f_87826 H locs ef_87826 Y => ?_)
      obtain ⟨g_87825, eg_87825⟩ : ∃ z, z = upd (gp) (v_87818 : Int32).toNatClampNeg r_87686 := ⟨_, rfl⟩
      rw [← eg_87825] at ef_87826
      have p_ad_0_0 := p_ad_0_0.up ef_87826 (I.ne (k := 0) (j := 0) (k' := 5) (j' := 0) (by decide) (by decide) (Or.inl (by decide)))
      have p_ad_6_0 := p_ad_6_0.up ef_87826 (I.ne (k := 6) (j := 0) (k' := 5) (j' := 0) (by decide) (by decide) (Or.inl (by decide)))
      have p_ad_5_0 := p_ad_5_0.me ef_87826
      have o_87827 : True := trivial
      have I := I.up (k := 5) (j := 0) (by decide) ef_87826 (okE_a (g := g_87825) o_87827)
      refine lv_aload_n hx hb dX12_behindOne_39 rfl (lv_at hl 1 rfl) ?_
      refine lv_dup hx hb dX12_behindOne_40 rfl ?_
      refine pg_get S Y ok_X12 17 (by decide) kf12_142 (v := .int v_87818) p_ad_0_0 rfl dX12_behindOne_41 ?_
      refine lv_iconst (v := 1) hx hb dX12_behindOne_44 (by decide) ?_
      refine lv_iadd hx hb dX12_behindOne_45 ?_
      refine lv_topi (fun x_87828 ex_87828 => ?_)
      refine pg_put S Y ok_X12 17 (by decide) kf12_142 rfl (fs' := [.ref (ad 1 0), .ref (ad 2 0), .ref (ad 3 0), .ref (ad 4 0), .int td, .int fa, .int fp, .int at9, .int ps9, .int tk, .int nu, .long wd, .int t0, .int v_87817, .int so, .ref (ad 5 0), .ref (ad 6 0), .int x_87828, .int v_87819, .int cg, .int iw, .int on9, .ref (ad 7 0), .ref (ad 8 0), .ref (ad 9 0), .int is9, .ref (ad 10 0), .ref (ad 11 0), .ref (ad 12 0), .ref (ad 13 0), .int se, .ref (ad 14 0)]) (v := .int x_87828) p_ad_0_0 rfl rfl rfl (Nat.le_of_ble_eq_true rfl) dX12_behindOne_46 (fun f_87829 H locs ef_87829 Y => ?_)
      have p_ad_5_0 := p_ad_5_0.up ef_87829 (I.ne (k := 5) (j := 0) (k' := 0) (j' := 0) (by decide) (by decide) (Or.inl (by decide)))
      have p_ad_6_0 := p_ad_6_0.up ef_87829 (I.ne (k := 6) (j := 0) (k' := 0) (j' := 0) (by decide) (by decide) (Or.inl (by decide)))
      have p_ad_0_0 := p_ad_0_0.me ef_87829
      have I := I.up (k := 0) (j := 0) (by decide) ef_87829 (okE_o (okFs_c okV_r (okFs_c okV_r (okFs_c okV_r (okFs_c okV_r (okFs_c (okV_i bfc87822_4) (okFs_c (okV_i (bn_any _)) (okFs_c (okV_i (bn_any _)) (okFs_c (okV_i bfc87822_7) (okFs_c (okV_i bfc87822_8) (okFs_c (okV_i (bn_any _)) (okFs_c (okV_i (bn_any _)) (okFs_c okV_l (okFs_c (okV_i bfc87822_12) (okFs_c (okV_i bfc87822_13) (okFs_c (okV_i (bn_any _)) (okFs_c okV_r (okFs_c okV_r (okFs_c (okV_i (bn_w (bn_eq ex_87828 (bn_add B_87824 (show bn 1 1 (1 : Int32) from bn_k (by decide)) (by decide))) (by decide))) (okFs_c (okV_i bfc87822_18) (okFs_c (okV_i bfc87822_19) (okFs_c (okV_i bfc87822_20) (okFs_c (okV_i (bn_any _)) (okFs_c okV_r (okFs_c okV_r (okFs_c okV_r (okFs_c (okV_i bfc87822_25) (okFs_c okV_r (okFs_c okV_r (okFs_c okV_r (okFs_c okV_r (okFs_c (okV_i (bn_any _)) (okFs_c okV_r okFs_n)))))))))))))))))))))))))))))))))
      refine lv_aload_n hx hb dX12_behindOne_49 rfl (lv_at hl 1 rfl) ?_
      refine lv_iconst (v := 0) hx hb dX12_behindOne_50 (by decide) ?_
      refine pg_put S Y ok_X12 20 (by decide) kf12_178 rfl (fs' := [.ref (ad 1 0), .ref (ad 2 0), .ref (ad 3 0), .ref (ad 4 0), .int td, .int fa, .int fp, .int at9, .int ps9, .int tk, .int nu, .long wd, .int t0, .int v_87817, .int so, .ref (ad 5 0), .ref (ad 6 0), .int x_87828, .int v_87819, .int cg, .int 0, .int on9, .ref (ad 7 0), .ref (ad 8 0), .ref (ad 9 0), .int is9, .ref (ad 10 0), .ref (ad 11 0), .ref (ad 12 0), .ref (ad 13 0), .int se, .ref (ad 14 0)]) (v := .int 0) p_ad_0_0 rfl rfl rfl (Nat.le_of_ble_eq_true rfl) dX12_behindOne_51 (fun f_87830 H locs ef_87830 Y => ?_)
      have p_ad_5_0 := p_ad_5_0.up ef_87830 (I.ne (k := 5) (j := 0) (k' := 0) (j' := 0) (by decide) (by decide) (Or.inl (by decide)))
      have p_ad_6_0 := p_ad_6_0.up ef_87830 (I.ne (k := 6) (j := 0) (k' := 0) (j' := 0) (by decide) (by decide) (Or.inl (by decide)))
      have p_ad_0_0 := p_ad_0_0.me ef_87830
      have I := I.up (k := 0) (j := 0) (by decide) ef_87830 (okE_o (okFs_c okV_r (okFs_c okV_r (okFs_c okV_r (okFs_c okV_r (okFs_c (okV_i bfc87822_4) (okFs_c (okV_i (bn_any _)) (okFs_c (okV_i (bn_any _)) (okFs_c (okV_i bfc87822_7) (okFs_c (okV_i bfc87822_8) (okFs_c (okV_i (bn_any _)) (okFs_c (okV_i (bn_any _)) (okFs_c okV_l (okFs_c (okV_i bfc87822_12) (okFs_c (okV_i bfc87822_13) (okFs_c (okV_i (bn_any _)) (okFs_c okV_r (okFs_c okV_r (okFs_c (okV_i (bn_w (bn_eq ex_87828 (bn_add B_87824 (show bn 1 1 (1 : Int32) from bn_k (by decide)) (by decide))) (by decide))) (okFs_c (okV_i bfc87822_18) (okFs_c (okV_i bfc87822_19) (okFs_c (okV_i (bn_w (show bn 0 0 (0 : Int32) from bn_k (by decide)) (by decide))) (okFs_c (okV_i (bn_any _)) (okFs_c okV_r (okFs_c okV_r (okFs_c okV_r (okFs_c (okV_i bfc87822_25) (okFs_c okV_r (okFs_c okV_r (okFs_c okV_r (okFs_c okV_r (okFs_c (okV_i (bn_any _)) (okFs_c okV_r okFs_n)))))))))))))))))))))))))))))))))
      refine lv_aload_n hx hb dX12_behindOne_54 rfl (lv_at hl 1 rfl) ?_
      obtain ⟨g_87831, p_ad_4_0, o_87832⟩ := I.opi (k := 4) (j := 0) (by decide) rfl
      have p_ad_4_0 : pt L_87814 f_87830 (ad 4 0) (.inl (G.2 0, 300, .inl g_87831)) := p_ad_4_0
      refine cVv (As := []) (rest := []) S Y (x_X12_nextToken (l := l) I p_ad_0_0 p_ad_4_0 p_ad_5_0 p_ad_6_0) cw_X12_nextToken km12_166 p_ad_0_0 ok_X12.1 rfl rfl ⟨Nat.le_of_ble_eq_true rfl, Nat.le_of_ble_eq_true rfl⟩ hl.1 rfl (Nat.le_of_ble_eq_true rfl) ⟨Nat.le_of_ble_eq_true rfl, Nat.le_of_ble_eq_true rfl⟩ dX12_behindOne_55 (fun L_87833 f_87834 H locs hr_87835 Y => ?_)
      obtain ⟨v_87836, v_87837, v_87838, v_87839, v_87840, I, p_ad_0_0, p_ad_4_0, p_ad_5_0, p_ad_6_0, eT_87841, eP_87842⟩ := hr_87835
      obtain ⟨bfc87842_4, bfc87842_7, bfc87842_8, bfc87842_12, bfc87842_13, bfc87842_17, bfc87842_18, bfc87842_19, bfc87842_20, bfc87842_25⟩ := obM I p_ad_0_0
      obtain ⟨g_87844, p_ad_3_0, o_87845⟩ := I.opi (k := 3) (j := 0) (by decide) rfl
      have p_ad_3_0 : pt L_87833 f_87834 (ad 3 0) (.inl (G.2 0, 2916, .inl g_87844)) := p_ad_3_0
      have o_87846 : (XR 0 gB fr g_87825 gc t0 v_87817 x_87828 v_87819 cg 0) g_87844 := (XR_f (XS_bt o_87845 hbc es2_87821 eg_87825 (by have z9 := (la_add ex_87828 (rfl : v_87818.toInt = v_87818.toInt) (show (1 : Int32).toInt = 1 from rfl) B_87824 (show bn 1 1 (1 : Int32) from bn_k (by decide)) (by decide)); omega) (B_87824).1))
      have I := I.castS (sp' := spM PA PI (XR 0 gB fr g_87825 gc t0 v_87817 x_87828 v_87819 cg 0) pa) (k := 3) (j := 0) (by decide) p_ad_3_0 (okE_a (g := g_87844) o_87846) pXC
      refine lv_iconst (v := 0) hx hb dX12_behindOne_58 (by decide) ?_
      exact prI (post := fun r L1 f1 => ∃ at92 : Int32, ∃ ps92 : Int32, ∃ tk2 : Int32, ∃ nu2 : Int32, ∃ wd2 : Int64, ∃ wr2 : Int32, ∃ pd2 : Int32, ∃ op92 : Int32, ∃ cg2 : Int32, ∃ iw2 : Int32, ∃ gp2 : Nat → Int32, ∃ gc2 : Nat → Int32, bn (-1) 7 r ∧ SH (spM PA PI (XR r gB fr gp2 gc2 t0 wr2 pd2 op92 cg2 iw2) pa) nnM G ad L1 f1 ∧ pt L1 f1 (ad 0 0) (.inr (12, [.ref (ad 1 0), .ref (ad 2 0), .ref (ad 3 0), .ref (ad 4 0), .int td, .int fa, .int fp, .int at92, .int ps92, .int tk2, .int nu2, .long wd2, .int t0, .int wr2, .int so, .ref (ad 5 0), .ref (ad 6 0), .int pd2, .int op92, .int cg2, .int iw2, .int on9, .ref (ad 7 0), .ref (ad 8 0), .ref (ad 9 0), .int is9, .ref (ad 10 0), .ref (ad 11 0), .ref (ad 12 0), .ref (ad 13 0), .int se, .ref (ad 14 0)])) ∧ pt L1 f1 (ad 5 0) (.inl (G.2 0, 160, .inl gp2)) ∧ pt L1 f1 (ad 6 0) (.inl (G.2 0, 9, .inl gc2)) ∧ TK at92 ps92 tk2 ∧ (r.toInt = 0 → ps9.toInt + 1 ≤ ps92.toInt) ∧ (r.toInt ≤ 0 → wr2.toInt + pd2.toInt ≤ ps92.toInt) ∧ (r.toInt < 0 → iw2 = 1) ∧ (r.toInt ≤ 0 → ps9.toInt ≤ ps92.toInt)) S Y rfl (by decide) (by decide) hA1 ⟨v_87836, v_87837, v_87838, v_87839, v_87840, v_87817, x_87828, v_87819, cg, 0, g_87825, gc, bn_w (show bn 0 0 (0 : Int32) from bn_k (by decide)) (by decide), I, p_ad_0_0, p_ad_5_0, p_ad_6_0, eT_87841, (fun _ => (by have c0 := es1_87820; have c1 := es3_87822; have c2 := eT_87841.1; have c3 := eP_87842; have c4 := hroom; have c5 := (hT.2 htk); have c6 := (la_add ex_87828 (rfl : v_87818.toInt = v_87818.toInt) (show (1 : Int32).toInt = 1 from rfl) B_87824 (show bn 1 1 (1 : Int32) from bn_k (by decide)) (by decide)); omega)), (fun _ => (by have c0 := es1_87820; have c1 := es3_87822; have c2 := eT_87841.1; have c3 := eP_87842; have c4 := hroom; have c5 := (hT.2 htk); have c6 := (la_add ex_87828 (rfl : v_87818.toInt = v_87818.toInt) (show (1 : Int32).toInt = 1 from rfl) B_87824 (show bn 1 1 (1 : Int32) from bn_k (by decide)) (by decide)); omega)), (fun h => absurd h (by decide)), (fun _ => (by have c0 := es1_87820; have c1 := es3_87822; have c2 := eT_87841.1; have c3 := eP_87842; have c4 := hroom; have c5 := (hT.2 htk); have c6 := (la_add ex_87828 (rfl : v_87818.toInt = v_87818.toInt) (show (1 : Int32).toInt = 1 from rfl) B_87824 (show bn 1 1 (1 : Int32) from bn_k (by decide)) (by decide)); omega))⟩ dX12_behindOne_59
    · have B_87809 : bn 4 4 r_87806 := bn_w (bn_eq c_87808 (show bn 4 4 (4 : Int32) from bn_k (by decide))) (by decide)
      refine lv_iconst (v := 5) hx hb dX12_behindOne_18 (by decide) ?_
      refine lv_goto (tgt := 26) hx hb dX12_behindOne_19 (by decide) ?_
      obtain ⟨cur0, hz, hbc⟩ := XV_bt (least := (5 : Int32).toInt.toNat) hv hI.1 hI.2.1 er_87686.2 (bn_w B_87689 (by decide)) (Or.inl ⟨by have z9 := er_87806; have z8 := (show r_87806.toInt = 4 from by rw [c_87808]; rfl); omega, rfl⟩)
      have htk := bt_tk er_87686.2 B_87689
      have o_87847 : (XS gB fr gp gc (5 : Int32).toInt.toNat opn cur0 cmp t0 wr pd op9 cg) g_87682 := hz
      have I := I.castS (sp' := spM PA PI (XS gB fr gp gc (5 : Int32).toInt.toNat opn cur0 cmp t0 wr pd op9 cg) pa) (k := 3) (j := 0) (by decide) p_ad_3_0 (okE_a (g := g_87682) o_87847) pXC
      refine cVv (As := [.int 5]) (rest := []) S Y (x_X12_settle (l := l) I p_ad_0_0 p_ad_5_0 p_ad_6_0 (bn_w (show bn 5 5 (5 : Int32) from bn_k (by decide)) (by decide)) (by have z9 := hroom; have z8 := bfe_8.2; omega)) cw_X12_settle km12_181 p_ad_0_0 ok_X12.1 rfl rfl ⟨Nat.le_of_ble_eq_true rfl, Nat.le_of_ble_eq_true rfl⟩ hl.1 rfl (Nat.le_of_ble_eq_true rfl) ⟨Nat.le_of_ble_eq_true rfl, Nat.le_of_ble_eq_true rfl⟩ dX12_behindOne_26 (fun L_87848 f_87849 H locs hr_87850 Y => ?_)
      obtain ⟨v_87851, v_87852, v_87853, I, p_ad_0_0, p_ad_5_0, p_ad_6_0, es1_87854, es2_87855, es3_87856⟩ := hr_87850
      obtain ⟨bfc87856_4, bfc87856_7, bfc87856_8, bfc87856_12, bfc87856_13, bfc87856_17, bfc87856_18, bfc87856_19, bfc87856_20, bfc87856_25⟩ := obM I p_ad_0_0
      have B_87858 : bn 0 53 v_87852 := ⟨(bfc87856_17).1, by have z9 := es3_87856; have z8 := (B_87684).2; omega⟩
      refine lv_aload_n hx hb dX12_behindOne_29 rfl (lv_at hl 1 rfl) ?_
      refine pg_get S Y ok_X12 15 (by decide) kf12_29 (v := .ref (ad 5 0)) p_ad_0_0 rfl dX12_behindOne_30 ?_
      refine lv_aload_n hx hb dX12_behindOne_33 rfl (lv_at hl 1 rfl) ?_
      refine pg_get S Y ok_X12 17 (by decide) kf12_142 (v := .int v_87852) p_ad_0_0 rfl dX12_behindOne_34 ?_
      refine lv_iload_n hx hb dX12_behindOne_37 rfl (lv_at hl 0 rfl) ?_
      refine pg_iast S Y p_ad_5_0 (vp_bn B_87858 (by decide)) dX12_behindOne_38 (fun f_87860 H locs ef_87860 Y => ?_)
      obtain ⟨g_87859, eg_87859⟩ : ∃ z, z = upd (gp) (v_87852 : Int32).toNatClampNeg r_87686 := ⟨_, rfl⟩
      rw [← eg_87859] at ef_87860
      have p_ad_0_0 := p_ad_0_0.up ef_87860 (I.ne (k := 0) (j := 0) (k' := 5) (j' := 0) (by decide) (by decide) (Or.inl (by decide)))
      have p_ad_6_0 := p_ad_6_0.up ef_87860 (I.ne (k := 6) (j := 0) (k' := 5) (j' := 0) (by decide) (by decide) (Or.inl (by decide)))
      have p_ad_5_0 := p_ad_5_0.me ef_87860
      have o_87861 : True := trivial
      have I := I.up (k := 5) (j := 0) (by decide) ef_87860 (okE_a (g := g_87859) o_87861)
      refine lv_aload_n hx hb dX12_behindOne_39 rfl (lv_at hl 1 rfl) ?_
      refine lv_dup hx hb dX12_behindOne_40 rfl ?_
      refine pg_get S Y ok_X12 17 (by decide) kf12_142 (v := .int v_87852) p_ad_0_0 rfl dX12_behindOne_41 ?_
      refine lv_iconst (v := 1) hx hb dX12_behindOne_44 (by decide) ?_
      refine lv_iadd hx hb dX12_behindOne_45 ?_
      refine lv_topi (fun x_87862 ex_87862 => ?_)
      refine pg_put S Y ok_X12 17 (by decide) kf12_142 rfl (fs' := [.ref (ad 1 0), .ref (ad 2 0), .ref (ad 3 0), .ref (ad 4 0), .int td, .int fa, .int fp, .int at9, .int ps9, .int tk, .int nu, .long wd, .int t0, .int v_87851, .int so, .ref (ad 5 0), .ref (ad 6 0), .int x_87862, .int v_87853, .int cg, .int iw, .int on9, .ref (ad 7 0), .ref (ad 8 0), .ref (ad 9 0), .int is9, .ref (ad 10 0), .ref (ad 11 0), .ref (ad 12 0), .ref (ad 13 0), .int se, .ref (ad 14 0)]) (v := .int x_87862) p_ad_0_0 rfl rfl rfl (Nat.le_of_ble_eq_true rfl) dX12_behindOne_46 (fun f_87863 H locs ef_87863 Y => ?_)
      have p_ad_5_0 := p_ad_5_0.up ef_87863 (I.ne (k := 5) (j := 0) (k' := 0) (j' := 0) (by decide) (by decide) (Or.inl (by decide)))
      have p_ad_6_0 := p_ad_6_0.up ef_87863 (I.ne (k := 6) (j := 0) (k' := 0) (j' := 0) (by decide) (by decide) (Or.inl (by decide)))
      have p_ad_0_0 := p_ad_0_0.me ef_87863
      have I := I.up (k := 0) (j := 0) (by decide) ef_87863 (okE_o (okFs_c okV_r (okFs_c okV_r (okFs_c okV_r (okFs_c okV_r (okFs_c (okV_i bfc87856_4) (okFs_c (okV_i (bn_any _)) (okFs_c (okV_i (bn_any _)) (okFs_c (okV_i bfc87856_7) (okFs_c (okV_i bfc87856_8) (okFs_c (okV_i (bn_any _)) (okFs_c (okV_i (bn_any _)) (okFs_c okV_l (okFs_c (okV_i bfc87856_12) (okFs_c (okV_i bfc87856_13) (okFs_c (okV_i (bn_any _)) (okFs_c okV_r (okFs_c okV_r (okFs_c (okV_i (bn_w (bn_eq ex_87862 (bn_add B_87858 (show bn 1 1 (1 : Int32) from bn_k (by decide)) (by decide))) (by decide))) (okFs_c (okV_i bfc87856_18) (okFs_c (okV_i bfc87856_19) (okFs_c (okV_i bfc87856_20) (okFs_c (okV_i (bn_any _)) (okFs_c okV_r (okFs_c okV_r (okFs_c okV_r (okFs_c (okV_i bfc87856_25) (okFs_c okV_r (okFs_c okV_r (okFs_c okV_r (okFs_c okV_r (okFs_c (okV_i (bn_any _)) (okFs_c okV_r okFs_n)))))))))))))))))))))))))))))))))
      refine lv_aload_n hx hb dX12_behindOne_49 rfl (lv_at hl 1 rfl) ?_
      refine lv_iconst (v := 0) hx hb dX12_behindOne_50 (by decide) ?_
      refine pg_put S Y ok_X12 20 (by decide) kf12_178 rfl (fs' := [.ref (ad 1 0), .ref (ad 2 0), .ref (ad 3 0), .ref (ad 4 0), .int td, .int fa, .int fp, .int at9, .int ps9, .int tk, .int nu, .long wd, .int t0, .int v_87851, .int so, .ref (ad 5 0), .ref (ad 6 0), .int x_87862, .int v_87853, .int cg, .int 0, .int on9, .ref (ad 7 0), .ref (ad 8 0), .ref (ad 9 0), .int is9, .ref (ad 10 0), .ref (ad 11 0), .ref (ad 12 0), .ref (ad 13 0), .int se, .ref (ad 14 0)]) (v := .int 0) p_ad_0_0 rfl rfl rfl (Nat.le_of_ble_eq_true rfl) dX12_behindOne_51 (fun f_87864 H locs ef_87864 Y => ?_)
      have p_ad_5_0 := p_ad_5_0.up ef_87864 (I.ne (k := 5) (j := 0) (k' := 0) (j' := 0) (by decide) (by decide) (Or.inl (by decide)))
      have p_ad_6_0 := p_ad_6_0.up ef_87864 (I.ne (k := 6) (j := 0) (k' := 0) (j' := 0) (by decide) (by decide) (Or.inl (by decide)))
      have p_ad_0_0 := p_ad_0_0.me ef_87864
      have I := I.up (k := 0) (j := 0) (by decide) ef_87864 (okE_o (okFs_c okV_r (okFs_c okV_r (okFs_c okV_r (okFs_c okV_r (okFs_c (okV_i bfc87856_4) (okFs_c (okV_i (bn_any _)) (okFs_c (okV_i (bn_any _)) (okFs_c (okV_i bfc87856_7) (okFs_c (okV_i bfc87856_8) (okFs_c (okV_i (bn_any _)) (okFs_c (okV_i (bn_any _)) (okFs_c okV_l (okFs_c (okV_i bfc87856_12) (okFs_c (okV_i bfc87856_13) (okFs_c (okV_i (bn_any _)) (okFs_c okV_r (okFs_c okV_r (okFs_c (okV_i (bn_w (bn_eq ex_87862 (bn_add B_87858 (show bn 1 1 (1 : Int32) from bn_k (by decide)) (by decide))) (by decide))) (okFs_c (okV_i bfc87856_18) (okFs_c (okV_i bfc87856_19) (okFs_c (okV_i (bn_w (show bn 0 0 (0 : Int32) from bn_k (by decide)) (by decide))) (okFs_c (okV_i (bn_any _)) (okFs_c okV_r (okFs_c okV_r (okFs_c okV_r (okFs_c (okV_i bfc87856_25) (okFs_c okV_r (okFs_c okV_r (okFs_c okV_r (okFs_c okV_r (okFs_c (okV_i (bn_any _)) (okFs_c okV_r okFs_n)))))))))))))))))))))))))))))))))
      refine lv_aload_n hx hb dX12_behindOne_54 rfl (lv_at hl 1 rfl) ?_
      obtain ⟨g_87865, p_ad_4_0, o_87866⟩ := I.opi (k := 4) (j := 0) (by decide) rfl
      have p_ad_4_0 : pt L_87848 f_87864 (ad 4 0) (.inl (G.2 0, 300, .inl g_87865)) := p_ad_4_0
      refine cVv (As := []) (rest := []) S Y (x_X12_nextToken (l := l) I p_ad_0_0 p_ad_4_0 p_ad_5_0 p_ad_6_0) cw_X12_nextToken km12_166 p_ad_0_0 ok_X12.1 rfl rfl ⟨Nat.le_of_ble_eq_true rfl, Nat.le_of_ble_eq_true rfl⟩ hl.1 rfl (Nat.le_of_ble_eq_true rfl) ⟨Nat.le_of_ble_eq_true rfl, Nat.le_of_ble_eq_true rfl⟩ dX12_behindOne_55 (fun L_87867 f_87868 H locs hr_87869 Y => ?_)
      obtain ⟨v_87870, v_87871, v_87872, v_87873, v_87874, I, p_ad_0_0, p_ad_4_0, p_ad_5_0, p_ad_6_0, eT_87875, eP_87876⟩ := hr_87869
      obtain ⟨bfc87876_4, bfc87876_7, bfc87876_8, bfc87876_12, bfc87876_13, bfc87876_17, bfc87876_18, bfc87876_19, bfc87876_20, bfc87876_25⟩ := obM I p_ad_0_0
      obtain ⟨g_87878, p_ad_3_0, o_87879⟩ := I.opi (k := 3) (j := 0) (by decide) rfl
      have p_ad_3_0 : pt L_87867 f_87868 (ad 3 0) (.inl (G.2 0, 2916, .inl g_87878)) := p_ad_3_0
      have o_87880 : (XR 0 gB fr g_87859 gc t0 v_87851 x_87862 v_87853 cg 0) g_87878 := (XR_f (XS_bt o_87879 hbc es2_87855 eg_87859 (by have z9 := (la_add ex_87862 (rfl : v_87852.toInt = v_87852.toInt) (show (1 : Int32).toInt = 1 from rfl) B_87858 (show bn 1 1 (1 : Int32) from bn_k (by decide)) (by decide)); omega) (B_87858).1))
      have I := I.castS (sp' := spM PA PI (XR 0 gB fr g_87859 gc t0 v_87851 x_87862 v_87853 cg 0) pa) (k := 3) (j := 0) (by decide) p_ad_3_0 (okE_a (g := g_87878) o_87880) pXC
      refine lv_iconst (v := 0) hx hb dX12_behindOne_58 (by decide) ?_
      exact prI (post := fun r L1 f1 => ∃ at92 : Int32, ∃ ps92 : Int32, ∃ tk2 : Int32, ∃ nu2 : Int32, ∃ wd2 : Int64, ∃ wr2 : Int32, ∃ pd2 : Int32, ∃ op92 : Int32, ∃ cg2 : Int32, ∃ iw2 : Int32, ∃ gp2 : Nat → Int32, ∃ gc2 : Nat → Int32, bn (-1) 7 r ∧ SH (spM PA PI (XR r gB fr gp2 gc2 t0 wr2 pd2 op92 cg2 iw2) pa) nnM G ad L1 f1 ∧ pt L1 f1 (ad 0 0) (.inr (12, [.ref (ad 1 0), .ref (ad 2 0), .ref (ad 3 0), .ref (ad 4 0), .int td, .int fa, .int fp, .int at92, .int ps92, .int tk2, .int nu2, .long wd2, .int t0, .int wr2, .int so, .ref (ad 5 0), .ref (ad 6 0), .int pd2, .int op92, .int cg2, .int iw2, .int on9, .ref (ad 7 0), .ref (ad 8 0), .ref (ad 9 0), .int is9, .ref (ad 10 0), .ref (ad 11 0), .ref (ad 12 0), .ref (ad 13 0), .int se, .ref (ad 14 0)])) ∧ pt L1 f1 (ad 5 0) (.inl (G.2 0, 160, .inl gp2)) ∧ pt L1 f1 (ad 6 0) (.inl (G.2 0, 9, .inl gc2)) ∧ TK at92 ps92 tk2 ∧ (r.toInt = 0 → ps9.toInt + 1 ≤ ps92.toInt) ∧ (r.toInt ≤ 0 → wr2.toInt + pd2.toInt ≤ ps92.toInt) ∧ (r.toInt < 0 → iw2 = 1) ∧ (r.toInt ≤ 0 → ps9.toInt ≤ ps92.toInt)) S Y rfl (by decide) (by decide) hA1 ⟨v_87870, v_87871, v_87872, v_87873, v_87874, v_87851, x_87862, v_87853, cg, 0, g_87859, gc, bn_w (show bn 0 0 (0 : Int32) from bn_k (by decide)) (by decide), I, p_ad_0_0, p_ad_5_0, p_ad_6_0, eT_87875, (fun _ => (by have c0 := es1_87854; have c1 := es3_87856; have c2 := eT_87875.1; have c3 := eP_87876; have c4 := hroom; have c5 := (hT.2 htk); have c6 := (la_add ex_87862 (rfl : v_87852.toInt = v_87852.toInt) (show (1 : Int32).toInt = 1 from rfl) B_87858 (show bn 1 1 (1 : Int32) from bn_k (by decide)) (by decide)); omega)), (fun _ => (by have c0 := es1_87854; have c1 := es3_87856; have c2 := eT_87875.1; have c3 := eP_87876; have c4 := hroom; have c5 := (hT.2 htk); have c6 := (la_add ex_87862 (rfl : v_87852.toInt = v_87852.toInt) (show (1 : Int32).toInt = 1 from rfl) B_87858 (show bn 1 1 (1 : Int32) from bn_k (by decide)) (by decide)); omega)), (fun h => absurd h (by decide)), (fun _ => (by have c0 := es1_87854; have c1 := es3_87856; have c2 := eT_87875.1; have c3 := eP_87876; have c4 := hroom; have c5 := (hT.2 htk); have c6 := (la_add ex_87862 (rfl : v_87852.toInt = v_87852.toInt) (show (1 : Int32).toInt = 1 from rfl) B_87858 (show bn 1 1 (1 : Int32) from bn_k (by decide)) (by decide)); omega))⟩ dX12_behindOne_59
