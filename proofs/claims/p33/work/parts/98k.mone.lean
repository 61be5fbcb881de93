theorem dX12_beginOne_0 : decode cX12_beginOne 0 = .ok (.aload_n 0, 1) := by decide +kernel
theorem dX12_beginOne_1 : decode cX12_beginOne 1 = .ok (.getfield 98, 3) := by decide +kernel
theorem dX12_beginOne_4 : decode cX12_beginOne 4 = .ok (.iconst 1, 1) := by decide +kernel
theorem dX12_beginOne_5 : decode cX12_beginOne 5 = .ok (.if_icmp .ne 15, 3) := by decide +kernel
theorem dX12_beginOne_20 : decode cX12_beginOne 20 = .ok (.aload_n 0, 1) := by decide +kernel
theorem dX12_beginOne_21 : decode cX12_beginOne 21 = .ok (.invokevirtual 172, 3) := by decide +kernel
theorem cw_X12_nameOf : CWv yX12_nameOf cX12_nameOf 1 (some .int) 0 := ⟨⟨⟨List.mem_of_getElem? (i := 137) (by decide +kernel), by decide +kernel⟩, ⟨List.mem_of_getElem? (i := 1756) (by decide +kernel), by decide +kernel⟩, by decide +kernel⟩, ⟨List.mem_of_getElem? (i := 1755) (by decide +kernel), by decide +kernel⟩, ⟨List.mem_of_getElem? (i := 75) (by decide +kernel), by decide +kernel⟩⟩
theorem km12_172 : inW (Cond.methodLink RX12 172 yX12_nameOf) := ⟨List.mem_of_getElem? (i := 1753) (by decide +kernel), by decide +kernel⟩
theorem dX12_beginOne_24 : decode cX12_beginOne 24 = .ok (.istore_n 1, 1) := by decide +kernel
theorem dX12_beginOne_25 : decode cX12_beginOne 25 = .ok (.iload_n 1, 1) := by decide +kernel
theorem dX12_beginOne_26 : decode cX12_beginOne 26 = .ok (.iconst 4, 1) := by decide +kernel
theorem dX12_beginOne_27 : decode cX12_beginOne 27 = .ok (.if_icmp .le 13, 3) := by decide +kernel
theorem dX12_beginOne_40 : decode cX12_beginOne 40 = .ok (.aload_n 0, 1) := by decide +kernel
theorem dX12_beginOne_41 : decode cX12_beginOne 41 = .ok (.getfield 98, 3) := by decide +kernel
theorem dX12_beginOne_44 : decode cX12_beginOne 44 = .ok (.iconst 1, 1) := by decide +kernel
theorem dX12_beginOne_45 : decode cX12_beginOne 45 = .ok (.if_icmp .eq 7, 3) := by decide +kernel
theorem dX12_beginOne_48 : decode cX12_beginOne 48 = .ok (.iload_n 1, 1) := by decide +kernel
theorem dX12_beginOne_49 : decode cX12_beginOne 49 = .ok (.ifCond .lt 53, 3) := by decide +kernel
theorem dX12_beginOne_102 : decode cX12_beginOne 102 = .ok (.aload_n 0, 1) := by decide +kernel
theorem dX12_beginOne_103 : decode cX12_beginOne 103 = .ok (.getfield 98, 3) := by decide +kernel
theorem dX12_beginOne_106 : decode cX12_beginOne 106 = .ok (.bipush 40, 2) := by decide +kernel
theorem dX12_beginOne_108 : decode cX12_beginOne 108 = .ok (.if_icmp .ne 10, 3) := by decide +kernel
theorem dX12_beginOne_118 : decode cX12_beginOne 118 = .ok (.aload_n 0, 1) := by decide +kernel
theorem dX12_beginOne_119 : decode cX12_beginOne 119 = .ok (.getfield 98, 3) := by decide +kernel
theorem dX12_beginOne_122 : decode cX12_beginOne 122 = .ok (.bipush 45, 2) := by decide +kernel
theorem dX12_beginOne_124 : decode cX12_beginOne 124 = .ok (.if_icmp .ne 9, 3) := by decide +kernel
theorem dX12_beginOne_133 : decode cX12_beginOne 133 = .ok (.aload_n 0, 1) := by decide +kernel
theorem dX12_beginOne_134 : decode cX12_beginOne 134 = .ok (.bipush 109, 2) := by decide +kernel
theorem dX12_beginOne_136 : decode cX12_beginOne 136 = .ok (.bipush 97, 2) := by decide +kernel
theorem dX12_beginOne_138 : decode cX12_beginOne 138 = .ok (.bipush 114, 2) := by decide +kernel
theorem dX12_beginOne_140 : decode cX12_beginOne 140 = .ok (.bipush 107, 2) := by decide +kernel
theorem dX12_beginOne_142 : decode cX12_beginOne 142 = .ok (.bipush 115, 2) := by decide +kernel
theorem dX12_beginOne_144 : decode cX12_beginOne 144 = .ok (.invokestatic 132, 3) := by decide +kernel
theorem dX12_beginOne_147 : decode cX12_beginOne 147 = .ok (.invokevirtual 187, 3) := by decide +kernel
theorem dX12_beginOne_150 : decode cX12_beginOne 150 = .ok (.ifCond .eq 9, 3) := by decide +kernel
theorem dX12_beginOne_159 : decode cX12_beginOne 159 = .ok (.aload_n 0, 1) := by decide +kernel
theorem dX12_beginOne_160 : decode cX12_beginOne 160 = .ok (.bipush 105, 2) := by decide +kernel
theorem dX12_beginOne_162 : decode cX12_beginOne 162 = .ok (.bipush 102, 2) := by decide +kernel
theorem dX12_beginOne_164 : decode cX12_beginOne 164 = .ok (.invokestatic 120, 3) := by decide +kernel
theorem dX12_beginOne_167 : decode cX12_beginOne 167 = .ok (.invokevirtual 187, 3) := by decide +kernel
theorem dX12_beginOne_170 : decode cX12_beginOne 170 = .ok (.ifCond .eq 10, 3) := by decide +kernel
theorem dX12_beginOne_180 : decode cX12_beginOne 180 = .ok (.aload_n 0, 1) := by decide +kernel
theorem dX12_beginOne_181 : decode cX12_beginOne 181 = .ok (.invokevirtual 191, 3) := by decide +kernel
theorem cw_X12_isAskAhead : CWv yX12_isAskAhead cX12_isAskAhead 1 (some .boolean) 0 := ⟨⟨⟨List.mem_of_getElem? (i := 137) (by decide +kernel), by decide +kernel⟩, ⟨List.mem_of_getElem? (i := 1764) (by decide +kernel), by decide +kernel⟩, by decide +kernel⟩, ⟨List.mem_of_getElem? (i := 1763) (by decide +kernel), by decide +kernel⟩, ⟨List.mem_of_getElem? (i := 77) (by decide +kernel), by decide +kernel⟩⟩
theorem km12_191 : inW (Cond.methodLink RX12 191 yX12_isAskAhead) := ⟨List.mem_of_getElem? (i := 1761) (by decide +kernel), by decide +kernel⟩
theorem dX12_beginOne_184 : decode cX12_beginOne 184 = .ok (.ifCond .ne 5, 3) := by decide +kernel
theorem dX12_beginOne_189 : decode cX12_beginOne 189 = .ok (.aload_n 0, 1) := by decide +kernel
theorem dX12_beginOne_190 : decode cX12_beginOne 190 = .ok (.bipush 110, 2) := by decide +kernel
theorem dX12_beginOne_192 : decode cX12_beginOne 192 = .ok (.bipush 111, 2) := by decide +kernel
theorem dX12_beginOne_194 : decode cX12_beginOne 194 = .ok (.bipush 116, 2) := by decide +kernel
theorem dX12_beginOne_196 : decode cX12_beginOne 196 = .ok (.invokestatic 124, 3) := by decide +kernel
theorem dX12_beginOne_199 : decode cX12_beginOne 199 = .ok (.invokevirtual 187, 3) := by decide +kernel
theorem dX12_beginOne_202 : decode cX12_beginOne 202 = .ok (.ifCond .eq 12, 3) := by decide +kernel
theorem dX12_beginOne_214 : decode cX12_beginOne 214 = .ok (.aload_n 0, 1) := by decide +kernel
theorem dX12_beginOne_215 : decode cX12_beginOne 215 = .ok (.bipush 106, 2) := by decide +kernel
theorem dX12_beginOne_217 : decode cX12_beginOne 217 = .ok (.bipush 117, 2) := by decide +kernel
theorem dX12_beginOne_219 : decode cX12_beginOne 219 = .ok (.bipush 115, 2) := by decide +kernel
theorem dX12_beginOne_221 : decode cX12_beginOne 221 = .ok (.bipush 116, 2) := by decide +kernel
theorem dX12_beginOne_223 : decode cX12_beginOne 223 = .ok (.invokestatic 128, 3) := by decide +kernel
theorem dX12_beginOne_226 : decode cX12_beginOne 226 = .ok (.invokevirtual 187, 3) := by decide +kernel
theorem dX12_beginOne_229 : decode cX12_beginOne 229 = .ok (.ifCond .eq 12, 3) := by decide +kernel
theorem dX12_beginOne_241 : decode cX12_beginOne 241 = .ok (.iconst 1, 1) := by decide +kernel
theorem dX12_beginOne_242 : decode cX12_beginOne 242 = .ok (.ireturn, 1) := by decide +kernel
theorem dX12_beginOne_232 : decode cX12_beginOne 232 = .ok (.aload_n 0, 1) := by decide +kernel
theorem dX12_beginOne_233 : decode cX12_beginOne 233 = .ok (.bipush 44, 2) := by decide +kernel
theorem dX12_beginOne_235 : decode cX12_beginOne 235 = .ok (.invokevirtual 184, 3) := by decide +kernel
theorem cw_X12_opened : CWv yX12_opened cX12_opened 2 (some .int) 1 := ⟨⟨⟨List.mem_of_getElem? (i := 137) (by decide +kernel), by decide +kernel⟩, ⟨List.mem_of_getElem? (i := 1760) (by decide +kernel), by decide +kernel⟩, by decide +kernel⟩, ⟨List.mem_of_getElem? (i := 1759) (by decide +kernel), by decide +kernel⟩, ⟨List.mem_of_getElem? (i := 76) (by decide +kernel), by decide +kernel⟩⟩
theorem km12_184 : inW (Cond.methodLink RX12 184 yX12_opened) := ⟨List.mem_of_getElem? (i := 1757) (by decide +kernel), by decide +kernel⟩
theorem dX12_beginOne_238 : decode cX12_beginOne 238 = .ok (.goto 4, 3) := by decide +kernel
theorem dX12_beginOne_205 : decode cX12_beginOne 205 = .ok (.aload_n 0, 1) := by decide +kernel
theorem dX12_beginOne_206 : decode cX12_beginOne 206 = .ok (.bipush 20, 2) := by decide +kernel
theorem dX12_beginOne_208 : decode cX12_beginOne 208 = .ok (.invokevirtual 184, 3) := by decide +kernel
theorem dX12_beginOne_211 : decode cX12_beginOne 211 = .ok (.goto 31, 3) := by decide +kernel
theorem dX12_beginOne_187 : decode cX12_beginOne 187 = .ok (.iconst 1, 1) := by decide +kernel
theorem dX12_beginOne_188 : decode cX12_beginOne 188 = .ok (.ireturn, 1) := by decide +kernel
theorem dX12_beginOne_173 : decode cX12_beginOne 173 = .ok (.aload_n 0, 1) := by decide +kernel
theorem dX12_beginOne_174 : decode cX12_beginOne 174 = .ok (.bipush 41, 2) := by decide +kernel
theorem dX12_beginOne_176 : decode cX12_beginOne 176 = .ok (.invokevirtual 184, 3) := by decide +kernel
theorem dX12_beginOne_179 : decode cX12_beginOne 179 = .ok (.ireturn, 1) := by decide +kernel
theorem dX12_beginOne_153 : decode cX12_beginOne 153 = .ok (.aload_n 0, 1) := by decide +kernel
theorem dX12_beginOne_154 : decode cX12_beginOne 154 = .ok (.iconst 2, 1) := by decide +kernel
theorem dX12_beginOne_155 : decode cX12_beginOne 155 = .ok (.invokevirtual 184, 3) := by decide +kernel
theorem dX12_beginOne_158 : decode cX12_beginOne 158 = .ok (.ireturn, 1) := by decide +kernel
theorem dX12_beginOne_127 : decode cX12_beginOne 127 = .ok (.aload_n 0, 1) := by decide +kernel
theorem dX12_beginOne_128 : decode cX12_beginOne 128 = .ok (.iconst 5, 1) := by decide +kernel
theorem dX12_beginOne_129 : decode cX12_beginOne 129 = .ok (.invokevirtual 184, 3) := by decide +kernel
theorem dX12_beginOne_132 : decode cX12_beginOne 132 = .ok (.ireturn, 1) := by decide +kernel
theorem dX12_beginOne_111 : decode cX12_beginOne 111 = .ok (.aload_n 0, 1) := by decide +kernel
theorem dX12_beginOne_112 : decode cX12_beginOne 112 = .ok (.bipush 40, 2) := by decide +kernel
theorem dX12_beginOne_114 : decode cX12_beginOne 114 = .ok (.invokevirtual 184, 3) := by decide +kernel
theorem dX12_beginOne_117 : decode cX12_beginOne 117 = .ok (.ireturn, 1) := by decide +kernel
theorem dX12_beginOne_52 : decode cX12_beginOne 52 = .ok (.aload_n 0, 1) := by decide +kernel
theorem dX12_beginOne_53 : decode cX12_beginOne 53 = .ok (.aload_n 0, 1) := by decide +kernel
theorem dX12_beginOne_54 : decode cX12_beginOne 54 = .ok (.getfield 98, 3) := by decide +kernel
theorem dX12_beginOne_57 : decode cX12_beginOne 57 = .ok (.iconst 1, 1) := by decide +kernel
theorem dX12_beginOne_58 : decode cX12_beginOne 58 = .ok (.if_icmp .ne 7, 3) := by decide +kernel
theorem dX12_beginOne_65 : decode cX12_beginOne 65 = .ok (.iconst 1, 1) := by decide +kernel
theorem dX12_beginOne_66 : decode cX12_beginOne 66 = .ok (.aload_n 0, 1) := by decide +kernel
theorem dX12_beginOne_67 : decode cX12_beginOne 67 = .ok (.getfield 98, 3) := by decide +kernel
theorem dX12_beginOne_70 : decode cX12_beginOne 70 = .ok (.iconst 1, 1) := by decide +kernel
theorem dX12_beginOne_71 : decode cX12_beginOne 71 = .ok (.if_icmp .ne 10, 3) := by decide +kernel
theorem dX12_beginOne_81 : decode cX12_beginOne 81 = .ok (.iload_n 1, 1) := by decide +kernel
theorem dX12_beginOne_82 : decode cX12_beginOne 82 = .ok (.invokevirtual 148, 3) := by decide +kernel
theorem dX12_beginOne_85 : decode cX12_beginOne 85 = .ok (.aload_n 0, 1) := by decide +kernel
theorem dX12_beginOne_86 : decode cX12_beginOne 86 = .ok (.invokevirtual 166, 3) := by decide +kernel
theorem dX12_beginOne_89 : decode cX12_beginOne 89 = .ok (.aload_n 0, 1) := by decide +kernel
theorem dX12_beginOne_90 : decode cX12_beginOne 90 = .ok (.iconst 1, 1) := by decide +kernel
theorem dX12_beginOne_91 : decode cX12_beginOne 91 = .ok (.putfield 178, 3) := by decide +kernel
theorem kf12_178 : inW (Cond.fieldLink RX12 178 "KneeOathsModel" "isWhole" "Z") := ⟨List.mem_of_getElem? (i := 1518) (by decide +kernel), by decide +kernel⟩
theorem dX12_beginOne_94 : decode cX12_beginOne 94 = .ok (.aload_n 0, 1) := by decide +kernel
theorem dX12_beginOne_95 : decode cX12_beginOne 95 = .ok (.bipush 7, 2) := by decide +kernel
theorem dX12_beginOne_97 : decode cX12_beginOne 97 = .ok (.invokevirtual 181, 3) := by decide +kernel
theorem dX12_beginOne_100 : decode cX12_beginOne 100 = .ok (.iconst 0, 1) := by decide +kernel
theorem dX12_beginOne_101 : decode cX12_beginOne 101 = .ok (.ireturn, 1) := by decide +kernel
theorem dX12_beginOne_30 : decode cX12_beginOne 30 = .ok (.aload_n 0, 1) := by decide +kernel
theorem dX12_beginOne_31 : decode cX12_beginOne 31 = .ok (.getfield 175, 3) := by decide +kernel
theorem kf12_175 : inW (Cond.fieldLink RX12 175 "KneeOathsModel" "sort0" "I") := ⟨List.mem_of_getElem? (i := 1512) (by decide +kernel), by decide +kernel⟩
theorem dX12_beginOne_34 : decode cX12_beginOne 34 = .ok (.iconst 2, 1) := by decide +kernel
theorem dX12_beginOne_35 : decode cX12_beginOne 35 = .ok (.if_icmp .ne 5, 3) := by decide +kernel
theorem dX12_beginOne_38 : decode cX12_beginOne 38 = .ok (.iconst 5, 1) := by decide +kernel
theorem dX12_beginOne_39 : decode cX12_beginOne 39 = .ok (.ireturn, 1) := by decide +kernel
theorem dX12_beginOne_8 : decode cX12_beginOne 8 = .ok (.aload_n 0, 1) := by decide +kernel
theorem dX12_beginOne_9 : decode cX12_beginOne 9 = .ok (.getfield 104, 3) := by decide +kernel
theorem dX12_beginOne_12 : decode cX12_beginOne 12 = .ok (.sipush 9999, 3) := by decide +kernel
theorem dX12_beginOne_15 : decode cX12_beginOne 15 = .ok (.if_icmp .le 5, 3) := by decide +kernel
theorem dX12_beginOne_61 : decode cX12_beginOne 61 = .ok (.iconst 0, 1) := by decide +kernel
theorem dX12_beginOne_62 : decode cX12_beginOne 62 = .ok (.goto 4, 3) := by decide +kernel
theorem dX12_beginOne_74 : decode cX12_beginOne 74 = .ok (.aload_n 0, 1) := by decide +kernel
theorem dX12_beginOne_75 : decode cX12_beginOne 75 = .ok (.getfield 104, 3) := by decide +kernel
theorem dX12_beginOne_78 : decode cX12_beginOne 78 = .ok (.goto 4, 3) := by decide +kernel
theorem dX12_beginOne_18 : decode cX12_beginOne 18 = .ok (.iconst 2, 1) := by decide +kernel
theorem dX12_beginOne_19 : decode cX12_beginOne 19 = .ok (.ireturn, 1) := by decide +kernel
theorem dX12_behindOne_0 : decode cX12_behindOne 0 = .ok (.aload_n 0, 1) := by decide +kernel
theorem dX12_behindOne_1 : decode cX12_behindOne 1 = .ok (.invokevirtual 200, 3) := by decide +kernel
theorem cw_X12_betweenOf : CWv yX12_betweenOf cX12_betweenOf 2 (some .int) 0 := ⟨⟨⟨List.mem_of_getElem? (i := 137) (by decide +kernel), by decide +kernel⟩, ⟨List.mem_of_getElem? (i := 1709) (by decide +kernel), by decide +kernel⟩, by decide +kernel⟩, ⟨List.mem_of_getElem? (i := 1708) (by decide +kernel), by decide +kernel⟩, ⟨List.mem_of_getElem? (i := 64) (by decide +kernel), by decide +kernel⟩⟩
theorem km12_200 : inW (Cond.methodLink RX12 200 yX12_betweenOf) := ⟨List.mem_of_getElem? (i := 1706) (by decide +kernel), by decide +kernel⟩
theorem dX12_behindOne_4 : decode cX12_behindOne 4 = .ok (.istore_n 1, 1) := by decide +kernel
theorem dX12_behindOne_5 : decode cX12_behindOne 5 = .ok (.iload_n 1, 1) := by decide +kernel
theorem dX12_behindOne_6 : decode cX12_behindOne 6 = .ok (.ifCond .lt 54, 3) := by decide +kernel
theorem dX12_behindOne_60 : decode cX12_behindOne 60 = .ok (.aload_n 0, 1) := by decide +kernel
theorem dX12_behindOne_61 : decode cX12_behindOne 61 = .ok (.invokevirtual 159, 3) := by decide +kernel
theorem dX12_behindOne_64 : decode cX12_behindOne 64 = .ok (.istore_n 2, 1) := by decide +kernel
theorem dX12_behindOne_65 : decode cX12_behindOne 65 = .ok (.aload_n 0, 1) := by decide +kernel
theorem dX12_behindOne_66 : decode cX12_behindOne 66 = .ok (.iload_n 2, 1) := by decide +kernel
theorem dX12_behindOne_67 : decode cX12_behindOne 67 = .ok (.invokevirtual 203, 3) := by decide +kernel
theorem cw_X12_partOf : CWv yX12_partOf cX12_partOf 2 (some .int) 1 := ⟨⟨⟨List.mem_of_getElem? (i := 137) (by decide +kernel), by decide +kernel⟩, ⟨List.mem_of_getElem? (i := 1744) (by decide +kernel), by decide +kernel⟩, by decide +kernel⟩, ⟨List.mem_of_getElem? (i := 1743) (by decide +kernel), by decide +kernel⟩, ⟨List.mem_of_getElem? (i := 72) (by decide +kernel), by decide +kernel⟩⟩
theorem km12_203 : inW (Cond.methodLink RX12 203 yX12_partOf) := ⟨List.mem_of_getElem? (i := 1741) (by decide +kernel), by decide +kernel⟩
theorem dX12_behindOne_70 : decode cX12_behindOne 70 = .ok (.istore_n 3, 1) := by decide +kernel
theorem dX12_behindOne_71 : decode cX12_behindOne 71 = .ok (.iload_n 3, 1) := by decide +kernel
theorem dX12_behindOne_72 : decode cX12_behindOne 72 = .ok (.ifCond .ge 5, 3) := by decide +kernel
theorem dX12_behindOne_77 : decode cX12_behindOne 77 = .ok (.iload_n 3, 1) := by decide +kernel
theorem dX12_behindOne_78 : decode cX12_behindOne 78 = .ok (.bipush 44, 2) := by decide +kernel
theorem dX12_behindOne_80 : decode cX12_behindOne 80 = .ok (.if_icmp .ne 22, 3) := by decide +kernel
theorem dX12_behindOne_102 : decode cX12_behindOne 102 = .ok (.aload_n 0, 1) := by decide +kernel
theorem dX12_behindOne_103 : decode cX12_behindOne 103 = .ok (.iconst 1, 1) := by decide +kernel
theorem dX12_behindOne_104 : decode cX12_behindOne 104 = .ok (.invokevirtual 181, 3) := by decide +kernel
theorem dX12_behindOne_107 : decode cX12_behindOne 107 = .ok (.iload_n 3, 1) := by decide +kernel
theorem dX12_behindOne_108 : decode cX12_behindOne 108 = .ok (.ifCond .ne 10, 3) := by decide +kernel
theorem dX12_behindOne_118 : decode cX12_behindOne 118 = .ok (.iload_n 3, 1) := by decide +kernel
theorem dX12_behindOne_119 : decode cX12_behindOne 119 = .ok (.bipush 44, 2) := by decide +kernel
theorem dX12_behindOne_121 : decode cX12_behindOne 121 = .ok (.if_icmp .ne 18, 3) := by decide +kernel
theorem dX12_behindOne_139 : decode cX12_behindOne 139 = .ok (.aload_n 0, 1) := by decide +kernel
theorem dX12_behindOne_140 : decode cX12_behindOne 140 = .ok (.getfield 29, 3) := by decide +kernel
theorem dX12_behindOne_143 : decode cX12_behindOne 143 = .ok (.aload_n 0, 1) := by decide +kernel
theorem dX12_behindOne_144 : decode cX12_behindOne 144 = .ok (.invokevirtual 155, 3) := by decide +kernel
theorem dX12_behindOne_147 : decode cX12_behindOne 147 = .ok (.iload_n 3, 1) := by decide +kernel
theorem dX12_behindOne_148 : decode cX12_behindOne 148 = .ok (.iastore, 1) := by decide +kernel
theorem dX12_behindOne_149 : decode cX12_behindOne 149 = .ok (.aload_n 0, 1) := by decide +kernel
theorem dX12_behindOne_150 : decode cX12_behindOne 150 = .ok (.iconst 0, 1) := by decide +kernel
theorem dX12_behindOne_151 : decode cX12_behindOne 151 = .ok (.putfield 178, 3) := by decide +kernel
theorem dX12_behindOne_154 : decode cX12_behindOne 154 = .ok (.aload_n 0, 1) := by decide +kernel
theorem dX12_behindOne_155 : decode cX12_behindOne 155 = .ok (.invokevirtual 166, 3) := by decide +kernel
theorem dX12_behindOne_158 : decode cX12_behindOne 158 = .ok (.iconst 0, 1) := by decide +kernel
theorem dX12_behindOne_159 : decode cX12_behindOne 159 = .ok (.ireturn, 1) := by decide +kernel
theorem dX12_behindOne_111 : decode cX12_behindOne 111 = .ok (.aload_n 0, 1) := by decide +kernel
theorem dX12_behindOne_112 : decode cX12_behindOne 112 = .ok (.iload_n 2, 1) := by decide +kernel
theorem dX12_behindOne_113 : decode cX12_behindOne 113 = .ok (.invokevirtual 206, 3) := by decide +kernel
theorem cw_X12_shut : CWv yX12_shut cX12_shut 2 none 1 := ⟨⟨⟨List.mem_of_getElem? (i := 137) (by decide +kernel), by decide +kernel⟩, ⟨List.mem_of_getElem? (i := 1748) (by decide +kernel), by decide +kernel⟩, by decide +kernel⟩, ⟨List.mem_of_getElem? (i := 1747) (by decide +kernel), by decide +kernel⟩, ⟨List.mem_of_getElem? (i := 73) (by decide +kernel), by decide +kernel⟩⟩
theorem km12_206 : inW (Cond.methodLink RX12 206 yX12_shut) := ⟨List.mem_of_getElem? (i := 1745) (by decide +kernel), by decide +kernel⟩
theorem dX12_behindOne_116 : decode cX12_behindOne 116 = .ok (.iconst 0, 1) := by decide +kernel
theorem dX12_behindOne_117 : decode cX12_behindOne 117 = .ok (.ireturn, 1) := by decide +kernel
theorem dX12_behindOne_83 : decode cX12_behindOne 83 = .ok (.aload_n 0, 1) := by decide +kernel
theorem dX12_behindOne_84 : decode cX12_behindOne 84 = .ok (.getfield 32, 3) := by decide +kernel
theorem dX12_behindOne_87 : decode cX12_behindOne 87 = .ok (.aload_n 0, 1) := by decide +kernel
theorem dX12_behindOne_88 : decode cX12_behindOne 88 = .ok (.getfield 169, 3) := by decide +kernel
theorem dX12_behindOne_91 : decode cX12_behindOne 91 = .ok (.iconst 1, 1) := by decide +kernel
theorem dX12_behindOne_92 : decode cX12_behindOne 92 = .ok (.isub, 1) := by decide +kernel
theorem dX12_behindOne_93 : decode cX12_behindOne 93 = .ok (.iaload, 1) := by decide +kernel
theorem dX12_behindOne_94 : decode cX12_behindOne 94 = .ok (.bipush 6, 2) := by decide +kernel
theorem dX12_behindOne_96 : decode cX12_behindOne 96 = .ok (.if_icmp .ne 6, 3) := by decide +kernel
theorem dX12_behindOne_124 : decode cX12_behindOne 124 = .ok (.aload_n 0, 1) := by decide +kernel
theorem dX12_behindOne_125 : decode cX12_behindOne 125 = .ok (.getfield 32, 3) := by decide +kernel
theorem dX12_behindOne_128 : decode cX12_behindOne 128 = .ok (.aload_n 0, 1) := by decide +kernel
theorem dX12_behindOne_129 : decode cX12_behindOne 129 = .ok (.getfield 169, 3) := by decide +kernel
theorem dX12_behindOne_132 : decode cX12_behindOne 132 = .ok (.iconst 1, 1) := by decide +kernel
theorem dX12_behindOne_133 : decode cX12_behindOne 133 = .ok (.isub, 1) := by decide +kernel
theorem dX12_behindOne_134 : decode cX12_behindOne 134 = .ok (.dup2, 1) := by decide +kernel
theorem dX12_behindOne_135 : decode cX12_behindOne 135 = .ok (.iaload, 1) := by decide +kernel
theorem dX12_behindOne_136 : decode cX12_behindOne 136 = .ok (.iconst 1, 1) := by decide +kernel
theorem dX12_behindOne_137 : decode cX12_behindOne 137 = .ok (.iadd, 1) := by decide +kernel
theorem dX12_behindOne_138 : decode cX12_behindOne 138 = .ok (.iastore, 1) := by decide +kernel
theorem dX12_behindOne_99 : decode cX12_behindOne 99 = .ok (.bipush 7, 2) := by decide +kernel
theorem dX12_behindOne_101 : decode cX12_behindOne 101 = .ok (.ireturn, 1) := by decide +kernel
theorem dX12_behindOne_75 : decode cX12_behindOne 75 = .ok (.iconst (-1), 1) := by decide +kernel
theorem dX12_behindOne_76 : decode cX12_behindOne 76 = .ok (.ireturn, 1) := by decide +kernel
theorem dX12_behindOne_9 : decode cX12_behindOne 9 = .ok (.aload_n 0, 1) := by decide +kernel
theorem dX12_behindOne_10 : decode cX12_behindOne 10 = .ok (.iload_n 1, 1) := by decide +kernel
theorem dX12_behindOne_11 : decode cX12_behindOne 11 = .ok (.invokestatic 145, 3) := by decide +kernel
theorem dX12_behindOne_14 : decode cX12_behindOne 14 = .ok (.iconst 4, 1) := by decide +kernel
theorem dX12_behindOne_15 : decode cX12_behindOne 15 = .ok (.if_icmp .ne 7, 3) := by decide +kernel
theorem dX12_behindOne_22 : decode cX12_behindOne 22 = .ok (.iload_n 1, 1) := by decide +kernel
theorem dX12_behindOne_23 : decode cX12_behindOne 23 = .ok (.invokestatic 145, 3) := by decide +kernel
theorem dX12_behindOne_26 : decode cX12_behindOne 26 = .ok (.invokevirtual 181, 3) := by decide +kernel
theorem dX12_behindOne_29 : decode cX12_behindOne 29 = .ok (.aload_n 0, 1) := by decide +kernel
theorem dX12_behindOne_30 : decode cX12_behindOne 30 = .ok (.getfield 29, 3) := by decide +kernel
theorem dX12_behindOne_33 : decode cX12_behindOne 33 = .ok (.aload_n 0, 1) := by decide +kernel
theorem dX12_behindOne_34 : decode cX12_behindOne 34 = .ok (.getfield 142, 3) := by decide +kernel
theorem dX12_behindOne_37 : decode cX12_behindOne 37 = .ok (.iload_n 1, 1) := by decide +kernel
theorem dX12_behindOne_38 : decode cX12_behindOne 38 = .ok (.iastore, 1) := by decide +kernel
theorem dX12_behindOne_39 : decode cX12_behindOne 39 = .ok (.aload_n 0, 1) := by decide +kernel
theorem dX12_behindOne_40 : decode cX12_behindOne 40 = .ok (.dup, 1) := by decide +kernel
theorem dX12_behindOne_41 : decode cX12_behindOne 41 = .ok (.getfield 142, 3) := by decide +kernel
theorem dX12_behindOne_44 : decode cX12_behindOne 44 = .ok (.iconst 1, 1) := by decide +kernel
theorem dX12_behindOne_45 : decode cX12_behindOne 45 = .ok (.iadd, 1) := by decide +kernel
theorem dX12_behindOne_46 : decode cX12_behindOne 46 = .ok (.putfield 142, 3) := by decide +kernel
theorem dX12_behindOne_49 : decode cX12_behindOne 49 = .ok (.aload_n 0, 1) := by decide +kernel
theorem dX12_behindOne_50 : decode cX12_behindOne 50 = .ok (.iconst 0, 1) := by decide +kernel
theorem dX12_behindOne_51 : decode cX12_behindOne 51 = .ok (.putfield 178, 3) := by decide +kernel
theorem dX12_behindOne_54 : decode cX12_behindOne 54 = .ok (.aload_n 0, 1) := by decide +kernel
theorem dX12_behindOne_55 : decode cX12_behindOne 55 = .ok (.invokevirtual 166, 3) := by decide +kernel
theorem dX12_behindOne_58 : decode cX12_behindOne 58 = .ok (.iconst 0, 1) := by decide +kernel
theorem dX12_behindOne_59 : decode cX12_behindOne 59 = .ok (.ireturn, 1) := by decide +kernel
theorem dX12_behindOne_18 : decode cX12_behindOne 18 = .ok (.iconst 5, 1) := by decide +kernel
theorem dX12_behindOne_19 : decode cX12_behindOne 19 = .ok (.goto 7, 3) := by decide +kernel
set_option maxHeartbeats 4000000 in
set_option maxRecDepth 100000 in
theorem x_X12_beginOne {l : Launch} {G : GG}  {L : List Nat} {f : HF} {ad : Nat → Nat → Nat} {pa : (Nat → Int32) → Prop} {PA : (Nat → Int32) → Prop} {PI : (Nat → Int32) → Prop} {td fa fp at9 ps9 tk nu t0 wr so pd op9 cg iw on9 is9 se : Int32} {wd : Int64} {gp gc : Nat → Int32} {gB : Nat → Int32} {fr : Nat} (I : SH (spM PA PI (XW gB fr gp gc t0 wr pd op9 cg false) pa) nnM G ad L f) (p_ad_0_0 : pt L f (ad 0 0) (.inr (12, [.ref (ad 1 0), .ref (ad 2 0), .ref (ad 3 0), .ref (ad 4 0), .int td, .int fa, .int fp, .int at9, .int ps9, .int tk, .int nu, .long wd, .int t0, .int wr, .int so, .ref (ad 5 0), .ref (ad 6 0), .int pd, .int op9, .int cg, .int iw, .int on9, .ref (ad 7 0), .ref (ad 8 0), .ref (ad 9 0), .int is9, .ref (ad 10 0), .ref (ad 11 0), .ref (ad 12 0), .ref (ad 13 0), .int se, .ref (ad 14 0)]))) (p_ad_5_0 : pt L f (ad 5 0) (.inl (G.2 0, 160, .inl gp))) (p_ad_6_0 : pt L f (ad 6 0) (.inl (G.2 0, 9, .inl gc))) (hiw : iw = 0) (hroom : wr.toInt + pd.toInt ≤ ps9.toInt) (hT : TK at9 ps9 tk) : PMi l yX12_beginOne cX12_beginOne 2 .int 5 0 0 G [.ref (ad 0 0)] L f (fun r L1 f1 => ∃ at92 : Int32, ∃ ps92 : Int32, ∃ tk2 : Int32, ∃ nu2 : Int32, ∃ wd2 : Int64, ∃ wr2 : Int32, ∃ pd2 : Int32, ∃ op92 : Int32, ∃ cg2 : Int32, ∃ iw2 : Int32, ∃ gp2 : Nat → Int32, ∃ gc2 : Nat → Int32, bn 0 5 r ∧ SH (spM PA PI (XR r gB fr gp2 gc2 t0 wr2 pd2 op92 cg2 iw2) pa) nnM G ad L1 f1 ∧ pt L1 f1 (ad 0 0) (.inr (12, [.ref (ad 1 0), .ref (ad 2 0), .ref (ad 3 0), .ref (ad 4 0), .int td, .int fa, .int fp, .int at92, .int ps92, .int tk2, .int nu2, .long wd2, .int t0, .int wr2, .int so, .ref (ad 5 0), .ref (ad 6 0), .int pd2, .int op92, .int cg2, .int iw2, .int on9, .ref (ad 7 0), .ref (ad 8 0), .ref (ad 9 0), .int is9, .ref (ad 10 0), .ref (ad 11 0), .ref (ad 12 0), .ref (ad 13 0), .int se, .ref (ad 14 0)])) ∧ pt L1 f1 (ad 5 0) (.inl (G.2 0, 160, .inl gp2)) ∧ pt L1 f1 (ad 6 0) (.inl (G.2 0, 9, .inl gc2)) ∧ TK at92 ps92 tk2 ∧ (r.toInt = 0 → ps9.toInt + 1 ≤ ps92.toInt) ∧ (r.toInt ≤ 0 → wr2.toInt + pd2.toInt ≤ ps92.toInt) ∧ (r.toInt < 0 → iw2 = 1) ∧ (r.toInt ≤ 0 → ps9.toInt ≤ ps92.toInt)) := by
  refine PMi.of (post := fun r L1 f1 => ∃ at92 : Int32, ∃ ps92 : Int32, ∃ tk2 : Int32, ∃ nu2 : Int32, ∃ wd2 : Int64, ∃ wr2 : Int32, ∃ pd2 : Int32, ∃ op92 : Int32, ∃ cg2 : Int32, ∃ iw2 : Int32, ∃ gp2 : Nat → Int32, ∃ gc2 : Nat → Int32, bn 0 5 r ∧ SH (spM PA PI (XR r gB fr gp2 gc2 t0 wr2 pd2 op92 cg2 iw2) pa) nnM G ad L1 f1 ∧ pt L1 f1 (ad 0 0) (.inr (12, [.ref (ad 1 0), .ref (ad 2 0), .ref (ad 3 0), .ref (ad 4 0), .int td, .int fa, .int fp, .int at92, .int ps92, .int tk2, .int nu2, .long wd2, .int t0, .int wr2, .int so, .ref (ad 5 0), .ref (ad 6 0), .int pd2, .int op92, .int cg2, .int iw2, .int on9, .ref (ad 7 0), .ref (ad 8 0), .ref (ad 9 0), .int is9, .ref (ad 10 0), .ref (ad 11 0), .ref (ad 12 0), .ref (ad 13 0), .int se, .ref (ad 14 0)])) ∧ pt L1 f1 (ad 5 0) (.inl (G.2 0, 160, .inl gp2)) ∧ pt L1 f1 (ad 6 0) (.inl (G.2 0, 9, .inl gc2)) ∧ TK at92 ps92 tk2 ∧ (r.toInt = 0 → ps9.toInt + 1 ≤ ps92.toInt) ∧ (r.toInt ≤ 0 → wr2.toInt + pd2.toInt ≤ ps92.toInt) ∧ (r.toInt < 0 → iw2 = 1) ∧ (r.toInt ≤ 0 → ps9.toInt ≤ ps92.toInt)) (own := RX12) (by decide) rfl (Nat.le_of_ble_eq_true rfl) (fun sz p e s m args below meth c A ls hA1 hname S Y hl => ?_)
  have hx := S.hx
  have hb := S.hb
  have hl : lv_has ls 2 [(0, .ref (ad 0 0))] := hl
  obtain ⟨bfe_4, bfe_7, bfe_8, bfe_12, bfe_13, bfe_17, bfe_18, bfe_19, bfe_20, bfe_25⟩ := obM I p_ad_0_0
  obtain ⟨g_86983, p_ad_3_0, o_86984⟩ := I.opi (k := 3) (j := 0) (by decide) rfl
  have p_ad_3_0 : pt L f (ad 3 0) (.inl (G.2 0, 2916, .inl g_86983)) := p_ad_3_0
  obtain ⟨opn, cmp, hv⟩ := o_86984
  have hI := XV_info hv bfe_18 bfe_19 bfe_17
  have B_86985 : bn 0 53 pd := ⟨bfe_17.1, by have z9 := hI.2.2.1; have z8 := bfe_18.2; omega⟩
  have o_86986 : (XV gB fr gp gc opn cmp t0 wr pd op9 cg false) g_86983 := hv
  have I := I.castS (sp' := spM PA PI (XV gB fr gp gc opn cmp t0 wr pd op9 cg false) pa) (k := 3) (j := 0) (by decide) p_ad_3_0 (okE_a (g := g_86983) o_86986) pXC
  refine lv_aload_n hx hb dX12_beginOne_0 rfl (lv_at hl 0 rfl) ?_
  refine pg_get S Y ok_X12 9 (by decide) kf12_98 (v := .int tk) p_ad_0_0 rfl dX12_beginOne_1 ?_
  refine lv_iconst (v := 1) hx hb dX12_beginOne_4 (by decide) ?_
  refine lv_icmp_ne (tgt := 20) hx hb dX12_beginOne_5 (by decide) (fun c_86987 => ?_) (fun c_86987 => ?_)
  · refine lv_aload_n hx hb dX12_beginOne_20 rfl (lv_at hl 0 rfl) ?_
    refine cVp (As := []) (rest := []) S Y (x_X12_nameOf (l := l) I p_ad_0_0) cw_X12_nameOf km12_172 p_ad_0_0 ok_X12.1 rfl rfl ⟨Nat.le_of_ble_eq_true rfl, Nat.le_of_ble_eq_true rfl⟩ hl.1 rfl (Nat.le_of_ble_eq_true rfl) ⟨Nat.le_of_ble_eq_true rfl, Nat.le_of_ble_eq_true rfl⟩ dX12_beginOne_21 (fun r_86989 H locs er_86989 Y => ?_)
    refine lv_istore_n (lv' := [(1, .int r_86989), (0, .ref (ad 0 0))]) hx hb dX12_beginOne_24 rfl hl (by decide) rfl (fun ls hl => ?_)
    refine lv_iload_n hx hb dX12_beginOne_25 rfl (lv_at hl 0 rfl) ?_
    refine lv_iconst (v := 4) hx hb dX12_beginOne_26 (by decide) ?_
    refine lv_icmp_le (tgt := 40) hx hb dX12_beginOne_27 (by decide) (fun c_86990 => ?_) (fun c_86990 => ?_)
    · have B_86991 : bn (-1) 4 r_86989 := bn_w (bn_lel c_86990 er_86989.1 (show bn 4 4 (4 : Int32) from bn_k (by decide))) (by decide)
      refine lv_aload_n hx hb dX12_beginOne_40 rfl (lv_at hl 1 rfl) ?_
      refine pg_get S Y ok_X12 9 (by decide) kf12_98 (v := .int tk) p_ad_0_0 rfl dX12_beginOne_41 ?_
      refine lv_iconst (v := 1) hx hb dX12_beginOne_44 (by decide) ?_
      refine lv_icmp_eq (tgt := 52) hx hb dX12_beginOne_45 (by decide) (fun h => absurd h c_86987) (fun _ => ?_)
      refine lv_iload_n hx hb dX12_beginOne_48 rfl (lv_at hl 0 rfl) ?_
      refine lv_if_lt (tgt := 102) hx hb dX12_beginOne_49 (by decide) (fun c_86993 => ?_) (fun c_86993 => ?_)
      · have B_86994 : bn (-1) (-1) r_86989 := bn_w (bn_ltl c_86993 B_86991 (show bn 0 0 (0 : Int32) from bn_k (by decide))) (by decide)
        refine lv_aload_n hx hb dX12_beginOne_102 rfl (lv_at hl 1 rfl) ?_
        refine pg_get S Y ok_X12 9 (by decide) kf12_98 (v := .int tk) p_ad_0_0 rfl dX12_beginOne_103 ?_
        refine lv_bipush (v := 40) hx hb dX12_beginOne_106 (by decide) ?_
        refine lv_icmp_ne (tgt := 118) hx hb dX12_beginOne_108 (by decide) (fun c_86996 => ?_) (fun c_86996 => ?_)
        · refine lv_aload_n hx hb dX12_beginOne_118 rfl (lv_at hl 1 rfl) ?_
          refine pg_get S Y ok_X12 9 (by decide) kf12_98 (v := .int tk) p_ad_0_0 rfl dX12_beginOne_119 ?_
          refine lv_bipush (v := 45) hx hb dX12_beginOne_122 (by decide) ?_
          refine lv_icmp_ne (tgt := 133) hx hb dX12_beginOne_124 (by decide) (fun c_86998 => ?_) (fun c_86998 => ?_)
          · refine lv_aload_n hx hb dX12_beginOne_133 rfl (lv_at hl 1 rfl) ?_
            refine lv_bipush (v := 109) hx hb dX12_beginOne_134 (by decide) ?_
            refine lv_bipush (v := 97) hx hb dX12_beginOne_136 (by decide) ?_
            refine lv_bipush (v := 114) hx hb dX12_beginOne_138 (by decide) ?_
            refine lv_bipush (v := 107) hx hb dX12_beginOne_140 (by decide) ?_
            refine lv_bipush (v := 115) hx hb dX12_beginOne_142 (by decide) ?_
            refine cSlp (As := [.int 109, .int 97, .int 114, .int 107, .int 115]) (rest := [.ref (ad 0 0)]) S Y (x_X12_w5 (l := l) ) cw_X12_w5 km12_132 rfl ⟨Nat.le_of_ble_eq_true rfl, Nat.le_of_ble_eq_true rfl⟩ hl.1 rfl (Nat.le_of_ble_eq_true rfl) ⟨Nat.le_of_ble_eq_true rfl, Nat.le_of_ble_eq_true rfl⟩ dX12_beginOne_144 (fun r_87000 H locs er_87000 Y => ?_)
            refine cVp (As := [.long r_87000]) (rest := []) S Y (x_X12_isWord (l := l) I p_ad_0_0) cw_X12_isWord km12_187 p_ad_0_0 ok_X12.1 rfl rfl ⟨Nat.le_of_ble_eq_true rfl, Nat.le_of_ble_eq_true rfl⟩ hl.1 rfl (Nat.le_of_ble_eq_true rfl) ⟨Nat.le_of_ble_eq_true rfl, Nat.le_of_ble_eq_true rfl⟩ dX12_beginOne_147 (fun r_87001 H locs er_87001 Y => ?_)
            refine lv_if_eq (tgt := 159) hx hb dX12_beginOne_150 (by decide) (fun c_87002 => ?_) (fun c_87002 => ?_)
            · have B_87003 : bn 0 0 r_87001 := bn_w (bn_eq c_87002 (show bn 0 0 (0 : Int32) from bn_k (by decide))) (by decide)
              refine lv_aload_n hx hb dX12_beginOne_159 rfl (lv_at hl 1 rfl) ?_
              refine lv_bipush (v := 105) hx hb dX12_beginOne_160 (by decide) ?_
              refine lv_bipush (v := 102) hx hb dX12_beginOne_162 (by decide) ?_
              refine cSlp (As := [.int 105, .int 102]) (rest := [.ref (ad 0 0)]) S Y (x_X12_w2 (l := l) ) cw_X12_w2 km12_120 rfl ⟨Nat.le_of_ble_eq_true rfl, Nat.le_of_ble_eq_true rfl⟩ hl.1 rfl (Nat.le_of_ble_eq_true rfl) ⟨Nat.le_of_ble_eq_true rfl, Nat.le_of_ble_eq_true rfl⟩ dX12_beginOne_164 (fun r_87005 H locs er_87005 Y => ?_)
              refine cVp (As := [.long r_87005]) (rest := []) S Y (x_X12_isWord (l := l) I p_ad_0_0) cw_X12_isWord km12_187 p_ad_0_0 ok_X12.1 rfl rfl ⟨Nat.le_of_ble_eq_true rfl, Nat.le_of_ble_eq_true rfl⟩ hl.1 rfl (Nat.le_of_ble_eq_true rfl) ⟨Nat.le_of_ble_eq_true rfl, Nat.le_of_ble_eq_true rfl⟩ dX12_beginOne_167 (fun r_87006 H locs er_87006 Y => ?_)
              refine lv_if_eq (tgt := 180) hx hb dX12_beginOne_170 (by decide) (fun c_87007 => ?_) (fun c_87007 => ?_)
              · have B_87008 : bn 0 0 r_87006 := bn_w (bn_eq c_87007 (show bn 0 0 (0 : Int32) from bn_k (by decide))) (by decide)
                refine lv_aload_n hx hb dX12_beginOne_180 rfl (lv_at hl 1 rfl) ?_
                refine cVp (As := []) (rest := []) S Y (x_X12_isAskAhead (l := l) I p_ad_0_0 p_ad_5_0) cw_X12_isAskAhead km12_191 p_ad_0_0 ok_X12.1 rfl rfl ⟨Nat.le_of_ble_eq_true rfl, Nat.le_of_ble_eq_true rfl⟩ hl.1 rfl (Nat.le_of_ble_eq_true rfl) ⟨Nat.le_of_ble_eq_true rfl, Nat.le_of_ble_eq_true rfl⟩ dX12_beginOne_181 (fun r_87010 H locs er_87010 Y => ?_)
                refine lv_if_ne (tgt := 189) hx hb dX12_beginOne_184 (by decide) (fun c_87011 => ?_) (fun c_87011 => ?_)
                · have B_87012 : bn 1 1 r_87010 := bn_w (bn_nel c_87011 er_87010.1 (show bn 0 0 (0 : Int32) from bn_k (by decide))) (by decide)
                  refine lv_aload_n hx hb dX12_beginOne_189 rfl (lv_at hl 1 rfl) ?_
                  refine lv_bipush (v := 110) hx hb dX12_beginOne_190 (by decide) ?_
                  refine lv_bipush (v := 111) hx hb dX12_beginOne_192 (by decide) ?_
                  refine lv_bipush (v := 116) hx hb dX12_beginOne_194 (by decide) ?_
                  refine cSlp (As := [.int 110, .int 111, .int 116]) (rest := [.ref (ad 0 0)]) S Y (x_X12_w3 (l := l) ) cw_X12_w3 km12_124 rfl ⟨Nat.le_of_ble_eq_true rfl, Nat.le_of_ble_eq_true rfl⟩ hl.1 rfl (Nat.le_of_ble_eq_true rfl) ⟨Nat.le_of_ble_eq_true rfl, Nat.le_of_ble_eq_true rfl⟩ dX12_beginOne_196 (fun r_87014 H locs er_87014 Y => ?_)
                  refine cVp (As := [.long r_87014]) (rest := []) S Y (x_X12_isWord (l := l) I p_ad_0_0) cw_X12_isWord km12_187 p_ad_0_0 ok_X12.1 rfl rfl ⟨Nat.le_of_ble_eq_true rfl, Nat.le_of_ble_eq_true rfl⟩ hl.1 rfl (Nat.le_of_ble_eq_true rfl) ⟨Nat.le_of_ble_eq_true rfl, Nat.le_of_ble_eq_true rfl⟩ dX12_beginOne_199 (fun r_87015 H locs er_87015 Y => ?_)
                  refine lv_if_eq (tgt := 214) hx hb dX12_beginOne_202 (by decide) (fun c_87016 => ?_) (fun c_87016 => ?_)
                  · have B_87017 : bn 0 0 r_87015 := bn_w (bn_eq c_87016 (show bn 0 0 (0 : Int32) from bn_k (by decide))) (by decide)
                    refine lv_aload_n hx hb dX12_beginOne_214 rfl (lv_at hl 1 rfl) ?_
                    refine lv_bipush (v := 106) hx hb dX12_beginOne_215 (by decide) ?_
                    refine lv_bipush (v := 117) hx hb dX12_beginOne_217 (by decide) ?_
                    refine lv_bipush (v := 115) hx hb dX12_beginOne_219 (by decide) ?_
                    refine lv_bipush (v := 116) hx hb dX12_beginOne_221 (by decide) ?_
                    refine cSlp (As := [.int 106, .int 117, .int 115, .int 116]) (rest := [.ref (ad 0 0)]) S Y (x_X12_w4 (l := l) ) cw_X12_w4 km12_128 rfl ⟨Nat.le_of_ble_eq_true rfl, Nat.le_of_ble_eq_true rfl⟩ hl.1 rfl (Nat.le_of_ble_eq_true rfl) ⟨Nat.le_of_ble_eq_true rfl, Nat.le_of_ble_eq_true rfl⟩ dX12_beginOne_223 (fun r_87019 H locs er_87019 Y => ?_)
                    refine cVp (As := [.long r_87019]) (rest := []) S Y (x_X12_isWord (l := l) I p_ad_0_0) cw_X12_isWord km12_187 p_ad_0_0 ok_X12.1 rfl rfl ⟨Nat.le_of_ble_eq_true rfl, Nat.le_of_ble_eq_true rfl⟩ hl.1 rfl (Nat.le_of_ble_eq_true rfl) ⟨Nat.le_of_ble_eq_true rfl, Nat.le_of_ble_eq_true rfl⟩ dX12_beginOne_226 (fun r_87020 H locs er_87020 Y => ?_)
                    refine lv_if_eq (tgt := 241) hx hb dX12_beginOne_229 (by decide) (fun c_87021 => ?_) (fun c_87021 => ?_)
                    · have B_87022 : bn 0 0 r_87020 := bn_w (bn_eq c_87021 (show bn 0 0 (0 : Int32) from bn_k (by decide))) (by decide)
                      have o_87024 : (XR 1 gB fr gp gc t0 wr pd op9 cg iw) g_86983 := (XR_no o_86986.1 (by decide))
                      have I := I.castS (sp' := spM PA PI (XR 1 gB fr gp gc t0 wr pd op9 cg iw) pa) (k := 3) (j := 0) (by decide) p_ad_3_0 (okE_a (g := g_86983) o_87024) pXC
                      refine lv_iconst (v := 1) hx hb dX12_beginOne_241 (by decide) ?_
                      exact prI (post := fun r L1 f1 => ∃ at92 : Int32, ∃ ps92 : Int32, ∃ tk2 : Int32, ∃ nu2 : Int32, ∃ wd2 : Int64, ∃ wr2 : Int32, ∃ pd2 : Int32, ∃ op92 : Int32, ∃ cg2 : Int32, ∃ iw2 : Int32, ∃ gp2 : Nat → Int32, ∃ gc2 : Nat → Int32, bn 0 5 r ∧ SH (spM PA PI (XR r gB fr gp2 gc2 t0 wr2 pd2 op92 cg2 iw2) pa) nnM G ad L1 f1 ∧ pt L1 f1 (ad 0 0) (.inr (12, [.ref (ad 1 0), .ref (ad 2 0), .ref (ad 3 0), .ref (ad 4 0), .int td, .int fa, .int fp, .int at92, .int ps92, .int tk2, .int nu2, .long wd2, .int t0, .int wr2, .int so, .ref (ad 5 0), .ref (ad 6 0), .int pd2, .int op92, .int cg2, .int iw2, .int on9, .ref (ad 7 0), .ref (ad 8 0), .ref (ad 9 0), .int is9, .ref (ad 10 0), .ref (ad 11 0), .ref (ad 12 0), .ref (ad 13 0), .int se, .ref (ad 14 0)])) ∧ pt L1 f1 (ad 5 0) (.inl (G.2 0, 160, .inl gp2)) ∧ pt L1 f1 (ad 6 0) (.inl (G.2 0, 9, .inl gc2)) ∧ TK at92 ps92 tk2 ∧ (r.toInt = 0 → ps9.toInt + 1 ≤ ps92.toInt) ∧ (r.toInt ≤ 0 → wr2.toInt + pd2.toInt ≤ ps92.toInt) ∧ (r.toInt < 0 → iw2 = 1) ∧ (r.toInt ≤ 0 → ps9.toInt ≤ ps92.toInt)) S Y rfl (by decide) (by decide) hA1 ⟨at9, ps9, tk, nu, wd, wr, pd, op9, cg, iw, gp, gc, bn_w (show bn 1 1 (1 : Int32) from bn_k (by decide)) (by decide), I, p_ad_0_0, p_ad_5_0, p_ad_6_0, hT, (fun h => absurd h (by decide)), (fun h => absurd h (by decide)), (fun h => absurd h (by decide)), (fun h => absurd h (by decide))⟩ dX12_beginOne_242
                    · have B_87023 : bn 1 1 r_87020 := bn_w (bn_nel c_87021 er_87020.1 (show bn 0 0 (0 : Int32) from bn_k (by decide))) (by decide)
                      refine lv_aload_n hx hb dX12_beginOne_232 rfl (lv_at hl 1 rfl) ?_
                      refine lv_bipush (v := 44) hx hb dX12_beginOne_233 (by decide) ?_
                      refine cVi (As := [.int 44]) (rest := []) S Y (x_X12_opened (l := l) I p_ad_0_0 p_ad_5_0 p_ad_6_0 (show OPH 44 opn gp pd from Or.inr ⟨by decide, by have z9 := (er_87010.2 c_87011).1; rw [show opv (fun j => (gp j).toInt) pd.toInt.toNat = opn from hI.1] at z9; exact z9, (er_87010.2 c_87011).2.1.1, (er_87010.2 c_87011).2.2⟩) hiw hroom hT (show ¬ tk = 0 from by rw [er_87020.2 c_87021]; decide)) cw_X12_opened km12_184 p_ad_0_0 ok_X12.1 rfl rfl ⟨Nat.le_of_ble_eq_true rfl, Nat.le_of_ble_eq_true rfl⟩ hl.1 rfl (Nat.le_of_ble_eq_true rfl) ⟨Nat.le_of_ble_eq_true rfl, Nat.le_of_ble_eq_true rfl⟩ dX12_beginOne_235 (fun r_87027 L_87025 f_87026 H locs hr_87027 Y => ?_)
                      obtain ⟨v_87028, v_87029, v_87030, v_87031, v_87032, v_87033, v_87034, v_87035, g_87036, g_87037, er_87027, I, p_ad_0_0, p_ad_5_0, p_ad_6_0, eT_87038, eR_87039, eW_87040⟩ := hr_87027
                      obtain ⟨bfc87040_4, bfc87040_7, bfc87040_8, bfc87040_12, bfc87040_13, bfc87040_17, bfc87040_18, bfc87040_19, bfc87040_20, bfc87040_25⟩ := obM I p_ad_0_0
                      refine lv_goto (tgt := 242) hx hb dX12_beginOne_238 (by decide) ?_
                      exact prI (post := fun r L1 f1 => ∃ at92 : Int32, ∃ ps92 : Int32, ∃ tk2 : Int32, ∃ nu2 : Int32, ∃ wd2 : Int64, ∃ wr2 : Int32, ∃ pd2 : Int32, ∃ op92 : Int32, ∃ cg2 : Int32, ∃ iw2 : Int32, ∃ gp2 : Nat → Int32, ∃ gc2 : Nat → Int32, bn 0 5 r ∧ SH (spM PA PI (XR r gB fr gp2 gc2 t0 wr2 pd2 op92 cg2 iw2) pa) nnM G ad L1 f1 ∧ pt L1 f1 (ad 0 0) (.inr (12, [.ref (ad 1 0), .ref (ad 2 0), .ref (ad 3 0), .ref (ad 4 0), .int td, .int fa, .int fp, .int at92, .int ps92, .int tk2, .int nu2, .long wd2, .int t0, .int wr2, .int so, .ref (ad 5 0), .ref (ad 6 0), .int pd2, .int op92, .int cg2, .int iw2, .int on9, .ref (ad 7 0), .ref (ad 8 0), .ref (ad 9 0), .int is9, .ref (ad 10 0), .ref (ad 11 0), .ref (ad 12 0), .ref (ad 13 0), .int se, .ref (ad 14 0)])) ∧ pt L1 f1 (ad 5 0) (.inl (G.2 0, 160, .inl gp2)) ∧ pt L1 f1 (ad 6 0) (.inl (G.2 0, 9, .inl gc2)) ∧ TK at92 ps92 tk2 ∧ (r.toInt = 0 → ps9.toInt + 1 ≤ ps92.toInt) ∧ (r.toInt ≤ 0 → wr2.toInt + pd2.toInt ≤ ps92.toInt) ∧ (r.toInt < 0 → iw2 = 1) ∧ (r.toInt ≤ 0 → ps9.toInt ≤ ps92.toInt)) S Y rfl (by decide) (by decide) hA1 ⟨v_87028, v_87029, v_87030, v_87031, v_87032, wr, v_87033, v_87034, v_87035, iw, g_87036, g_87037, bn_w er_87027 (by decide), I, p_ad_0_0, p_ad_5_0, p_ad_6_0, eT_87038, eR_87039, eW_87040, (fun h => absurd h (by have z9 := (er_87027).1; omega)), (fun h => by have z9 := eR_87039 (by have z8 := (er_87027).1; omega); omega)⟩ dX12_beginOne_242
                  · have B_87018 : bn 1 1 r_87015 := bn_w (bn_nel c_87016 er_87015.1 (show bn 0 0 (0 : Int32) from bn_k (by decide))) (by decide)
                    refine lv_aload_n hx hb dX12_beginOne_205 rfl (lv_at hl 1 rfl) ?_
                    refine lv_bipush (v := 20) hx hb dX12_beginOne_206 (by decide) ?_
                    refine cVi (As := [.int 20]) (rest := []) S Y (x_X12_opened (l := l) I p_ad_0_0 p_ad_5_0 p_ad_6_0 (show OPH 20 opn gp pd from Or.inr ⟨by decide, by have z9 := (er_87010.2 c_87011).1; rw [show opv (fun j => (gp j).toInt) pd.toInt.toNat = opn from hI.1] at z9; exact z9, (er_87010.2 c_87011).2.1.1, (er_87010.2 c_87011).2.2⟩) hiw hroom hT (show ¬ tk = 0 from by rw [er_87015.2 c_87016]; decide)) cw_X12_opened km12_184 p_ad_0_0 ok_X12.1 rfl rfl ⟨Nat.le_of_ble_eq_true rfl, Nat.le_of_ble_eq_true rfl⟩ hl.1 rfl (Nat.le_of_ble_eq_true rfl) ⟨Nat.le_of_ble_eq_true rfl, Nat.le_of_ble_eq_true rfl⟩ dX12_beginOne_208 (fun r_87044 L_87042 f_87043 H locs hr_87044 Y => ?_)
                    obtain ⟨v_87045, v_87046, v_87047, v_87048, v_87049, v_87050, v_87051, v_87052, g_87053, g_87054, er_87044, I, p_ad_0_0, p_ad_5_0, p_ad_6_0, eT_87055, eR_87056, eW_87057⟩ := hr_87044
                    obtain ⟨bfc87057_4, bfc87057_7, bfc87057_8, bfc87057_12, bfc87057_13, bfc87057_17, bfc87057_18, bfc87057_19, bfc87057_20, bfc87057_25⟩ := obM I p_ad_0_0
                    refine lv_goto (tgt := 242) hx hb dX12_beginOne_211 (by decide) ?_
                    exact prI (post := fun r L1 f1 => ∃ at92 : Int32, ∃ ps92 : Int32, ∃ tk2 : Int32, ∃ nu2 : Int32, ∃ wd2 : Int64, ∃ wr2 : Int32, ∃ pd2 : Int32, ∃ op92 : Int32, ∃ cg2 : Int32, ∃ iw2 : Int32, ∃ gp2 : Nat → Int32, ∃ gc2 : Nat → Int32, bn 0 5 r ∧ SH (spM PA PI (XR r gB fr gp2 gc2 t0 wr2 pd2 op92 cg2 iw2) pa) nnM G ad L1 f1 ∧ pt L1 f1 (ad 0 0) (.inr (12, [.ref (ad 1 0), .ref (ad 2 0), .ref (ad 3 0), .ref (ad 4 0), .int td, .int fa, .int fp, .int at92, .int ps92, .int tk2, .int nu2, .long wd2, .int t0, .int wr2, .int so, .ref (ad 5 0), .ref (ad 6 0), .int pd2, .int op92, .int cg2, .int iw2, .int on9, .ref (ad 7 0), .ref (ad 8 0), .ref (ad 9 0), .int is9, .ref (ad 10 0), .ref (ad 11 0), .ref (ad 12 0), .ref (ad 13 0), .int se, .ref (ad 14 0)])) ∧ pt L1 f1 (ad 5 0) (.inl (G.2 0, 160, .inl gp2)) ∧ pt L1 f1 (ad 6 0) (.inl (G.2 0, 9, .inl gc2)) ∧ TK at92 ps92 tk2 ∧ (r.toInt = 0 → ps9.toInt + 1 ≤ ps92.toInt) ∧ (r.toInt ≤ 0 → wr2.toInt + pd2.toInt ≤ ps92.toInt) ∧ (r.toInt < 0 → iw2 = 1) ∧ (r.toInt ≤ 0 → ps9.toInt ≤ ps92.toInt)) S Y rfl (by decide) (by decide) hA1 ⟨v_87045, v_87046, v_87047, v_87048, v_87049, wr, v_87050, v_87051, v_87052, iw, g_87053, g_87054, bn_w er_87044 (by decide), I, p_ad_0_0, p_ad_5_0, p_ad_6_0, eT_87055, eR_87056, eW_87057, (fun h => absurd h (by have z9 := (er_87044).1; omega)), (fun h => by have z9 := eR_87056 (by have z8 := (er_87044).1; omega); omega)⟩ dX12_beginOne_242
                · have B_87013 : bn 0 0 r_87010 := bn_w (bn_eq c_87011 (show bn 0 0 (0 : Int32) from bn_k (by decide))) (by decide)
                  have o_87059 : (XR 1 gB fr gp gc t0 wr pd op9 cg iw) g_86983 := (XR_no o_86986.1 (by decide))
                  have I := I.castS (sp' := spM PA PI (XR 1 gB fr gp gc t0 wr pd op9 cg iw) pa) (k := 3) (j := 0) (by decide) p_ad_3_0 (okE_a (g := g_86983) o_87059) pXC
                  refine lv_iconst (v := 1) hx hb dX12_beginOne_187 (by decide) ?_
                  exact prI (post := fun r L1 f1 => ∃ at92 : Int32, ∃ ps92 : Int32, ∃ tk2 : Int32, ∃ nu2 : Int32, ∃ wd2 : Int64, ∃ wr2 : Int32, ∃ pd2 : Int32, ∃ op92 : Int32, ∃ cg2 : Int32, ∃ iw2 : Int32, ∃ gp2 : Nat → Int32, ∃ gc2 : Nat → Int32, bn 0 5 r ∧ SH (spM PA PI (XR r gB fr gp2 gc2 t0 wr2 pd2 op92 cg2 iw2) pa) nnM G ad L1 f1 ∧ pt L1 f1 (ad 0 0) (.inr (12, [.ref (ad 1 0), .ref (ad 2 0), .ref (ad 3 0), .ref (ad 4 0), .int td, .int fa, .int fp, .int at92, .int ps92, .int tk2, .int nu2, .long wd2, .int t0, .int wr2, .int so, .ref (ad 5 0), .ref (ad 6 0), .int pd2, .int op92, .int cg2, .int iw2, .int on9, .ref (ad 7 0), .ref (ad 8 0), .ref (ad 9 0), .int is9, .ref (ad 10 0), .ref (ad 11 0), .ref (ad 12 0), .ref (ad 13 0), .int se, .ref (ad 14 0)])) ∧ pt L1 f1 (ad 5 0) (.inl (G.2 0, 160, .inl gp2)) ∧ pt L1 f1 (ad 6 0) (.inl (G.2 0, 9, .inl gc2)) ∧ TK at92 ps92 tk2 ∧ (r.toInt = 0 → ps9.toInt + 1 ≤ ps92.toInt) ∧ (r.toInt ≤ 0 → wr2.toInt + pd2.toInt ≤ ps92.toInt) ∧ (r.toInt < 0 → iw2 = 1) ∧ (r.toInt ≤ 0 → ps9.toInt ≤ ps92.toInt)) S Y rfl (by decide) (by decide) hA1 ⟨at9, ps9, tk, nu, wd, wr, pd, op9, cg, iw, gp, gc, bn_w (show bn 1 1 (1 : Int32) from bn_k (by decide)) (by decide), I, p_ad_0_0, p_ad_5_0, p_ad_6_0, hT, (fun h => absurd h (by decide)), (fun h => absurd h (by decide)), (fun h => absurd h (by decide)), (fun h => absurd h (by decide))⟩ dX12_beginOne_188
              · have B_87009 : bn 1 1 r_87006 := bn_w (bn_nel c_87007 er_87006.1 (show bn 0 0 (0 : Int32) from bn_k (by decide))) (by decide)
                refine lv_aload_n hx hb dX12_beginOne_173 rfl (lv_at hl 1 rfl) ?_
                refine lv_bipush (v := 41) hx hb dX12_beginOne_174 (by decide) ?_
                refine cVi (As := [.int 41]) (rest := []) S Y (x_X12_opened (l := l) I p_ad_0_0 p_ad_5_0 p_ad_6_0 (show OPH 41 opn gp pd from Or.inl (by decide)) hiw hroom hT (show ¬ tk = 0 from by rw [er_87006.2 c_87007]; decide)) cw_X12_opened km12_184 p_ad_0_0 ok_X12.1 rfl rfl ⟨Nat.le_of_ble_eq_true rfl, Nat.le_of_ble_eq_true rfl⟩ hl.1 rfl (Nat.le_of_ble_eq_true rfl) ⟨Nat.le_of_ble_eq_true rfl, Nat.le_of_ble_eq_true rfl⟩ dX12_beginOne_176 (fun r_87062 L_87060 f_87061 H locs hr_87062 Y => ?_)
                obtain ⟨v_87063, v_87064, v_87065, v_87066, v_87067, v_87068, v_87069, v_87070, g_87071, g_87072, er_87062, I, p_ad_0_0, p_ad_5_0, p_ad_6_0, eT_87073, eR_87074, eW_87075⟩ := hr_87062
                obtain ⟨bfc87075_4, bfc87075_7, bfc87075_8, bfc87075_12, bfc87075_13, bfc87075_17, bfc87075_18, bfc87075_19, bfc87075_20, bfc87075_25⟩ := obM I p_ad_0_0
                exact prI (post := fun r L1 f1 => ∃ at92 : Int32, ∃ ps92 : Int32, ∃ tk2 : Int32, ∃ nu2 : Int32, ∃ wd2 : Int64, ∃ wr2 : Int32, ∃ pd2 : Int32, ∃ op92 : Int32, ∃ cg2 : Int32, ∃ iw2 : Int32, ∃ gp2 : Nat → Int32, ∃ gc2 : Nat → Int32, bn 0 5 r ∧ SH (spM PA PI (XR r gB fr gp2 gc2 t0 wr2 pd2 op92 cg2 iw2) pa) nnM G ad L1 f1 ∧ pt L1 f1 (ad 0 0) (.inr (12, [.ref (ad 1 0), .ref (ad 2 0), .ref (ad 3 0), .ref (ad 4 0), .int td, .int fa, .int fp, .int at92, .int ps92, .int tk2, .int nu2, .long wd2, .int t0, .int wr2, .int so, .ref (ad 5 0), .ref (ad 6 0), .int pd2, .int op92, .int cg2, .int iw2, .int on9, .ref (ad 7 0), .ref (ad 8 0), .ref (ad 9 0), .int is9, .ref (ad 10 0), .ref (ad 11 0), .ref (ad 12 0), .ref (ad 13 0), .int se, .ref (ad 14 0)])) ∧ pt L1 f1 (ad 5 0) (.inl (G.2 0, 160, .inl gp2)) ∧ pt L1 f1 (ad 6 0) (.inl (G.2 0, 9, .inl gc2)) ∧ TK at92 ps92 tk2 ∧ (r.toInt = 0 → ps9.toInt + 1 ≤ ps92.toInt) ∧ (r.toInt ≤ 0 → wr2.toInt + pd2.toInt ≤ ps92.toInt) ∧ (r.toInt < 0 → iw2 = 1) ∧ (r.toInt ≤ 0 → ps9.toInt ≤ ps92.toInt)) S Y rfl (by decide) (by decide) hA1 ⟨v_87063, v_87064, v_87065, v_87066, v_87067, wr, v_87068, v_87069, v_87070, iw, g_87071, g_87072, bn_w er_87062 (by decide), I, p_ad_0_0, p_ad_5_0, p_ad_6_0, eT_87073, eR_87074, eW_87075, (fun h => absurd h (by have z9 := (er_87062).1; omega)), (fun h => by have z9 := eR_87074 (by have z8 := (er_87062).1; omega); omega)⟩ dX12_beginOne_179
            · have B_87004 : bn 1 1 r_87001 := bn_w (bn_nel c_87002 er_87001.1 (show bn 0 0 (0 : Int32) from bn_k (by decide))) (by decide)
              refine lv_aload_n hx hb dX12_beginOne_153 rfl (lv_at hl 1 rfl) ?_
              refine lv_iconst (v := 2) hx hb dX12_beginOne_154 (by decide) ?_
              refine cVi (As := [.int 2]) (rest := []) S Y (x_X12_opened (l := l) I p_ad_0_0 p_ad_5_0 p_ad_6_0 (show OPH 2 opn gp pd from Or.inl (by decide)) hiw hroom hT (show ¬ tk = 0 from by rw [er_87001.2 c_87002]; decide)) cw_X12_opened km12_184 p_ad_0_0 ok_X12.1 rfl rfl ⟨Nat.le_of_ble_eq_true rfl, Nat.le_of_ble_eq_true rfl⟩ hl.1 rfl (Nat.le_of_ble_eq_true rfl) ⟨Nat.le_of_ble_eq_true rfl, Nat.le_of_ble_eq_true rfl⟩ dX12_beginOne_155 (fun r_87079 L_87077 f_87078 H locs hr_87079 Y => ?_)
              obtain ⟨v_87080, v_87081, v_87082, v_87083, v_87084, v_87085, v_87086, v_87087, g_87088, g_87089, er_87079, I, p_ad_0_0, p_ad_5_0, p_ad_6_0, eT_87090, eR_87091, eW_87092⟩ := hr_87079
              obtain ⟨bfc87092_4, bfc87092_7, bfc87092_8, bfc87092_12, bfc87092_13, bfc87092_17, bfc87092_18, bfc87092_19, bfc87092_20, bfc87092_25⟩ := obM I p_ad_0_0
              exact prI (post := fun r L1 f1 => ∃ at92 : Int32, ∃ ps92 : Int32, ∃ tk2 : Int32, ∃ nu2 : Int32, ∃ wd2 : Int64, ∃ wr2 : Int32, ∃ pd2 : Int32, ∃ op92 : Int32, ∃ cg2 : Int32, ∃ iw2 : Int32, ∃ gp2 : Nat → Int32, ∃ gc2 : Nat → Int32, bn 0 5 r ∧ SH (spM PA PI (XR r gB fr gp2 gc2 t0 wr2 pd2 op92 cg2 iw2) pa) nnM G ad L1 f1 ∧ pt L1 f1 (ad 0 0) (.inr (12, [.ref (ad 1 0), .ref (ad 2 0), .ref (ad 3 0), .ref (ad 4 0), .int td, .int fa, .int fp, .int at92, .int ps92, .int tk2, .int nu2, .long wd2, .int t0, .int wr2, .int so, .ref (ad 5 0), .ref (ad 6 0), .int pd2, .int op92, .int cg2, .int iw2, .int on9, .ref (ad 7 0), .ref (ad 8 0), .ref (ad 9 0), .int is9, .ref (ad 10 0), .ref (ad 11 0), .ref (ad 12 0), .ref (ad 13 0), .int se, .ref (ad 14 0)])) ∧ pt L1 f1 (ad 5 0) (.inl (G.2 0, 160, .inl gp2)) ∧ pt L1 f1 (ad 6 0) (.inl (G.2 0, 9, .inl gc2)) ∧ TK at92 ps92 tk2 ∧ (r.toInt = 0 → ps9.toInt + 1 ≤ ps92.toInt) ∧ (r.toInt ≤ 0 → wr2.toInt + pd2.toInt ≤ ps92.toInt) ∧ (r.toInt < 0 → iw2 = 1) ∧ (r.toInt ≤ 0 → ps9.toInt ≤ ps92.toInt)) S Y rfl (by decide) (by decide) hA1 ⟨v_87080, v_87081, v_87082, v_87083, v_87084, wr, v_87085, v_87086, v_87087, iw, g_87088, g_87089, bn_w er_87079 (by decide), I, p_ad_0_0, p_ad_5_0, p_ad_6_0, eT_87090, eR_87091, eW_87092, (fun h => absurd h (by have z9 := (er_87079).1; omega)), (fun h => by have z9 := eR_87091 (by have z8 := (er_87079).1; omega); omega)⟩ dX12_beginOne_158
          · have B_86999 : bn 45 45 tk := bn_w (bn_eq c_86998 (show bn 45 45 (45 : Int32) from bn_k (by decide))) (by decide)
            refine lv_aload_n hx hb dX12_beginOne_127 rfl (lv_at hl 1 rfl) ?_
            refine lv_iconst (v := 5) hx hb dX12_beginOne_128 (by decide) ?_
            refine cVi (As := [.int 5]) (rest := []) S Y (x_X12_opened (l := l) I p_ad_0_0 p_ad_5_0 p_ad_6_0 (show OPH 5 opn gp pd from Or.inl (by decide)) hiw hroom hT (show ¬ tk = 0 from by rw [c_86998]; decide)) cw_X12_opened km12_184 p_ad_0_0 ok_X12.1 rfl rfl ⟨Nat.le_of_ble_eq_true rfl, Nat.le_of_ble_eq_true rfl⟩ hl.1 rfl (Nat.le_of_ble_eq_true rfl) ⟨Nat.le_of_ble_eq_true rfl, Nat.le_of_ble_eq_true rfl⟩ dX12_beginOne_129 (fun r_87096 L_87094 f_87095 H locs hr_87096 Y => ?_)
            obtain ⟨v_87097, v_87098, v_87099, v_87100, v_87101, v_87102, v_87103, v_87104, g_87105, g_87106, er_87096, I, p_ad_0_0, p_ad_5_0, p_ad_6_0, eT_87107, eR_87108, eW_87109⟩ := hr_87096
            obtain ⟨bfc87109_4, bfc87109_7, bfc87109_8, bfc87109_12, bfc87109_13, bfc87109_17, bfc87109_18, bfc87109_19, bfc87109_20, bfc87109_25⟩ := obM I p_ad_0_0
            exact prI (post := fun r L1 f1 => ∃ at92 : Int32, ∃ ps92 : Int32, ∃ tk2 : Int32, ∃ nu2 : Int32, ∃ wd2 : Int64, ∃ wr2 : Int32, ∃ pd2 : Int32, ∃ op92 : Int32, ∃ cg2 : Int32, ∃ iw2 : Int32, ∃ gp2 : Nat → Int32, ∃ gc2 : Nat → Int32, bn 0 5 r ∧ SH (spM PA PI (XR r gB fr gp2 gc2 t0 wr2 pd2 op92 cg2 iw2) pa) nnM G ad L1 f1 ∧ pt L1 f1 (ad 0 0) (.inr (12, [.ref (ad 1 0), .ref (ad 2 0), .ref (ad 3 0), .ref (ad 4 0), .int td, .int fa, .int fp, .int at92, .int ps92, .int tk2, .int nu2, .long wd2, .int t0, .int wr2, .int so, .ref (ad 5 0), .ref (ad 6 0), .int pd2, .int op92, .int cg2, .int iw2, .int on9, .ref (ad 7 0), .ref (ad 8 0), .ref (ad 9 0), .int is9, .ref (ad 10 0), .ref (ad 11 0), .ref (ad 12 0), .ref (ad 13 0), .int se, .ref (ad 14 0)])) ∧ pt L1 f1 (ad 5 0) (.inl (G.2 0, 160, .inl gp2)) ∧ pt L1 f1 (ad 6 0) (.inl (G.2 0, 9, .inl gc2)) ∧ TK at92 ps92 tk2 ∧ (r.toInt = 0 → ps9.toInt + 1 ≤ ps92.toInt) ∧ (r.toInt ≤ 0 → wr2.toInt + pd2.toInt ≤ ps92.toInt) ∧ (r.toInt < 0 → iw2 = 1) ∧ (r.toInt ≤ 0 → ps9.toInt ≤ ps92.toInt)) S Y rfl (by decide) (by decide) hA1 ⟨v_87097, v_87098, v_87099, v_87100, v_87101, wr, v_87102, v_87103, v_87104, iw, g_87105, g_87106, bn_w er_87096 (by decide), I, p_ad_0_0, p_ad_5_0, p_ad_6_0, eT_87107, eR_87108, eW_87109, (fun h => absurd h (by have z9 := (er_87096).1; omega)), (fun h => by have z9 := eR_87108 (by have z8 := (er_87096).1; omega); omega)⟩ dX12_beginOne_132
        · have B_86997 : bn 40 40 tk := bn_w (bn_eq c_86996 (show bn 40 40 (40 : Int32) from bn_k (by decide))) (by decide)
          refine lv_aload_n hx hb dX12_beginOne_111 rfl (lv_at hl 1 rfl) ?_
          refine lv_bipush (v := 40) hx hb dX12_beginOne_112 (by decide) ?_
          refine cVi (As := [.int 40]) (rest := []) S Y (x_X12_opened (l := l) I p_ad_0_0 p_ad_5_0 p_ad_6_0 (show OPH 40 opn gp pd from Or.inl (by decide)) hiw hroom hT (show ¬ tk = 0 from by rw [c_86996]; decide)) cw_X12_opened km12_184 p_ad_0_0 ok_X12.1 rfl rfl ⟨Nat.le_of_ble_eq_true rfl, Nat.le_of_ble_eq_true rfl⟩ hl.1 rfl (Nat.le_of_ble_eq_true rfl) ⟨Nat.le_of_ble_eq_true rfl, Nat.le_of_ble_eq_true rfl⟩ dX12_beginOne_114 (fun r_87113 L_87111 f_87112 H locs hr_87113 Y => ?_)
          obtain ⟨v_87114, v_87115, v_87116, v_87117, v_87118, v_87119, v_87120, v_87121, g_87122, g_87123, er_87113, I, p_ad_0_0, p_ad_5_0, p_ad_6_0, eT_87124, eR_87125, eW_87126⟩ := hr_87113
          obtain ⟨bfc87126_4, bfc87126_7, bfc87126_8, bfc87126_12, bfc87126_13, bfc87126_17, bfc87126_18, bfc87126_19, bfc87126_20, bfc87126_25⟩ := obM I p_ad_0_0
          exact prI (post := fun r L1 f1 => ∃ at92 : Int32, ∃ ps92 : Int32, ∃ tk2 : Int32, ∃ nu2 : Int32, ∃ wd2 : Int64, ∃ wr2 : Int32, ∃ pd2 : Int32, ∃ op92 : Int32, ∃ cg2 : Int32, ∃ iw2 : Int32, ∃ gp2 : Nat → Int32, ∃ gc2 : Nat → Int32, bn 0 5 r ∧ SH (spM PA PI (XR r gB fr gp2 gc2 t0 wr2 pd2 op92 cg2 iw2) pa) nnM G ad L1 f1 ∧ pt L1 f1 (ad 0 0) (.inr (12, [.ref (ad 1 0), .ref (ad 2 0), .ref (ad 3 0), .ref (ad 4 0), .int td, .int fa, .int fp, .int at92, .int ps92, .int tk2, .int nu2, .long wd2, .int t0, .int wr2, .int so, .ref (ad 5 0), .ref (ad 6 0), .int pd2, .int op92, .int cg2, .int iw2, .int on9, .ref (ad 7 0), .ref (ad 8 0), .ref (ad 9 0), .int is9, .ref (ad 10 0), .ref (ad 11 0), .ref (ad 12 0), .ref (ad 13 0), .int se, .ref (ad 14 0)])) ∧ pt L1 f1 (ad 5 0) (.inl (G.2 0, 160, .inl gp2)) ∧ pt L1 f1 (ad 6 0) (.inl (G.2 0, 9, .inl gc2)) ∧ TK at92 ps92 tk2 ∧ (r.toInt = 0 → ps9.toInt + 1 ≤ ps92.toInt) ∧ (r.toInt ≤ 0 → wr2.toInt + pd2.toInt ≤ ps92.toInt) ∧ (r.toInt < 0 → iw2 = 1) ∧ (r.toInt ≤ 0 → ps9.toInt ≤ ps92.toInt)) S Y rfl (by decide) (by decide) hA1 ⟨v_87114, v_87115, v_87116, v_87117, v_87118, wr, v_87119, v_87120, v_87121, iw, g_87122, g_87123, bn_w er_87113 (by decide), I, p_ad_0_0, p_ad_5_0, p_ad_6_0, eT_87124, eR_87125, eW_87126, (fun h => absurd h (by have z9 := (er_87113).1; omega)), (fun h => by have z9 := eR_87125 (by have z8 := (er_87113).1; omega); omega)⟩ dX12_beginOne_117
      · have B_86995 : bn 0 4 r_86989 := bn_w (bn_gel c_86993 B_86991 (show bn 0 0 (0 : Int32) from bn_k (by decide))) (by decide)
        refine lv_aload_n hx hb dX12_beginOne_52 rfl (lv_at hl 1 rfl) ?_
        refine lv_aload_n hx hb dX12_beginOne_53 rfl (lv_at hl 1 rfl) ?_
        refine pg_get S Y ok_X12 9 (by decide) kf12_98 (v := .int tk) p_ad_0_0 rfl dX12_beginOne_54 ?_
        refine lv_iconst (v := 1) hx hb dX12_beginOne_57 (by decide) ?_
        refine lv_icmp_ne (tgt := 65) hx hb dX12_beginOne_58 (by decide) (fun _ => ?_) (fun h => absurd h c_86987)
        refine lv_iconst (v := 1) hx hb dX12_beginOne_65 (by decide) ?_
        refine lv_aload_n hx hb dX12_beginOne_66 rfl (lv_at hl 1 rfl) ?_
        refine pg_get S Y ok_X12 9 (by decide) kf12_98 (v := .int tk) p_ad_0_0 rfl dX12_beginOne_67 ?_
        refine lv_iconst (v := 1) hx hb dX12_beginOne_70 (by decide) ?_
        refine lv_icmp_ne (tgt := 81) hx hb dX12_beginOne_71 (by decide) (fun _ => ?_) (fun h => absurd h c_86987)
        refine lv_iload_n hx hb dX12_beginOne_81 rfl (lv_at hl 0 rfl) ?_
        have B_87128 : bn 0 299 wr := ⟨bfe_13.1, by have z9 := hT.2 (show ¬ tk = 0 from by rw [er_86989.2 (ge_nm (bn_w B_86995 (by decide)))]; decide); have z8 := bfe_7.2; have z7 := bfe_17.1; omega⟩
        refine cVv (As := [.int 1, .int r_86989]) (rest := []) S Y (x_X12_emit (l := l) I p_ad_0_0 p_ad_5_0 p_ad_6_0 (bn_w B_87128 (by decide))) cw_X12_emit km12_148 p_ad_0_0 ok_X12.1 rfl rfl ⟨Nat.le_of_ble_eq_true rfl, Nat.le_of_ble_eq_true rfl⟩ hl.1 rfl (Nat.le_of_ble_eq_true rfl) ⟨Nat.le_of_ble_eq_true rfl, Nat.le_of_ble_eq_true rfl⟩ dX12_beginOne_82 (fun L_87129 f_87130 H locs hr_87131 Y => ?_)
        obtain ⟨v_87132, I, p_ad_0_0, p_ad_5_0, p_ad_6_0, e13_87133⟩ := hr_87131
        obtain ⟨bfc87133_4, bfc87133_7, bfc87133_8, bfc87133_12, bfc87133_13, bfc87133_17, bfc87133_18, bfc87133_19, bfc87133_20, bfc87133_25⟩ := obM I p_ad_0_0
        refine lv_aload_n hx hb dX12_beginOne_85 rfl (lv_at hl 1 rfl) ?_
        obtain ⟨g_87135, p_ad_4_0, o_87136⟩ := I.opi (k := 4) (j := 0) (by decide) rfl
        have p_ad_4_0 : pt L_87129 f_87130 (ad 4 0) (.inl (G.2 0, 300, .inl g_87135)) := p_ad_4_0
        refine cVv (As := []) (rest := []) S Y (x_X12_nextToken (l := l) I p_ad_0_0 p_ad_4_0 p_ad_5_0 p_ad_6_0) cw_X12_nextToken km12_166 p_ad_0_0 ok_X12.1 rfl rfl ⟨Nat.le_of_ble_eq_true rfl, Nat.le_of_ble_eq_true rfl⟩ hl.1 rfl (Nat.le_of_ble_eq_true rfl) ⟨Nat.le_of_ble_eq_true rfl, Nat.le_of_ble_eq_true rfl⟩ dX12_beginOne_86 (fun L_87137 f_87138 H locs hr_87139 Y => ?_)
        obtain ⟨v_87140, v_87141, v_87142, v_87143, v_87144, I, p_ad_0_0, p_ad_4_0, p_ad_5_0, p_ad_6_0, eT_87145, eP_87146⟩ := hr_87139
        obtain ⟨bfc87146_4, bfc87146_7, bfc87146_8, bfc87146_12, bfc87146_13, bfc87146_17, bfc87146_18, bfc87146_19, bfc87146_20, bfc87146_25⟩ := obM I p_ad_0_0
        refine lv_aload_n hx hb dX12_beginOne_89 rfl (lv_at hl 1 rfl) ?_
        refine lv_iconst (v := 1) hx hb dX12_beginOne_90 (by decide) ?_
        refine pg_put S Y ok_X12 20 (by decide) kf12_178 rfl (fs' := [.ref (ad 1 0), .ref (ad 2 0), .ref (ad 3 0), .ref (ad 4 0), .int td, .int fa, .int fp, .int v_87140, .int v_87141, .int v_87142, .int v_87143, .long v_87144, .int t0, .int v_87132, .int so, .ref (ad 5 0), .ref (ad 6 0), .int pd, .int op9, .int cg, .int 1, .int on9, .ref (ad 7 0), .ref (ad 8 0), .ref (ad 9 0), .int is9, .ref (ad 10 0), .ref (ad 11 0), .ref (ad 12 0), .ref (ad 13 0), .int se, .ref (ad 14 0)]) (v := .int 1) p_ad_0_0 rfl rfl rfl (Nat.le_of_ble_eq_true rfl) dX12_beginOne_91 (fun f_87148 H locs ef_87148 Y => ?_)
        have p_ad_4_0 := p_ad_4_0.up ef_87148 (I.ne (k := 4) (j := 0) (k' := 0) (j' := 0) (by decide) (by decide) (Or.inl (by decide)))
        have p_ad_5_0 := p_ad_5_0.up ef_87148 (I.ne (k := 5) (j := 0) (k' := 0) (j' := 0) (by decide) (by decide) (Or.inl (by decide)))
        have p_ad_6_0 := p_ad_6_0.up ef_87148 (I.ne (k := 6) (j := 0) (k' := 0) (j' := 0) (by decide) (by decide) (Or.inl (by decide)))
        have p_ad_0_0 := p_ad_0_0.me ef_87148
        have I := I.up (k := 0) (j := 0) (by decide) ef_87148 (okE_o (okFs_c okV_r (okFs_c okV_r (okFs_c okV_r (okFs_c okV_r (okFs_c (okV_i bfc87146_4) (okFs_c (okV_i (bn_any _)) (okFs_c (okV_i (bn_any _)) (okFs_c (okV_i bfc87146_7) (okFs_c (okV_i bfc87146_8) (okFs_c (okV_i (bn_any _)) (okFs_c (okV_i (bn_any _)) (okFs_c okV_l (okFs_c (okV_i bfc87146_12) (okFs_c (okV_i bfc87146_13) (okFs_c (okV_i (bn_any _)) (okFs_c okV_r (okFs_c okV_r (okFs_c (okV_i bfc87146_17) (okFs_c (okV_i bfc87146_18) (okFs_c (okV_i bfc87146_19) (okFs_c (okV_i (bn_w (show bn 1 1 (1 : Int32) from bn_k (by decide)) (by decide))) (okFs_c (okV_i (bn_any _)) (okFs_c okV_r (okFs_c okV_r (okFs_c okV_r (okFs_c (okV_i bfc87146_25) (okFs_c okV_r (okFs_c okV_r (okFs_c okV_r (okFs_c okV_r (okFs_c (okV_i (bn_any _)) (okFs_c okV_r okFs_n)))))))))))))))))))))))))))))))))
        refine lv_aload_n hx hb dX12_beginOne_94 rfl (lv_at hl 1 rfl) ?_
        refine lv_bipush (v := 7) hx hb dX12_beginOne_95 (by decide) ?_
        obtain ⟨g_87149, p_ad_3_0, o_87150⟩ := I.opi (k := 3) (j := 0) (by decide) rfl
        have p_ad_3_0 : pt L_87137 f_87148 (ad 3 0) (.inl (G.2 0, 2916, .inl g_87149)) := p_ad_3_0
        have o_87151 : (XS gB fr gp gc (7 : Int32).toInt.toNat opn true cmp t0 v_87132 pd op9 cg) g_87149 := (XV_num o_87150 rfl (Or.inr ⟨rfl, (show bn 0 9 r_86989 from bn_w B_86995 (by decide)).1, (show bn 0 9 r_86989 from bn_w B_86995 (by decide)).2⟩) e13_87133 B_87128)
        have I := I.castS (sp' := spM PA PI (XS gB fr gp gc (7 : Int32).toInt.toNat opn true cmp t0 v_87132 pd op9 cg) pa) (k := 3) (j := 0) (by decide) p_ad_3_0 (okE_a (g := g_87149) o_87151) pXC
        refine cVv (As := [.int 7]) (rest := []) S Y (x_X12_settle (l := l) I p_ad_0_0 p_ad_5_0 p_ad_6_0 (bn_w (show bn 7 7 (7 : Int32) from bn_k (by decide)) (by decide)) (by have c0 := e13_87133; have c1 := eT_87145.1; have c2 := eP_87146; have c3 := hroom; have c4 := (hT.2 (show ¬ tk = 0 from by rw [er_86989.2 (ge_nm (bn_w B_86995 (by decide)))]; decide)); have c5 := bfe_8.2; have c6 := bfe_7.2; omega)) cw_X12_settle km12_181 p_ad_0_0 ok_X12.1 rfl rfl ⟨Nat.le_of_ble_eq_true rfl, Nat.le_of_ble_eq_true rfl⟩ hl.1 rfl (Nat.le_of_ble_eq_true rfl) ⟨Nat.le_of_ble_eq_true rfl, Nat.le_of_ble_eq_true rfl⟩ dX12_beginOne_97 (fun L_87152 f_87153 H locs hr_87154 Y => ?_)
        obtain ⟨v_87155, v_87156, v_87157, I, p_ad_0_0, p_ad_5_0, p_ad_6_0, es1_87158, es2_87159, es3_87160⟩ := hr_87154
        obtain ⟨bfc87160_4, bfc87160_7, bfc87160_8, bfc87160_12, bfc87160_13, bfc87160_17, bfc87160_18, bfc87160_19, bfc87160_20, bfc87160_25⟩ := obM I p_ad_0_0
        obtain ⟨g_87162, p_ad_3_0, o_87163⟩ := I.opi (k := 3) (j := 0) (by decide) rfl
        have p_ad_3_0 : pt L_87152 f_87153 (ad 3 0) (.inl (G.2 0, 2916, .inl g_87162)) := p_ad_3_0
        have o_87164 : (XR 0 gB fr gp gc t0 v_87155 v_87156 v_87157 cg 1) g_87162 := (XR_t (XS_end5 o_87163 (by decide) es2_87159))
        have I := I.castS (sp' := spM PA PI (XR 0 gB fr gp gc t0 v_87155 v_87156 v_87157 cg 1) pa) (k := 3) (j := 0) (by decide) p_ad_3_0 (okE_a (g := g_87162) o_87164) pXC
        refine lv_iconst (v := 0) hx hb dX12_beginOne_100 (by decide) ?_
        exact prI (post := fun r L1 f1 => ∃ at92 : Int32, ∃ ps92 : Int32, ∃ tk2 : Int32, ∃ nu2 : Int32, ∃ wd2 : Int64, ∃ wr2 : Int32, ∃ pd2 : Int32, ∃ op92 : Int32, ∃ cg2 : Int32, ∃ iw2 : Int32, ∃ gp2 : Nat → Int32, ∃ gc2 : Nat → Int32, bn 0 5 r ∧ SH (spM PA PI (XR r gB fr gp2 gc2 t0 wr2 pd2 op92 cg2 iw2) pa) nnM G ad L1 f1 ∧ pt L1 f1 (ad 0 0) (.inr (12, [.ref (ad 1 0), .ref (ad 2 0), .ref (ad 3 0), .ref (ad 4 0), .int td, .int fa, .int fp, .int at92, .int ps92, .int tk2, .int nu2, .long wd2, .int t0, .int wr2, .int so, .ref (ad 5 0), .ref (ad 6 0), .int pd2, .int op92, .int cg2, .int iw2, .int on9, .ref (ad 7 0), .ref (ad 8 0), .ref (ad 9 0), .int is9, .ref (ad 10 0), .ref (ad 11 0), .ref (ad 12 0), .ref (ad 13 0), .int se, .ref (ad 14 0)])) ∧ pt L1 f1 (ad 5 0) (.inl (G.2 0, 160, .inl gp2)) ∧ pt L1 f1 (ad 6 0) (.inl (G.2 0, 9, .inl gc2)) ∧ TK at92 ps92 tk2 ∧ (r.toInt = 0 → ps9.toInt + 1 ≤ ps92.toInt) ∧ (r.toInt ≤ 0 → wr2.toInt + pd2.toInt ≤ ps92.toInt) ∧ (r.toInt < 0 → iw2 = 1) ∧ (r.toInt ≤ 0 → ps9.toInt ≤ ps92.toInt)) S Y rfl (by decide) (by decide) hA1 ⟨v_87140, v_87141, v_87142, v_87143, v_87144, v_87155, v_87156, v_87157, cg, 1, gp, gc, bn_w (show bn 0 0 (0 : Int32) from bn_k (by decide)) (by decide), I, p_ad_0_0, p_ad_5_0, p_ad_6_0, eT_87145, (fun _ => (by have c0 := e13_87133; have c1 := eT_87145.1; have c2 := eP_87146; have c3 := es1_87158; have c4 := es3_87160; have c5 := hroom; have c6 := (hT.2 (show ¬ tk = 0 from by rw [er_86989.2 (ge_nm (bn_w B_86995 (by decide)))]; decide)); omega)), (fun _ => (by have c0 := e13_87133; have c1 := eT_87145.1; have c2 := eP_87146; have c3 := es1_87158; have c4 := es3_87160; have c5 := hroom; have c6 := (hT.2 (show ¬ tk = 0 from by rw [er_86989.2 (ge_nm (bn_w B_86995 (by decide)))]; decide)); omega)), (fun h => absurd h (by decide)), (fun _ => (by have c0 := e13_87133; have c1 := eT_87145.1; have c2 := eP_87146; have c3 := es1_87158; have c4 := es3_87160; have c5 := hroom; have c6 := (hT.2 (show ¬ tk = 0 from by rw [er_86989.2 (ge_nm (bn_w B_86995 (by decide)))]; decide)); omega))⟩ dX12_beginOne_101
    · have B_86992 : bn 5 9 r_86989 := bn_w (bn_gtl c_86990 er_86989.1 (show bn 4 4 (4 : Int32) from bn_k (by decide))) (by decide)
      refine lv_aload_n hx hb dX12_beginOne_30 rfl (lv_at hl 1 rfl) ?_
      refine pg_get S Y ok_X12 14 (by decide) kf12_175 (v := .int so) p_ad_0_0 rfl dX12_beginOne_31 ?_
      refine lv_iconst (v := 2) hx hb dX12_beginOne_34 (by decide) ?_
      refine lv_icmp_ne (tgt := 40) hx hb dX12_beginOne_35 (by decide) (fun c_87165 => ?_) (fun c_87165 => ?_)
      · refine lv_aload_n hx hb dX12_beginOne_40 rfl (lv_at hl 1 rfl) ?_
        refine pg_get S Y ok_X12 9 (by decide) kf12_98 (v := .int tk) p_ad_0_0 rfl dX12_beginOne_41 ?_
        refine lv_iconst (v := 1) hx hb dX12_beginOne_44 (by decide) ?_
        refine lv_icmp_eq (tgt := 52) hx hb dX12_beginOne_45 (by decide) (fun h => absurd h c_86987) (fun _ => ?_)
        refine lv_iload_n hx hb dX12_beginOne_48 rfl (lv_at hl 0 rfl) ?_
        refine lv_if_lt (tgt := 102) hx hb dX12_beginOne_49 (by decide) (fun h => absurd h (bd_nlt B_86992 (show bn 0 0 (0 : Int32) from bn_k (by decide)) (by decide))) (fun _ => ?_)
        refine lv_aload_n hx hb dX12_beginOne_52 rfl (lv_at hl 1 rfl) ?_
        refine lv_aload_n hx hb dX12_beginOne_53 rfl (lv_at hl 1 rfl) ?_
        refine pg_get S Y ok_X12 9 (by decide) kf12_98 (v := .int tk) p_ad_0_0 rfl dX12_beginOne_54 ?_
        refine lv_iconst (v := 1) hx hb dX12_beginOne_57 (by decide) ?_
        refine lv_icmp_ne (tgt := 65) hx hb dX12_beginOne_58 (by decide) (fun _ => ?_) (fun h => absurd h c_86987)
        refine lv_iconst (v := 1) hx hb dX12_beginOne_65 (by decide) ?_
        refine lv_aload_n hx hb dX12_beginOne_66 rfl (lv_at hl 1 rfl) ?_
        refine pg_get S Y ok_X12 9 (by decide) kf12_98 (v := .int tk) p_ad_0_0 rfl dX12_beginOne_67 ?_
        refine lv_iconst (v := 1) hx hb dX12_beginOne_70 (by decide) ?_
        refine lv_icmp_ne (tgt := 81) hx hb dX12_beginOne_71 (by decide) (fun _ => ?_) (fun h => absurd h c_86987)
        refine lv_iload_n hx hb dX12_beginOne_81 rfl (lv_at hl 0 rfl) ?_
        have B_87167 : bn 0 299 wr := ⟨bfe_13.1, by have z9 := hT.2 (show ¬ tk = 0 from by rw [er_86989.2 (ge_nm (bn_w B_86992 (by decide)))]; decide); have z8 := bfe_7.2; have z7 := bfe_17.1; omega⟩
        refine cVv (As := [.int 1, .int r_86989]) (rest := []) S Y (x_X12_emit (l := l) I p_ad_0_0 p_ad_5_0 p_ad_6_0 (bn_w B_87167 (by decide))) cw_X12_emit km12_148 p_ad_0_0 ok_X12.1 rfl rfl ⟨Nat.le_of_ble_eq_true rfl, Nat.le_of_ble_eq_true rfl⟩ hl.1 rfl (Nat.le_of_ble_eq_true rfl) ⟨Nat.le_of_ble_eq_true rfl, Nat.le_of_ble_eq_true rfl⟩ dX12_beginOne_82 (fun L_87168 f_87169 H locs hr_87170 Y => ?_)
        obtain ⟨v_87171, I, p_ad_0_0, p_ad_5_0, p_ad_6_0, e13_87172⟩ := hr_87170
        obtain ⟨bfc87172_4, bfc87172_7, bfc87172_8, bfc87172_12, bfc87172_13, bfc87172_17, bfc87172_18, bfc87172_19, bfc87172_20, bfc87172_25⟩ := obM I p_ad_0_0
        refine lv_aload_n hx hb dX12_beginOne_85 rfl (lv_at hl 1 rfl) ?_
        obtain ⟨g_87174, p_ad_4_0, o_87175⟩ := I.opi (k := 4) (j := 0) (by decide) rfl
        have p_ad_4_0 : pt L_87168 f_87169 (ad 4 0) (.inl (G.2 0, 300, .inl g_87174)) := p_ad_4_0
        refine cVv (As := []) (rest := []) S Y (x_X12_nextToken (l := l) I p_ad_0_0 p_ad_4_0 p_ad_5_0 p_ad_6_0) cw_X12_nextToken km12_166 p_ad_0_0 ok_X12.1 rfl rfl ⟨Nat.le_of_ble_eq_true rfl, Nat.le_of_ble_eq_true rfl⟩ hl.1 rfl (Nat.le_of_ble_eq_true rfl) ⟨Nat.le_of_ble_eq_true rfl, Nat.le_of_ble_eq_true rfl⟩ dX12_beginOne_86 (fun L_87176 f_87177 H locs hr_87178 Y => ?_)
        obtain ⟨v_87179, v_87180, v_87181, v_87182, v_87183, I, p_ad_0_0, p_ad_4_0, p_ad_5_0, p_ad_6_0, eT_87184, eP_87185⟩ := hr_87178
        obtain ⟨bfc87185_4, bfc87185_7, bfc87185_8, bfc87185_12, bfc87185_13, bfc87185_17, bfc87185_18, bfc87185_19, bfc87185_20, bfc87185_25⟩ := obM I p_ad_0_0
        refine lv_aload_n hx hb dX12_beginOne_89 rfl (lv_at hl 1 rfl) ?_
        refine lv_iconst (v := 1) hx hb dX12_beginOne_90 (by decide) ?_
        refine pg_put S Y ok_X12 20 (by decide) kf12_178 rfl (fs' := [.ref (ad 1 0), .ref (ad 2 0), .ref (ad 3 0), .ref (ad 4 0), .int td, .int fa, .int fp, .int v_87179, .int v_87180, .int v_87181, .int v_87182, .long v_87183, .int t0, .int v_87171, .int so, .ref (ad 5 0), .ref (ad 6 0), .int pd, .int op9, .int cg, .int 1, .int on9, .ref (ad 7 0), .ref (ad 8 0), .ref (ad 9 0), .int is9, .ref (ad 10 0), .ref (ad 11 0), .ref (ad 12 0), .ref (ad 13 0), .int se, .ref (ad 14 0)]) (v := .int 1) p_ad_0_0 rfl rfl rfl (Nat.le_of_ble_eq_true rfl) dX12_beginOne_91 (fun f_87187 H locs ef_87187 Y => ?_)
        have p_ad_4_0 := p_ad_4_0.up ef_87187 (I.ne (k := 4) (j := 0) (k' := 0) (j' := 0) (by decide) (by decide) (Or.inl (by decide)))
        have p_ad_5_0 := p_ad_5_0.up ef_87187 (I.ne (k := 5) (j := 0) (k' := 0) (j' := 0) (by decide) (by decide) (Or.inl (by decide)))
        have p_ad_6_0 := p_ad_6_0.up ef_87187 (I.ne (k := 6) (j := 0) (k' := 0) (j' := 0) (by decide) (by decide) (Or.inl (by decide)))
        have p_ad_0_0 := p_ad_0_0.me ef_87187
        have I := I.up (k := 0) (j := 0) (by decide) ef_87187 (okE_o (okFs_c okV_r (okFs_c okV_r (okFs_c okV_r (okFs_c okV_r (okFs_c (okV_i bfc87185_4) (okFs_c (okV_i (bn_any _)) (okFs_c (okV_i (bn_any _)) (okFs_c (okV_i bfc87185_7) (okFs_c (okV_i bfc87185_8) (okFs_c (okV_i (bn_any _)) (okFs_c (okV_i (bn_any _)) (okFs_c okV_l (okFs_c (okV_i bfc87185_12) (okFs_c (okV_i bfc87185_13) (okFs_c (okV_i (bn_any _)) (okFs_c okV_r (okFs_c okV_r (okFs_c (okV_i bfc87185_17) (okFs_c (okV_i bfc87185_18) (okFs_c (okV_i bfc87185_19) (okFs_c (okV_i (bn_w (show bn 1 1 (1 : Int32) from bn_k (by decide)) (by decide))) (okFs_c (okV_i (bn_any _)) (okFs_c okV_r (okFs_c okV_r (okFs_c okV_r (okFs_c (okV_i bfc87185_25) (okFs_c okV_r (okFs_c okV_r (okFs_c okV_r (okFs_c okV_r (okFs_c (okV_i (bn_any _)) (okFs_c okV_r okFs_n)))))))))))))))))))))))))))))))))
        refine lv_aload_n hx hb dX12_beginOne_94 rfl (lv_at hl 1 rfl) ?_
        refine lv_bipush (v := 7) hx hb dX12_beginOne_95 (by decide) ?_
        obtain ⟨g_87188, p_ad_3_0, o_87189⟩ := I.opi (k := 3) (j := 0) (by decide) rfl
        have p_ad_3_0 : pt L_87176 f_87187 (ad 3 0) (.inl (G.2 0, 2916, .inl g_87188)) := p_ad_3_0
        have o_87190 : (XS gB fr gp gc (7 : Int32).toInt.toNat opn true cmp t0 v_87171 pd op9 cg) g_87188 := (XV_num o_87189 rfl (Or.inr ⟨rfl, (show bn 0 9 r_86989 from bn_w B_86992 (by decide)).1, (show bn 0 9 r_86989 from bn_w B_86992 (by decide)).2⟩) e13_87172 B_87167)
        have I := I.castS (sp' := spM PA PI (XS gB fr gp gc (7 : Int32).toInt.toNat opn true cmp t0 v_87171 pd op9 cg) pa) (k := 3) (j := 0) (by decide) p_ad_3_0 (okE_a (g := g_87188) o_87190) pXC
        refine cVv (As := [.int 7]) (rest := []) S Y (x_X12_settle (l := l) I p_ad_0_0 p_ad_5_0 p_ad_6_0 (bn_w (show bn 7 7 (7 : Int32) from bn_k (by decide)) (by decide)) (by have c0 := e13_87172; have c1 := eT_87184.1; have c2 := eP_87185; have c3 := hroom; have c4 := (hT.2 (show ¬ tk = 0 from by rw [er_86989.2 (ge_nm (bn_w B_86992 (by decide)))]; decide)); have c5 := bfe_8.2; have c6 := bfe_7.2; omega)) cw_X12_settle km12_181 p_ad_0_0 ok_X12.1 rfl rfl ⟨Nat.le_of_ble_eq_true rfl, Nat.le_of_ble_eq_true rfl⟩ hl.1 rfl (Nat.le_of_ble_eq_true rfl) ⟨Nat.le_of_ble_eq_true rfl, Nat.le_of_ble_eq_true rfl⟩ dX12_beginOne_97 (fun L_87191 f_87192 H locs hr_87193 Y => ?_)
        obtain ⟨v_87194, v_87195, v_87196, I, p_ad_0_0, p_ad_5_0, p_ad_6_0, es1_87197, es2_87198, es3_87199⟩ := hr_87193
        obtain ⟨bfc87199_4, bfc87199_7, bfc87199_8, bfc87199_12, bfc87199_13, bfc87199_17, bfc87199_18, bfc87199_19, bfc87199_20, bfc87199_25⟩ := obM I p_ad_0_0
        obtain ⟨g_87201, p_ad_3_0, o_87202⟩ := I.opi (k := 3) (j := 0) (by decide) rfl
        have p_ad_3_0 : pt L_87191 f_87192 (ad 3 0) (.inl (G.2 0, 2916, .inl g_87201)) := p_ad_3_0
        have o_87203 : (XR 0 gB fr gp gc t0 v_87194 v_87195 v_87196 cg 1) g_87201 := (XR_t (XS_end5 o_87202 (by decide) es2_87198))
        have I := I.castS (sp' := spM PA PI (XR 0 gB fr gp gc t0 v_87194 v_87195 v_87196 cg 1) pa) (k := 3) (j := 0) (by decide) p_ad_3_0 (okE_a (g := g_87201) o_87203) pXC
        refine lv_iconst (v := 0) hx hb dX12_beginOne_100 (by decide) ?_
        exact prI (post := fun r L1 f1 => ∃ at92 : Int32, ∃ ps92 : Int32, ∃ tk2 : Int32, ∃ nu2 : Int32, ∃ wd2 : Int64, ∃ wr2 : Int32, ∃ pd2 : Int32, ∃ op92 : Int32, ∃ cg2 : Int32, ∃ iw2 : Int32, ∃ gp2 : Nat → Int32, ∃ gc2 : Nat → Int32, bn 0 5 r ∧ SH (spM PA PI (XR r gB fr gp2 gc2 t0 wr2 pd2 op92 cg2 iw2) pa) nnM G ad L1 f1 ∧ pt L1 f1 (ad 0 0) (.inr (12, [.ref (ad 1 0), .ref (ad 2 0), .ref (ad 3 0), .ref (ad 4 0), .int td, .int fa, .int fp, .int at92, .int ps92, .int tk2, .int nu2, .long wd2, .int t0, .int wr2, .int so, .ref (ad 5 0), .ref (ad 6 0), .int pd2, .int op92, .int cg2, .int iw2, .int on9, .ref (ad 7 0), .ref (ad 8 0), .ref (ad 9 0), .int is9, .ref (ad 10 0), .ref (ad 11 0), .ref (ad 12 0), .ref (ad 13 0), .int se, .ref (ad 14 0)])) ∧ pt L1 f1 (ad 5 0) (.inl (G.2 0, 160, .inl gp2)) ∧ pt L1 f1 (ad 6 0) (.inl (G.2 0, 9, .inl gc2)) ∧ TK at92 ps92 tk2 ∧ (r.toInt = 0 → ps9.toInt + 1 ≤ ps92.toInt) ∧ (r.toInt ≤ 0 → wr2.toInt + pd2.toInt ≤ ps92.toInt) ∧ (r.toInt < 0 → iw2 = 1) ∧ (r.toInt ≤ 0 → ps9.toInt ≤ ps92.toInt)) S Y rfl (by decide) (by decide) hA1 ⟨v_87179, v_87180, v_87181, v_87182, v_87183, v_87194, v_87195, v_87196, cg, 1, gp, gc, bn_w (show bn 0 0 (0 : Int32) from bn_k (by decide)) (by decide), I, p_ad_0_0, p_ad_5_0, p_ad_6_0, eT_87184, (fun _ => (by have c0 := e13_87172; have c1 := eT_87184.1; have c2 := eP_87185; have c3 := es1_87197; have c4 := es3_87199; have c5 := hroom; have c6 := (hT.2 (show ¬ tk = 0 from by rw [er_86989.2 (ge_nm (bn_w B_86992 (by decide)))]; decide)); omega)), (fun _ => (by have c0 := e13_87172; have c1 := eT_87184.1; have c2 := eP_87185; have c3 := es1_87197; have c4 := es3_87199; have c5 := hroom; have c6 := (hT.2 (show ¬ tk = 0 from by rw [er_86989.2 (ge_nm (bn_w B_86992 (by decide)))]; decide)); omega)), (fun h => absurd h (by decide)), (fun _ => (by have c0 := e13_87172; have c1 := eT_87184.1; have c2 := eP_87185; have c3 := es1_87197; have c4 := es3_87199; have c5 := hroom; have c6 := (hT.2 (show ¬ tk = 0 from by rw [er_86989.2 (ge_nm (bn_w B_86992 (by decide)))]; decide)); omega))⟩ dX12_beginOne_101
      · have B_87166 : bn 2 2 so := bn_w (bn_eq c_87165 (show bn 2 2 (2 : Int32) from bn_k (by decide))) (by decide)
        have o_87204 : (XR 5 gB fr gp gc t0 wr pd op9 cg iw) g_86983 := (XR_no o_86986.1 (by decide))
        have I := I.castS (sp' := spM PA PI (XR 5 gB fr gp gc t0 wr pd op9 cg iw) pa) (k := 3) (j := 0) (by decide) p_ad_3_0 (okE_a (g := g_86983) o_87204) pXC
        refine lv_iconst (v := 5) hx hb dX12_beginOne_38 (by decide) ?_
        exact prI (post := fun r L1 f1 => ∃ at92 : Int32, ∃ ps92 : Int32, ∃ tk2 : Int32, ∃ nu2 : Int32, ∃ wd2 : Int64, ∃ wr2 : Int32, ∃ pd2 : Int32, ∃ op92 : Int32, ∃ cg2 : Int32, ∃ iw2 : Int32, ∃ gp2 : Nat → Int32, ∃ gc2 : Nat → Int32, bn 0 5 r ∧ SH (spM PA PI (XR r gB fr gp2 gc2 t0 wr2 pd2 op92 cg2 iw2) pa) nnM G ad L1 f1 ∧ pt L1 f1 (ad 0 0) (.inr (12, [.ref (ad 1 0), .ref (ad 2 0), .ref (ad 3 0), .ref (ad 4 0), .int td, .int fa, .int fp, .int at92, .int ps92, .int tk2, .int nu2, .long wd2, .int t0, .int wr2, .int so, .ref (ad 5 0), .ref (ad 6 0), .int pd2, .int op92, .int cg2, .int iw2, .int on9, .ref (ad 7 0), .ref (ad 8 0), .ref (ad 9 0), .int is9, .ref (ad 10 0), .ref (ad 11 0), .ref (ad 12 0), .ref (ad 13 0), .int se, .ref (ad 14 0)])) ∧ pt L1 f1 (ad 5 0) (.inl (G.2 0, 160, .inl gp2)) ∧ pt L1 f1 (ad 6 0) (.inl (G.2 0, 9, .inl gc2)) ∧ TK at92 ps92 tk2 ∧ (r.toInt = 0 → ps9.toInt + 1 ≤ ps92.toInt) ∧ (r.toInt ≤ 0 → wr2.toInt + pd2.toInt ≤ ps92.toInt) ∧ (r.toInt < 0 → iw2 = 1) ∧ (r.toInt ≤ 0 → ps9.toInt ≤ ps92.toInt)) S Y rfl (by decide) (by decide) hA1 ⟨at9, ps9, tk, nu, wd, wr, pd, op9, cg, iw, gp, gc, bn_w (show bn 5 5 (5 : Int32) from bn_k (by decide)) (by decide), I, p_ad_0_0, p_ad_5_0, p_ad_6_0, hT, (fun h => absurd h (by decide)), (fun h => absurd h (by decide)), (fun h => absurd h (by decide)), (fun h => absurd h (by decide))⟩ dX12_beginOne_39
  · have B_86988 : bn 1 1 tk := bn_w (bn_eq c_86987 (show bn 1 1 (1 : Int32) from bn_k (by decide))) (by decide)
    refine lv_aload_n hx hb dX12_beginOne_8 rfl (lv_at hl 0 rfl) ?_
    refine pg_get S Y ok_X12 10 (by decide) kf12_104 (v := .int nu) p_ad_0_0 rfl dX12_beginOne_9 ?_
    refine lv_sipush (v := 9999) hx hb dX12_beginOne_12 (by decide) ?_
    refine lv_icmp_le (tgt := 20) hx hb dX12_beginOne_15 (by decide) (fun c_87205 => ?_) (fun c_87205 => ?_)
    · have B_87206 : bn (-2147483648) 9999 nu := bn_w (bn_lel c_87205 (bn_any nu) (show bn 9999 9999 (9999 : Int32) from bn_k (by decide))) (by decide)
      refine lv_aload_n hx hb dX12_beginOne_20 rfl (lv_at hl 0 rfl) ?_
      refine cVp (As := []) (rest := []) S Y (x_X12_nameOf (l := l) I p_ad_0_0) cw_X12_nameOf km12_172 p_ad_0_0 ok_X12.1 rfl rfl ⟨Nat.le_of_ble_eq_true rfl, Nat.le_of_ble_eq_true rfl⟩ hl.1 rfl (Nat.le_of_ble_eq_true rfl) ⟨Nat.le_of_ble_eq_true rfl, Nat.le_of_ble_eq_true rfl⟩ dX12_beginOne_21 (fun r_87208 H locs er_87208 Y => ?_)
      refine lv_istore_n (lv' := [(1, .int r_87208), (0, .ref (ad 0 0))]) hx hb dX12_beginOne_24 rfl hl (by decide) rfl (fun ls hl => ?_)
      refine lv_iload_n hx hb dX12_beginOne_25 rfl (lv_at hl 0 rfl) ?_
      refine lv_iconst (v := 4) hx hb dX12_beginOne_26 (by decide) ?_
      refine lv_icmp_le (tgt := 40) hx hb dX12_beginOne_27 (by decide) (fun c_87209 => ?_) (fun c_87209 => ?_)
      · have B_87210 : bn (-1) 4 r_87208 := bn_w (bn_lel c_87209 er_87208.1 (show bn 4 4 (4 : Int32) from bn_k (by decide))) (by decide)
        refine lv_aload_n hx hb dX12_beginOne_40 rfl (lv_at hl 1 rfl) ?_
        refine pg_get S Y ok_X12 9 (by decide) kf12_98 (v := .int tk) p_ad_0_0 rfl dX12_beginOne_41 ?_
        refine lv_iconst (v := 1) hx hb dX12_beginOne_44 (by decide) ?_
        refine lv_icmp_eq (tgt := 52) hx hb dX12_beginOne_45 (by decide) (fun _ => ?_) (fun h => absurd c_86987 h)
        refine lv_aload_n hx hb dX12_beginOne_52 rfl (lv_at hl 1 rfl) ?_
        refine lv_aload_n hx hb dX12_beginOne_53 rfl (lv_at hl 1 rfl) ?_
        refine pg_get S Y ok_X12 9 (by decide) kf12_98 (v := .int tk) p_ad_0_0 rfl dX12_beginOne_54 ?_
        refine lv_iconst (v := 1) hx hb dX12_beginOne_57 (by decide) ?_
        refine lv_icmp_ne (tgt := 65) hx hb dX12_beginOne_58 (by decide) (fun h => absurd c_86987 h) (fun _ => ?_)
        refine lv_iconst (v := 0) hx hb dX12_beginOne_61 (by decide) ?_
        refine lv_goto (tgt := 66) hx hb dX12_beginOne_62 (by decide) ?_
        refine lv_aload_n hx hb dX12_beginOne_66 rfl (lv_at hl 1 rfl) ?_
        refine pg_get S Y ok_X12 9 (by decide) kf12_98 (v := .int tk) p_ad_0_0 rfl dX12_beginOne_67 ?_
        refine lv_iconst (v := 1) hx hb dX12_beginOne_70 (by decide) ?_
        refine lv_icmp_ne (tgt := 81) hx hb dX12_beginOne_71 (by decide) (fun h => absurd c_86987 h) (fun _ => ?_)
        refine lv_aload_n hx hb dX12_beginOne_74 rfl (lv_at hl 1 rfl) ?_
        refine pg_get S Y ok_X12 10 (by decide) kf12_104 (v := .int nu) p_ad_0_0 rfl dX12_beginOne_75 ?_
        refine lv_goto (tgt := 82) hx hb dX12_beginOne_78 (by decide) ?_
        have B_87212 : bn 0 299 wr := ⟨bfe_13.1, by have z9 := hT.2 (show ¬ tk = 0 from by rw [c_86987]; decide); have z8 := bfe_7.2; have z7 := bfe_17.1; omega⟩
        refine cVv (As := [.int 0, .int nu]) (rest := []) S Y (x_X12_emit (l := l) I p_ad_0_0 p_ad_5_0 p_ad_6_0 (bn_w B_87212 (by decide))) cw_X12_emit km12_148 p_ad_0_0 ok_X12.1 rfl rfl ⟨Nat.le_of_ble_eq_true rfl, Nat.le_of_ble_eq_true rfl⟩ hl.1 rfl (Nat.le_of_ble_eq_true rfl) ⟨Nat.le_of_ble_eq_true rfl, Nat.le_of_ble_eq_true rfl⟩ dX12_beginOne_82 (fun L_87213 f_87214 H locs hr_87215 Y => ?_)
        obtain ⟨v_87216, I, p_ad_0_0, p_ad_5_0, p_ad_6_0, e13_87217⟩ := hr_87215
        obtain ⟨bfc87217_4, bfc87217_7, bfc87217_8, bfc87217_12, bfc87217_13, bfc87217_17, bfc87217_18, bfc87217_19, bfc87217_20, bfc87217_25⟩ := obM I p_ad_0_0
        refine lv_aload_n hx hb dX12_beginOne_85 rfl (lv_at hl 1 rfl) ?_
        obtain ⟨g_87219, p_ad_4_0, o_87220⟩ := I.opi (k := 4) (j := 0) (by decide) rfl
        have p_ad_4_0 : pt L_87213 f_87214 (ad 4 0) (.inl (G.2 0, 300, .inl g_87219)) := p_ad_4_0
        refine cVv (As := []) (rest := []) S Y (x_X12_nextToken (l := l) I p_ad_0_0 p_ad_4_0 p_ad_5_0 p_ad_6_0) cw_X12_nextToken km12_166 p_ad_0_0 ok_X12.1 rfl rfl ⟨Nat.le_of_ble_eq_true rfl, Nat.le_of_ble_eq_true rfl⟩ hl.1 rfl (Nat.le_of_ble_eq_true rfl) ⟨Nat.le_of_ble_eq_true rfl, Nat.le_of_ble_eq_true rfl⟩ dX12_beginOne_86 (fun L_87221 f_87222 H locs hr_87223 Y => ?_)
        obtain ⟨v_87224, v_87225, v_87226, v_87227, v_87228, I, p_ad_0_0, p_ad_4_0, p_ad_5_0, p_ad_6_0, eT_87229, eP_87230⟩ := hr_87223
        obtain ⟨bfc87230_4, bfc87230_7, bfc87230_8, bfc87230_12, bfc87230_13, bfc87230_17, bfc87230_18, bfc87230_19, bfc87230_20, bfc87230_25⟩ := obM I p_ad_0_0
        refine lv_aload_n hx hb dX12_beginOne_89 rfl (lv_at hl 1 rfl) ?_
        refine lv_iconst (v := 1) hx hb dX12_beginOne_90 (by decide) ?_
        refine pg_put S Y ok_X12 20 (by decide) kf12_178 rfl (fs' := [.ref (ad 1 0), .ref (ad 2 0), .ref (ad 3 0), .ref (ad 4 0), .int td, .int fa, .int fp, .int v_87224, .int v_87225, .int v_87226, .int v_87227, .long v_87228, .int t0, .int v_87216, .int so, .ref (ad 5 0), .ref (ad 6 0), .int pd, .int op9, .int cg, .int 1, .int on9, .ref (ad 7 0), .ref (ad 8 0), .ref (ad 9 0), .int is9, .ref (ad 10 0), .ref (ad 11 0), .ref (ad 12 0), .ref (ad 13 0), .int se, .ref (ad 14 0)]) (v := .int 1) p_ad_0_0 rfl rfl rfl (Nat.le_of_ble_eq_true rfl) dX12_beginOne_91 (fun f_87232 H locs ef_87232 Y => ?_)
        have p_ad_4_0 := p_ad_4_0.up ef_87232 (I.ne (k := 4) (j := 0) (k' := 0) (j' := 0) (by decide) (by decide) (Or.inl (by decide)))
        have p_ad_5_0 := p_ad_5_0.up ef_87232 (I.ne (k := 5) (j := 0) (k' := 0) (j' := 0) (by decide) (by decide) (Or.inl (by decide)))
        have p_ad_6_0 := p_ad_6_0.up ef_87232 (I.ne (k := 6) (j := 0) (k' := 0) (j' := 0) (by decide) (by decide) (Or.inl (by decide)))
        have p_ad_0_0 := p_ad_0_0.me ef_87232
        have I := I.up (k := 0) (j := 0) (by decide) ef_87232 (okE_o (okFs_c okV_r (okFs_c okV_r (okFs_c okV_r (okFs_c okV_r (okFs_c (okV_i bfc87230_4) (okFs_c (okV_i (bn_any _)) (okFs_c (okV_i (bn_any _)) (okFs_c (okV_i bfc87230_7) (okFs_c (okV_i bfc87230_8) (okFs_c (okV_i (bn_any _)) (okFs_c (okV_i (bn_any _)) (okFs_c okV_l (okFs_c (okV_i bfc87230_12) (okFs_c (okV_i bfc87230_13) (okFs_c (okV_i (bn_any _)) (okFs_c okV_r (okFs_c okV_r (okFs_c (okV_i bfc87230_17) (okFs_c (okV_i bfc87230_18) (okFs_c (okV_i bfc87230_19) (okFs_c (okV_i (bn_w (show bn 1 1 (1 : Int32) from bn_k (by decide)) (by decide))) (okFs_c (okV_i (bn_any _)) (okFs_c okV_r (okFs_c okV_r (okFs_c okV_r (okFs_c (okV_i bfc87230_25) (okFs_c okV_r (okFs_c okV_r (okFs_c okV_r (okFs_c okV_r (okFs_c (okV_i (bn_any _)) (okFs_c okV_r okFs_n)))))))))))))))))))))))))))))))))
        refine lv_aload_n hx hb dX12_beginOne_94 rfl (lv_at hl 1 rfl) ?_
        refine lv_bipush (v := 7) hx hb dX12_beginOne_95 (by decide) ?_
        obtain ⟨g_87233, p_ad_3_0, o_87234⟩ := I.opi (k := 3) (j := 0) (by decide) rfl
        have p_ad_3_0 : pt L_87221 f_87232 (ad 3 0) (.inl (G.2 0, 2916, .inl g_87233)) := p_ad_3_0
        have o_87235 : (XS gB fr gp gc (7 : Int32).toInt.toNat opn true cmp t0 v_87216 pd op9 cg) g_87233 := (XV_num o_87234 rfl (Or.inl rfl) e13_87217 B_87212)
        have I := I.castS (sp' := spM PA PI (XS gB fr gp gc (7 : Int32).toInt.toNat opn true cmp t0 v_87216 pd op9 cg) pa) (k := 3) (j := 0) (by decide) p_ad_3_0 (okE_a (g := g_87233) o_87235) pXC
        refine cVv (As := [.int 7]) (rest := []) S Y (x_X12_settle (l := l) I p_ad_0_0 p_ad_5_0 p_ad_6_0 (bn_w (show bn 7 7 (7 : Int32) from bn_k (by decide)) (by decide)) (by have c0 := e13_87217; have c1 := eT_87229.1; have c2 := eP_87230; have c3 := hroom; have c4 := (hT.2 (show ¬ tk = 0 from by rw [c_86987]; decide)); have c5 := bfe_8.2; have c6 := bfe_7.2; omega)) cw_X12_settle km12_181 p_ad_0_0 ok_X12.1 rfl rfl ⟨Nat.le_of_ble_eq_true rfl, Nat.le_of_ble_eq_true rfl⟩ hl.1 rfl (Nat.le_of_ble_eq_true rfl) ⟨Nat.le_of_ble_eq_true rfl, Nat.le_of_ble_eq_true rfl⟩ dX12_beginOne_97 (fun L_87236 f_87237 H locs hr_87238 Y => ?_)
        obtain ⟨v_87239, v_87240, v_87241, I, p_ad_0_0, p_ad_5_0, p_ad_6_0, es1_87242, es2_87243, es3_87244⟩ := hr_87238
        obtain ⟨bfc87244_4, bfc87244_7, bfc87244_8, bfc87244_12, bfc87244_13, bfc87244_17, bfc87244_18, bfc87244_19, bfc87244_20, bfc87244_25⟩ := obM I p_ad_0_0
        obtain ⟨g_87246, p_ad_3_0, o_87247⟩ := I.opi (k := 3) (j := 0) (by decide) rfl
        have p_ad_3_0 : pt L_87236 f_87237 (ad 3 0) (.inl (G.2 0, 2916, .inl g_87246)) := p_ad_3_0
        have o_87248 : (XR 0 gB fr gp gc t0 v_87239 v_87240 v_87241 cg 1) g_87246 := (XR_t (XS_end5 o_87247 (by decide) es2_87243))
        have I := I.castS (sp' := spM PA PI (XR 0 gB fr gp gc t0 v_87239 v_87240 v_87241 cg 1) pa) (k := 3) (j := 0) (by decide) p_ad_3_0 (okE_a (g := g_87246) o_87248) pXC
        refine lv_iconst (v := 0) hx hb dX12_beginOne_100 (by decide) ?_
        exact prI (post := fun r L1 f1 => ∃ at92 : Int32, ∃ ps92 : Int32, ∃ tk2 : Int32, ∃ nu2 : Int32, ∃ wd2 : Int64, ∃ wr2 : Int32, ∃ pd2 : Int32, ∃ op92 : Int32, ∃ cg2 : Int32, ∃ iw2 : Int32, ∃ gp2 : Nat → Int32, ∃ gc2 : Nat → Int32, bn 0 5 r ∧ SH (spM PA PI (XR r gB fr gp2 gc2 t0 wr2 pd2 op92 cg2 iw2) pa) nnM G ad L1 f1 ∧ pt L1 f1 (ad 0 0) (.inr (12, [.ref (ad 1 0), .ref (ad 2 0), .ref (ad 3 0), .ref (ad 4 0), .int td, .int fa, .int fp, .int at92, .int ps92, .int tk2, .int nu2, .long wd2, .int t0, .int wr2, .int so, .ref (ad 5 0), .ref (ad 6 0), .int pd2, .int op92, .int cg2, .int iw2, .int on9, .ref (ad 7 0), .ref (ad 8 0), .ref (ad 9 0), .int is9, .ref (ad 10 0), .ref (ad 11 0), .ref (ad 12 0), .ref (ad 13 0), .int se, .ref (ad 14 0)])) ∧ pt L1 f1 (ad 5 0) (.inl (G.2 0, 160, .inl gp2)) ∧ pt L1 f1 (ad 6 0) (.inl (G.2 0, 9, .inl gc2)) ∧ TK at92 ps92 tk2 ∧ (r.toInt = 0 → ps9.toInt + 1 ≤ ps92.toInt) ∧ (r.toInt ≤ 0 → wr2.toInt + pd2.toInt ≤ ps92.toInt) ∧ (r.toInt < 0 → iw2 = 1) ∧ (r.toInt ≤ 0 → ps9.toInt ≤ ps92.toInt)) S Y rfl (by decide) (by decide) hA1 ⟨v_87224, v_87225, v_87226, v_87227, v_87228, v_87239, v_87240, v_87241, cg, 1, gp, gc, bn_w (show bn 0 0 (0 : Int32) from bn_k (by decide)) (by decide), I, p_ad_0_0, p_ad_5_0, p_ad_6_0, eT_87229, (fun _ => (by have c0 := e13_87217; have c1 := eT_87229.1; have c2 := eP_87230; have c3 := es1_87242; have c4 := es3_87244; have c5 := hroom; have c6 := (hT.2 (show ¬ tk = 0 from by rw [c_86987]; decide)); omega)), (fun _ => (by have c0 := e13_87217; have c1 := eT_87229.1; have c2 := eP_87230; have c3 := es1_87242; have c4 := es3_87244; have c5 := hroom; have c6 := (hT.2 (show ¬ tk = 0 from by rw [c_86987]; decide)); omega)), (fun h => absurd h (by decide)), (fun _ => (by have c0 := e13_87217; have c1 := eT_87229.1; have c2 := eP_87230; have c3 := es1_87242; have c4 := es3_87244; have c5 := hroom; have c6 := (hT.2 (show ¬ tk = 0 from by rw [c_86987]; decide)); omega))⟩ dX12_beginOne_101
      · have B_87211 : bn 5 9 r_87208 := bn_w (bn_gtl c_87209 er_87208.1 (show bn 4 4 (4 : Int32) from bn_k (by decide))) (by decide)
        refine lv_aload_n hx hb dX12_beginOne_30 rfl (lv_at hl 1 rfl) ?_
        refine pg_get S Y ok_X12 14 (by decide) kf12_175 (v := .int so) p_ad_0_0 rfl dX12_beginOne_31 ?_
        refine lv_iconst (v := 2) hx hb dX12_beginOne_34 (by decide) ?_
        refine lv_icmp_ne (tgt := 40) hx hb dX12_beginOne_35 (by decide) (fun c_87249 => ?_) (fun c_87249 => ?_)
        · refine lv_aload_n hx hb dX12_beginOne_40 rfl (lv_at hl 1 rfl) ?_
          refine pg_get S Y ok_X12 9 (by decide) kf12_98 (v := .int tk) p_ad_0_0 rfl dX12_beginOne_41 ?_
          refine lv_iconst (v := 1) hx hb dX12_beginOne_44 (by decide) ?_
          refine lv_icmp_eq (tgt := 52) hx hb dX12_beginOne_45 (by decide) (fun _ => ?_) (fun h => absurd c_86987 h)
          refine lv_aload_n hx hb dX12_beginOne_52 rfl (lv_at hl 1 rfl) ?_
          refine lv_aload_n hx hb dX12_beginOne_53 rfl (lv_at hl 1 rfl) ?_
          refine pg_get S Y ok_X12 9 (by decide) kf12_98 (v := .int tk) p_ad_0_0 rfl dX12_beginOne_54 ?_
          refine lv_iconst (v := 1) hx hb dX12_beginOne_57 (by decide) ?_
          refine lv_icmp_ne (tgt := 65) hx hb dX12_beginOne_58 (by decide) (fun h => absurd c_86987 h) (fun _ => ?_)
          refine lv_iconst (v := 0) hx hb dX12_beginOne_61 (by decide) ?_
          refine lv_goto (tgt := 66) hx hb dX12_beginOne_62 (by decide) ?_
          refine lv_aload_n hx hb dX12_beginOne_66 rfl (lv_at hl 1 rfl) ?_
          refine pg_get S Y ok_X12 9 (by decide) kf12_98 (v := .int tk) p_ad_0_0 rfl dX12_beginOne_67 ?_
          refine lv_iconst (v := 1) hx hb dX12_beginOne_70 (by decide) ?_
          refine lv_icmp_ne (tgt := 81) hx hb dX12_beginOne_71 (by decide) (fun h => absurd c_86987 h) (fun _ => ?_)
          refine lv_aload_n hx hb dX12_beginOne_74 rfl (lv_at hl 1 rfl) ?_
          refine pg_get S Y ok_X12 10 (by decide) kf12_104 (v := .int nu) p_ad_0_0 rfl dX12_beginOne_75 ?_
          refine lv_goto (tgt := 82) hx hb dX12_beginOne_78 (by decide) ?_
          have B_87251 : bn 0 299 wr := ⟨bfe_13.1, by have z9 := hT.2 (show ¬ tk = 0 from by rw [c_86987]; decide); have z8 := bfe_7.2; have z7 := bfe_17.1; omega⟩
          refine cVv (As := [.int 0, .int nu]) (rest := []) S Y (x_X12_emit (l := l) I p_ad_0_0 p_ad_5_0 p_ad_6_0 (bn_w B_87251 (by decide))) cw_X12_emit km12_148 p_ad_0_0 ok_X12.1 rfl rfl ⟨Nat.le_of_ble_eq_true rfl, Nat.le_of_ble_eq_true rfl⟩ hl.1 rfl (Nat.le_of_ble_eq_true rfl) ⟨Nat.le_of_ble_eq_true rfl, Nat.le_of_ble_eq_true rfl⟩ dX12_beginOne_82 (fun L_87252 f_87253 H locs hr_87254 Y => ?_)
          obtain ⟨v_87255, I, p_ad_0_0, p_ad_5_0, p_ad_6_0, e13_87256⟩ := hr_87254
          obtain ⟨bfc87256_4, bfc87256_7, bfc87256_8, bfc87256_12, bfc87256_13, bfc87256_17, bfc87256_18, bfc87256_19, bfc87256_20, bfc87256_25⟩ := obM I p_ad_0_0
          refine lv_aload_n hx hb dX12_beginOne_85 rfl (lv_at hl 1 rfl) ?_
          obtain ⟨g_87258, p_ad_4_0, o_87259⟩ := I.opi (k := 4) (j := 0) (by decide) rfl
          have p_ad_4_0 : pt L_87252 f_87253 (ad 4 0) (.inl (G.2 0, 300, .inl g_87258)) := p_ad_4_0
          refine cVv (As := []) (rest := []) S Y (x_X12_nextToken (l := l) I p_ad_0_0 p_ad_4_0 p_ad_5_0 p_ad_6_0) cw_X12_nextToken km12_166 p_ad_0_0 ok_X12.1 rfl rfl ⟨Nat.le_of_ble_eq_true rfl, Nat.le_of_ble_eq_true rfl⟩ hl.1 rfl (Nat.le_of_ble_eq_true rfl) ⟨Nat.le_of_ble_eq_true rfl, Nat.le_of_ble_eq_true rfl⟩ dX12_beginOne_86 (fun L_87260 f_87261 H locs hr_87262 Y => ?_)
          obtain ⟨v_87263, v_87264, v_87265, v_87266, v_87267, I, p_ad_0_0, p_ad_4_0, p_ad_5_0, p_ad_6_0, eT_87268, eP_87269⟩ := hr_87262
          obtain ⟨bfc87269_4, bfc87269_7, bfc87269_8, bfc87269_12, bfc87269_13, bfc87269_17, bfc87269_18, bfc87269_19, bfc87269_20, bfc87269_25⟩ := obM I p_ad_0_0
          refine lv_aload_n hx hb dX12_beginOne_89 rfl (lv_at hl 1 rfl) ?_
          refine lv_iconst (v := 1) hx hb dX12_beginOne_90 (by decide) ?_
          refine pg_put S Y ok_X12 20 (by decide) kf12_178 rfl (fs' := [.ref (ad 1 0), .ref (ad 2 0), .ref (ad 3 0), .ref (ad 4 0), .int td, .int fa, .int fp, .int v_87263, .int v_87264, .int v_87265, .int v_87266, .long v_87267, .int t0, .int v_87255, .int so, .ref (ad 5 0), .ref (ad 6 0), .int pd, .int op9, .int cg, .int 1, .int on9, .ref (ad 7 0), .ref (ad 8 0), .ref (ad 9 0), .int is9, .ref (ad 10 0), .ref (ad 11 0), .ref (ad 12 0), .ref (ad 13 0), .int se, .ref (ad 14 0)]) (v := .int 1) p_ad_0_0 rfl rfl rfl (Nat.le_of_ble_eq_true rfl) dX12_beginOne_91 (fun f_87271 H locs ef_87271 Y => ?_)
          have p_ad_4_0 := p_ad_4_0.up ef_87271 (I.ne (k := 4) (j := 0) (k' := 0) (j' := 0) (by decide) (by decide) (Or.inl (by decide)))
          have p_ad_5_0 := p_ad_5_0.up ef_87271 (I.ne (k := 5) (j := 0) (k' := 0) (j' := 0) (by decide) (by decide) (Or.inl (by decide)))
          have p_ad_6_0 := p_ad_6_0.up ef_87271 (I.ne (k := 6) (j := 0) (k' := 0) (j' := 0) (by decide) (by decide) (Or.inl (by decide)))
          have p_ad_0_0 := p_ad_0_0.me ef_87271
          have I := I.up (k := 0) (j := 0) (by decide) ef_87271 (okE_o (okFs_c okV_r (okFs_c okV_r (okFs_c okV_r (okFs_c okV_r (okFs_c (okV_i bfc87269_4) (okFs_c (okV_i (bn_any _)) (okFs_c (okV_i (bn_any _)) (okFs_c (okV_i bfc87269_7) (okFs_c (okV_i bfc87269_8) (okFs_c (okV_i (bn_any _)) (okFs_c (okV_i (bn_any _)) (okFs_c okV_l (okFs_c (okV_i bfc87269_12) (okFs_c (okV_i bfc87269_13) (okFs_c (okV_i (bn_any _)) (okFs_c okV_r (okFs_c okV_r (okFs_c (okV_i bfc87269_17) (okFs_c (okV_i bfc87269_18) (okFs_c (okV_i bfc87269_19) (okFs_c (okV_i (bn_w (show bn 1 1 (1 : Int32) from bn_k (by decide)) (by decide))) (okFs_c (okV_i (bn_any _)) (okFs_c okV_r (okFs_c okV_r (okFs_c okV_r (okFs_c (okV_i bfc87269_25) (okFs_c okV_r (okFs_c okV_r (okFs_c okV_r (okFs_c okV_r (okFs_c (okV_i (bn_any _)) (okFs_c okV_r okFs_n)))))))))))))))))))))))))))))))))
          refine lv_aload_n hx hb dX12_beginOne_94 rfl (lv_at hl 1 rfl) ?_
          refine lv_bipush (v := 7) hx hb dX12_beginOne_95 (by decide) ?_
          obtain ⟨g_87272, p_ad_3_0, o_87273⟩ := I.opi (k := 3) (j := 0) (by decide) rfl
          have p_ad_3_0 : pt L_87260 f_87271 (ad 3 0) (.inl (G.2 0, 2916, .inl g_87272)) := p_ad_3_0
          have o_87274 : (XS gB fr gp gc (7 : Int32).toInt.toNat opn true cmp t0 v_87255 pd op9 cg) g_87272 := (XV_num o_87273 rfl (Or.inl rfl) e13_87256 B_87251)
          have I := I.castS (sp' := spM PA PI (XS gB fr gp gc (7 : Int32).toInt.toNat opn true cmp t0 v_87255 pd op9 cg) pa) (k := 3) (j := 0) (by decide) p_ad_3_0 (okE_a (g := g_87272) o_87274) pXC
          refine cVv (As := [.int 7]) (rest := []) S Y (x_X12_settle (l := l) I p_ad_0_0 p_ad_5_0 p_ad_6_0 (bn_w (show bn 7 7 (7 : Int32) from bn_k (by decide)) (by decide)) (by have c0 := e13_87256; have c1 := eT_87268.1; have c2 := eP_87269; have c3 := hroom; have c4 := (hT.2 (show ¬ tk = 0 from by rw [c_86987]; decide)); have c5 := bfe_8.2; have c6 := bfe_7.2; omega)) cw_X12_settle km12_181 p_ad_0_0 ok_X12.1 rfl rfl ⟨Nat.le_of_ble_eq_true rfl, Nat.le_of_ble_eq_true rfl⟩ hl.1 rfl (Nat.le_of_ble_eq_true rfl) ⟨Nat.le_of_ble_eq_true rfl, Nat.le_of_ble_eq_true rfl⟩ dX12_beginOne_97 (fun L_87275 f_87276 H locs hr_87277 Y => ?_)
          obtain ⟨v_87278, v_87279, v_87280, I, p_ad_0_0, p_ad_5_0, p_ad_6_0, es1_87281, es2_87282, es3_87283⟩ := hr_87277
          obtain ⟨bfc87283_4, bfc87283_7, bfc87283_8, bfc87283_12, bfc87283_13, bfc87283_17, bfc87283_18, bfc87283_19, bfc87283_20, bfc87283_25⟩ := obM I p_ad_0_0
          obtain ⟨g_87285, p_ad_3_0, o_87286⟩ := I.opi (k := 3) (j := 0) (by decide) rfl
          have p_ad_3_0 : pt L_87275 f_87276 (ad 3 0) (.inl (G.2 0, 2916, .inl g_87285)) := p_ad_3_0
          have o_87287 : (XR 0 gB fr gp gc t0 v_87278 v_87279 v_87280 cg 1) g_87285 := (XR_t (XS_end5 o_87286 (by decide) es2_87282))
          have I := I.castS (sp' := spM PA PI (XR 0 gB fr gp gc t0 v_87278 v_87279 v_87280 cg 1) pa) (k := 3) (j := 0) (by decide) p_ad_3_0 (okE_a (g := g_87285) o_87287) pXC
          refine lv_iconst (v := 0) hx hb dX12_beginOne_100 (by decide) ?_
          exact prI (post := fun r L1 f1 => ∃ at92 : Int32, ∃ ps92 : Int32, ∃ tk2 : Int32, ∃ nu2 : Int32, ∃ wd2 : Int64, ∃ wr2 : Int32, ∃ pd2 : Int32, ∃ op92 : Int32, ∃ cg2 : Int32, ∃ iw2 : Int32, ∃ gp2 : Nat → Int32, ∃ gc2 : Nat → Int32, bn 0 5 r ∧ SH (spM PA PI (XR r gB fr gp2 gc2 t0 wr2 pd2 op92 cg2 iw2) pa) nnM G ad L1 f1 ∧ pt L1 f1 (ad 0 0) (.inr (12, [.ref (ad 1 0), .ref (ad 2 0), .ref (ad 3 0), .ref (ad 4 0), .int td, .int fa, .int fp, .int at92, .int ps92, .int tk2, .int nu2, .long wd2, .int t0, .int wr2, .int so, .ref (ad 5 0), .ref (ad 6 0), .int pd2, .int op92, .int cg2, .int iw2, .int on9, .ref (ad 7 0), .ref (ad 8 0), .ref (ad 9 0), .int is9, .ref (ad 10 0), .ref (ad 11 0), .ref (ad 12 0), .ref (ad 13 0), .int se, .ref (ad 14 0)])) ∧ pt L1 f1 (ad 5 0) (.inl (G.2 0, 160, .inl gp2)) ∧ pt L1 f1 (ad 6 0) (.inl (G.2 0, 9, .inl gc2)) ∧ TK at92 ps92 tk2 ∧ (r.toInt = 0 → ps9.toInt + 1 ≤ ps92.toInt) ∧ (r.toInt ≤ 0 → wr2.toInt + pd2.toInt ≤ ps92.toInt) ∧ (r.toInt < 0 → iw2 = 1) ∧ (r.toInt ≤ 0 → ps9.toInt ≤ ps92.toInt)) S Y rfl (by decide) (by decide) hA1 ⟨v_87263, v_87264, v_87265, v_87266, v_87267, v_87278, v_87279, v_87280, cg, 1, gp, gc, bn_w (show bn 0 0 (0 : Int32) from bn_k (by decide)) (by decide), I, p_ad_0_0, p_ad_5_0, p_ad_6_0, eT_87268, (fun _ => (by have c0 := e13_87256; have c1 := eT_87268.1; have c2 := eP_87269; have c3 := es1_87281; have c4 := es3_87283; have c5 := hroom; have c6 := (hT.2 (show ¬ tk = 0 from by rw [c_86987]; decide)); omega)), (fun _ => (by have c0 := e13_87256; have c1 := eT_87268.1; have c2 := eP_87269; have c3 := es1_87281; have c4 := es3_87283; have c5 := hroom; have c6 := (hT.2 (show ¬ tk = 0 from by rw [c_86987]; decide)); omega)), (fun h => absurd h (by decide)), (fun _ => (by have c0 := e13_87256; have c1 := eT_87268.1; have c2 := eP_87269; have c3 := es1_87281; have c4 := es3_87283; have c5 := hroom; have c6 := (hT.2 (show ¬ tk = 0 from by rw [c_86987]; decide)); omega))⟩ dX12_beginOne_101
        · have B_87250 : bn 2 2 so := bn_w (bn_eq c_87249 (show bn 2 2 (2 : Int32) from bn_k (by decide))) (by decide)
          have o_87288 : (XR 5 gB fr gp gc t0 wr pd op9 cg iw) g_86983 := (XR_no o_86986.1 (by decide))
          have I := I.castS (sp' := spM PA PI (XR 5 gB fr gp gc t0 wr pd op9 cg iw) pa) (k := 3) (j := 0) (by decide) p_ad_3_0 (okE_a (g := g_86983) o_87288) pXC
          refine lv_iconst (v := 5) hx hb dX12_beginOne_38 (by decide) ?_
          exact prI (post := fun r L1 f1 => ∃ at92 : Int32, ∃ ps92 : Int32, ∃ tk2 : Int32, ∃ nu2 : Int32, ∃ wd2 : Int64, ∃ wr2 : Int32, ∃ pd2 : Int32, ∃ op92 : Int32, ∃ cg2 : Int32, ∃ iw2 : Int32, ∃ gp2 : Nat → Int32, ∃ gc2 : Nat → Int32, bn 0 5 r ∧ SH (spM PA PI (XR r gB fr gp2 gc2 t0 wr2 pd2 op92 cg2 iw2) pa) nnM G ad L1 f1 ∧ pt L1 f1 (ad 0 0) (.inr (12, [.ref (ad 1 0), .ref (ad 2 0), .ref (ad 3 0), .ref (ad 4 0), .int td, .int fa, .int fp, .int at92, .int ps92, .int tk2, .int nu2, .long wd2, .int t0, .int wr2, .int so, .ref (ad 5 0), .ref (ad 6 0), .int pd2, .int op92, .int cg2, .int iw2, .int on9, .ref (ad 7 0), .ref (ad 8 0), .ref (ad 9 0), .int is9, .ref (ad 10 0), .ref (ad 11 0), .ref (ad 12 0), .ref (ad 13 0), .int se, .ref (ad 14 0)])) ∧ pt L1 f1 (ad 5 0) (.inl (G.2 0, 160, .inl gp2)) ∧ pt L1 f1 (ad 6 0) (.inl (G.2 0, 9, .inl gc2)) ∧ TK at92 ps92 tk2 ∧ (r.toInt = 0 → ps9.toInt + 1 ≤ ps92.toInt) ∧ (r.toInt ≤ 0 → wr2.toInt + pd2.toInt ≤ ps92.toInt) ∧ (r.toInt < 0 → iw2 = 1) ∧ (r.toInt ≤ 0 → ps9.toInt ≤ ps92.toInt)) S Y rfl (by decide) (by decide) hA1 ⟨at9, ps9, tk, nu, wd, wr, pd, op9, cg, iw, gp, gc, bn_w (show bn 5 5 (5 : Int32) from bn_k (by decide)) (by decide), I, p_ad_0_0, p_ad_5_0, p_ad_6_0, hT, (fun h => absurd h (by decide)), (fun h => absurd h (by decide)), (fun h => absurd h (by decide)), (fun h => absurd h (by decide))⟩ dX12_beginOne_39
    · have B_87207 : bn 10000 2147483647 nu := bn_w (bn_gtl c_87205 (bn_any nu) (show bn 9999 9999 (9999 : Int32) from bn_k (by decide))) (by decide)
      have o_87289 : (XR 2 gB fr gp gc t0 wr pd op9 cg iw) g_86983 := (XR_no o_86986.1 (by decide))
      have I := I.castS (sp' := spM PA PI (XR 2 gB fr gp gc t0 wr pd op9 cg iw) pa) (k := 3) (j := 0) (by decide) p_ad_3_0 (okE_a (g := g_86983) o_87289) pXC
      refine lv_iconst (v := 2) hx hb dX12_beginOne_18 (by decide) ?_
      exact prI (post := fun r L1 f1 => ∃ at92 : Int32, ∃ ps92 : Int32, ∃ tk2 : Int32, ∃ nu2 : Int32, ∃ wd2 : Int64, ∃ wr2 : Int32, ∃ pd2 : Int32, ∃ op92 : Int32, ∃ cg2 : Int32, ∃ iw2 : Int32, ∃ gp2 : Nat → Int32, ∃ gc2 : Nat → Int32, bn 0 5 r ∧ SH (spM PA PI (XR r gB fr gp2 gc2 t0 wr2 pd2 op92 cg2 iw2) pa) nnM G ad L1 f1 ∧ pt L1 f1 (ad 0 0) (.inr (12, [.ref (ad 1 0), .ref (ad 2 0), .ref (ad 3 0), .ref (ad 4 0), .int td, .int fa, .int fp, .int at92, .int ps92, .int tk2, .int nu2, .long wd2, .int t0, .int wr2, .int so, .ref (ad 5 0), .ref (ad 6 0), .int pd2, .int op92, .int cg2, .int iw2, .int on9, .ref (ad 7 0), .ref (ad 8 0), .ref (ad 9 0), .int is9, .ref (ad 10 0), .ref (ad 11 0), .ref (ad 12 0), .ref (ad 13 0), .int se, .ref (ad 14 0)])) ∧ pt L1 f1 (ad 5 0) (.inl (G.2 0, 160, .inl gp2)) ∧ pt L1 f1 (ad 6 0) (.inl (G.2 0, 9, .inl gc2)) ∧ TK at92 ps92 tk2 ∧ (r.toInt = 0 → ps9.toInt + 1 ≤ ps92.toInt) ∧ (r.toInt ≤ 0 → wr2.toInt + pd2.toInt ≤ ps92.toInt) ∧ (r.toInt < 0 → iw2 = 1) ∧ (r.toInt ≤ 0 → ps9.toInt ≤ ps92.toInt)) S Y rfl (by decide) (by decide) hA1 ⟨at9, ps9, tk, nu, wd, wr, pd, op9, cg, iw, gp, gc, bn_w (show bn 2 2 (2 : Int32) from bn_k (by decide)) (by decide), I, p_ad_0_0, p_ad_5_0, p_ad_6_0, hT, (fun h => absurd h (by decide)), (fun h => absurd h (by decide)), (fun h => absurd h (by decide)), (fun h => absurd h (by decide))⟩ dX12_beginOne_19
theorem bt_l {gp : Nat → Int32} {pd tk o r : Int32} (h : BTW gp pd tk o) (h0 : bn 0 22 o) (e : r.toInt = (rk o.toInt : Int)) : bn 1 7 r := by
  obtain ⟨q1, q2⟩ := h0
  have k7 : rk o.toInt ≤ 7 := by
    have := rk_bn e
    have := this.2
    omega
  have k1 : 1 ≤ rk o.toInt := by
    rcases Nat.eq_zero_or_pos (rk o.toInt) with z | z
    · have := rk_z z; omega
    · exact z
  exact ⟨by omega, by omega⟩
theorem bt_tk {gp : Nat → Int32} {pd tk o : Int32} (h : BTW gp pd tk o) (h0 : bn 0 22 o) : ¬ tk = 0 := by
  rcases h with h | h
  · have := h0.1; rw [h] at this; exact absurd this (by decide)
  · exact h.1
section PQR
variable {gp gc ga : Nat → Int32} {pd tk o r cg y y6 v0 v6 x : Int32} {opn : Int} {cmp : Bool} {X : Prop}
theorem prt_q (h : PRT gp pd tk o r) (n0 : ¬ r = 0) (n44 : ¬ r = 44) (h0 : bn 0 44 r) (e1 : o.toInt = opn) (e2 : cmkP gp pd = cmp) : (r.toInt = 42 ∧ opn = 41 ∧ cmp = true ∧ gc = gc) ∨ (r.toInt = 43 ∧ opn = 42 ∧ gc = gc) ∨ X := by
  rcases h with h | ⟨_, h⟩
  · have := h0.1; rw [h] at this; exact absurd this (by decide)
  · rcases h with ⟨h, _⟩ | ⟨rfl, rfl, h⟩ | ⟨rfl, rfl⟩ | ⟨h, _⟩
    · exact absurd h n0
    · exact Or.inl ⟨rfl, e1.symm.trans rfl, e2.symm.trans h, rfl⟩
    · exact Or.inr (Or.inl ⟨rfl, e1.symm.trans rfl, rfl⟩)
    · exact absurd h n44
theorem prt_j {Y Z : Prop} (h : PRT gp pd tk o r) (h44 : r = 44) (e1 : opn = 44) (e2 : cmkP gp pd = cmp) (hc : 1 ≤ cg.toInt ∧ 1 ≤ (gc (cg.toInt.toNat - 1)).toInt ∧ (gc (cg.toInt.toNat - 1)).toInt ≤ 6) (ey : y.toInt = cg.toInt - 1) (ey6 : y6.toInt = cg.toInt - 1) (e6 : v6 = gc y6.toNatClampNeg) (n6 : ¬ v6 = 6) (ev : v0 = gc y.toNatClampNeg) (ex : x = v0 + 1) (eg : ga = upd gc y.toNatClampNeg x) : Y ∨ Z ∨ (r.toInt = 44 ∧ opn = 44 ∧ cmp = true ∧ 1 ≤ cg.toInt ∧ y.toInt = cg.toInt - 1 ∧ ¬ (gc y.toNatClampNeg).toInt = 6 ∧ ga = upd gc y.toNatClampNeg x ∧ x.toInt = (gc y.toNatClampNeg).toInt + 1) := by
  have i1 : y.toNatClampNeg = cg.toInt.toNat - 1 := by rw [tnc]; omega
  have i2 : y6.toNatClampNeg = y.toNatClampNeg := by rw [tnc, tnc]; omega
  have hcm : cmp = true := by
    subst h44
    rcases h with h | ⟨_, h⟩
    · exact absurd h (by decide)
    · rcases h with ⟨h, _⟩ | ⟨h, _⟩ | ⟨h, _⟩ | ⟨_, _, h⟩
      · exact absurd h (by decide)
      · exact absurd h (by decide)
      · exact absurd h (by decide)
      · exact e2.symm.trans h
  refine Or.inr (Or.inr ⟨by rw [h44]; rfl, e1, hcm, hc.1, ey, fun q => n6 ?_, eg, ?_⟩)
  · rw [e6, i2]; exact Int32.toInt_inj.mp (q.trans rfl)
  · have b : (gc y.toNatClampNeg).toInt ≤ 6 ∧ 1 ≤ (gc y.toNatClampNeg).toInt := by rw [i1]; exact ⟨hc.2.2, hc.2.1⟩
    rw [ex, ev, ti_add (by show _ ≤ _; have k : (1 : Int32).toInt = 1 := rfl; omega) (by have k : (1 : Int32).toInt = 1 := rfl; omega)]
    rfl
end PQR
set_option maxHeartbeats 4000000 in
set_option maxRecDepth 100000 in
theorem x_X12_behindOne {l : Launch} {G : GG}  {L : List Nat} {f : HF} {ad : Nat → Nat → Nat} {pa : (Nat → Int32) → Prop} {PA : (Nat → Int32) → Prop} {PI : (Nat → Int32) → Prop} {td fa fp at9 ps9 tk nu t0 wr so pd op9 cg iw on9 is9 se : Int32} {wd : Int64} {gp gc : Nat → Int32} {gB : Nat → Int32} {fr : Nat} (I : SH (spM PA PI (XW gB fr gp gc t0 wr pd op9 cg true) pa) nnM G ad L f) (p_ad_0_0 : pt L f (ad 0 0) (.inr (12, [.ref (ad 1 0), .ref (ad 2 0), .ref (ad 3 0), .ref (ad 4 0), .int td, .int fa, .int fp, .int at9, .int ps9, .int tk, .int nu, .long wd, .int t0, .int wr, .int so, .ref (ad 5 0), .ref (ad 6 0), .int pd, .int op9, .int cg, .int iw, .int on9, .ref (ad 7 0), .ref (ad 8 0), .ref (ad 9 0), .int is9, .ref (ad 10 0), .ref (ad 11 0), .ref (ad 12 0), .ref (ad 13 0), .int se, .ref (ad 14 0)]))) (p_ad_5_0 : pt L f (ad 5 0) (.inl (G.2 0, 160, .inl gp))) (p_ad_6_0 : pt L f (ad 6 0) (.inl (G.2 0, 9, .inl gc))) (hiw : iw = 1) (hroom : wr.toInt + pd.toInt ≤ ps9.toInt) (hT : TK at9 ps9 tk) : PMi l yX12_behindOne cX12_behindOne 4 .int 4 0 0 G [.ref (ad 0 0)] L f (fun r L1 f1 => ∃ at92 : Int32, ∃ ps92 : Int32, ∃ tk2 : Int32, ∃ nu2 : Int32, ∃ wd2 : Int64, ∃ wr2 : Int32, ∃ pd2 : Int32, ∃ op92 : Int32, ∃ cg2 : Int32, ∃ iw2 : Int32, ∃ gp2 : Nat → Int32, ∃ gc2 : Nat → Int32, bn (-1) 7 r ∧ SH (spM PA PI (XR r gB fr gp2 gc2 t0 wr2 pd2 op92 cg2 iw2) pa) nnM G ad L1 f1 ∧ pt L1 f1 (ad 0 0) (.inr (12, [.ref (ad 1 0), .ref (ad 2 0), .ref (ad 3 0), .ref (ad 4 0), .int td, .int fa, .int fp, .int at92, .int ps92, .int tk2, .int nu2, .long wd2, .int t0, .int wr2, .int so, .ref (ad 5 0), .ref (ad 6 0), .int pd2, .int op92, .int cg2, .int iw2, .int on9, .ref (ad 7 0), .ref (ad 8 0), .ref (ad 9 0), .int is9, .ref (ad 10 0), .ref (ad 11 0), .ref (ad 12 0), .ref (ad 13 0), .int se, .ref (ad 14 0)])) ∧ pt L1 f1 (ad 5 0) (.inl (G.2 0, 160, .inl gp2)) ∧ pt L1 f1 (ad 6 0) (.inl (G.2 0, 9, .inl gc2)) ∧ TK at92 ps92 tk2 ∧ (r.toInt = 0 → ps9.toInt + 1 ≤ ps92.toInt) ∧ (r.toInt ≤ 0 → wr2.toInt + pd2.toInt ≤ ps92.toInt) ∧ (r.toInt < 0 → iw2 = 1) ∧ (r.toInt ≤ 0 → ps9.toInt ≤ ps92.toInt)) := by
  refine PMi.of (post := fun r L1 f1 => ∃ at92 : Int32, ∃ ps92 : Int32, ∃ tk2 : Int32, ∃ nu2 : Int32, ∃ wd2 : Int64, ∃ wr2 : Int32, ∃ pd2 : Int32, ∃ op92 : Int32, ∃ cg2 : Int32, ∃ iw2 : Int32, ∃ gp2 : Nat → Int32, ∃ gc2 : Nat → Int32, bn (-1) 7 r ∧ SH (spM PA PI (XR r gB fr gp2 gc2 t0 wr2 pd2 op92 cg2 iw2) pa) nnM G ad L1 f1 ∧ pt L1 f1 (ad 0 0) (.inr (12, [.ref (ad 1 0), .ref (ad 2 0), .ref (ad 3 0), .ref (ad 4 0), .int td, .int fa, .int fp, .int at92, .int ps92, .int tk2, .int nu2, .long wd2, .int t0, .int wr2, .int so, .ref (ad 5 0), .ref (ad 6 0), .int pd2, .int op92, .int cg2, .int iw2, .int on9, .ref (ad 7 0), .ref (ad 8 0), .ref (ad 9 0), .int is9, .ref (ad 10 0), .ref (ad 11 0), .ref (ad 12 0), .ref (ad 13 0), .int se, .ref (ad 14 0)])) ∧ pt L1 f1 (ad 5 0) (.inl (G.2 0, 160, .inl gp2)) ∧ pt L1 f1 (ad 6 0) (.inl (G.2 0, 9, .inl gc2)) ∧ TK at92 ps92 tk2 ∧ (r.toInt = 0 → ps9.toInt + 1 ≤ ps92.toInt) ∧ (r.toInt ≤ 0 → wr2.toInt + pd2.toInt ≤ ps92.toInt) ∧ (r.toInt < 0 → iw2 = 1) ∧ (r.toInt ≤ 0 → ps9.toInt ≤ ps92.toInt)) (own := RX12) (by decide) rfl (Nat.le_of_ble_eq_true rfl) (fun sz p e s m args below meth c A ls hA1 hname S Y hl => ?_)
  have hx := S.hx
  have hb := S.hb
  have hl : lv_has ls 4 [(0, .ref (ad 0 0))] := hl
  obtain ⟨bfe_4, bfe_7, bfe_8, bfe_12, bfe_13, bfe_17, bfe_18, bfe_19, bfe_20, bfe_25⟩ := obM I p_ad_0_0
  obtain ⟨g_87688, p_ad_3_0, o_87689⟩ := I.opi (k := 3) (j := 0) (by decide) rfl
  have p_ad_3_0 : pt L f (ad 3 0) (.inl (G.2 0, 2916, .inl g_87688)) := p_ad_3_0
  obtain ⟨opn, cmp, hv⟩ := o_87689
  have hI := XV_info hv bfe_18 bfe_19 bfe_17
  have B_87690 : bn 0 53 pd := ⟨bfe_17.1, by have z9 := hI.2.2.1; have z8 := bfe_18.2; omega⟩
  have o_87691 : (XV gB fr gp gc opn cmp t0 wr pd op9 cg true) g_87688 := hv
  have I := I.castS (sp' := spM PA PI (XV gB fr gp gc opn cmp t0 wr pd op9 cg true) pa) (k := 3) (j := 0) (by decide) p_ad_3_0 (okE_a (g := g_87688) o_87691) pXC
  refine lv_aload_n hx hb dX12_behindOne_0 rfl (lv_at hl 0 rfl) ?_
  refine cVp (As := []) (rest := []) S Y (x_X12_betweenOf (l := l) I p_ad_0_0 p_ad_5_0) cw_X12_betweenOf km12_200 p_ad_0_0 ok_X12.1 rfl rfl ⟨Nat.le_of_ble_eq_true rfl, Nat.le_of_ble_eq_true rfl⟩ hl.1 rfl (Nat.le_of_ble_eq_true rfl) ⟨Nat.le_of_ble_eq_true rfl, Nat.le_of_ble_eq_true rfl⟩ dX12_behindOne_1 (fun r_87692 H locs er_87692 Y => ?_)
  refine lv_istore_n (lv' := [(1, .int r_87692), (0, .ref (ad 0 0))]) hx hb dX12_behindOne_4 rfl hl (by decide) rfl (fun ls hl => ?_)
  refine lv_iload_n hx hb dX12_behindOne_5 rfl (lv_at hl 0 rfl) ?_
  refine lv_if_lt (tgt := 60) hx hb dX12_behindOne_6 (by decide) (fun c_87693 => ?_) (fun c_87693 => ?_)
  · have B_87694 : bn (-1) (-1) r_87692 := bn_w (bn_ltl c_87693 er_87692.1 (show bn 0 0 (0 : Int32) from bn_k (by decide))) (by decide)
    refine lv_aload_n hx hb dX12_behindOne_60 rfl (lv_at hl 1 rfl) ?_
    refine cVp (As := []) (rest := []) S Y (x_X12_openNow (l := l) I p_ad_0_0 p_ad_5_0) cw_X12_openNow km12_159 p_ad_0_0 ok_X12.1 rfl rfl ⟨Nat.le_of_ble_eq_true rfl, Nat.le_of_ble_eq_true rfl⟩ hl.1 rfl (Nat.le_of_ble_eq_true rfl) ⟨Nat.le_of_ble_eq_true rfl, Nat.le_of_ble_eq_true rfl⟩ dX12_behindOne_61 (fun r_87696 H locs er_87696 Y => ?_)
    refine lv_istore_n (lv' := [(2, .int r_87696), (1, .int r_87692), (0, .ref (ad 0 0))]) hx hb dX12_behindOne_64 rfl hl (by decide) rfl (fun ls hl => ?_)
    refine lv_aload_n hx hb dX12_behindOne_65 rfl (lv_at hl 2 rfl) ?_
    refine lv_iload_n hx hb dX12_behindOne_66 rfl (lv_at hl 0 rfl) ?_
    refine cVp (As := [.int r_87696]) (rest := []) S Y (x_X12_partOf (l := l) I p_ad_0_0 p_ad_5_0) cw_X12_partOf km12_203 p_ad_0_0 ok_X12.1 rfl rfl ⟨Nat.le_of_ble_eq_true rfl, Nat.le_of_ble_eq_true rfl⟩ hl.1 rfl (Nat.le_of_ble_eq_true rfl) ⟨Nat.le_of_ble_eq_true rfl, Nat.le_of_ble_eq_true rfl⟩ dX12_behindOne_67 (fun r_87697 H locs er_87697 Y => ?_)
    refine lv_istore_n (lv' := [(3, .int r_87697), (2, .int r_87696), (1, .int r_87692), (0, .ref (ad 0 0))]) hx hb dX12_behindOne_70 rfl hl (by decide) rfl (fun ls hl => ?_)
    refine lv_iload_n hx hb dX12_behindOne_71 rfl (lv_at hl 0 rfl) ?_
    refine lv_if_ge (tgt := 77) hx hb dX12_behindOne_72 (by decide) (fun c_87698 => ?_) (fun c_87698 => ?_)
    · have B_87699 : bn 0 44 r_87697 := bn_w (bn_ler c_87698 (show bn 0 0 (0 : Int32) from bn_k (by decide)) er_87697.1) (by decide)
      have hpw := PRT_w er_87697.2 (bn_w B_87699 (by decide)) er_87696
      rw [show cmkP gp pd = cmp from hI.2.1, show opvP gp pd = opn from hI.1] at hpw
      have heo : r_87696.toInt = opn := er_87696.trans hI.1
      refine lv_iload_n hx hb dX12_behindOne_77 rfl (lv_at hl 0 rfl) ?_
      refine lv_bipush (v := 44) hx hb dX12_behindOne_78 (by decide) ?_
      refine lv_icmp_ne (tgt := 102) hx hb dX12_behindOne_80 (by decide) (fun c_87701 => ?_) (fun c_87701 => ?_)
      · have B_87702 : bn 0 43 r_87697 := bn_w (bn_neu c_87701 B_87699 (show bn 44 44 (44 : Int32) from bn_k (by decide))) (by decide)
        refine lv_aload_n hx hb dX12_behindOne_102 rfl (lv_at hl 3 rfl) ?_
        refine lv_iconst (v := 1) hx hb dX12_behindOne_103 (by decide) ?_
        obtain ⟨cur0, hz, hc, _⟩ := XV_SL (least := (1 : Int32).toInt.toNat) hv (Or.inr hpw.1)
        have o_87704 : (XS gB fr gp gc (1 : Int32).toInt.toNat opn cur0 cmp t0 wr pd op9 cg) g_87688 := hz
        have I := I.castS (sp' := spM PA PI (XS gB fr gp gc (1 : Int32).toInt.toNat opn cur0 cmp t0 wr pd op9 cg) pa) (k := 3) (j := 0) (by decide) p_ad_3_0 (okE_a (g := g_87688) o_87704) pXC
        refine cVv (As := [.int 1]) (rest := []) S Y (x_X12_settle (l := l) I p_ad_0_0 p_ad_5_0 p_ad_6_0 (bn_w (show bn 1 1 (1 : Int32) from bn_k (by decide)) (by decide)) (by have z9 := hroom; have z8 := bfe_8.2; omega)) cw_X12_settle km12_181 p_ad_0_0 ok_X12.1 rfl rfl ⟨Nat.le_of_ble_eq_true rfl, Nat.le_of_ble_eq_true rfl⟩ hl.1 rfl (Nat.le_of_ble_eq_true rfl) ⟨Nat.le_of_ble_eq_true rfl, Nat.le_of_ble_eq_true rfl⟩ dX12_behindOne_104 (fun L_87705 f_87706 H locs hr_87707 Y => ?_)
        obtain ⟨v_87708, v_87709, v_87710, I, p_ad_0_0, p_ad_5_0, p_ad_6_0, es1_87711, es2_87712, es3_87713⟩ := hr_87707
        obtain ⟨bfc87713_4, bfc87713_7, bfc87713_8, bfc87713_12, bfc87713_13, bfc87713_17, bfc87713_18, bfc87713_19, bfc87713_20, bfc87713_25⟩ := obM I p_ad_0_0
        obtain ⟨g_87715, p_ad_3_0, o_87716⟩ := I.opi (k := 3) (j := 0) (by decide) rfl
        have p_ad_3_0 : pt L_87705 f_87706 (ad 3 0) (.inl (G.2 0, 2916, .inl g_87715)) := p_ad_3_0
        have hTp := XS_top o_87716 hc es2_87712 hpw.2.1 (by have z9 := hI.2.2.2.2.2.1; omega)
        have hroom2 : v_87708.toInt + v_87709.toInt ≤ ps9.toInt := (by have c0 := es1_87711; have c1 := es3_87713; have c2 := hroom; omega)
        have B_87717 : bn 1 160 v_87709 := ⟨hTp.1, (bfc87713_17).2⟩
        refine lv_iload_n hx hb dX12_behindOne_107 rfl (lv_at hl 0 rfl) ?_
        refine lv_if_ne (tgt := 118) hx hb dX12_behindOne_108 (by decide) (fun c_87718 => ?_) (fun c_87718 => ?_)
        · have B_87719 : bn 1 43 r_87697 := bn_w (bn_nel c_87718 B_87702 (show bn 0 0 (0 : Int32) from bn_k (by decide))) (by decide)
          refine lv_iload_n hx hb dX12_behindOne_118 rfl (lv_at hl 0 rfl) ?_
          refine lv_bipush (v := 44) hx hb dX12_behindOne_119 (by decide) ?_
          refine lv_icmp_ne (tgt := 139) hx hb dX12_behindOne_121 (by decide) (fun _ => ?_) (fun h => absurd h c_87701)
          refine lv_aload_n hx hb dX12_behindOne_139 rfl (lv_at hl 3 rfl) ?_
          refine pg_get S Y ok_X12 15 (by decide) kf12_29 (v := .ref (ad 5 0)) p_ad_0_0 rfl dX12_behindOne_140 ?_
          refine lv_aload_n hx hb dX12_behindOne_143 rfl (lv_at hl 3 rfl) ?_
          refine cVp (As := []) (rest := [.ref (ad 5 0)]) S Y (x_X12_openAt (l := l) I p_ad_0_0 p_ad_5_0) cw_X12_openAt km12_155 p_ad_0_0 ok_X12.1 rfl rfl ⟨Nat.le_of_ble_eq_true rfl, Nat.le_of_ble_eq_true rfl⟩ hl.1 rfl (Nat.le_of_ble_eq_true rfl) ⟨Nat.le_of_ble_eq_true rfl, Nat.le_of_ble_eq_true rfl⟩ dX12_behindOne_144 (fun r_87721 H locs er_87721 Y => ?_)
          refine lv_iload_n hx hb dX12_behindOne_147 rfl (lv_at hl 0 rfl) ?_
          have B_87722 : bn 0 159 r_87721 := ⟨by have z9 := er_87721.2.trans hTp.2.2.2.1; have z8 := hTp.1; omega, er_87721.1.2⟩
          refine pg_iast S Y p_ad_5_0 (vp_bn B_87722 (by decide)) dX12_behindOne_148 (fun f_87724 H locs ef_87724 Y => ?_)
          obtain ⟨g_87723, eg_87723⟩ : ∃ z, z = upd (gp) (r_87721 : Int32).toNatClampNeg r_87697 := ⟨_, rfl⟩
          rw [← eg_87723] at ef_87724
          have p_ad_0_0 := p_ad_0_0.up ef_87724 (I.ne (k := 0) (j := 0) (k' := 5) (j' := 0) (by decide) (by decide) (Or.inl (by decide)))
          have p_ad_6_0 := p_ad_6_0.up ef_87724 (I.ne (k := 6) (j := 0) (k' := 5) (j' := 0) (by decide) (by decide) (Or.inl (by decide)))
          have p_ad_3_0 := p_ad_3_0.up ef_87724 (I.ne (k := 3) (j := 0) (k' := 5) (j' := 0) (by decide) (by decide) (Or.inl (by decide)))
          have p_ad_5_0 := p_ad_5_0.me ef_87724
          have o_87725 : True := trivial
          have I := I.up (k := 5) (j := 0) (by decide) ef_87724 (okE_a (g := g_87723) o_87725)
          refine lv_aload_n hx hb dX12_behindOne_149 rfl (lv_at hl 3 rfl) ?_
          refine lv_iconst (v := 0) hx hb dX12_behindOne_150 (by decide) ?_
          refine pg_put S Y ok_X12 20 (by decide) kf12_178 rfl (fs' := [.ref (ad 1 0), .ref (ad 2 0), .ref (ad 3 0), .ref (ad 4 0), .int td, .int fa, .int fp, .int at9, .int ps9, .int tk, .int nu, .long wd, .int t0, .int v_87708, .int so, .ref (ad 5 0), .ref (ad 6 0), .int v_87709, .int v_87710, .int cg, .int 0, .int on9, .ref (ad 7 0), .ref (ad 8 0), .ref (ad 9 0), .int is9, .ref (ad 10 0), .ref (ad 11 0), .ref (ad 12 0), .ref (ad 13 0), .int se, .ref (ad 14 0)]) (v := .int 0) p_ad_0_0 rfl rfl rfl (Nat.le_of_ble_eq_true rfl) dX12_behindOne_151 (fun f_87726 H locs ef_87726 Y => ?_)
          have p_ad_5_0 := p_ad_5_0.up ef_87726 (I.ne (k := 5) (j := 0) (k' := 0) (j' := 0) (by decide) (by decide) (Or.inl (by decide)))
          have p_ad_6_0 := p_ad_6_0.up ef_87726 (I.ne (k := 6) (j := 0) (k' := 0) (j' := 0) (by decide) (by decide) (Or.inl (by decide)))
          have p_ad_3_0 := p_ad_3_0.up ef_87726 (I.ne (k := 3) (j := 0) (k' := 0) (j' := 0) (by decide) (by decide) (Or.inl (by decide)))
          have p_ad_0_0 := p_ad_0_0.me ef_87726
          have I := I.up (k := 0) (j := 0) (by decide) ef_87726 (okE_o (okFs_c okV_r (okFs_c okV_r (okFs_c okV_r (okFs_c okV_r (okFs_c (okV_i bfc87713_4) (okFs_c (okV_i (bn_any _)) (okFs_c (okV_i (bn_any _)) (okFs_c (okV_i bfc87713_7) (okFs_c (okV_i bfc87713_8) (okFs_c (okV_i (bn_any _)) (okFs_c (okV_i (bn_any _)) (okFs_c okV_l (okFs_c (okV_i bfc87713_12) (okFs_c (okV_i bfc87713_13) (okFs_c (okV_i (bn_any _)) (okFs_c okV_r (okFs_c okV_r (okFs_c (okV_i bfc87713_17) (okFs_c (okV_i bfc87713_18) (okFs_c (okV_i bfc87713_19) (okFs_c (okV_i (bn_w (show bn 0 0 (0 : Int32) from bn_k (by decide)) (by decide))) (okFs_c (okV_i (bn_any _)) (okFs_c okV_r (okFs_c okV_r (okFs_c okV_r (okFs_c (okV_i bfc87713_25) (okFs_c okV_r (okFs_c okV_r (okFs_c okV_r (okFs_c okV_r (okFs_c (okV_i (bn_any _)) (okFs_c okV_r okFs_n)))))))))))))))))))))))))))))))))
          refine lv_aload_n hx hb dX12_behindOne_154 rfl (lv_at hl 3 rfl) ?_
          obtain ⟨g_87727, p_ad_4_0, o_87728⟩ := I.opi (k := 4) (j := 0) (by decide) rfl
          have p_ad_4_0 : pt L_87705 f_87726 (ad 4 0) (.inl (G.2 0, 300, .inl g_87727)) := p_ad_4_0
          refine cVv (As := []) (rest := []) S Y (x_X12_nextToken (l := l) I p_ad_0_0 p_ad_4_0 p_ad_5_0 p_ad_6_0) cw_X12_nextToken km12_166 p_ad_0_0 ok_X12.1 rfl rfl ⟨Nat.le_of_ble_eq_true rfl, Nat.le_of_ble_eq_true rfl⟩ hl.1 rfl (Nat.le_of_ble_eq_true rfl) ⟨Nat.le_of_ble_eq_true rfl, Nat.le_of_ble_eq_true rfl⟩ dX12_behindOne_155 (fun L_87729 f_87730 H locs hr_87731 Y => ?_)
          obtain ⟨v_87732, v_87733, v_87734, v_87735, v_87736, I, p_ad_0_0, p_ad_4_0, p_ad_5_0, p_ad_6_0, eT_87737, eP_87738⟩ := hr_87731
          obtain ⟨bfc87738_4, bfc87738_7, bfc87738_8, bfc87738_12, bfc87738_13, bfc87738_17, bfc87738_18, bfc87738_19, bfc87738_20, bfc87738_25⟩ := obM I p_ad_0_0
          obtain ⟨g_87740, p_ad_3_0, o_87741⟩ := I.opi (k := 3) (j := 0) (by decide) rfl
          have p_ad_3_0 : pt L_87729 f_87730 (ad 3 0) (.inl (G.2 0, 2916, .inl g_87740)) := p_ad_3_0
          have o_87742 : (XR 0 gB fr g_87723 gc t0 v_87708 v_87709 v_87710 cg 0) g_87740 := (XR_f (XS_part (y := 0) (v := 0) o_87741 hc hI.2.2.2.2.1 es2_87712 hTp.1 eg_87723 (er_87721.2.trans hTp.2.2.2.1) (prt_q er_87697.2 c_87718 c_87701 (bn_w B_87719 (by decide)) heo hI.2.1)))
          have I := I.castS (sp' := spM PA PI (XR 0 gB fr g_87723 gc t0 v_87708 v_87709 v_87710 cg 0) pa) (k := 3) (j := 0) (by decide) p_ad_3_0 (okE_a (g := g_87740) o_87742) pXC
          refine lv_iconst (v := 0) hx hb dX12_behindOne_158 (by decide) ?_
          exact prI (post := fun r L1 f1 => ∃ at92 : Int32, ∃ ps92 : Int32, ∃ tk2 : Int32, ∃ nu2 : Int32, ∃ wd2 : Int64, ∃ wr2 : Int32, ∃ pd2 : Int32, ∃ op92 : Int32, ∃ cg2 : Int32, ∃ iw2 : Int32, ∃ gp2 : Nat → Int32, ∃ gc2 : Nat → Int32, bn (-1) 7 r ∧ SH (spM PA PI (XR r gB fr gp2 gc2 t0 wr2 pd2 op92 cg2 iw2) pa) nnM G ad L1 f1 ∧ pt L1 f1 (ad 0 0) (.inr (12, [.ref (ad 1 0), .ref (ad 2 0), .ref (ad 3 0), .ref (ad 4 0), .int td, .int fa, .int fp, .int at92, .int ps92, .int tk2, .int nu2, .long wd2, .int t0, .int wr2, .int so, .ref (ad 5 0), .ref (ad 6 0), .int pd2, .int op92, .int cg2, .int iw2, .int on9, .ref (ad 7 0), .ref (ad 8 0), .ref (ad 9 0), .int is9, .ref (ad 10 0), .ref (ad 11 0), .ref (ad 12 0), .ref (ad 13 0), .int se, .ref (ad 14 0)])) ∧ pt L1 f1 (ad 5 0) (.inl (G.2 0, 160, .inl gp2)) ∧ pt L1 f1 (ad 6 0) (.inl (G.2 0, 9, .inl gc2)) ∧ TK at92 ps92 tk2 ∧ (r.toInt = 0 → ps9.toInt + 1 ≤ ps92.toInt) ∧ (r.toInt ≤ 0 → wr2.toInt + pd2.toInt ≤ ps92.toInt) ∧ (r.toInt < 0 → iw2 = 1) ∧ (r.toInt ≤ 0 → ps9.toInt ≤ ps92.toInt)) S Y rfl (by decide) (by decide) hA1 ⟨v_87732, v_87733, v_87734, v_87735, v_87736, v_87708, v_87709, v_87710, cg, 0, g_87723, gc, bn_w (show bn 0 0 (0 : Int32) from bn_k (by decide)) (by decide), I, p_ad_0_0, p_ad_5_0, p_ad_6_0, eT_87737, (fun _ => (by have c0 := es1_87711; have c1 := es3_87713; have c2 := eT_87737.1; have c3 := eP_87738; have c4 := hroom; have c5 := (hT.2 hpw.2.2); omega)), (fun _ => (by have c0 := es1_87711; have c1 := es3_87713; have c2 := eT_87737.1; have c3 := eP_87738; have c4 := hroom; have c5 := (hT.2 hpw.2.2); omega)), (fun h => absurd h (by decide)), (fun _ => (by have c0 := es1_87711; have c1 := es3_87713; have c2 := eT_87737.1; have c3 := eP_87738; have c4 := hroom; have c5 := (hT.2 hpw.2.2); omega))⟩ dX12_behindOne_159
        · have B_87720 : bn 0 0 r_87697 := bn_w (bn_eq c_87718 (show bn 0 0 (0 : Int32) from bn_k (by decide))) (by decide)
          refine lv_aload_n hx hb dX12_behindOne_111 rfl (lv_at hl 3 rfl) ?_
          refine lv_iload_n hx hb dX12_behindOne_112 rfl (lv_at hl 1 rfl) ?_
          refine cVv (As := [.int r_87696]) (rest := []) S Y (x_X12_shut (l := l) I p_ad_0_0 p_ad_5_0 p_ad_6_0 hc hI.2.2.2.2.1 es2_87712 heo (by have z9 := PRT_0 er_87697.2 c_87718; rw [heo, show cmkP gp pd = cmp from hI.2.1] at z9; exact z9) hroom2 hT hpw.2.2) cw_X12_shut km12_206 p_ad_0_0 ok_X12.1 rfl rfl ⟨Nat.le_of_ble_eq_true rfl, Nat.le_of_ble_eq_true rfl⟩ hl.1 rfl (Nat.le_of_ble_eq_true rfl) ⟨Nat.le_of_ble_eq_true rfl, Nat.le_of_ble_eq_true rfl⟩ dX12_behindOne_113 (fun L_87743 f_87744 H locs hr_87745 Y => ?_)
          obtain ⟨v_87746, v_87747, v_87748, v_87749, v_87750, v_87751, v_87752, v_87753, v_87754, g_87755, I, p_ad_0_0, p_ad_5_0, p_ad_6_0, eT_87756, eR_87757, eW_87758⟩ := hr_87745
          obtain ⟨bfc87758_4, bfc87758_7, bfc87758_8, bfc87758_12, bfc87758_13, bfc87758_17, bfc87758_18, bfc87758_19, bfc87758_20, bfc87758_25⟩ := obM I p_ad_0_0
          obtain ⟨g_87760, p_ad_3_0, o_87761⟩ := I.opi (k := 3) (j := 0) (by decide) rfl
          have p_ad_3_0 : pt L_87743 f_87744 (ad 3 0) (.inl (G.2 0, 2916, .inl g_87760)) := p_ad_3_0
          have o_87762 : (XR 0 gB fr g_87755 gc t0 v_87751 v_87752 v_87753 v_87754 iw) g_87760 := (by rw [hiw]; exact XR_t o_87761)
          have I := I.castS (sp' := spM PA PI (XR 0 gB fr g_87755 gc t0 v_87751 v_87752 v_87753 v_87754 iw) pa) (k := 3) (j := 0) (by decide) p_ad_3_0 (okE_a (g := g_87760) o_87762) pXC
          refine lv_iconst (v := 0) hx hb dX12_behindOne_116 (by decide) ?_
          exact prI (post := fun r L1 f1 => ∃ at92 : Int32, ∃ ps92 : Int32, ∃ tk2 : Int32, ∃ nu2 : Int32, ∃ wd2 : Int64, ∃ wr2 : Int32, ∃ pd2 : Int32, ∃ op92 : Int32, ∃ cg2 : Int32, ∃ iw2 : Int32, ∃ gp2 : Nat → Int32, ∃ gc2 : Nat → Int32, bn (-1) 7 r ∧ SH (spM PA PI (XR r gB fr gp2 gc2 t0 wr2 pd2 op92 cg2 iw2) pa) nnM G ad L1 f1 ∧ pt L1 f1 (ad 0 0) (.inr (12, [.ref (ad 1 0), .ref (ad 2 0), .ref (ad 3 0), .ref (ad 4 0), .int td, .int fa, .int fp, .int at92, .int ps92, .int tk2, .int nu2, .long wd2, .int t0, .int wr2, .int so, .ref (ad 5 0), .ref (ad 6 0), .int pd2, .int op92, .int cg2, .int iw2, .int on9, .ref (ad 7 0), .ref (ad 8 0), .ref (ad 9 0), .int is9, .ref (ad 10 0), .ref (ad 11 0), .ref (ad 12 0), .ref (ad 13 0), .int se, .ref (ad 14 0)])) ∧ pt L1 f1 (ad 5 0) (.inl (G.2 0, 160, .inl gp2)) ∧ pt L1 f1 (ad 6 0) (.inl (G.2 0, 9, .inl gc2)) ∧ TK at92 ps92 tk2 ∧ (r.toInt = 0 → ps9.toInt + 1 ≤ ps92.toInt) ∧ (r.toInt ≤ 0 → wr2.toInt + pd2.toInt ≤ ps92.toInt) ∧ (r.toInt < 0 → iw2 = 1) ∧ (r.toInt ≤ 0 → ps9.toInt ≤ ps92.toInt)) S Y rfl (by decide) (by decide) hA1 ⟨v_87746, v_87747, v_87748, v_87749, v_87750, v_87751, v_87752, v_87753, v_87754, iw, g_87755, gc, bn_w (show bn 0 0 (0 : Int32) from bn_k (by decide)) (by decide), I, p_ad_0_0, p_ad_5_0, p_ad_6_0, eT_87756, (fun _ => (by have c0 := es1_87711; have c1 := es3_87713; have c2 := eR_87757; have c3 := eW_87758; have c4 := hroom; have c5 := (hT.2 hpw.2.2); omega)), (fun _ => (by have c0 := es1_87711; have c1 := es3_87713; have c2 := eR_87757; have c3 := eW_87758; have c4 := hroom; have c5 := (hT.2 hpw.2.2); omega)), (fun h => absurd h (by decide)), (fun _ => (by have c0 := es1_87711; have c1 := es3_87713; have c2 := eR_87757; have c3 := eW_87758; have c4 := hroom; have c5 := (hT.2 hpw.2.2); omega))⟩ dX12_behindOne_117
      · have B_87703 : bn 44 44 r_87697 := bn_w (bn_eq c_87701 (show bn 44 44 (44 : Int32) from bn_k (by decide))) (by decide)
        have hz44 : opn = 44 := heo.symm.trans (PRT_44 er_87697.2 c_87701)
        have B_87763 : bn 1 8 cg := ⟨XV_ju (by rw [← hz44]; exact hv), bfe_19.2⟩
        refine lv_aload_n hx hb dX12_behindOne_83 rfl (lv_at hl 3 rfl) ?_
        refine pg_get S Y ok_X12 16 (by decide) kf12_32 (v := .ref (ad 6 0)) p_ad_0_0 rfl dX12_behindOne_84 ?_
        refine lv_aload_n hx hb dX12_behindOne_87 rfl (lv_at hl 3 rfl) ?_
        refine pg_get S Y ok_X12 19 (by decide) kf12_169 (v := .int cg) p_ad_0_0 rfl dX12_behindOne_88 ?_
        refine lv_iconst (v := 1) hx hb dX12_behindOne_91 (by decide) ?_
        refine lv_isub hx hb dX12_behindOne_92 ?_
        refine lv_topi (fun x_87764 ex_87764 => ?_)
        obtain ⟨v_87765, ev_87765⟩ : ∃ z, z = gc (x_87764 : Int32).toNatClampNeg := ⟨_, rfl⟩
        refine pg_iald S Y (v := v_87765) p_ad_6_0 (vp_bn (bn_eq ex_87764 (bn_sub B_87763 (show bn 1 1 (1 : Int32) from bn_k (by decide)) (by decide))) (by decide)) ev_87765.symm dX12_behindOne_93 ?_
        refine lv_bipush (v := 6) hx hb dX12_behindOne_94 (by decide) ?_
        refine lv_icmp_ne (tgt := 102) hx hb dX12_behindOne_96 (by decide) (fun c_87766 => ?_) (fun c_87766 => ?_)
        · refine lv_aload_n hx hb dX12_behindOne_102 rfl (lv_at hl 3 rfl) ?_
          refine lv_iconst (v := 1) hx hb dX12_behindOne_103 (by decide) ?_
          obtain ⟨cur0, hz, hc, _⟩ := XV_SL (least := (1 : Int32).toInt.toNat) hv (Or.inr hpw.1)
          have o_87768 : (XS gB fr gp gc (1 : Int32).toInt.toNat opn cur0 cmp t0 wr pd op9 cg) g_87688 := hz
          have I := I.castS (sp' := spM PA PI (XS gB fr gp gc (1 : Int32).toInt.toNat opn cur0 cmp t0 wr pd op9 cg) pa) (k := 3) (j := 0) (by decide) p_ad_3_0 (okE_a (g := g_87688) o_87768) pXC
          refine cVv (As := [.int 1]) (rest := []) S Y (x_X12_settle (l := l) I p_ad_0_0 p_ad_5_0 p_ad_6_0 (bn_w (show bn 1 1 (1 : Int32) from bn_k (by decide)) (by decide)) (by have z9 := hroom; have z8 := bfe_8.2; omega)) cw_X12_settle km12_181 p_ad_0_0 ok_X12.1 rfl rfl ⟨Nat.le_of_ble_eq_true rfl, Nat.le_of_ble_eq_true rfl⟩ hl.1 rfl (Nat.le_of_ble_eq_true rfl) ⟨Nat.le_of_ble_eq_true rfl, Nat.le_of_ble_eq_true rfl⟩ dX12_behindOne_104 (fun L_87769 f_87770 H locs hr_87771 Y => ?_)
          obtain ⟨v_87772, v_87773, v_87774, I, p_ad_0_0, p_ad_5_0, p_ad_6_0, es1_87775, es2_87776, es3_87777⟩ := hr_87771
          obtain ⟨bfc87777_4, bfc87777_7, bfc87777_8, bfc87777_12, bfc87777_13, bfc87777_17, bfc87777_18, bfc87777_19, bfc87777_20, bfc87777_25⟩ := obM I p_ad_0_0
          obtain ⟨g_87779, p_ad_3_0, o_87780⟩ := I.opi (k := 3) (j := 0) (by decide) rfl
          have p_ad_3_0 : pt L_87769 f_87770 (ad 3 0) (.inl (G.2 0, 2916, .inl g_87779)) := p_ad_3_0
          have hTp := XS_top o_87780 hc es2_87776 hpw.2.1 (by have z9 := hI.2.2.2.2.2.1; omega)
          have hroom2 : v_87772.toInt + v_87773.toInt ≤ ps9.toInt := (by have c0 := es1_87775; have c1 := es3_87777; have c2 := hroom; omega)
          have B_87781 : bn 1 160 v_87773 := ⟨hTp.1, (bfc87777_17).2⟩
          refine lv_iload_n hx hb dX12_behindOne_107 rfl (lv_at hl 0 rfl) ?_
          refine lv_if_ne (tgt := 118) hx hb dX12_behindOne_108 (by decide) (fun _ => ?_) (fun h => absurd h (bd_ne B_87703 (show bn 0 0 (0 : Int32) from bn_k (by decide)) (by decide)))
          refine lv_iload_n hx hb dX12_behindOne_118 rfl (lv_at hl 0 rfl) ?_
          refine lv_bipush (v := 44) hx hb dX12_behindOne_119 (by decide) ?_
          refine lv_icmp_ne (tgt := 139) hx hb dX12_behindOne_121 (by decide) (fun h => absurd c_87701 h) (fun _ => ?_)
          refine lv_aload_n hx hb dX12_behindOne_124 rfl (lv_at hl 3 rfl) ?_
          refine pg_get S Y ok_X12 16 (by decide) kf12_32 (v := .ref (ad 6 0)) p_ad_0_0 rfl dX12_behindOne_125 ?_
          refine lv_aload_n hx hb dX12_behindOne_128 rfl (lv_at hl 3 rfl) ?_
          refine pg_get S Y ok_X12 19 (by decide) kf12_169 (v := .int cg) p_ad_0_0 rfl dX12_behindOne_129 ?_
          refine lv_iconst (v := 1) hx hb dX12_behindOne_132 (by decide) ?_
          refine lv_isub hx hb dX12_behindOne_133 ?_
          refine lv_topi (fun x_87782 ex_87782 => ?_)
          refine lv_dup2_11 hx hb dX12_behindOne_134 rfl rfl ?_
          obtain ⟨v_87783, ev_87783⟩ : ∃ z, z = gc (x_87782 : Int32).toNatClampNeg := ⟨_, rfl⟩
          refine pg_iald S Y (v := v_87783) p_ad_6_0 (vp_bn (bn_eq ex_87782 (bn_sub B_87763 (show bn 1 1 (1 : Int32) from bn_k (by decide)) (by decide))) (by decide)) ev_87783.symm dX12_behindOne_135 ?_
          refine lv_iconst (v := 1) hx hb dX12_behindOne_136 (by decide) ?_
          refine lv_iadd hx hb dX12_behindOne_137 ?_
          refine lv_topi (fun x_87784 ex_87784 => ?_)
          refine pg_iast S Y p_ad_6_0 (vp_bn (bn_eq ex_87782 (bn_sub B_87763 (show bn 1 1 (1 : Int32) from bn_k (by decide)) (by decide))) (by decide)) dX12_behindOne_138 (fun f_87786 H locs ef_87786 Y => ?_)
          obtain ⟨g_87785, eg_87785⟩ : ∃ z, z = upd (gc) (x_87782 : Int32).toNatClampNeg x_87784 := ⟨_, rfl⟩
          rw [← eg_87785] at ef_87786
          have p_ad_0_0 := p_ad_0_0.up ef_87786 (I.ne (k := 0) (j := 0) (k' := 6) (j' := 0) (by decide) (by decide) (Or.inl (by decide)))
          have p_ad_5_0 := p_ad_5_0.up ef_87786 (I.ne (k := 5) (j := 0) (k' := 6) (j' := 0) (by decide) (by decide) (Or.inl (by decide)))
          have p_ad_3_0 := p_ad_3_0.up ef_87786 (I.ne (k := 3) (j := 0) (k' := 6) (j' := 0) (by decide) (by decide) (Or.inl (by decide)))
          have p_ad_6_0 := p_ad_6_0.me ef_87786
          have o_87787 : True := trivial
          have I := I.up (k := 6) (j := 0) (by decide) ef_87786 (okE_a (g := g_87785) o_87787)
          refine lv_aload_n hx hb dX12_behindOne_139 rfl (lv_at hl 3 rfl) ?_
          refine pg_get S Y ok_X12 15 (by decide) kf12_29 (v := .ref (ad 5 0)) p_ad_0_0 rfl dX12_behindOne_140 ?_
          refine lv_aload_n hx hb dX12_behindOne_143 rfl (lv_at hl 3 rfl) ?_
          refine cVp (As := []) (rest := [.ref (ad 5 0)]) S Y (x_X12_openAt (l := l) I p_ad_0_0 p_ad_5_0) cw_X12_openAt km12_155 p_ad_0_0 ok_X12.1 rfl rfl ⟨Nat.le_of_ble_eq_true rfl, Nat.le_of_ble_eq_true rfl⟩ hl.1 rfl (Nat.le_of_ble_eq_true rfl) ⟨Nat.le_of_ble_eq_true rfl, Nat.le_of_ble_eq_true rfl⟩ dX12_behindOne_144 (fun r_87788 H locs er_87788 Y => ?_)
          refine lv_iload_n hx hb dX12_behindOne_147 rfl (lv_at hl 0 rfl) ?_
          have B_87789 : bn 0 159 r_87788 := ⟨by have z9 := er_87788.2.trans hTp.2.2.2.1; have z8 := hTp.1; omega, er_87788.1.2⟩
          refine pg_iast S Y p_ad_5_0 (vp_bn B_87789 (by decide)) dX12_behindOne_148 (fun f_87791 H locs ef_87791 Y => ?_)
          obtain ⟨g_87790, eg_87790⟩ : ∃ z, z = upd (gp) (r_87788 : Int32).toNatClampNeg r_87697 := ⟨_, rfl⟩
          rw [← eg_87790] at ef_87791
          have p_ad_0_0 := p_ad_0_0.up ef_87791 (I.ne (k := 0) (j := 0) (k' := 5) (j' := 0) (by decide) (by decide) (Or.inl (by decide)))
          have p_ad_6_0 := p_ad_6_0.up ef_87791 (I.ne (k := 6) (j := 0) (k' := 5) (j' := 0) (by decide) (by decide) (Or.inl (by decide)))
          have p_ad_3_0 := p_ad_3_0.up ef_87791 (I.ne (k := 3) (j := 0) (k' := 5) (j' := 0) (by decide) (by decide) (Or.inl (by decide)))
          have p_ad_5_0 := p_ad_5_0.me ef_87791
          have o_87792 : True := trivial
          have I := I.up (k := 5) (j := 0) (by decide) ef_87791 (okE_a (g := g_87790) o_87792)
          refine lv_aload_n hx hb dX12_behindOne_149 rfl (lv_at hl 3 rfl) ?_
          refine lv_iconst (v := 0) hx hb dX12_behindOne_150 (by decide) ?_
          refine pg_put S Y ok_X12 20 (by decide) kf12_178 rfl (fs' := [.ref (ad 1 0), .ref (ad 2 0), .ref (ad 3 0), .ref (ad 4 0), .int td, .int fa, .int fp, .int at9, .int ps9, .int tk, .int nu, .long wd, .int t0, .int v_87772, .int so, .ref (ad 5 0), .ref (ad 6 0), .int v_87773, .int v_87774, .int cg, .int 0, .int on9, .ref (ad 7 0), .ref (ad 8 0), .ref (ad 9 0), .int is9, .ref (ad 10 0), .ref (ad 11 0), .ref (ad 12 0), .ref (ad 13 0), .int se, .ref (ad 14 0)]) (v := .int 0) p_ad_0_0 rfl rfl rfl (Nat.le_of_ble_eq_true rfl) dX12_behindOne_151 (fun f_87793 H locs ef_87793 Y => ?_)
          have p_ad_5_0 := p_ad_5_0.up ef_87793 (I.ne (k := 5) (j := 0) (k' := 0) (j' := 0) (by decide) (by decide) (Or.inl (by decide)))
          have p_ad_6_0 := p_ad_6_0.up ef_87793 (I.ne (k := 6) (j := 0) (k' := 0) (j' := 0) (by decide) (by decide) (Or.inl (by decide)))
          have p_ad_3_0 := p_ad_3_0.up ef_87793 (I.ne (k := 3) (j := 0) (k' := 0) (j' := 0) (by decide) (by decide) (Or.inl (by decide)))
          have p_ad_0_0 := p_ad_0_0.me ef_87793
          have I := I.up (k := 0) (j := 0) (by decide) ef_87793 (okE_o (okFs_c okV_r (okFs_c okV_r (okFs_c okV_r (okFs_c okV_r (okFs_c (okV_i bfc87777_4) (okFs_c (okV_i (bn_any _)) (okFs_c (okV_i (bn_any _)) (okFs_c (okV_i bfc87777_7) (okFs_c (okV_i bfc87777_8) (okFs_c (okV_i (bn_any _)) (okFs_c (okV_i (bn_any _)) (okFs_c okV_l (okFs_c (okV_i bfc87777_12) (okFs_c (okV_i bfc87777_13) (okFs_c (okV_i (bn_any _)) (okFs_c okV_r (okFs_c okV_r (okFs_c (okV_i bfc87777_17) (okFs_c (okV_i bfc87777_18) (okFs_c (okV_i bfc87777_19) (okFs_c (okV_i (bn_w (show bn 0 0 (0 : Int32) from bn_k (by decide)) (by decide))) (okFs_c (okV_i (bn_any _)) (okFs_c okV_r (okFs_c okV_r (okFs_c okV_r (okFs_c (okV_i bfc87777_25) (okFs_c okV_r (okFs_c okV_r (okFs_c okV_r (okFs_c okV_r (okFs_c (okV_i (bn_any _)) (okFs_c okV_r okFs_n)))))))))))))))))))))))))))))))))
          refine lv_aload_n hx hb dX12_behindOne_154 rfl (lv_at hl 3 rfl) ?_
          obtain ⟨g_87794, p_ad_4_0, o_87795⟩ := I.opi (k := 4) (j := 0) (by decide) rfl
          have p_ad_4_0 : pt L_87769 f_87793 (ad 4 0) (.inl (G.2 0, 300, .inl g_87794)) := p_ad_4_0
          refine cVv (As := []) (rest := []) S Y (x_X12_nextToken (l := l) I p_ad_0_0 p_ad_4_0 p_ad_5_0 p_ad_6_0) cw_X12_nextToken km12_166 p_ad_0_0 ok_X12.1 rfl rfl ⟨Nat.le_of_ble_eq_true rfl, Nat.le_of_ble_eq_true rfl⟩ hl.1 rfl (Nat.le_of_ble_eq_true rfl) ⟨Nat.le_of_ble_eq_true rfl, Nat.le_of_ble_eq_true rfl⟩ dX12_behindOne_155 (fun L_87796 f_87797 H locs hr_87798 Y => ?_)
          obtain ⟨v_87799, v_87800, v_87801, v_87802, v_87803, I, p_ad_0_0, p_ad_4_0, p_ad_5_0, p_ad_6_0, eT_87804, eP_87805⟩ := hr_87798
          obtain ⟨bfc87805_4, bfc87805_7, bfc87805_8, bfc87805_12, bfc87805_13, bfc87805_17, bfc87805_18, bfc87805_19, bfc87805_20, bfc87805_25⟩ := obM I p_ad_0_0
          obtain ⟨g_87807, p_ad_3_0, o_87808⟩ := I.opi (k := 3) (j := 0) (by decide) rfl
          have p_ad_3_0 : pt L_87796 f_87797 (ad 3 0) (.inl (G.2 0, 2916, .inl g_87807)) := p_ad_3_0
          have o_87809 : (XR 0 gB fr g_87790 g_87785 t0 v_87772 v_87773 v_87774 cg 0) g_87807 := (XR_f (XS_part o_87808 hc hI.2.2.2.2.1 es2_87776 hTp.1 eg_87790 (er_87788.2.trans hTp.2.2.2.1) (prt_j er_87697.2 c_87701 hz44 hI.2.1 (hTp.2.2.2.2 hz44) (by have z9 := (la_sub ex_87782 (rfl : cg.toInt = cg.toInt) (show (1 : Int32).toInt = 1 from rfl) B_87763 (show bn 1 1 (1 : Int32) from bn_k (by decide)) (by decide)); omega) (by have z9 := (la_sub ex_87764 (rfl : cg.toInt = cg.toInt) (show (1 : Int32).toInt = 1 from rfl) B_87763 (show bn 1 1 (1 : Int32) from bn_k (by decide)) (by decide)); omega) ev_87765 c_87766 ev_87783 ex_87784 eg_87785)))
          have I := I.castS (sp' := spM PA PI (XR 0 gB fr g_87790 g_87785 t0 v_87772 v_87773 v_87774 cg 0) pa) (k := 3) (j := 0) (by decide) p_ad_3_0 (okE_a (g := g_87807) o_87809) pXC
          refine lv_iconst (v := 0) hx hb dX12_behindOne_158 (by decide) ?_
          exact prI (post := fun r L1 f1 => ∃ at92 : Int32, ∃ ps92 : Int32, ∃ tk2 : Int32, ∃ nu2 : Int32, ∃ wd2 : Int64, ∃ wr2 : Int32, ∃ pd2 : Int32, ∃ op92 : Int32, ∃ cg2 : Int32, ∃ iw2 : Int32, ∃ gp2 : Nat → Int32, ∃ gc2 : Nat → Int32, bn (-1) 7 r ∧ SH (spM PA PI (XR r gB fr gp2 gc2 t0 wr2 pd2 op92 cg2 iw2) pa) nnM G ad L1 f1 ∧ pt L1 f1 (ad 0 0) (.inr (12, [.ref (ad 1 0), .ref (ad 2 0), .ref (ad 3 0), .ref (ad 4 0), .int td, .int fa, .int fp, .int at92, .int ps92, .int tk2, .int nu2, .long wd2, .int t0, .int wr2, .int so, .ref (ad 5 0), .ref (ad 6 0), .int pd2, .int op92, .int cg2, .int iw2, .int on9, .ref (ad 7 0), .ref (ad 8 0), .ref (ad 9 0), .int is9, .ref (ad 10 0), .ref (ad 11 0), .ref (ad 12 0), .ref (ad 13 0), .int se, .ref (ad 14 0)])) ∧ pt L1 f1 (ad 5 0) (.inl (G.2 0, 160, .inl gp2)) ∧ pt L1 f1 (ad 6 0) (.inl (G.2 0, 9, .inl gc2)) ∧ TK at92 ps92 tk2 ∧ (r.toInt = 0 → ps9.toInt + 1 ≤ ps92.toInt) ∧ (r.toInt ≤ 0 → wr2.toInt + pd2.toInt ≤ ps92.toInt) ∧ (r.toInt < 0 → iw2 = 1) ∧ (r.toInt ≤ 0 → ps9.toInt ≤ ps92.toInt)) S Y rfl (by decide) (by decide) hA1 ⟨v_87799, v_87800, v_87801, v_87802, v_87803, v_87772, v_87773, v_87774, cg, 0, g_87790, g_87785, bn_w (show bn 0 0 (0 : Int32) from bn_k (by decide)) (by decide), I, p_ad_0_0, p_ad_5_0, p_ad_6_0, eT_87804, (fun _ => (by have c0 := es1_87775; have c1 := es3_87777; have c2 := eT_87804.1; have c3 := eP_87805; have c4 := hroom; have c5 := (hT.2 hpw.2.2); omega)), (fun _ => (by have c0 := es1_87775; have c1 := es3_87777; have c2 := eT_87804.1; have c3 := eP_87805; have c4 := hroom; have c5 := (hT.2 hpw.2.2); omega)), (fun h => absurd h (by decide)), (fun _ => (by have c0 := es1_87775; have c1 := es3_87777; have c2 := eT_87804.1; have c3 := eP_87805; have c4 := hroom; have c5 := (hT.2 hpw.2.2); omega))⟩ dX12_behindOne_159
        · have B_87767 : bn 6 6 v_87765 := bn_w (bn_eq c_87766 (show bn 6 6 (6 : Int32) from bn_k (by decide))) (by decide)
          have o_87810 : (XR 7 gB fr gp gc t0 wr pd op9 cg iw) g_87688 := (XR_no o_87691.1 (by decide))
          have I := I.castS (sp' := spM PA PI (XR 7 gB fr gp gc t0 wr pd op9 cg iw) pa) (k := 3) (j := 0) (by decide) p_ad_3_0 (okE_a (g := g_87688) o_87810) pXC
          refine lv_bipush (v := 7) hx hb dX12_behindOne_99 (by decide) ?_
          exact prI (post := fun r L1 f1 => ∃ at92 : Int32, ∃ ps92 : Int32, ∃ tk2 : Int32, ∃ nu2 : Int32, ∃ wd2 : Int64, ∃ wr2 : Int32, ∃ pd2 : Int32, ∃ op92 : Int32, ∃ cg2 : Int32, ∃ iw2 : Int32, ∃ gp2 : Nat → Int32, ∃ gc2 : Nat → Int32, bn (-1) 7 r ∧ SH (spM PA PI (XR r gB fr gp2 gc2 t0 wr2 pd2 op92 cg2 iw2) pa) nnM G ad L1 f1 ∧ pt L1 f1 (ad 0 0) (.inr (12, [.ref (ad 1 0), .ref (ad 2 0), .ref (ad 3 0), .ref (ad 4 0), .int td, .int fa, .int fp, .int at92, .int ps92, .int tk2, .int nu2, .long wd2, .int t0, .int wr2, .int so, .ref (ad 5 0), .ref (ad 6 0), .int pd2, .int op92, .int cg2, .int iw2, .int on9, .ref (ad 7 0), .ref (ad 8 0), .ref (ad 9 0), .int is9, .ref (ad 10 0), .ref (ad 11 0), .ref (ad 12 0), .ref (ad 13 0), .int se, .ref (ad 14 0)])) ∧ pt L1 f1 (ad 5 0) (.inl (G.2 0, 160, .inl gp2)) ∧ pt L1 f1 (ad 6 0) (.inl (G.2 0, 9, .inl gc2)) ∧ TK at92 ps92 tk2 ∧ (r.toInt = 0 → ps9.toInt + 1 ≤ ps92.toInt) ∧ (r.toInt ≤ 0 → wr2.toInt + pd2.toInt ≤ ps92.toInt) ∧ (r.toInt < 0 → iw2 = 1) ∧ (r.toInt ≤ 0 → ps9.toInt ≤ ps92.toInt)) S Y rfl (by decide) (by decide) hA1 ⟨at9, ps9, tk, nu, wd, wr, pd, op9, cg, iw, gp, gc, bn_w (show bn 7 7 (7 : Int32) from bn_k (by decide)) (by decide), I, p_ad_0_0, p_ad_5_0, p_ad_6_0, hT, (fun h => absurd h (by decide)), (fun h => absurd h (by decide)), (fun h => absurd h (by decide)), (fun h => absurd h (by decide))⟩ dX12_behindOne_101
    · have B_87700 : bn (-1) (-1) r_87697 := bn_w (bn_gtr c_87698 (show bn 0 0 (0 : Int32) from bn_k (by decide)) er_87697.1) (by decide)
      have o_87811 : (XR (-1) gB fr gp gc t0 wr pd op9 cg iw) g_87688 := (by rw [hiw]; exact XR_t ⟨opn, cmp, o_87691⟩)
      have I := I.castS (sp' := spM PA PI (XR (-1) gB fr gp gc t0 wr pd op9 cg iw) pa) (k := 3) (j := 0) (by decide) p_ad_3_0 (okE_a (g := g_87688) o_87811) pXC
      refine lv_iconst (v := (-1)) hx hb dX12_behindOne_75 (by decide) ?_
      exact prI (post := fun r L1 f1 => ∃ at92 : Int32, ∃ ps92 : Int32, ∃ tk2 : Int32, ∃ nu2 : Int32, ∃ wd2 : Int64, ∃ wr2 : Int32, ∃ pd2 : Int32, ∃ op92 : Int32, ∃ cg2 : Int32, ∃ iw2 : Int32, ∃ gp2 : Nat → Int32, ∃ gc2 : Nat → Int32, bn (-1) 7 r ∧ SH (spM PA PI (XR r gB fr gp2 gc2 t0 wr2 pd2 op92 cg2 iw2) pa) nnM G ad L1 f1 ∧ pt L1 f1 (ad 0 0) (.inr (12, [.ref (ad 1 0), .ref (ad 2 0), .ref (ad 3 0), .ref (ad 4 0), .int td, .int fa, .int fp, .int at92, .int ps92, .int tk2, .int nu2, .long wd2, .int t0, .int wr2, .int so, .ref (ad 5 0), .ref (ad 6 0), .int pd2, .int op92, .int cg2, .int iw2, .int on9, .ref (ad 7 0), .ref (ad 8 0), .ref (ad 9 0), .int is9, .ref (ad 10 0), .ref (ad 11 0), .ref (ad 12 0), .ref (ad 13 0), .int se, .ref (ad 14 0)])) ∧ pt L1 f1 (ad 5 0) (.inl (G.2 0, 160, .inl gp2)) ∧ pt L1 f1 (ad 6 0) (.inl (G.2 0, 9, .inl gc2)) ∧ TK at92 ps92 tk2 ∧ (r.toInt = 0 → ps9.toInt + 1 ≤ ps92.toInt) ∧ (r.toInt ≤ 0 → wr2.toInt + pd2.toInt ≤ ps92.toInt) ∧ (r.toInt < 0 → iw2 = 1) ∧ (r.toInt ≤ 0 → ps9.toInt ≤ ps92.toInt)) S Y rfl (by decide) (by decide) hA1 ⟨at9, ps9, tk, nu, wd, wr, pd, op9, cg, iw, gp, gc, bn_w (show bn (-1) (-1) ((-1) : Int32) from bn_k (by decide)) (by decide), I, p_ad_0_0, p_ad_5_0, p_ad_6_0, hT, (fun h => absurd h (by decide)), (fun _ => hroom), (fun _ => hiw), (fun _ => Int.le_refl _)⟩ dX12_behindOne_76
  · have B_87695 : bn 0 22 r_87692 := bn_w (bn_gel c_87693 er_87692.1 (show bn 0 0 (0 : Int32) from bn_k (by decide))) (by decide)
    refine lv_aload_n hx hb dX12_behindOne_9 rfl (lv_at hl 1 rfl) ?_
    refine lv_iload_n hx hb dX12_behindOne_10 rfl (lv_at hl 0 rfl) ?_
    refine cSp (As := [.int r_87692]) (rest := [.ref (ad 0 0)]) S Y (x_X12_rank (l := l) ) cw_X12_rank km12_145 rfl ⟨Nat.le_of_ble_eq_true rfl, Nat.le_of_ble_eq_true rfl⟩ hl.1 rfl (Nat.le_of_ble_eq_true rfl) ⟨Nat.le_of_ble_eq_true rfl, Nat.le_of_ble_eq_true rfl⟩ dX12_behindOne_11 (fun r_87812 H locs er_87812 Y => ?_)
    have B_87813 : bn 0 7 r_87812 := bn_w (rk_bn er_87812) (by decide)
    refine lv_iconst (v := 4) hx hb dX12_behindOne_14 (by decide) ?_
    refine lv_icmp_ne (tgt := 22) hx hb dX12_behindOne_15 (by decide) (fun c_87814 => ?_) (fun c_87814 => ?_)
    · refine lv_iload_n hx hb dX12_behindOne_22 rfl (lv_at hl 0 rfl) ?_
      refine cSp (As := [.int r_87692]) (rest := [.ref (ad 0 0)]) S Y (x_X12_rank (l := l) ) cw_X12_rank km12_145 rfl ⟨Nat.le_of_ble_eq_true rfl, Nat.le_of_ble_eq_true rfl⟩ hl.1 rfl (Nat.le_of_ble_eq_true rfl) ⟨Nat.le_of_ble_eq_true rfl, Nat.le_of_ble_eq_true rfl⟩ dX12_behindOne_23 (fun r_87816 H locs er_87816 Y => ?_)
      have B_87817 : bn 0 7 r_87816 := bn_w (rk_bn er_87816) (by decide)
      have B_87818 : bn 1 7 r_87816 := bt_l er_87692.2 B_87695 er_87816
      obtain ⟨cur0, hz, hbc⟩ := XV_bt (least := r_87816.toInt.toNat) hv hI.1 hI.2.1 er_87692.2 (bn_w B_87695 (by decide)) (Or.inr ⟨by have z9 := er_87812; have z8 := (show ¬ r_87812.toInt = 4 from fun z => c_87814 (Int32.toInt_inj.mp (z.trans rfl))); omega, by have z9 := er_87816; omega⟩)
      have htk := bt_tk er_87692.2 B_87695
      have o_87819 : (XS gB fr gp gc r_87816.toInt.toNat opn cur0 cmp t0 wr pd op9 cg) g_87688 := hz
      have I := I.castS (sp' := spM PA PI (XS gB fr gp gc r_87816.toInt.toNat opn cur0 cmp t0 wr pd op9 cg) pa) (k := 3) (j := 0) (by decide) p_ad_3_0 (okE_a (g := g_87688) o_87819) pXC
      refine cVv (As := [.int r_87816]) (rest := []) S Y (x_X12_settle (l := l) I p_ad_0_0 p_ad_5_0 p_ad_6_0 (bn_w B_87818 (by decide)) (by have z9 := hroom; have z8 := bfe_8.2; omega)) cw_X12_settle km12_181 p_ad_0_0 ok_X12.1 rfl rfl ⟨Nat.le_of_ble_eq_true rfl, Nat.le_of_ble_eq_true rfl⟩ hl.1 rfl (Nat.le_of_ble_eq_true rfl) ⟨Nat.le_of_ble_eq_true rfl, Nat.le_of_ble_eq_true rfl⟩ dX12_behindOne_26 (fun L_87820 f_87821 H locs hr_87822 Y => ?_)
      obtain ⟨v_87823, v_87824, v_87825, I, p_ad_0_0, p_ad_5_0, p_ad_6_0, es1_87826, es2_87827, es3_87828⟩ := hr_87822
      obtain ⟨bfc87828_4, bfc87828_7, bfc87828_8, bfc87828_12, bfc87828_13, bfc87828_17, bfc87828_18, bfc87828_19, bfc87828_20, bfc87828_25⟩ := obM I p_ad_0_0
      have B_87830 : bn 0 53 v_87824 := ⟨(bfc87828_17).1, by have z9 := es3_87828; have z8 := (B_87690).2; omega⟩
      refine lv_aload_n hx hb dX12_behindOne_29 rfl (lv_at hl 1 rfl) ?_
      refine pg_get S Y ok_X12 15 (by decide) kf12_29 (v := .ref (ad 5 0)) p_ad_0_0 rfl dX12_behindOne_30 ?_
      refine lv_aload_n hx hb dX12_behindOne_33 rfl (lv_at hl 1 rfl) ?_
      refine pg_get S Y ok_X12 17 (by decide) kf12_142 (v := .int v_87824) p_ad_0_0 rfl dX12_behindOne_34 ?_
      refine lv_iload_n hx hb dX12_behindOne_37 rfl (lv_at hl 0 rfl) ?_
      refine pg_iast S Y p_ad_5_0 (vp_bn B_87830 (by decide)) dX12_behindOne_38 (fun f_87832 H locs ef_87832 Y => ?_)
      obtain ⟨g_87831, eg_87831⟩ : ∃ z, z = upd (gp) (v_87824 : Int32).toNatClampNeg r_87692 := ⟨_, rfl⟩
      rw [← eg_87831] at ef_87832
      have p_ad_0_0 := p_ad_0_0.up ef_87832 (I.ne (k := 0) (j := 0) (k' := 5) (j' := 0) (by decide) (by decide) (Or.inl (by decide)))
      have p_ad_6_0 := p_ad_6_0.up ef_87832 (I.ne (k := 6) (j := 0) (k' := 5) (j' := 0) (by decide) (by decide) (Or.inl (by decide)))
      have p_ad_5_0 := p_ad_5_0.me ef_87832
      have o_87833 : True := trivial
      have I := I.up (k := 5) (j := 0) (by decide) ef_87832 (okE_a (g := g_87831) o_87833)
      refine lv_aload_n hx hb dX12_behindOne_39 rfl (lv_at hl 1 rfl) ?_
      refine lv_dup hx hb dX12_behindOne_40 rfl ?_
      refine pg_get S Y ok_X12 17 (by decide) kf12_142 (v := .int v_87824) p_ad_0_0 rfl dX12_behindOne_41 ?_
      refine lv_iconst (v := 1) hx hb dX12_behindOne_44 (by decide) ?_
      refine lv_iadd hx hb dX12_behindOne_45 ?_
      refine lv_topi (fun x_87834 ex_87834 => ?_)
      refine pg_put S Y ok_X12 17 (by decide) kf12_142 rfl (fs' := [.ref (ad 1 0), .ref (ad 2 0), .ref (ad 3 0), .ref (ad 4 0), .int td, .int fa, .int fp, .int at9, .int ps9, .int tk, .int nu, .long wd, .int t0, .int v_87823, .int so, .ref (ad 5 0), .ref (ad 6 0), .int x_87834, .int v_87825, .int cg, .int iw, .int on9, .ref (ad 7 0), .ref (ad 8 0), .ref (ad 9 0), .int is9, .ref (ad 10 0), .ref (ad 11 0), .ref (ad 12 0), .ref (ad 13 0), .int se, .ref (ad 14 0)]) (v := .int x_87834) p_ad_0_0 rfl rfl rfl (Nat.le_of_ble_eq_true rfl) dX12_behindOne_46 (fun f_87835 H locs ef_87835 Y => ?_)
      have p_ad_5_0 := p_ad_5_0.up ef_87835 (I.ne (k := 5) (j := 0) (k' := 0) (j' := 0) (by decide) (by decide) (Or.inl (by decide)))
      have p_ad_6_0 := p_ad_6_0.up ef_87835 (I.ne (k := 6) (j := 0) (k' := 0) (j' := 0) (by decide) (by decide) (Or.inl (by decide)))
      have p_ad_0_0 := p_ad_0_0.me ef_87835
      have I := I.up (k := 0) (j := 0) (by decide) ef_87835 (okE_o (okFs_c okV_r (okFs_c okV_r (okFs_c okV_r (okFs_c okV_r (okFs_c (okV_i bfc87828_4) (okFs_c (okV_i (bn_any _)) (okFs_c (okV_i (bn_any _)) (okFs_c (okV_i bfc87828_7) (okFs_c (okV_i bfc87828_8) (okFs_c (okV_i (bn_any _)) (okFs_c (okV_i (bn_any _)) (okFs_c okV_l (okFs_c (okV_i bfc87828_12) (okFs_c (okV_i bfc87828_13) (okFs_c (okV_i (bn_any _)) (okFs_c okV_r (okFs_c okV_r (okFs_c (okV_i (bn_w (bn_eq ex_87834 (bn_add B_87830 (show bn 1 1 (1 : Int32) from bn_k (by decide)) (by decide))) (by decide))) (okFs_c (okV_i bfc87828_18) (okFs_c (okV_i bfc87828_19) (okFs_c (okV_i bfc87828_20) (okFs_c (okV_i (bn_any _)) (okFs_c okV_r (okFs_c okV_r (okFs_c okV_r (okFs_c (okV_i bfc87828_25) (okFs_c okV_r (okFs_c okV_r (okFs_c okV_r (okFs_c okV_r (okFs_c (okV_i (bn_any _)) (okFs_c okV_r okFs_n)))))))))))))))))))))))))))))))))
      refine lv_aload_n hx hb dX12_behindOne_49 rfl (lv_at hl 1 rfl) ?_
      refine lv_iconst (v := 0) hx hb dX12_behindOne_50 (by decide) ?_
      refine pg_put S Y ok_X12 20 (by decide) kf12_178 rfl (fs' := [.ref (ad 1 0), .ref (ad 2 0), .ref (ad 3 0), .ref (ad 4 0), .int td, .int fa, .int fp, .int at9, .int ps9, .int tk, .int nu, .long wd, .int t0, .int v_87823, .int so, .ref (ad 5 0), .ref (ad 6 0), .int x_87834, .int v_87825, .int cg, .int 0, .int on9, .ref (ad 7 0), .ref (ad 8 0), .ref (ad 9 0), .int is9, .ref (ad 10 0), .ref (ad 11 0), .ref (ad 12 0), .ref (ad 13 0), .int se, .ref (ad 14 0)]) (v := .int 0) p_ad_0_0 rfl rfl rfl (Nat.le_of_ble_eq_true rfl) dX12_behindOne_51 (fun f_87836 H locs ef_87836 Y => ?_)
      have p_ad_5_0 := p_ad_5_0.up ef_87836 (I.ne (k := 5) (j := 0) (k' := 0) (j' := 0) (by decide) (by decide) (Or.inl (by decide)))
      have p_ad_6_0 := p_ad_6_0.up ef_87836 (I.ne (k := 6) (j := 0) (k' := 0) (j' := 0) (by decide) (by decide) (Or.inl (by decide)))
      have p_ad_0_0 := p_ad_0_0.me ef_87836
      have I := I.up (k := 0) (j := 0) (by decide) ef_87836 (okE_o (okFs_c okV_r (okFs_c okV_r (okFs_c okV_r (okFs_c okV_r (okFs_c (okV_i bfc87828_4) (okFs_c (okV_i (bn_any _)) (okFs_c (okV_i (bn_any _)) (okFs_c (okV_i bfc87828_7) (okFs_c (okV_i bfc87828_8) (okFs_c (okV_i (bn_any _)) (okFs_c (okV_i (bn_any _)) (okFs_c okV_l (okFs_c (okV_i bfc87828_12) (okFs_c (okV_i bfc87828_13) (okFs_c (okV_i (bn_any _)) (okFs_c okV_r (okFs_c okV_r (okFs_c (okV_i (bn_w (bn_eq ex_87834 (bn_add B_87830 (show bn 1 1 (1 : Int32) from bn_k (by decide)) (by decide))) (by decide))) (okFs_c (okV_i bfc87828_18) (okFs_c (okV_i bfc87828_19) (okFs_c (okV_i (bn_w (show bn 0 0 (0 : Int32) from bn_k (by decide)) (by decide))) (okFs_c (okV_i (bn_any _)) (okFs_c okV_r (okFs_c okV_r (okFs_c okV_r (okFs_c (okV_i bfc87828_25) (okFs_c okV_r (okFs_c okV_r (okFs_c okV_r (okFs_c okV_r (okFs_c (okV_i (bn_any _)) (okFs_c okV_r okFs_n)))))))))))))))))))))))))))))))))
      refine lv_aload_n hx hb dX12_behindOne_54 rfl (lv_at hl 1 rfl) ?_
      obtain ⟨g_87837, p_ad_4_0, o_87838⟩ := I.opi (k := 4) (j := 0) (by decide) rfl
      have p_ad_4_0 : pt L_87820 f_87836 (ad 4 0) (.inl (G.2 0, 300, .inl g_87837)) := p_ad_4_0
      refine cVv (As := []) (rest := []) S Y (x_X12_nextToken (l := l) I p_ad_0_0 p_ad_4_0 p_ad_5_0 p_ad_6_0) cw_X12_nextToken km12_166 p_ad_0_0 ok_X12.1 rfl rfl ⟨Nat.le_of_ble_eq_true rfl, Nat.le_of_ble_eq_true rfl⟩ hl.1 rfl (Nat.le_of_ble_eq_true rfl) ⟨Nat.le_of_ble_eq_true rfl, Nat.le_of_ble_eq_true rfl⟩ dX12_behindOne_55 (fun L_87839 f_87840 H locs hr_87841 Y => ?_)
      obtain ⟨v_87842, v_87843, v_87844, v_87845, v_87846, I, p_ad_0_0, p_ad_4_0, p_ad_5_0, p_ad_6_0, eT_87847, eP_87848⟩ := hr_87841
      obtain ⟨bfc87848_4, bfc87848_7, bfc87848_8, bfc87848_12, bfc87848_13, bfc87848_17, bfc87848_18, bfc87848_19, bfc87848_20, bfc87848_25⟩ := obM I p_ad_0_0
      obtain ⟨g_87850, p_ad_3_0, o_87851⟩ := I.opi (k := 3) (j := 0) (by decide) rfl
      have p_ad_3_0 : pt L_87839 f_87840 (ad 3 0) (.inl (G.2 0, 2916, .inl g_87850)) := p_ad_3_0
      have o_87852 : (XR 0 gB fr g_87831 gc t0 v_87823 x_87834 v_87825 cg 0) g_87850 := (XR_f (XS_bt o_87851 hbc es2_87827 eg_87831 (by have z9 := (la_add ex_87834 (rfl : v_87824.toInt = v_87824.toInt) (show (1 : Int32).toInt = 1 from rfl) B_87830 (show bn 1 1 (1 : Int32) from bn_k (by decide)) (by decide)); omega) (B_87830).1))
      have I := I.castS (sp' := spM PA PI (XR 0 gB fr g_87831 gc t0 v_87823 x_87834 v_87825 cg 0) pa) (k := 3) (j := 0) (by decide) p_ad_3_0 (okE_a (g := g_87850) o_87852) pXC
      refine lv_iconst (v := 0) hx hb dX12_behindOne_58 (by decide) ?_
      exact prI (post := fun r L1 f1 => ∃ at92 : Int32, ∃ ps92 : Int32, ∃ tk2 : Int32, ∃ nu2 : Int32, ∃ wd2 : Int64, ∃ wr2 : Int32, ∃ pd2 : Int32, ∃ op92 : Int32, ∃ cg2 : Int32, ∃ iw2 : Int32, ∃ gp2 : Nat → Int32, ∃ gc2 : Nat → Int32, bn (-1) 7 r ∧ SH (spM PA PI (XR r gB fr gp2 gc2 t0 wr2 pd2 op92 cg2 iw2) pa) nnM G ad L1 f1 ∧ pt L1 f1 (ad 0 0) (.inr (12, [.ref (ad 1 0), .ref (ad 2 0), .ref (ad 3 0), .ref (ad 4 0), .int td, .int fa, .int fp, .int at92, .int ps92, .int tk2, .int nu2, .long wd2, .int t0, .int wr2, .int so, .ref (ad 5 0), .ref (ad 6 0), .int pd2, .int op92, .int cg2, .int iw2, .int on9, .ref (ad 7 0), .ref (ad 8 0), .ref (ad 9 0), .int is9, .ref (ad 10 0), .ref (ad 11 0), .ref (ad 12 0), .ref (ad 13 0), .int se, .ref (ad 14 0)])) ∧ pt L1 f1 (ad 5 0) (.inl (G.2 0, 160, .inl gp2)) ∧ pt L1 f1 (ad 6 0) (.inl (G.2 0, 9, .inl gc2)) ∧ TK at92 ps92 tk2 ∧ (r.toInt = 0 → ps9.toInt + 1 ≤ ps92.toInt) ∧ (r.toInt ≤ 0 → wr2.toInt + pd2.toInt ≤ ps92.toInt) ∧ (r.toInt < 0 → iw2 = 1) ∧ (r.toInt ≤ 0 → ps9.toInt ≤ ps92.toInt)) S Y rfl (by decide) (by decide) hA1 ⟨v_87842, v_87843, v_87844, v_87845, v_87846, v_87823, x_87834, v_87825, cg, 0, g_87831, gc, bn_w (show bn 0 0 (0 : Int32) from bn_k (by decide)) (by decide), I, p_ad_0_0, p_ad_5_0, p_ad_6_0, eT_87847, (fun _ => (by have c0 := es1_87826; have c1 := es3_87828; have c2 := eT_87847.1; have c3 := eP_87848; have c4 := hroom; have c5 := (hT.2 htk); have c6 := (la_add ex_87834 (rfl : v_87824.toInt = v_87824.toInt) (show (1 : Int32).toInt = 1 from rfl) B_87830 (show bn 1 1 (1 : Int32) from bn_k (by decide)) (by decide)); omega)), (fun _ => (by have c0 := es1_87826; have c1 := es3_87828; have c2 := eT_87847.1; have c3 := eP_87848; have c4 := hroom; have c5 := (hT.2 htk); have c6 := (la_add ex_87834 (rfl : v_87824.toInt = v_87824.toInt) (show (1 : Int32).toInt = 1 from rfl) B_87830 (show bn 1 1 (1 : Int32) from bn_k (by decide)) (by decide)); omega)), (fun h => absurd h (by decide)), (fun _ => (by have c0 := es1_87826; have c1 := es3_87828; have c2 := eT_87847.1; have c3 := eP_87848; have c4 := hroom; have c5 := (hT.2 htk); have c6 := (la_add ex_87834 (rfl : v_87824.toInt = v_87824.toInt) (show (1 : Int32).toInt = 1 from rfl) B_87830 (show bn 1 1 (1 : Int32) from bn_k (by decide)) (by decide)); omega))⟩ dX12_behindOne_59
    · have B_87815 : bn 4 4 r_87812 := bn_w (bn_eq c_87814 (show bn 4 4 (4 : Int32) from bn_k (by decide))) (by decide)
      refine lv_iconst (v := 5) hx hb dX12_behindOne_18 (by decide) ?_
      refine lv_goto (tgt := 26) hx hb dX12_behindOne_19 (by decide) ?_
      obtain ⟨cur0, hz, hbc⟩ := XV_bt (least := (5 : Int32).toInt.toNat) hv hI.1 hI.2.1 er_87692.2 (bn_w B_87695 (by decide)) (Or.inl ⟨by have z9 := er_87812; have z8 := (show r_87812.toInt = 4 from by rw [c_87814]; rfl); omega, rfl⟩)
      have htk := bt_tk er_87692.2 B_87695
      have o_87853 : (XS gB fr gp gc (5 : Int32).toInt.toNat opn cur0 cmp t0 wr pd op9 cg) g_87688 := hz
      have I := I.castS (sp' := spM PA PI (XS gB fr gp gc (5 : Int32).toInt.toNat opn cur0 cmp t0 wr pd op9 cg) pa) (k := 3) (j := 0) (by decide) p_ad_3_0 (okE_a (g := g_87688) o_87853) pXC
      refine cVv (As := [.int 5]) (rest := []) S Y (x_X12_settle (l := l) I p_ad_0_0 p_ad_5_0 p_ad_6_0 (bn_w (show bn 5 5 (5 : Int32) from bn_k (by decide)) (by decide)) (by have z9 := hroom; have z8 := bfe_8.2; omega)) cw_X12_settle km12_181 p_ad_0_0 ok_X12.1 rfl rfl ⟨Nat.le_of_ble_eq_true rfl, Nat.le_of_ble_eq_true rfl⟩ hl.1 rfl (Nat.le_of_ble_eq_true rfl) ⟨Nat.le_of_ble_eq_true rfl, Nat.le_of_ble_eq_true rfl⟩ dX12_behindOne_26 (fun L_87854 f_87855 H locs hr_87856 Y => ?_)
      obtain ⟨v_87857, v_87858, v_87859, I, p_ad_0_0, p_ad_5_0, p_ad_6_0, es1_87860, es2_87861, es3_87862⟩ := hr_87856
      obtain ⟨bfc87862_4, bfc87862_7, bfc87862_8, bfc87862_12, bfc87862_13, bfc87862_17, bfc87862_18, bfc87862_19, bfc87862_20, bfc87862_25⟩ := obM I p_ad_0_0
      have B_87864 : bn 0 53 v_87858 := ⟨(bfc87862_17).1, by have z9 := es3_87862; have z8 := (B_87690).2; omega⟩
      refine lv_aload_n hx hb dX12_behindOne_29 rfl (lv_at hl 1 rfl) ?_
      refine pg_get S Y ok_X12 15 (by decide) kf12_29 (v := .ref (ad 5 0)) p_ad_0_0 rfl dX12_behindOne_30 ?_
      refine lv_aload_n hx hb dX12_behindOne_33 rfl (lv_at hl 1 rfl) ?_
      refine pg_get S Y ok_X12 17 (by decide) kf12_142 (v := .int v_87858) p_ad_0_0 rfl dX12_behindOne_34 ?_
      refine lv_iload_n hx hb dX12_behindOne_37 rfl (lv_at hl 0 rfl) ?_
      refine pg_iast S Y p_ad_5_0 (vp_bn B_87864 (by decide)) dX12_behindOne_38 (fun f_87866 H locs ef_87866 Y => ?_)
      obtain ⟨g_87865, eg_87865⟩ : ∃ z, z = upd (gp) (v_87858 : Int32).toNatClampNeg r_87692 := ⟨_, rfl⟩
      rw [← eg_87865] at ef_87866
      have p_ad_0_0 := p_ad_0_0.up ef_87866 (I.ne (k := 0) (j := 0) (k' := 5) (j' := 0) (by decide) (by decide) (Or.inl (by decide)))
      have p_ad_6_0 := p_ad_6_0.up ef_87866 (I.ne (k := 6) (j := 0) (k' := 5) (j' := 0) (by decide) (by decide) (Or.inl (by decide)))
      have p_ad_5_0 := p_ad_5_0.me ef_87866
      have o_87867 : True := trivial
      have I := I.up (k := 5) (j := 0) (by decide) ef_87866 (okE_a (g := g_87865) o_87867)
      refine lv_aload_n hx hb dX12_behindOne_39 rfl (lv_at hl 1 rfl) ?_
      refine lv_dup hx hb dX12_behindOne_40 rfl ?_
      refine pg_get S Y ok_X12 17 (by decide) kf12_142 (v := .int v_87858) p_ad_0_0 rfl dX12_behindOne_41 ?_
      refine lv_iconst (v := 1) hx hb dX12_behindOne_44 (by decide) ?_
      refine lv_iadd hx hb dX12_behindOne_45 ?_
      refine lv_topi (fun x_87868 ex_87868 => ?_)
      refine pg_put S Y ok_X12 17 (by decide) kf12_142 rfl (fs' := [.ref (ad 1 0), .ref (ad 2 0), .ref (ad 3 0), .ref (ad 4 0), .int td, .int fa, .int fp, .int at9, .int ps9, .int tk, .int nu, .long wd, .int t0, .int v_87857, .int so, .ref (ad 5 0), .ref (ad 6 0), .int x_87868, .int v_87859, .int cg, .int iw, .int on9, .ref (ad 7 0), .ref (ad 8 0), .ref (ad 9 0), .int is9, .ref (ad 10 0), .ref (ad 11 0), .ref (ad 12 0), .ref (ad 13 0), .int se, .ref (ad 14 0)]) (v := .int x_87868) p_ad_0_0 rfl rfl rfl (Nat.le_of_ble_eq_true rfl) dX12_behindOne_46 (fun f_87869 H locs ef_87869 Y => ?_)
      have p_ad_5_0 := p_ad_5_0.up ef_87869 (I.ne (k := 5) (j := 0) (k' := 0) (j' := 0) (by decide) (by decide) (Or.inl (by decide)))
      have p_ad_6_0 := p_ad_6_0.up ef_87869 (I.ne (k := 6) (j := 0) (k' := 0) (j' := 0) (by decide) (by decide) (Or.inl (by decide)))
      have p_ad_0_0 := p_ad_0_0.me ef_87869
      have I := I.up (k := 0) (j := 0) (by decide) ef_87869 (okE_o (okFs_c okV_r (okFs_c okV_r (okFs_c okV_r (okFs_c okV_r (okFs_c (okV_i bfc87862_4) (okFs_c (okV_i (bn_any _)) (okFs_c (okV_i (bn_any _)) (okFs_c (okV_i bfc87862_7) (okFs_c (okV_i bfc87862_8) (okFs_c (okV_i (bn_any _)) (okFs_c (okV_i (bn_any _)) (okFs_c okV_l (okFs_c (okV_i bfc87862_12) (okFs_c (okV_i bfc87862_13) (okFs_c (okV_i (bn_any _)) (okFs_c okV_r (okFs_c okV_r (okFs_c (okV_i (bn_w (bn_eq ex_87868 (bn_add B_87864 (show bn 1 1 (1 : Int32) from bn_k (by decide)) (by decide))) (by decide))) (okFs_c (okV_i bfc87862_18) (okFs_c (okV_i bfc87862_19) (okFs_c (okV_i bfc87862_20) (okFs_c (okV_i (bn_any _)) (okFs_c okV_r (okFs_c okV_r (okFs_c okV_r (okFs_c (okV_i bfc87862_25) (okFs_c okV_r (okFs_c okV_r (okFs_c okV_r (okFs_c okV_r (okFs_c (okV_i (bn_any _)) (okFs_c okV_r okFs_n)))))))))))))))))))))))))))))))))
      refine lv_aload_n hx hb dX12_behindOne_49 rfl (lv_at hl 1 rfl) ?_
      refine lv_iconst (v := 0) hx hb dX12_behindOne_50 (by decide) ?_
      refine pg_put S Y ok_X12 20 (by decide) kf12_178 rfl (fs' := [.ref (ad 1 0), .ref (ad 2 0), .ref (ad 3 0), .ref (ad 4 0), .int td, .int fa, .int fp, .int at9, .int ps9, .int tk, .int nu, .long wd, .int t0, .int v_87857, .int so, .ref (ad 5 0), .ref (ad 6 0), .int x_87868, .int v_87859, .int cg, .int 0, .int on9, .ref (ad 7 0), .ref (ad 8 0), .ref (ad 9 0), .int is9, .ref (ad 10 0), .ref (ad 11 0), .ref (ad 12 0), .ref (ad 13 0), .int se, .ref (ad 14 0)]) (v := .int 0) p_ad_0_0 rfl rfl rfl (Nat.le_of_ble_eq_true rfl) dX12_behindOne_51 (fun f_87870 H locs ef_87870 Y => ?_)
      have p_ad_5_0 := p_ad_5_0.up ef_87870 (I.ne (k := 5) (j := 0) (k' := 0) (j' := 0) (by decide) (by decide) (Or.inl (by decide)))
      have p_ad_6_0 := p_ad_6_0.up ef_87870 (I.ne (k := 6) (j := 0) (k' := 0) (j' := 0) (by decide) (by decide) (Or.inl (by decide)))
      have p_ad_0_0 := p_ad_0_0.me ef_87870
      have I := I.up (k := 0) (j := 0) (by decide) ef_87870 (okE_o (okFs_c okV_r (okFs_c okV_r (okFs_c okV_r (okFs_c okV_r (okFs_c (okV_i bfc87862_4) (okFs_c (okV_i (bn_any _)) (okFs_c (okV_i (bn_any _)) (okFs_c (okV_i bfc87862_7) (okFs_c (okV_i bfc87862_8) (okFs_c (okV_i (bn_any _)) (okFs_c (okV_i (bn_any _)) (okFs_c okV_l (okFs_c (okV_i bfc87862_12) (okFs_c (okV_i bfc87862_13) (okFs_c (okV_i (bn_any _)) (okFs_c okV_r (okFs_c okV_r (okFs_c (okV_i (bn_w (bn_eq ex_87868 (bn_add B_87864 (show bn 1 1 (1 : Int32) from bn_k (by decide)) (by decide))) (by decide))) (okFs_c (okV_i bfc87862_18) (okFs_c (okV_i bfc87862_19) (okFs_c (okV_i (bn_w (show bn 0 0 (0 : Int32) from bn_k (by decide)) (by decide))) (okFs_c (okV_i (bn_any _)) (okFs_c okV_r (okFs_c okV_r (okFs_c okV_r (okFs_c (okV_i bfc87862_25) (okFs_c okV_r (okFs_c okV_r (okFs_c okV_r (okFs_c okV_r (okFs_c (okV_i (bn_any _)) (okFs_c okV_r okFs_n)))))))))))))))))))))))))))))))))
      refine lv_aload_n hx hb dX12_behindOne_54 rfl (lv_at hl 1 rfl) ?_
      obtain ⟨g_87871, p_ad_4_0, o_87872⟩ := I.opi (k := 4) (j := 0) (by decide) rfl
      have p_ad_4_0 : pt L_87854 f_87870 (ad 4 0) (.inl (G.2 0, 300, .inl g_87871)) := p_ad_4_0
      refine cVv (As := []) (rest := []) S Y (x_X12_nextToken (l := l) I p_ad_0_0 p_ad_4_0 p_ad_5_0 p_ad_6_0) cw_X12_nextToken km12_166 p_ad_0_0 ok_X12.1 rfl rfl ⟨Nat.le_of_ble_eq_true rfl, Nat.le_of_ble_eq_true rfl⟩ hl.1 rfl (Nat.le_of_ble_eq_true rfl) ⟨Nat.le_of_ble_eq_true rfl, Nat.le_of_ble_eq_true rfl⟩ dX12_behindOne_55 (fun L_87873 f_87874 H locs hr_87875 Y => ?_)
      obtain ⟨v_87876, v_87877, v_87878, v_87879, v_87880, I, p_ad_0_0, p_ad_4_0, p_ad_5_0, p_ad_6_0, eT_87881, eP_87882⟩ := hr_87875
      obtain ⟨bfc87882_4, bfc87882_7, bfc87882_8, bfc87882_12, bfc87882_13, bfc87882_17, bfc87882_18, bfc87882_19, bfc87882_20, bfc87882_25⟩ := obM I p_ad_0_0
      obtain ⟨g_87884, p_ad_3_0, o_87885⟩ := I.opi (k := 3) (j := 0) (by decide) rfl
      have p_ad_3_0 : pt L_87873 f_87874 (ad 3 0) (.inl (G.2 0, 2916, .inl g_87884)) := p_ad_3_0
      have o_87886 : (XR 0 gB fr g_87865 gc t0 v_87857 x_87868 v_87859 cg 0) g_87884 := (XR_f (XS_bt o_87885 hbc es2_87861 eg_87865 (by have z9 := (la_add ex_87868 (rfl : v_87858.toInt = v_87858.toInt) (show (1 : Int32).toInt = 1 from rfl) B_87864 (show bn 1 1 (1 : Int32) from bn_k (by decide)) (by decide)); omega) (B_87864).1))
      have I := I.castS (sp' := spM PA PI (XR 0 gB fr g_87865 gc t0 v_87857 x_87868 v_87859 cg 0) pa) (k := 3) (j := 0) (by decide) p_ad_3_0 (okE_a (g := g_87884) o_87886) pXC
      refine lv_iconst (v := 0) hx hb dX12_behindOne_58 (by decide) ?_
      exact prI (post := fun r L1 f1 => ∃ at92 : Int32, ∃ ps92 : Int32, ∃ tk2 : Int32, ∃ nu2 : Int32, ∃ wd2 : Int64, ∃ wr2 : Int32, ∃ pd2 : Int32, ∃ op92 : Int32, ∃ cg2 : Int32, ∃ iw2 : Int32, ∃ gp2 : Nat → Int32, ∃ gc2 : Nat → Int32, bn (-1) 7 r ∧ SH (spM PA PI (XR r gB fr gp2 gc2 t0 wr2 pd2 op92 cg2 iw2) pa) nnM G ad L1 f1 ∧ pt L1 f1 (ad 0 0) (.inr (12, [.ref (ad 1 0), .ref (ad 2 0), .ref (ad 3 0), .ref (ad 4 0), .int td, .int fa, .int fp, .int at92, .int ps92, .int tk2, .int nu2, .long wd2, .int t0, .int wr2, .int so, .ref (ad 5 0), .ref (ad 6 0), .int pd2, .int op92, .int cg2, .int iw2, .int on9, .ref (ad 7 0), .ref (ad 8 0), .ref (ad 9 0), .int is9, .ref (ad 10 0), .ref (ad 11 0), .ref (ad 12 0), .ref (ad 13 0), .int se, .ref (ad 14 0)])) ∧ pt L1 f1 (ad 5 0) (.inl (G.2 0, 160, .inl gp2)) ∧ pt L1 f1 (ad 6 0) (.inl (G.2 0, 9, .inl gc2)) ∧ TK at92 ps92 tk2 ∧ (r.toInt = 0 → ps9.toInt + 1 ≤ ps92.toInt) ∧ (r.toInt ≤ 0 → wr2.toInt + pd2.toInt ≤ ps92.toInt) ∧ (r.toInt < 0 → iw2 = 1) ∧ (r.toInt ≤ 0 → ps9.toInt ≤ ps92.toInt)) S Y rfl (by decide) (by decide) hA1 ⟨v_87876, v_87877, v_87878, v_87879, v_87880, v_87857, x_87868, v_87859, cg, 0, g_87865, gc, bn_w (show bn 0 0 (0 : Int32) from bn_k (by decide)) (by decide), I, p_ad_0_0, p_ad_5_0, p_ad_6_0, eT_87881, (fun _ => (by have c0 := es1_87860; have c1 := es3_87862; have c2 := eT_87881.1; have c3 := eP_87882; have c4 := hroom; have c5 := (hT.2 htk); have c6 := (la_add ex_87868 (rfl : v_87858.toInt = v_87858.toInt) (show (1 : Int32).toInt = 1 from rfl) B_87864 (show bn 1 1 (1 : Int32) from bn_k (by decide)) (by decide)); omega)), (fun _ => (by have c0 := es1_87860; have c1 := es3_87862; have c2 := eT_87881.1; have c3 := eP_87882; have c4 := hroom; have c5 := (hT.2 htk); have c6 := (la_add ex_87868 (rfl : v_87858.toInt = v_87858.toInt) (show (1 : Int32).toInt = 1 from rfl) B_87864 (show bn 1 1 (1 : Int32) from bn_k (by decide)) (by decide)); omega)), (fun h => absurd h (by decide)), (fun _ => (by have c0 := es1_87860; have c1 := es3_87862; have c2 := eT_87881.1; have c3 := eP_87882; have c4 := hroom; have c5 := (hT.2 htk); have c6 := (la_add ex_87868 (rfl : v_87858.toInt = v_87858.toInt) (show (1 : Int32).toInt = 1 from rfl) B_87864 (show bn 1 1 (1 : Int32) from bn_k (by decide)) (by decide)); omega))⟩ dX12_behindOne_59
