theorem dX12_w2_0 : decode cX12_w2 0 = .ok (.iload_n 0, 1) := by decide +kernel
theorem dX12_w2_1 : decode cX12_w2 1 = .ok (.i2l, 1) := by decide +kernel
theorem dX12_w2_2 : decode cX12_w2 2 = .ok (.bipush 8, 2) := by decide +kernel
theorem dX12_w2_4 : decode cX12_w2 4 = .ok (.lshl, 1) := by decide +kernel
theorem dX12_w2_5 : decode cX12_w2 5 = .ok (.iload_n 1, 1) := by decide +kernel
theorem dX12_w2_6 : decode cX12_w2 6 = .ok (.i2l, 1) := by decide +kernel
theorem dX12_w2_7 : decode cX12_w2 7 = .ok (.lor, 1) := by decide +kernel
theorem dX12_w2_8 : decode cX12_w2 8 = .ok (.lreturn, 1) := by decide +kernel
theorem dX12_w3_0 : decode cX12_w3 0 = .ok (.iload_n 0, 1) := by decide +kernel
theorem dX12_w3_1 : decode cX12_w3 1 = .ok (.iload_n 1, 1) := by decide +kernel
theorem dX12_w3_2 : decode cX12_w3 2 = .ok (.invokestatic 120, 3) := by decide +kernel
theorem cw_X12_w2 : CWs yX12_w2 cX12_w2 2 (some .long) 2 := ⟨⟨⟨List.mem_of_getElem? (i := 137) (by decide +kernel), by decide +kernel⟩, ⟨List.mem_of_getElem? (i := 1662) (by decide +kernel), by decide +kernel⟩, by decide +kernel⟩, ⟨List.mem_of_getElem? (i := 1661) (by decide +kernel), by decide +kernel⟩⟩
theorem km12_120 : inW (Cond.methodLink RX12 120 yX12_w2) := ⟨List.mem_of_getElem? (i := 1660) (by decide +kernel), by decide +kernel⟩
theorem dX12_w3_5 : decode cX12_w3 5 = .ok (.bipush 8, 2) := by decide +kernel
theorem dX12_w3_7 : decode cX12_w3 7 = .ok (.lshl, 1) := by decide +kernel
theorem dX12_w3_8 : decode cX12_w3 8 = .ok (.iload_n 2, 1) := by decide +kernel
theorem dX12_w3_9 : decode cX12_w3 9 = .ok (.i2l, 1) := by decide +kernel
theorem dX12_w3_10 : decode cX12_w3 10 = .ok (.lor, 1) := by decide +kernel
theorem dX12_w3_11 : decode cX12_w3 11 = .ok (.lreturn, 1) := by decide +kernel
theorem dX12_w4_0 : decode cX12_w4 0 = .ok (.iload_n 0, 1) := by decide +kernel
theorem dX12_w4_1 : decode cX12_w4 1 = .ok (.iload_n 1, 1) := by decide +kernel
theorem dX12_w4_2 : decode cX12_w4 2 = .ok (.iload_n 2, 1) := by decide +kernel
theorem dX12_w4_3 : decode cX12_w4 3 = .ok (.invokestatic 124, 3) := by decide +kernel
theorem cw_X12_w3 : CWs yX12_w3 cX12_w3 3 (some .long) 3 := ⟨⟨⟨List.mem_of_getElem? (i := 137) (by decide +kernel), by decide +kernel⟩, ⟨List.mem_of_getElem? (i := 1659) (by decide +kernel), by decide +kernel⟩, by decide +kernel⟩, ⟨List.mem_of_getElem? (i := 1658) (by decide +kernel), by decide +kernel⟩⟩
theorem km12_124 : inW (Cond.methodLink RX12 124 yX12_w3) := ⟨List.mem_of_getElem? (i := 1657) (by decide +kernel), by decide +kernel⟩
theorem dX12_w4_6 : decode cX12_w4 6 = .ok (.bipush 8, 2) := by decide +kernel
theorem dX12_w4_8 : decode cX12_w4 8 = .ok (.lshl, 1) := by decide +kernel
theorem dX12_w4_9 : decode cX12_w4 9 = .ok (.iload_n 3, 1) := by decide +kernel
theorem dX12_w4_10 : decode cX12_w4 10 = .ok (.i2l, 1) := by decide +kernel
theorem dX12_w4_11 : decode cX12_w4 11 = .ok (.lor, 1) := by decide +kernel
theorem dX12_w4_12 : decode cX12_w4 12 = .ok (.lreturn, 1) := by decide +kernel
theorem dX12_w5_0 : decode cX12_w5 0 = .ok (.iload_n 0, 1) := by decide +kernel
theorem dX12_w5_1 : decode cX12_w5 1 = .ok (.iload_n 1, 1) := by decide +kernel
theorem dX12_w5_2 : decode cX12_w5 2 = .ok (.iload_n 2, 1) := by decide +kernel
theorem dX12_w5_3 : decode cX12_w5 3 = .ok (.iload_n 3, 1) := by decide +kernel
theorem dX12_w5_4 : decode cX12_w5 4 = .ok (.invokestatic 128, 3) := by decide +kernel
theorem cw_X12_w4 : CWs yX12_w4 cX12_w4 4 (some .long) 4 := ⟨⟨⟨List.mem_of_getElem? (i := 137) (by decide +kernel), by decide +kernel⟩, ⟨List.mem_of_getElem? (i := 1656) (by decide +kernel), by decide +kernel⟩, by decide +kernel⟩, ⟨List.mem_of_getElem? (i := 1655) (by decide +kernel), by decide +kernel⟩⟩
theorem km12_128 : inW (Cond.methodLink RX12 128 yX12_w4) := ⟨List.mem_of_getElem? (i := 1654) (by decide +kernel), by decide +kernel⟩
theorem dX12_w5_7 : decode cX12_w5 7 = .ok (.bipush 8, 2) := by decide +kernel
theorem dX12_w5_9 : decode cX12_w5 9 = .ok (.lshl, 1) := by decide +kernel
theorem dX12_w5_10 : decode cX12_w5 10 = .ok (.iload 4, 2) := by decide +kernel
theorem dX12_w5_12 : decode cX12_w5 12 = .ok (.i2l, 1) := by decide +kernel
theorem dX12_w5_13 : decode cX12_w5 13 = .ok (.lor, 1) := by decide +kernel
theorem dX12_w5_14 : decode cX12_w5 14 = .ok (.lreturn, 1) := by decide +kernel
theorem dX12_isWord_0 : decode cX12_isWord 0 = .ok (.aload_n 0, 1) := by decide +kernel
theorem dX12_isWord_1 : decode cX12_isWord 1 = .ok (.getfield 98, 3) := by decide +kernel
theorem dX12_isWord_4 : decode cX12_isWord 4 = .ok (.iconst 2, 1) := by decide +kernel
theorem dX12_isWord_5 : decode cX12_isWord 5 = .ok (.if_icmp .ne 16, 3) := by decide +kernel
theorem dX12_isWord_21 : decode cX12_isWord 21 = .ok (.iconst 0, 1) := by decide +kernel
theorem dX12_isWord_22 : decode cX12_isWord 22 = .ok (.ireturn, 1) := by decide +kernel
theorem dX12_isWord_8 : decode cX12_isWord 8 = .ok (.aload_n 0, 1) := by decide +kernel
theorem dX12_isWord_9 : decode cX12_isWord 9 = .ok (.getfield 111, 3) := by decide +kernel
theorem dX12_isWord_12 : decode cX12_isWord 12 = .ok (.lload_n 1, 1) := by decide +kernel
theorem dX12_isWord_13 : decode cX12_isWord 13 = .ok (.lcmp, 1) := by decide +kernel
theorem dX12_isWord_14 : decode cX12_isWord 14 = .ok (.ifCond .ne 7, 3) := by decide +kernel
theorem dX12_isWord_17 : decode cX12_isWord 17 = .ok (.iconst 1, 1) := by decide +kernel
theorem dX12_isWord_18 : decode cX12_isWord 18 = .ok (.goto 4, 3) := by decide +kernel
theorem dX12_nameOf_0 : decode cX12_nameOf 0 = .ok (.aload_n 0, 1) := by decide +kernel
theorem dX12_nameOf_1 : decode cX12_nameOf 1 = .ok (.getfield 98, 3) := by decide +kernel
theorem dX12_nameOf_4 : decode cX12_nameOf 4 = .ok (.iconst 2, 1) := by decide +kernel
theorem dX12_nameOf_5 : decode cX12_nameOf 5 = .ok (.if_icmp .eq 5, 3) := by decide +kernel
theorem dX12_nameOf_10 : decode cX12_nameOf 10 = .ok (.aload_n 0, 1) := by decide +kernel
theorem dX12_nameOf_11 : decode cX12_nameOf 11 = .ok (.getfield 111, 3) := by decide +kernel
theorem dX12_nameOf_14 : decode cX12_nameOf 14 = .ok (.bipush 100, 2) := by decide +kernel
theorem dX12_nameOf_16 : decode cX12_nameOf 16 = .ok (.bipush 97, 2) := by decide +kernel
theorem dX12_nameOf_18 : decode cX12_nameOf 18 = .ok (.bipush 121, 2) := by decide +kernel
theorem dX12_nameOf_20 : decode cX12_nameOf 20 = .ok (.invokestatic 124, 3) := by decide +kernel
theorem dX12_nameOf_23 : decode cX12_nameOf 23 = .ok (.lcmp, 1) := by decide +kernel
theorem dX12_nameOf_24 : decode cX12_nameOf 24 = .ok (.ifCond .ne 5, 3) := by decide +kernel
theorem dX12_nameOf_29 : decode cX12_nameOf 29 = .ok (.aload_n 0, 1) := by decide +kernel
theorem dX12_nameOf_30 : decode cX12_nameOf 30 = .ok (.getfield 111, 3) := by decide +kernel
theorem dX12_nameOf_33 : decode cX12_nameOf 33 = .ok (.bipush 114, 2) := by decide +kernel
theorem dX12_nameOf_35 : decode cX12_nameOf 35 = .ok (.bipush 97, 2) := by decide +kernel
theorem dX12_nameOf_37 : decode cX12_nameOf 37 = .ok (.bipush 105, 2) := by decide +kernel
theorem dX12_nameOf_39 : decode cX12_nameOf 39 = .ok (.bipush 110, 2) := by decide +kernel
theorem dX12_nameOf_41 : decode cX12_nameOf 41 = .ok (.invokestatic 128, 3) := by decide +kernel
theorem dX12_nameOf_44 : decode cX12_nameOf 44 = .ok (.lcmp, 1) := by decide +kernel
theorem dX12_nameOf_45 : decode cX12_nameOf 45 = .ok (.ifCond .ne 5, 3) := by decide +kernel
theorem dX12_nameOf_50 : decode cX12_nameOf 50 = .ok (.aload_n 0, 1) := by decide +kernel
theorem dX12_nameOf_51 : decode cX12_nameOf 51 = .ok (.getfield 111, 3) := by decide +kernel
theorem dX12_nameOf_54 : decode cX12_nameOf 54 = .ok (.bipush 116, 2) := by decide +kernel
theorem dX12_nameOf_56 : decode cX12_nameOf 56 = .ok (.bipush 111, 2) := by decide +kernel
theorem dX12_nameOf_58 : decode cX12_nameOf 58 = .ok (.bipush 117, 2) := by decide +kernel
theorem dX12_nameOf_60 : decode cX12_nameOf 60 = .ok (.bipush 103, 2) := by decide +kernel
theorem dX12_nameOf_62 : decode cX12_nameOf 62 = .ok (.bipush 104, 2) := by decide +kernel
theorem dX12_nameOf_64 : decode cX12_nameOf 64 = .ok (.invokestatic 132, 3) := by decide +kernel
theorem cw_X12_w5 : CWs yX12_w5 cX12_w5 5 (some .long) 5 := ⟨⟨⟨List.mem_of_getElem? (i := 137) (by decide +kernel), by decide +kernel⟩, ⟨List.mem_of_getElem? (i := 1653) (by decide +kernel), by decide +kernel⟩, by decide +kernel⟩, ⟨List.mem_of_getElem? (i := 1652) (by decide +kernel), by decide +kernel⟩⟩
theorem km12_132 : inW (Cond.methodLink RX12 132 yX12_w5) := ⟨List.mem_of_getElem? (i := 1651) (by decide +kernel), by decide +kernel⟩
theorem dX12_nameOf_67 : decode cX12_nameOf 67 = .ok (.lcmp, 1) := by decide +kernel
theorem dX12_nameOf_68 : decode cX12_nameOf 68 = .ok (.ifCond .ne 5, 3) := by decide +kernel
theorem dX12_nameOf_73 : decode cX12_nameOf 73 = .ok (.aload_n 0, 1) := by decide +kernel
theorem dX12_nameOf_74 : decode cX12_nameOf 74 = .ok (.getfield 111, 3) := by decide +kernel
theorem dX12_nameOf_77 : decode cX12_nameOf 77 = .ok (.bipush 97, 2) := by decide +kernel
theorem dX12_nameOf_79 : decode cX12_nameOf 79 = .ok (.bipush 103, 2) := by decide +kernel
theorem dX12_nameOf_81 : decode cX12_nameOf 81 = .ok (.bipush 101, 2) := by decide +kernel
theorem dX12_nameOf_83 : decode cX12_nameOf 83 = .ok (.invokestatic 124, 3) := by decide +kernel
theorem dX12_nameOf_86 : decode cX12_nameOf 86 = .ok (.lcmp, 1) := by decide +kernel
theorem dX12_nameOf_87 : decode cX12_nameOf 87 = .ok (.ifCond .ne 5, 3) := by decide +kernel
theorem dX12_nameOf_92 : decode cX12_nameOf 92 = .ok (.aload_n 0, 1) := by decide +kernel
theorem dX12_nameOf_93 : decode cX12_nameOf 93 = .ok (.getfield 111, 3) := by decide +kernel
theorem dX12_nameOf_96 : decode cX12_nameOf 96 = .ok (.bipush 119, 2) := by decide +kernel
theorem dX12_nameOf_98 : decode cX12_nameOf 98 = .ok (.bipush 104, 2) := by decide +kernel
theorem dX12_nameOf_100 : decode cX12_nameOf 100 = .ok (.bipush 111, 2) := by decide +kernel
theorem dX12_nameOf_102 : decode cX12_nameOf 102 = .ok (.invokestatic 124, 3) := by decide +kernel
theorem dX12_nameOf_105 : decode cX12_nameOf 105 = .ok (.lcmp, 1) := by decide +kernel
theorem dX12_nameOf_106 : decode cX12_nameOf 106 = .ok (.ifCond .ne 5, 3) := by decide +kernel
theorem dX12_nameOf_111 : decode cX12_nameOf 111 = .ok (.aload_n 0, 1) := by decide +kernel
theorem dX12_nameOf_112 : decode cX12_nameOf 112 = .ok (.getfield 111, 3) := by decide +kernel
theorem dX12_nameOf_115 : decode cX12_nameOf 115 = .ok (.bipush 115, 2) := by decide +kernel
theorem dX12_nameOf_117 : decode cX12_nameOf 117 = .ok (.bipush 105, 2) := by decide +kernel
theorem dX12_nameOf_119 : decode cX12_nameOf 119 = .ok (.bipush 122, 2) := by decide +kernel
theorem dX12_nameOf_121 : decode cX12_nameOf 121 = .ok (.bipush 101, 2) := by decide +kernel
theorem dX12_nameOf_123 : decode cX12_nameOf 123 = .ok (.invokestatic 128, 3) := by decide +kernel
theorem dX12_nameOf_126 : decode cX12_nameOf 126 = .ok (.lcmp, 1) := by decide +kernel
theorem dX12_nameOf_127 : decode cX12_nameOf 127 = .ok (.ifCond .ne 5, 3) := by decide +kernel
theorem dX12_nameOf_132 : decode cX12_nameOf 132 = .ok (.aload_n 0, 1) := by decide +kernel
theorem dX12_nameOf_133 : decode cX12_nameOf 133 = .ok (.getfield 111, 3) := by decide +kernel
theorem dX12_nameOf_136 : decode cX12_nameOf 136 = .ok (.bipush 107, 2) := by decide +kernel
theorem dX12_nameOf_138 : decode cX12_nameOf 138 = .ok (.bipush 110, 2) := by decide +kernel
theorem dX12_nameOf_140 : decode cX12_nameOf 140 = .ok (.bipush 101, 2) := by decide +kernel
theorem dX12_nameOf_142 : decode cX12_nameOf 142 = .ok (.bipush 101, 2) := by decide +kernel
theorem dX12_nameOf_144 : decode cX12_nameOf 144 = .ok (.invokestatic 128, 3) := by decide +kernel
theorem dX12_nameOf_147 : decode cX12_nameOf 147 = .ok (.lcmp, 1) := by decide +kernel
theorem dX12_nameOf_148 : decode cX12_nameOf 148 = .ok (.ifCond .ne 6, 3) := by decide +kernel
theorem dX12_nameOf_154 : decode cX12_nameOf 154 = .ok (.aload_n 0, 1) := by decide +kernel
theorem dX12_nameOf_155 : decode cX12_nameOf 155 = .ok (.getfield 111, 3) := by decide +kernel
theorem dX12_nameOf_158 : decode cX12_nameOf 158 = .ok (.bipush 119, 2) := by decide +kernel
theorem dX12_nameOf_160 : decode cX12_nameOf 160 = .ok (.bipush 101, 2) := by decide +kernel
theorem dX12_nameOf_162 : decode cX12_nameOf 162 = .ok (.bipush 97, 2) := by decide +kernel
theorem dX12_nameOf_164 : decode cX12_nameOf 164 = .ok (.bipush 114, 2) := by decide +kernel
theorem dX12_nameOf_166 : decode cX12_nameOf 166 = .ok (.invokestatic 128, 3) := by decide +kernel
theorem dX12_nameOf_169 : decode cX12_nameOf 169 = .ok (.lcmp, 1) := by decide +kernel
theorem dX12_nameOf_170 : decode cX12_nameOf 170 = .ok (.ifCond .ne 6, 3) := by decide +kernel
theorem dX12_nameOf_176 : decode cX12_nameOf 176 = .ok (.aload_n 0, 1) := by decide +kernel
theorem dX12_nameOf_177 : decode cX12_nameOf 177 = .ok (.getfield 111, 3) := by decide +kernel
theorem dX12_nameOf_180 : decode cX12_nameOf 180 = .ok (.bipush 115, 2) := by decide +kernel
theorem dX12_nameOf_182 : decode cX12_nameOf 182 = .ok (.bipush 105, 2) := by decide +kernel
theorem dX12_nameOf_184 : decode cX12_nameOf 184 = .ok (.bipush 110, 2) := by decide +kernel
theorem dX12_nameOf_186 : decode cX12_nameOf 186 = .ok (.bipush 99, 2) := by decide +kernel
theorem dX12_nameOf_188 : decode cX12_nameOf 188 = .ok (.bipush 101, 2) := by decide +kernel
theorem dX12_nameOf_190 : decode cX12_nameOf 190 = .ok (.invokestatic 132, 3) := by decide +kernel
theorem dX12_nameOf_193 : decode cX12_nameOf 193 = .ok (.lcmp, 1) := by decide +kernel
theorem dX12_nameOf_194 : decode cX12_nameOf 194 = .ok (.ifCond .ne 8, 3) := by decide +kernel
theorem dX12_nameOf_202 : decode cX12_nameOf 202 = .ok (.aload_n 0, 1) := by decide +kernel
theorem dX12_nameOf_203 : decode cX12_nameOf 203 = .ok (.getfield 111, 3) := by decide +kernel
theorem dX12_nameOf_206 : decode cX12_nameOf 206 = .ok (.bipush 98, 2) := by decide +kernel
theorem dX12_nameOf_208 : decode cX12_nameOf 208 = .ok (.bipush 121, 2) := by decide +kernel
theorem dX12_nameOf_210 : decode cX12_nameOf 210 = .ok (.invokestatic 120, 3) := by decide +kernel
theorem dX12_nameOf_213 : decode cX12_nameOf 213 = .ok (.lcmp, 1) := by decide +kernel
theorem dX12_nameOf_214 : decode cX12_nameOf 214 = .ok (.ifCond .ne 8, 3) := by decide +kernel
theorem dX12_nameOf_222 : decode cX12_nameOf 222 = .ok (.iconst (-1), 1) := by decide +kernel
theorem dX12_nameOf_223 : decode cX12_nameOf 223 = .ok (.ireturn, 1) := by decide +kernel
theorem dX12_nameOf_217 : decode cX12_nameOf 217 = .ok (.bipush 9, 2) := by decide +kernel
theorem dX12_nameOf_219 : decode cX12_nameOf 219 = .ok (.goto 4, 3) := by decide +kernel
theorem dX12_nameOf_197 : decode cX12_nameOf 197 = .ok (.bipush 8, 2) := by decide +kernel
theorem dX12_nameOf_199 : decode cX12_nameOf 199 = .ok (.goto 24, 3) := by decide +kernel
theorem dX12_nameOf_173 : decode cX12_nameOf 173 = .ok (.bipush 7, 2) := by decide +kernel
theorem dX12_nameOf_175 : decode cX12_nameOf 175 = .ok (.ireturn, 1) := by decide +kernel
theorem dX12_nameOf_151 : decode cX12_nameOf 151 = .ok (.bipush 6, 2) := by decide +kernel
theorem dX12_nameOf_153 : decode cX12_nameOf 153 = .ok (.ireturn, 1) := by decide +kernel
theorem dX12_nameOf_130 : decode cX12_nameOf 130 = .ok (.iconst 5, 1) := by decide +kernel
theorem dX12_nameOf_131 : decode cX12_nameOf 131 = .ok (.ireturn, 1) := by decide +kernel
theorem dX12_nameOf_109 : decode cX12_nameOf 109 = .ok (.iconst 4, 1) := by decide +kernel
theorem dX12_nameOf_110 : decode cX12_nameOf 110 = .ok (.ireturn, 1) := by decide +kernel
theorem dX12_nameOf_90 : decode cX12_nameOf 90 = .ok (.iconst 3, 1) := by decide +kernel
theorem dX12_nameOf_91 : decode cX12_nameOf 91 = .ok (.ireturn, 1) := by decide +kernel
theorem dX12_nameOf_71 : decode cX12_nameOf 71 = .ok (.iconst 2, 1) := by decide +kernel
theorem dX12_nameOf_72 : decode cX12_nameOf 72 = .ok (.ireturn, 1) := by decide +kernel
theorem dX12_nameOf_48 : decode cX12_nameOf 48 = .ok (.iconst 1, 1) := by decide +kernel
theorem dX12_nameOf_49 : decode cX12_nameOf 49 = .ok (.ireturn, 1) := by decide +kernel
theorem dX12_nameOf_27 : decode cX12_nameOf 27 = .ok (.iconst 0, 1) := by decide +kernel
theorem dX12_nameOf_28 : decode cX12_nameOf 28 = .ok (.ireturn, 1) := by decide +kernel
theorem dX12_nameOf_8 : decode cX12_nameOf 8 = .ok (.iconst (-1), 1) := by decide +kernel
theorem dX12_nameOf_9 : decode cX12_nameOf 9 = .ok (.ireturn, 1) := by decide +kernel
theorem dX12_compareOf_0 : decode cX12_compareOf 0 = .ok (.aload_n 0, 1) := by decide +kernel
theorem dX12_compareOf_1 : decode cX12_compareOf 1 = .ok (.getfield 98, 3) := by decide +kernel
theorem dX12_compareOf_4 : decode cX12_compareOf 4 = .ok (.bipush 60, 2) := by decide +kernel
theorem dX12_compareOf_6 : decode cX12_compareOf 6 = .ok (.if_icmp .ne 8, 3) := by decide +kernel
theorem dX12_compareOf_14 : decode cX12_compareOf 14 = .ok (.aload_n 0, 1) := by decide +kernel
theorem dX12_compareOf_15 : decode cX12_compareOf 15 = .ok (.getfield 98, 3) := by decide +kernel
theorem dX12_compareOf_18 : decode cX12_compareOf 18 = .ok (.iconst 4, 1) := by decide +kernel
theorem dX12_compareOf_19 : decode cX12_compareOf 19 = .ok (.if_icmp .ne 8, 3) := by decide +kernel
theorem dX12_compareOf_27 : decode cX12_compareOf 27 = .ok (.aload_n 0, 1) := by decide +kernel
theorem dX12_compareOf_28 : decode cX12_compareOf 28 = .ok (.getfield 98, 3) := by decide +kernel
theorem dX12_compareOf_31 : decode cX12_compareOf 31 = .ok (.bipush 62, 2) := by decide +kernel
theorem dX12_compareOf_33 : decode cX12_compareOf 33 = .ok (.if_icmp .ne 8, 3) := by decide +kernel
theorem dX12_compareOf_41 : decode cX12_compareOf 41 = .ok (.aload_n 0, 1) := by decide +kernel
theorem dX12_compareOf_42 : decode cX12_compareOf 42 = .ok (.getfield 98, 3) := by decide +kernel
theorem dX12_compareOf_45 : decode cX12_compareOf 45 = .ok (.iconst 5, 1) := by decide +kernel
theorem dX12_compareOf_46 : decode cX12_compareOf 46 = .ok (.if_icmp .ne 8, 3) := by decide +kernel
theorem dX12_compareOf_54 : decode cX12_compareOf 54 = .ok (.aload_n 0, 1) := by decide +kernel
theorem dX12_compareOf_55 : decode cX12_compareOf 55 = .ok (.getfield 98, 3) := by decide +kernel
theorem dX12_compareOf_58 : decode cX12_compareOf 58 = .ok (.bipush 61, 2) := by decide +kernel
theorem dX12_compareOf_60 : decode cX12_compareOf 60 = .ok (.if_icmp .ne 8, 3) := by decide +kernel
theorem dX12_compareOf_68 : decode cX12_compareOf 68 = .ok (.aload_n 0, 1) := by decide +kernel
theorem dX12_compareOf_69 : decode cX12_compareOf 69 = .ok (.getfield 98, 3) := by decide +kernel
theorem dX12_compareOf_72 : decode cX12_compareOf 72 = .ok (.bipush 35, 2) := by decide +kernel
theorem dX12_compareOf_74 : decode cX12_compareOf 74 = .ok (.if_icmp .ne 8, 3) := by decide +kernel
theorem dX12_compareOf_82 : decode cX12_compareOf 82 = .ok (.iconst (-1), 1) := by decide +kernel
theorem dX12_compareOf_83 : decode cX12_compareOf 83 = .ok (.ireturn, 1) := by decide +kernel
theorem dX12_compareOf_77 : decode cX12_compareOf 77 = .ok (.bipush 15, 2) := by decide +kernel
theorem dX12_compareOf_79 : decode cX12_compareOf 79 = .ok (.goto 4, 3) := by decide +kernel
theorem dX12_compareOf_63 : decode cX12_compareOf 63 = .ok (.bipush 14, 2) := by decide +kernel
theorem dX12_compareOf_65 : decode cX12_compareOf 65 = .ok (.goto 18, 3) := by decide +kernel
theorem dX12_compareOf_49 : decode cX12_compareOf 49 = .ok (.bipush 13, 2) := by decide +kernel
theorem dX12_compareOf_51 : decode cX12_compareOf 51 = .ok (.goto 32, 3) := by decide +kernel
theorem dX12_compareOf_36 : decode cX12_compareOf 36 = .ok (.bipush 12, 2) := by decide +kernel
theorem dX12_compareOf_38 : decode cX12_compareOf 38 = .ok (.goto 45, 3) := by decide +kernel
theorem dX12_compareOf_22 : decode cX12_compareOf 22 = .ok (.bipush 11, 2) := by decide +kernel
theorem dX12_compareOf_24 : decode cX12_compareOf 24 = .ok (.goto 59, 3) := by decide +kernel
theorem dX12_compareOf_9 : decode cX12_compareOf 9 = .ok (.bipush 10, 2) := by decide +kernel
theorem dX12_compareOf_11 : decode cX12_compareOf 11 = .ok (.goto 72, 3) := by decide +kernel
theorem dX12_rank_0 : decode cX12_rank 0 = .ok (.iload_n 0, 1) := by decide +kernel
theorem dX12_rank_1 : decode cX12_rank 1 = .ok (.bipush 40, 2) := by decide +kernel
theorem dX12_rank_3 : decode cX12_rank 3 = .ok (.if_icmp .lt 7, 3) := by decide +kernel
theorem dX12_rank_10 : decode cX12_rank 10 = .ok (.iload_n 0, 1) := by decide +kernel
theorem dX12_rank_11 : decode cX12_rank 11 = .ok (.bipush 22, 2) := by decide +kernel
theorem dX12_rank_13 : decode cX12_rank 13 = .ok (.if_icmp .ne 7, 3) := by decide +kernel
theorem dX12_rank_20 : decode cX12_rank 20 = .ok (.iload_n 0, 1) := by decide +kernel
theorem dX12_rank_21 : decode cX12_rank 21 = .ok (.bipush 21, 2) := by decide +kernel
theorem dX12_rank_23 : decode cX12_rank 23 = .ok (.if_icmp .ne 7, 3) := by decide +kernel
theorem dX12_rank_30 : decode cX12_rank 30 = .ok (.iload_n 0, 1) := by decide +kernel
theorem dX12_rank_31 : decode cX12_rank 31 = .ok (.bipush 20, 2) := by decide +kernel
theorem dX12_rank_33 : decode cX12_rank 33 = .ok (.if_icmp .ne 7, 3) := by decide +kernel
theorem dX12_rank_40 : decode cX12_rank 40 = .ok (.iload_n 0, 1) := by decide +kernel
theorem dX12_rank_41 : decode cX12_rank 41 = .ok (.bipush 10, 2) := by decide +kernel
theorem dX12_rank_43 : decode cX12_rank 43 = .ok (.if_icmp .lt 7, 3) := by decide +kernel
theorem dX12_rank_50 : decode cX12_rank 50 = .ok (.iload_n 0, 1) := by decide +kernel
theorem dX12_rank_51 : decode cX12_rank 51 = .ok (.iconst 5, 1) := by decide +kernel
theorem dX12_rank_52 : decode cX12_rank 52 = .ok (.if_icmp .eq 8, 3) := by decide +kernel
theorem dX12_rank_60 : decode cX12_rank 60 = .ok (.bipush 7, 2) := by decide +kernel
theorem dX12_rank_62 : decode cX12_rank 62 = .ok (.goto 15, 3) := by decide +kernel
theorem dX12_rank_77 : decode cX12_rank 77 = .ok (.ireturn, 1) := by decide +kernel
theorem dX12_rank_55 : decode cX12_rank 55 = .ok (.iload_n 0, 1) := by decide +kernel
theorem dX12_rank_56 : decode cX12_rank 56 = .ok (.iconst 2, 1) := by decide +kernel
theorem dX12_rank_57 : decode cX12_rank 57 = .ok (.if_icmp .ne 8, 3) := by decide +kernel
theorem dX12_rank_65 : decode cX12_rank 65 = .ok (.iload_n 0, 1) := by decide +kernel
theorem dX12_rank_66 : decode cX12_rank 66 = .ok (.bipush 8, 2) := by decide +kernel
theorem dX12_rank_68 : decode cX12_rank 68 = .ok (.if_icmp .lt 8, 3) := by decide +kernel
theorem dX12_rank_76 : decode cX12_rank 76 = .ok (.iconst 5, 1) := by decide +kernel
theorem dX12_rank_71 : decode cX12_rank 71 = .ok (.bipush 6, 2) := by decide +kernel
theorem dX12_rank_73 : decode cX12_rank 73 = .ok (.goto 4, 3) := by decide +kernel
theorem dX12_rank_46 : decode cX12_rank 46 = .ok (.iconst 4, 1) := by decide +kernel
theorem dX12_rank_47 : decode cX12_rank 47 = .ok (.goto 30, 3) := by decide +kernel
theorem dX12_rank_36 : decode cX12_rank 36 = .ok (.iconst 3, 1) := by decide +kernel
theorem dX12_rank_37 : decode cX12_rank 37 = .ok (.goto 40, 3) := by decide +kernel
theorem dX12_rank_26 : decode cX12_rank 26 = .ok (.iconst 2, 1) := by decide +kernel
theorem dX12_rank_27 : decode cX12_rank 27 = .ok (.goto 50, 3) := by decide +kernel
theorem dX12_rank_16 : decode cX12_rank 16 = .ok (.iconst 1, 1) := by decide +kernel
theorem dX12_rank_17 : decode cX12_rank 17 = .ok (.goto 60, 3) := by decide +kernel
theorem dX12_rank_6 : decode cX12_rank 6 = .ok (.iconst 0, 1) := by decide +kernel
theorem dX12_rank_7 : decode cX12_rank 7 = .ok (.goto 70, 3) := by decide +kernel
def wv2 (x y : Int32) : Int64 := (x.toInt64 <<< ((8 : Int32).toInt64 &&& 63)) ||| y.toInt64
def wv3 (x y z : Int32) : Int64 := (wv2 x y <<< ((8 : Int32).toInt64 &&& 63)) ||| z.toInt64
def wv4 (x y z u : Int32) : Int64 := (wv3 x y z <<< ((8 : Int32).toInt64 &&& 63)) ||| u.toInt64
def wv5 (x y z u v : Int32) : Int64 := (wv4 x y z u <<< ((8 : Int32).toInt64 &&& 63)) ||| v.toInt64
theorem isw_a {A B C : Prop} (h : A ∧ B ∧ C) : A ∧ B := ⟨h.1, h.2.1⟩
theorem lc_eq {v : Int32} {a b : Int64} (e : v = lg_cmp a b) : v = 0 ↔ a = b := by
  constructor
  · intro h
    rw [h] at e
    unfold lg_cmp at e
    split at e
    · exact absurd e (by decide)
    · next q =>
      split at e
      · next q2 => exact q2
      · exact absurd e (by decide)
  · rintro rfl
    rw [e]
    unfold lg_cmp
    have h : ¬ a < a := by rw [Int64.lt_iff_toInt_lt]; omega
    rw [if_neg h, if_pos rfl]
set_option maxHeartbeats 4000000 in
set_option maxRecDepth 100000 in
theorem x_X12_w2 {l : Launch} {G : GG}  {L : List Nat} {f : HF}  {i1 i2 : Int32}  : PMl l yX12_w2 cX12_w2 2 0 0 0 G [.int i1, .int i2] L f (fun r L1 f1 => ((r = wv2 i1 i2)) ∧ L1 = L ∧ f1 = f) := by
  refine PMl.of (post := fun r L1 f1 => ((r = wv2 i1 i2)) ∧ L1 = L ∧ f1 = f) (own := RX12) (by decide) rfl (Nat.le_of_ble_eq_true rfl) (fun sz p e s m args below meth c A ls hA1 hname S Y hl => ?_)
  have hx := S.hx
  have hb := S.hb
  have hl : lv_has ls 2 [(0, .int i1), (1, .int i2)] := hl
  refine lv_iload_n hx hb dX12_w2_0 rfl (lv_at hl 0 rfl) ?_
  refine lv_i2l hx hb dX12_w2_1 rfl ?_
  refine lv_topl (fun x_85173 ex_85173 => ?_)
  refine lv_bipush (v := 8) hx hb dX12_w2_2 (by decide) ?_
  obtain ⟨x_85174, ex_85174⟩ : ∃ z : Int64, z = x_85173 <<< ((8 : Int32).toInt64 &&& 63) := ⟨_, rfl⟩
  refine lv_lshl (v := x_85174) hx hb dX12_w2_4 ex_85174.symm ?_
  refine lv_iload_n hx hb dX12_w2_5 rfl (lv_at hl 1 rfl) ?_
  refine lv_i2l hx hb dX12_w2_6 rfl ?_
  refine lv_topl (fun x_85175 ex_85175 => ?_)
  refine lv_lor hx hb dX12_w2_7 ?_
  refine lv_topl (fun x_85176 ex_85176 => ?_)
  exact prL (post := fun r L1 f1 => ((r = wv2 i1 i2)) ∧ L1 = L ∧ f1 = f) S Y (by decide) (by decide) hA1 ⟨(by rw [ex_85176, ex_85174, ex_85175, ex_85173]; rfl), rfl, rfl⟩ dX12_w2_8
set_option maxHeartbeats 4000000 in
set_option maxRecDepth 100000 in
theorem x_X12_w3 {l : Launch} {G : GG}  {L : List Nat} {f : HF}  {i1 i2 i3 : Int32}  : PMl l yX12_w3 cX12_w3 3 1 0 0 G [.int i1, .int i2, .int i3] L f (fun r L1 f1 => ((r = wv3 i1 i2 i3)) ∧ L1 = L ∧ f1 = f) := by
  refine PMl.of (post := fun r L1 f1 => ((r = wv3 i1 i2 i3)) ∧ L1 = L ∧ f1 = f) (own := RX12) (by decide) rfl (Nat.le_of_ble_eq_true rfl) (fun sz p e s m args below meth c A ls hA1 hname S Y hl => ?_)
  have hx := S.hx
  have hb := S.hb
  have hl : lv_has ls 3 [(0, .int i1), (1, .int i2), (2, .int i3)] := hl
  refine lv_iload_n hx hb dX12_w3_0 rfl (lv_at hl 0 rfl) ?_
  refine lv_iload_n hx hb dX12_w3_1 rfl (lv_at hl 1 rfl) ?_
  refine cSlp (As := [.int i1, .int i2]) (rest := []) S Y (x_X12_w2 (l := l) ) cw_X12_w2 km12_120 rfl ⟨Nat.le_of_ble_eq_true rfl, Nat.le_of_ble_eq_true rfl⟩ hl.1 rfl (Nat.le_of_ble_eq_true rfl) ⟨Nat.le_of_ble_eq_true rfl, Nat.le_of_ble_eq_true rfl⟩ dX12_w3_2 (fun r_85185 H locs er_85185 Y => ?_)
  refine lv_bipush (v := 8) hx hb dX12_w3_5 (by decide) ?_
  obtain ⟨x_85186, ex_85186⟩ : ∃ z : Int64, z = r_85185 <<< ((8 : Int32).toInt64 &&& 63) := ⟨_, rfl⟩
  refine lv_lshl (v := x_85186) hx hb dX12_w3_7 ex_85186.symm ?_
  refine lv_iload_n hx hb dX12_w3_8 rfl (lv_at hl 2 rfl) ?_
  refine lv_i2l hx hb dX12_w3_9 rfl ?_
  refine lv_topl (fun x_85187 ex_85187 => ?_)
  refine lv_lor hx hb dX12_w3_10 ?_
  refine lv_topl (fun x_85188 ex_85188 => ?_)
  exact prL (post := fun r L1 f1 => ((r = wv3 i1 i2 i3)) ∧ L1 = L ∧ f1 = f) S Y (by decide) (by decide) hA1 ⟨(by rw [ex_85188, ex_85186, ex_85187, er_85185]; rfl), rfl, rfl⟩ dX12_w3_11
set_option maxHeartbeats 4000000 in
set_option maxRecDepth 100000 in
theorem x_X12_w4 {l : Launch} {G : GG}  {L : List Nat} {f : HF}  {i1 i2 i3 i4 : Int32}  : PMl l yX12_w4 cX12_w4 4 2 0 0 G [.int i1, .int i2, .int i3, .int i4] L f (fun r L1 f1 => ((r = wv4 i1 i2 i3 i4)) ∧ L1 = L ∧ f1 = f) := by
  refine PMl.of (post := fun r L1 f1 => ((r = wv4 i1 i2 i3 i4)) ∧ L1 = L ∧ f1 = f) (own := RX12) (by decide) rfl (Nat.le_of_ble_eq_true rfl) (fun sz p e s m args below meth c A ls hA1 hname S Y hl => ?_)
  have hx := S.hx
  have hb := S.hb
  have hl : lv_has ls 4 [(0, .int i1), (1, .int i2), (2, .int i3), (3, .int i4)] := hl
  refine lv_iload_n hx hb dX12_w4_0 rfl (lv_at hl 0 rfl) ?_
  refine lv_iload_n hx hb dX12_w4_1 rfl (lv_at hl 1 rfl) ?_
  refine lv_iload_n hx hb dX12_w4_2 rfl (lv_at hl 2 rfl) ?_
  refine cSlp (As := [.int i1, .int i2, .int i3]) (rest := []) S Y (x_X12_w3 (l := l) ) cw_X12_w3 km12_124 rfl ⟨Nat.le_of_ble_eq_true rfl, Nat.le_of_ble_eq_true rfl⟩ hl.1 rfl (Nat.le_of_ble_eq_true rfl) ⟨Nat.le_of_ble_eq_true rfl, Nat.le_of_ble_eq_true rfl⟩ dX12_w4_3 (fun r_85197 H locs er_85197 Y => ?_)
  refine lv_bipush (v := 8) hx hb dX12_w4_6 (by decide) ?_
  obtain ⟨x_85198, ex_85198⟩ : ∃ z : Int64, z = r_85197 <<< ((8 : Int32).toInt64 &&& 63) := ⟨_, rfl⟩
  refine lv_lshl (v := x_85198) hx hb dX12_w4_8 ex_85198.symm ?_
  refine lv_iload_n hx hb dX12_w4_9 rfl (lv_at hl 3 rfl) ?_
  refine lv_i2l hx hb dX12_w4_10 rfl ?_
  refine lv_topl (fun x_85199 ex_85199 => ?_)
  refine lv_lor hx hb dX12_w4_11 ?_
  refine lv_topl (fun x_85200 ex_85200 => ?_)
  exact prL (post := fun r L1 f1 => ((r = wv4 i1 i2 i3 i4)) ∧ L1 = L ∧ f1 = f) S Y (by decide) (by decide) hA1 ⟨(by rw [ex_85200, ex_85198, ex_85199, er_85197]; rfl), rfl, rfl⟩ dX12_w4_12
set_option maxHeartbeats 4000000 in
set_option maxRecDepth 100000 in
theorem x_X12_w5 {l : Launch} {G : GG}  {L : List Nat} {f : HF}  {i1 i2 i3 i4 i5 : Int32}  : PMl l yX12_w5 cX12_w5 5 3 0 0 G [.int i1, .int i2, .int i3, .int i4, .int i5] L f (fun r L1 f1 => ((r = wv5 i1 i2 i3 i4 i5)) ∧ L1 = L ∧ f1 = f) := by
  refine PMl.of (post := fun r L1 f1 => ((r = wv5 i1 i2 i3 i4 i5)) ∧ L1 = L ∧ f1 = f) (own := RX12) (by decide) rfl (Nat.le_of_ble_eq_true rfl) (fun sz p e s m args below meth c A ls hA1 hname S Y hl => ?_)
  have hx := S.hx
  have hb := S.hb
  have hl : lv_has ls 5 [(0, .int i1), (1, .int i2), (2, .int i3), (3, .int i4), (4, .int i5)] := hl
  refine lv_iload_n hx hb dX12_w5_0 rfl (lv_at hl 0 rfl) ?_
  refine lv_iload_n hx hb dX12_w5_1 rfl (lv_at hl 1 rfl) ?_
  refine lv_iload_n hx hb dX12_w5_2 rfl (lv_at hl 2 rfl) ?_
  refine lv_iload_n hx hb dX12_w5_3 rfl (lv_at hl 3 rfl) ?_
  refine cSlp (As := [.int i1, .int i2, .int i3, .int i4]) (rest := []) S Y (x_X12_w4 (l := l) ) cw_X12_w4 km12_128 rfl ⟨Nat.le_of_ble_eq_true rfl, Nat.le_of_ble_eq_true rfl⟩ hl.1 rfl (Nat.le_of_ble_eq_true rfl) ⟨Nat.le_of_ble_eq_true rfl, Nat.le_of_ble_eq_true rfl⟩ dX12_w5_4 (fun r_85209 H locs er_85209 Y => ?_)
  refine lv_bipush (v := 8) hx hb dX12_w5_7 (by decide) ?_
  obtain ⟨x_85210, ex_85210⟩ : ∃ z : Int64, z = r_85209 <<< ((8 : Int32).toInt64 &&& 63) := ⟨_, rfl⟩
  refine lv_lshl (v := x_85210) hx hb dX12_w5_9 ex_85210.symm ?_
  refine lv_iload hx hb dX12_w5_10 (lv_at hl 4 rfl) ?_
  refine lv_i2l hx hb dX12_w5_12 rfl ?_
  refine lv_topl (fun x_85211 ex_85211 => ?_)
  refine lv_lor hx hb dX12_w5_13 ?_
  refine lv_topl (fun x_85212 ex_85212 => ?_)
  exact prL (post := fun r L1 f1 => ((r = wv5 i1 i2 i3 i4 i5)) ∧ L1 = L ∧ f1 = f) S Y (by decide) (by decide) hA1 ⟨(by rw [ex_85212, ex_85210, ex_85211, er_85209]; rfl), rfl, rfl⟩ dX12_w5_14
theorem ge_nm {r : Int32} (h : bn 0 2147483647 r) : ¬ r = -1 := by
  intro e
  have h1 := h.1
  rw [e] at h1
  exact absurd h1 (by decide)
set_option maxHeartbeats 4000000 in
set_option maxRecDepth 100000 in
theorem x_X12_isWord {l : Launch} {G : GG}  {L : List Nat} {f : HF} {ad : Nat → Nat → Nat} {pa : (Nat → Int32) → Prop} {PA : (Nat → Int32) → Prop} {PI : PIT} {PX : (Nat → Int32) → Prop} {i1 : Int64} {td fa fp at9 ps9 tk nu t0 wr so pd op9 cg iw on9 is9 se : Int32} {wd : Int64} (I : SH (spM PA PI PX pa) nnM G ad L f) (p_ad_0_0 : pt L f (ad 0 0) (.inr (12, [.ref (ad 1 0), .ref (ad 2 0), .ref (ad 3 0), .ref (ad 4 0), .int td, .int fa, .int fp, .int at9, .int ps9, .int tk, .int nu, .long wd, .int t0, .int wr, .int so, .ref (ad 5 0), .ref (ad 6 0), .int pd, .int op9, .int cg, .int iw, .int on9, .ref (ad 7 0), .ref (ad 8 0), .ref (ad 9 0), .int is9, .ref (ad 10 0), .ref (ad 11 0), .ref (ad 12 0), .ref (ad 13 0), .int se, .ref (ad 14 0)]))) : PMp l yX12_isWord cX12_isWord 3 .boolean 0 0 0 G [.ref (ad 0 0), .long i1] L f (fun r => (bn 0 1 r ∧ (¬ r = 0 → tk = 2) ∧ (r = 1 ∧ (tk = 2 ∧ wd = i1) ∨ r = 0 ∧ ¬ (tk = 2 ∧ wd = i1)))) := by
  refine PMi.of (post := fun r L1 f1 => ((bn 0 1 r ∧ (¬ r = 0 → tk = 2) ∧ (r = 1 ∧ (tk = 2 ∧ wd = i1) ∨ r = 0 ∧ ¬ (tk = 2 ∧ wd = i1)))) ∧ L1 = L ∧ f1 = f) (own := RX12) (by decide) rfl (Nat.le_of_ble_eq_true rfl) (fun sz p e s m args below meth c A ls hA1 hname S Y hl => ?_)
  have hx := S.hx
  have hb := S.hb
  have hl : lv_has ls 3 [(0, .ref (ad 0 0)), (1, .long i1)] := hl
  obtain ⟨bfe_4, bfe_5, bfe_6, bfe_7, bfe_8, bfe_12, bfe_13, bfe_17, bfe_18, bfe_19, bfe_20, bfe_25⟩ := obM I p_ad_0_0
  refine lv_aload_n hx hb dX12_isWord_0 rfl (lv_at hl 0 rfl) ?_
  refine pg_get S Y ok_X12 9 (by decide) kf12_98 (v := .int tk) p_ad_0_0 rfl dX12_isWord_1 ?_
  refine lv_iconst (v := 2) hx hb dX12_isWord_4 (by decide) ?_
  refine lv_icmp_ne (tgt := 21) hx hb dX12_isWord_5 (by decide) (fun c_85223 => ?_) (fun c_85223 => ?_)
  · refine lv_iconst (v := 0) hx hb dX12_isWord_21 (by decide) ?_
    exact prI (post := fun r L1 f1 => ((bn 0 1 r ∧ (¬ r = 0 → tk = 2) ∧ (r = 1 ∧ (tk = 2 ∧ wd = i1) ∨ r = 0 ∧ ¬ (tk = 2 ∧ wd = i1)))) ∧ L1 = L ∧ f1 = f) S Y rfl (by decide) (by decide) hA1 ⟨⟨bn_k (by decide), fun h => absurd rfl h, Or.inr ⟨rfl, fun z => c_85223 z.1⟩⟩, rfl, rfl⟩ dX12_isWord_22
  · have B_85224 : bn 2 2 tk := bn_w (bn_eq c_85223 (show bn 2 2 (2 : Int32) from bn_k (by decide))) (by decide)
    refine lv_aload_n hx hb dX12_isWord_8 rfl (lv_at hl 0 rfl) ?_
    refine pg_get S Y ok_X12 11 (by decide) kf12_111 (v := .long wd) p_ad_0_0 rfl dX12_isWord_9 ?_
    refine lv_lload_n hx hb dX12_isWord_12 rfl (lv_at hl 1 rfl) ?_
    refine W.lcmp hx hb dX12_isWord_13 ?_
    refine lv_topi (fun x_85225 ex_85225 => ?_)
    refine lv_if_ne (tgt := 21) hx hb dX12_isWord_14 (by decide) (fun c_85226 => ?_) (fun c_85226 => ?_)
    · refine lv_iconst (v := 0) hx hb dX12_isWord_21 (by decide) ?_
      exact prI (post := fun r L1 f1 => ((bn 0 1 r ∧ (¬ r = 0 → tk = 2) ∧ (r = 1 ∧ (tk = 2 ∧ wd = i1) ∨ r = 0 ∧ ¬ (tk = 2 ∧ wd = i1)))) ∧ L1 = L ∧ f1 = f) S Y rfl (by decide) (by decide) hA1 ⟨⟨bn_k (by decide), fun h => absurd rfl h, Or.inr ⟨rfl, fun z => c_85226 ((lc_eq ex_85225).mpr z.2)⟩⟩, rfl, rfl⟩ dX12_isWord_22
    · have B_85227 : bn 0 0 x_85225 := bn_w (bn_eq c_85226 (show bn 0 0 (0 : Int32) from bn_k (by decide))) (by decide)
      refine lv_iconst (v := 1) hx hb dX12_isWord_17 (by decide) ?_
      refine lv_goto (tgt := 22) hx hb dX12_isWord_18 (by decide) ?_
      exact prI (post := fun r L1 f1 => ((bn 0 1 r ∧ (¬ r = 0 → tk = 2) ∧ (r = 1 ∧ (tk = 2 ∧ wd = i1) ∨ r = 0 ∧ ¬ (tk = 2 ∧ wd = i1)))) ∧ L1 = L ∧ f1 = f) S Y rfl (by decide) (by decide) hA1 ⟨⟨bn_k (by decide), fun _ => c_85223, Or.inl ⟨rfl, c_85223, (lc_eq ex_85225).mp c_85226⟩⟩, rfl, rfl⟩ dX12_isWord_22
set_option maxHeartbeats 4000000 in
set_option maxRecDepth 100000 in
theorem x_X12_nameOf {l : Launch} {G : GG}  {L : List Nat} {f : HF} {ad : Nat → Nat → Nat} {pa : (Nat → Int32) → Prop} {PA : (Nat → Int32) → Prop} {PI : PIT} {PX : (Nat → Int32) → Prop} {td fa fp at9 ps9 tk nu t0 wr so pd op9 cg iw on9 is9 se : Int32} {wd : Int64} {W9 : List Int} {k9 v9 : Int} (I : SH (spM PA PI PX pa) nnM G ad L f) (p_ad_0_0 : pt L f (ad 0 0) (.inr (12, [.ref (ad 1 0), .ref (ad 2 0), .ref (ad 3 0), .ref (ad 4 0), .int td, .int fa, .int fp, .int at9, .int ps9, .int tk, .int nu, .long wd, .int t0, .int wr, .int so, .ref (ad 5 0), .ref (ad 6 0), .int pd, .int op9, .int cg, .int iw, .int on9, .ref (ad 7 0), .ref (ad 8 0), .ref (ad 9 0), .int is9, .ref (ad 10 0), .ref (ad 11 0), .ref (ad 12 0), .ref (ad 13 0), .int se, .ref (ad 14 0)]))) (hK : TKR W9 k9 v9 tk nu wd) : PMp l yX12_nameOf cX12_nameOf 1 .int 4 0 0 G [.ref (ad 0 0)] L f (fun r => (bn (-1) 9 r ∧ (¬ r = -1 → tk = 2) ∧ ((r = -1 ∧ ¬ (9 ≤ k9 ∧ k9 ≤ 18)) ∨ (0 ≤ r.toInt ∧ k9 = 9 + r.toInt)))) := by
  refine PMi.of (post := fun r L1 f1 => ((bn (-1) 9 r ∧ (¬ r = -1 → tk = 2) ∧ ((r = -1 ∧ ¬ (9 ≤ k9 ∧ k9 ≤ 18)) ∨ (0 ≤ r.toInt ∧ k9 = 9 + r.toInt)))) ∧ L1 = L ∧ f1 = f) (own := RX12) (by decide) rfl (Nat.le_of_ble_eq_true rfl) (fun sz p e s m args below meth c A ls hA1 hname S Y hl => ?_)
  have hx := S.hx
  have hb := S.hb
  have hl : lv_has ls 1 [(0, .ref (ad 0 0))] := hl
  obtain ⟨bfe_4, bfe_5, bfe_6, bfe_7, bfe_8, bfe_12, bfe_13, bfe_17, bfe_18, bfe_19, bfe_20, bfe_25⟩ := obM I p_ad_0_0
  refine lv_aload_n hx hb dX12_nameOf_0 rfl (lv_at hl 0 rfl) ?_
  refine pg_get S Y ok_X12 9 (by decide) kf12_98 (v := .int tk) p_ad_0_0 rfl dX12_nameOf_1 ?_
  refine lv_iconst (v := 2) hx hb dX12_nameOf_4 (by decide) ?_
  refine lv_icmp_eq (tgt := 10) hx hb dX12_nameOf_5 (by decide) (fun c_85312 => ?_) (fun c_85312 => ?_)
  · have B_85313 : bn 2 2 tk := bn_w (bn_eq c_85312 (show bn 2 2 (2 : Int32) from bn_k (by decide))) (by decide)
    refine lv_aload_n hx hb dX12_nameOf_10 rfl (lv_at hl 0 rfl) ?_
    refine pg_get S Y ok_X12 11 (by decide) kf12_111 (v := .long wd) p_ad_0_0 rfl dX12_nameOf_11 ?_
    refine lv_bipush (v := 100) hx hb dX12_nameOf_14 (by decide) ?_
    refine lv_bipush (v := 97) hx hb dX12_nameOf_16 (by decide) ?_
    refine lv_bipush (v := 121) hx hb dX12_nameOf_18 (by decide) ?_
    refine cSlp (As := [.int 100, .int 97, .int 121]) (rest := [.long wd]) S Y (x_X12_w3 (l := l) ) cw_X12_w3 km12_124 rfl ⟨Nat.le_of_ble_eq_true rfl, Nat.le_of_ble_eq_true rfl⟩ hl.1 rfl (Nat.le_of_ble_eq_true rfl) ⟨Nat.le_of_ble_eq_true rfl, Nat.le_of_ble_eq_true rfl⟩ dX12_nameOf_20 (fun r_85314 H locs er_85314 Y => ?_)
    refine W.lcmp hx hb dX12_nameOf_23 ?_
    refine lv_topi (fun x_85315 ex_85315 => ?_)
    refine lv_if_ne (tgt := 29) hx hb dX12_nameOf_24 (by decide) (fun c_85316 => ?_) (fun c_85316 => ?_)
    · refine lv_aload_n hx hb dX12_nameOf_29 rfl (lv_at hl 0 rfl) ?_
      refine pg_get S Y ok_X12 11 (by decide) kf12_111 (v := .long wd) p_ad_0_0 rfl dX12_nameOf_30 ?_
      refine lv_bipush (v := 114) hx hb dX12_nameOf_33 (by decide) ?_
      refine lv_bipush (v := 97) hx hb dX12_nameOf_35 (by decide) ?_
      refine lv_bipush (v := 105) hx hb dX12_nameOf_37 (by decide) ?_
      refine lv_bipush (v := 110) hx hb dX12_nameOf_39 (by decide) ?_
      refine cSlp (As := [.int 114, .int 97, .int 105, .int 110]) (rest := [.long wd]) S Y (x_X12_w4 (l := l) ) cw_X12_w4 km12_128 rfl ⟨Nat.le_of_ble_eq_true rfl, Nat.le_of_ble_eq_true rfl⟩ hl.1 rfl (Nat.le_of_ble_eq_true rfl) ⟨Nat.le_of_ble_eq_true rfl, Nat.le_of_ble_eq_true rfl⟩ dX12_nameOf_41 (fun r_85318 H locs er_85318 Y => ?_)
      refine W.lcmp hx hb dX12_nameOf_44 ?_
      refine lv_topi (fun x_85319 ex_85319 => ?_)
      refine lv_if_ne (tgt := 50) hx hb dX12_nameOf_45 (by decide) (fun c_85320 => ?_) (fun c_85320 => ?_)
      · refine lv_aload_n hx hb dX12_nameOf_50 rfl (lv_at hl 0 rfl) ?_
        refine pg_get S Y ok_X12 11 (by decide) kf12_111 (v := .long wd) p_ad_0_0 rfl dX12_nameOf_51 ?_
        refine lv_bipush (v := 116) hx hb dX12_nameOf_54 (by decide) ?_
        refine lv_bipush (v := 111) hx hb dX12_nameOf_56 (by decide) ?_
        refine lv_bipush (v := 117) hx hb dX12_nameOf_58 (by decide) ?_
        refine lv_bipush (v := 103) hx hb dX12_nameOf_60 (by decide) ?_
        refine lv_bipush (v := 104) hx hb dX12_nameOf_62 (by decide) ?_
        refine cSlp (As := [.int 116, .int 111, .int 117, .int 103, .int 104]) (rest := [.long wd]) S Y (x_X12_w5 (l := l) ) cw_X12_w5 km12_132 rfl ⟨Nat.le_of_ble_eq_true rfl, Nat.le_of_ble_eq_true rfl⟩ hl.1 rfl (Nat.le_of_ble_eq_true rfl) ⟨Nat.le_of_ble_eq_true rfl, Nat.le_of_ble_eq_true rfl⟩ dX12_nameOf_64 (fun r_85322 H locs er_85322 Y => ?_)
        refine W.lcmp hx hb dX12_nameOf_67 ?_
        refine lv_topi (fun x_85323 ex_85323 => ?_)
        refine lv_if_ne (tgt := 73) hx hb dX12_nameOf_68 (by decide) (fun c_85324 => ?_) (fun c_85324 => ?_)
        · refine lv_aload_n hx hb dX12_nameOf_73 rfl (lv_at hl 0 rfl) ?_
          refine pg_get S Y ok_X12 11 (by decide) kf12_111 (v := .long wd) p_ad_0_0 rfl dX12_nameOf_74 ?_
          refine lv_bipush (v := 97) hx hb dX12_nameOf_77 (by decide) ?_
          refine lv_bipush (v := 103) hx hb dX12_nameOf_79 (by decide) ?_
          refine lv_bipush (v := 101) hx hb dX12_nameOf_81 (by decide) ?_
          refine cSlp (As := [.int 97, .int 103, .int 101]) (rest := [.long wd]) S Y (x_X12_w3 (l := l) ) cw_X12_w3 km12_124 rfl ⟨Nat.le_of_ble_eq_true rfl, Nat.le_of_ble_eq_true rfl⟩ hl.1 rfl (Nat.le_of_ble_eq_true rfl) ⟨Nat.le_of_ble_eq_true rfl, Nat.le_of_ble_eq_true rfl⟩ dX12_nameOf_83 (fun r_85326 H locs er_85326 Y => ?_)
          refine W.lcmp hx hb dX12_nameOf_86 ?_
          refine lv_topi (fun x_85327 ex_85327 => ?_)
          refine lv_if_ne (tgt := 92) hx hb dX12_nameOf_87 (by decide) (fun c_85328 => ?_) (fun c_85328 => ?_)
          · refine lv_aload_n hx hb dX12_nameOf_92 rfl (lv_at hl 0 rfl) ?_
            refine pg_get S Y ok_X12 11 (by decide) kf12_111 (v := .long wd) p_ad_0_0 rfl dX12_nameOf_93 ?_
            refine lv_bipush (v := 119) hx hb dX12_nameOf_96 (by decide) ?_
            refine lv_bipush (v := 104) hx hb dX12_nameOf_98 (by decide) ?_
            refine lv_bipush (v := 111) hx hb dX12_nameOf_100 (by decide) ?_
            refine cSlp (As := [.int 119, .int 104, .int 111]) (rest := [.long wd]) S Y (x_X12_w3 (l := l) ) cw_X12_w3 km12_124 rfl ⟨Nat.le_of_ble_eq_true rfl, Nat.le_of_ble_eq_true rfl⟩ hl.1 rfl (Nat.le_of_ble_eq_true rfl) ⟨Nat.le_of_ble_eq_true rfl, Nat.le_of_ble_eq_true rfl⟩ dX12_nameOf_102 (fun r_85330 H locs er_85330 Y => ?_)
            refine W.lcmp hx hb dX12_nameOf_105 ?_
            refine lv_topi (fun x_85331 ex_85331 => ?_)
            refine lv_if_ne (tgt := 111) hx hb dX12_nameOf_106 (by decide) (fun c_85332 => ?_) (fun c_85332 => ?_)
            · refine lv_aload_n hx hb dX12_nameOf_111 rfl (lv_at hl 0 rfl) ?_
              refine pg_get S Y ok_X12 11 (by decide) kf12_111 (v := .long wd) p_ad_0_0 rfl dX12_nameOf_112 ?_
              refine lv_bipush (v := 115) hx hb dX12_nameOf_115 (by decide) ?_
              refine lv_bipush (v := 105) hx hb dX12_nameOf_117 (by decide) ?_
              refine lv_bipush (v := 122) hx hb dX12_nameOf_119 (by decide) ?_
              refine lv_bipush (v := 101) hx hb dX12_nameOf_121 (by decide) ?_
              refine cSlp (As := [.int 115, .int 105, .int 122, .int 101]) (rest := [.long wd]) S Y (x_X12_w4 (l := l) ) cw_X12_w4 km12_128 rfl ⟨Nat.le_of_ble_eq_true rfl, Nat.le_of_ble_eq_true rfl⟩ hl.1 rfl (Nat.le_of_ble_eq_true rfl) ⟨Nat.le_of_ble_eq_true rfl, Nat.le_of_ble_eq_true rfl⟩ dX12_nameOf_123 (fun r_85334 H locs er_85334 Y => ?_)
              refine W.lcmp hx hb dX12_nameOf_126 ?_
              refine lv_topi (fun x_85335 ex_85335 => ?_)
              refine lv_if_ne (tgt := 132) hx hb dX12_nameOf_127 (by decide) (fun c_85336 => ?_) (fun c_85336 => ?_)
              · refine lv_aload_n hx hb dX12_nameOf_132 rfl (lv_at hl 0 rfl) ?_
                refine pg_get S Y ok_X12 11 (by decide) kf12_111 (v := .long wd) p_ad_0_0 rfl dX12_nameOf_133 ?_
                refine lv_bipush (v := 107) hx hb dX12_nameOf_136 (by decide) ?_
                refine lv_bipush (v := 110) hx hb dX12_nameOf_138 (by decide) ?_
                refine lv_bipush (v := 101) hx hb dX12_nameOf_140 (by decide) ?_
                refine lv_bipush (v := 101) hx hb dX12_nameOf_142 (by decide) ?_
                refine cSlp (As := [.int 107, .int 110, .int 101, .int 101]) (rest := [.long wd]) S Y (x_X12_w4 (l := l) ) cw_X12_w4 km12_128 rfl ⟨Nat.le_of_ble_eq_true rfl, Nat.le_of_ble_eq_true rfl⟩ hl.1 rfl (Nat.le_of_ble_eq_true rfl) ⟨Nat.le_of_ble_eq_true rfl, Nat.le_of_ble_eq_true rfl⟩ dX12_nameOf_144 (fun r_85338 H locs er_85338 Y => ?_)
                refine W.lcmp hx hb dX12_nameOf_147 ?_
                refine lv_topi (fun x_85339 ex_85339 => ?_)
                refine lv_if_ne (tgt := 154) hx hb dX12_nameOf_148 (by decide) (fun c_85340 => ?_) (fun c_85340 => ?_)
                · refine lv_aload_n hx hb dX12_nameOf_154 rfl (lv_at hl 0 rfl) ?_
                  refine pg_get S Y ok_X12 11 (by decide) kf12_111 (v := .long wd) p_ad_0_0 rfl dX12_nameOf_155 ?_
                  refine lv_bipush (v := 119) hx hb dX12_nameOf_158 (by decide) ?_
                  refine lv_bipush (v := 101) hx hb dX12_nameOf_160 (by decide) ?_
                  refine lv_bipush (v := 97) hx hb dX12_nameOf_162 (by decide) ?_
                  refine lv_bipush (v := 114) hx hb dX12_nameOf_164 (by decide) ?_
                  refine cSlp (As := [.int 119, .int 101, .int 97, .int 114]) (rest := [.long wd]) S Y (x_X12_w4 (l := l) ) cw_X12_w4 km12_128 rfl ⟨Nat.le_of_ble_eq_true rfl, Nat.le_of_ble_eq_true rfl⟩ hl.1 rfl (Nat.le_of_ble_eq_true rfl) ⟨Nat.le_of_ble_eq_true rfl, Nat.le_of_ble_eq_true rfl⟩ dX12_nameOf_166 (fun r_85342 H locs er_85342 Y => ?_)
                  refine W.lcmp hx hb dX12_nameOf_169 ?_
                  refine lv_topi (fun x_85343 ex_85343 => ?_)
                  refine lv_if_ne (tgt := 176) hx hb dX12_nameOf_170 (by decide) (fun c_85344 => ?_) (fun c_85344 => ?_)
                  · refine lv_aload_n hx hb dX12_nameOf_176 rfl (lv_at hl 0 rfl) ?_
                    refine pg_get S Y ok_X12 11 (by decide) kf12_111 (v := .long wd) p_ad_0_0 rfl dX12_nameOf_177 ?_
                    refine lv_bipush (v := 115) hx hb dX12_nameOf_180 (by decide) ?_
                    refine lv_bipush (v := 105) hx hb dX12_nameOf_182 (by decide) ?_
                    refine lv_bipush (v := 110) hx hb dX12_nameOf_184 (by decide) ?_
                    refine lv_bipush (v := 99) hx hb dX12_nameOf_186 (by decide) ?_
                    refine lv_bipush (v := 101) hx hb dX12_nameOf_188 (by decide) ?_
                    refine cSlp (As := [.int 115, .int 105, .int 110, .int 99, .int 101]) (rest := [.long wd]) S Y (x_X12_w5 (l := l) ) cw_X12_w5 km12_132 rfl ⟨Nat.le_of_ble_eq_true rfl, Nat.le_of_ble_eq_true rfl⟩ hl.1 rfl (Nat.le_of_ble_eq_true rfl) ⟨Nat.le_of_ble_eq_true rfl, Nat.le_of_ble_eq_true rfl⟩ dX12_nameOf_190 (fun r_85346 H locs er_85346 Y => ?_)
                    refine W.lcmp hx hb dX12_nameOf_193 ?_
                    refine lv_topi (fun x_85347 ex_85347 => ?_)
                    refine lv_if_ne (tgt := 202) hx hb dX12_nameOf_194 (by decide) (fun c_85348 => ?_) (fun c_85348 => ?_)
                    · refine lv_aload_n hx hb dX12_nameOf_202 rfl (lv_at hl 0 rfl) ?_
                      refine pg_get S Y ok_X12 11 (by decide) kf12_111 (v := .long wd) p_ad_0_0 rfl dX12_nameOf_203 ?_
                      refine lv_bipush (v := 98) hx hb dX12_nameOf_206 (by decide) ?_
                      refine lv_bipush (v := 121) hx hb dX12_nameOf_208 (by decide) ?_
                      refine cSlp (As := [.int 98, .int 121]) (rest := [.long wd]) S Y (x_X12_w2 (l := l) ) cw_X12_w2 km12_120 rfl ⟨Nat.le_of_ble_eq_true rfl, Nat.le_of_ble_eq_true rfl⟩ hl.1 rfl (Nat.le_of_ble_eq_true rfl) ⟨Nat.le_of_ble_eq_true rfl, Nat.le_of_ble_eq_true rfl⟩ dX12_nameOf_210 (fun r_85350 H locs er_85350 Y => ?_)
                      refine W.lcmp hx hb dX12_nameOf_213 ?_
                      refine lv_topi (fun x_85351 ex_85351 => ?_)
                      refine lv_if_ne (tgt := 222) hx hb dX12_nameOf_214 (by decide) (fun c_85352 => ?_) (fun c_85352 => ?_)
                      · refine lv_iconst (v := (-1)) hx hb dX12_nameOf_222 (by decide) ?_
                        exact prI (post := fun r L1 f1 => ((bn (-1) 9 r ∧ (¬ r = -1 → tk = 2) ∧ ((r = -1 ∧ ¬ (9 ≤ k9 ∧ k9 ≤ 18)) ∨ (0 ≤ r.toInt ∧ k9 = 9 + r.toInt)))) ∧ L1 = L ∧ f1 = f) S Y rfl (by decide) (by decide) hA1 ⟨⟨bn_k (by decide), fun h => absurd rfl h, Or.inl ⟨rfl, (by have j0 := ((tk_k hK).2.2.2.2.2.1 (show tk.toInt = 2 from by rw [c_85312]; rfl)); have j1 := (mt (tk_w hK (show 9 < 31 from by decide) (show r_85314.toInt = pkR (wdj 9).reverse from by rw [er_85314]; decide +kernel)).mpr (fun z => c_85316 ((lc_eq ex_85315).mpr z.2))); have j2 := (mt (tk_w hK (show 10 < 31 from by decide) (show r_85318.toInt = pkR (wdj 10).reverse from by rw [er_85318]; decide +kernel)).mpr (fun z => c_85320 ((lc_eq ex_85319).mpr z.2))); have j3 := (mt (tk_w hK (show 11 < 31 from by decide) (show r_85322.toInt = pkR (wdj 11).reverse from by rw [er_85322]; decide +kernel)).mpr (fun z => c_85324 ((lc_eq ex_85323).mpr z.2))); have j4 := (mt (tk_w hK (show 12 < 31 from by decide) (show r_85326.toInt = pkR (wdj 12).reverse from by rw [er_85326]; decide +kernel)).mpr (fun z => c_85328 ((lc_eq ex_85327).mpr z.2))); have j5 := (mt (tk_w hK (show 13 < 31 from by decide) (show r_85330.toInt = pkR (wdj 13).reverse from by rw [er_85330]; decide +kernel)).mpr (fun z => c_85332 ((lc_eq ex_85331).mpr z.2))); have j6 := (mt (tk_w hK (show 14 < 31 from by decide) (show r_85334.toInt = pkR (wdj 14).reverse from by rw [er_85334]; decide +kernel)).mpr (fun z => c_85336 ((lc_eq ex_85335).mpr z.2))); have j7 := (mt (tk_w hK (show 15 < 31 from by decide) (show r_85338.toInt = pkR (wdj 15).reverse from by rw [er_85338]; decide +kernel)).mpr (fun z => c_85340 ((lc_eq ex_85339).mpr z.2))); have j8 := (mt (tk_w hK (show 16 < 31 from by decide) (show r_85342.toInt = pkR (wdj 16).reverse from by rw [er_85342]; decide +kernel)).mpr (fun z => c_85344 ((lc_eq ex_85343).mpr z.2))); have j9 := (mt (tk_w hK (show 17 < 31 from by decide) (show r_85346.toInt = pkR (wdj 17).reverse from by rw [er_85346]; decide +kernel)).mpr (fun z => c_85348 ((lc_eq ex_85347).mpr z.2))); have j10 := (mt (tk_w hK (show 18 < 31 from by decide) (show r_85350.toInt = pkR (wdj 18).reverse from by rw [er_85350]; decide +kernel)).mpr (fun z => c_85352 ((lc_eq ex_85351).mpr z.2))); have j11 := (tk_k hK).2.2.2.2.2.2; omega)⟩⟩, rfl, rfl⟩ dX12_nameOf_223
                      · have B_85353 : bn 0 0 x_85351 := bn_w (bn_eq c_85352 (show bn 0 0 (0 : Int32) from bn_k (by decide))) (by decide)
                        refine lv_bipush (v := 9) hx hb dX12_nameOf_217 (by decide) ?_
                        refine lv_goto (tgt := 223) hx hb dX12_nameOf_219 (by decide) ?_
                        exact prI (post := fun r L1 f1 => ((bn (-1) 9 r ∧ (¬ r = -1 → tk = 2) ∧ ((r = -1 ∧ ¬ (9 ≤ k9 ∧ k9 ≤ 18)) ∨ (0 ≤ r.toInt ∧ k9 = 9 + r.toInt)))) ∧ L1 = L ∧ f1 = f) S Y rfl (by decide) (by decide) hA1 ⟨⟨bn_k (by decide), fun _ => c_85312, Or.inr ⟨by decide, show k9 = 9 + (9 : Int) from (by have j0 := ((tk_k hK).2.2.2.2.2.1 (show tk.toInt = 2 from by rw [c_85312]; rfl)); have j1 := (mt (tk_w hK (show 9 < 31 from by decide) (show r_85314.toInt = pkR (wdj 9).reverse from by rw [er_85314]; decide +kernel)).mpr (fun z => c_85316 ((lc_eq ex_85315).mpr z.2))); have j2 := (mt (tk_w hK (show 10 < 31 from by decide) (show r_85318.toInt = pkR (wdj 10).reverse from by rw [er_85318]; decide +kernel)).mpr (fun z => c_85320 ((lc_eq ex_85319).mpr z.2))); have j3 := (mt (tk_w hK (show 11 < 31 from by decide) (show r_85322.toInt = pkR (wdj 11).reverse from by rw [er_85322]; decide +kernel)).mpr (fun z => c_85324 ((lc_eq ex_85323).mpr z.2))); have j4 := (mt (tk_w hK (show 12 < 31 from by decide) (show r_85326.toInt = pkR (wdj 12).reverse from by rw [er_85326]; decide +kernel)).mpr (fun z => c_85328 ((lc_eq ex_85327).mpr z.2))); have j5 := (mt (tk_w hK (show 13 < 31 from by decide) (show r_85330.toInt = pkR (wdj 13).reverse from by rw [er_85330]; decide +kernel)).mpr (fun z => c_85332 ((lc_eq ex_85331).mpr z.2))); have j6 := (mt (tk_w hK (show 14 < 31 from by decide) (show r_85334.toInt = pkR (wdj 14).reverse from by rw [er_85334]; decide +kernel)).mpr (fun z => c_85336 ((lc_eq ex_85335).mpr z.2))); have j7 := (mt (tk_w hK (show 15 < 31 from by decide) (show r_85338.toInt = pkR (wdj 15).reverse from by rw [er_85338]; decide +kernel)).mpr (fun z => c_85340 ((lc_eq ex_85339).mpr z.2))); have j8 := (mt (tk_w hK (show 16 < 31 from by decide) (show r_85342.toInt = pkR (wdj 16).reverse from by rw [er_85342]; decide +kernel)).mpr (fun z => c_85344 ((lc_eq ex_85343).mpr z.2))); have j9 := (mt (tk_w hK (show 17 < 31 from by decide) (show r_85346.toInt = pkR (wdj 17).reverse from by rw [er_85346]; decide +kernel)).mpr (fun z => c_85348 ((lc_eq ex_85347).mpr z.2))); have j10 := ((tk_w hK (show 18 < 31 from by decide) (show r_85350.toInt = pkR (wdj 18).reverse from by rw [er_85350]; decide +kernel)).mp ⟨c_85312, (lc_eq ex_85351).mp c_85352⟩); omega)⟩⟩, rfl, rfl⟩ dX12_nameOf_223
                    · have B_85349 : bn 0 0 x_85347 := bn_w (bn_eq c_85348 (show bn 0 0 (0 : Int32) from bn_k (by decide))) (by decide)
                      refine lv_bipush (v := 8) hx hb dX12_nameOf_197 (by decide) ?_
                      refine lv_goto (tgt := 223) hx hb dX12_nameOf_199 (by decide) ?_
                      exact prI (post := fun r L1 f1 => ((bn (-1) 9 r ∧ (¬ r = -1 → tk = 2) ∧ ((r = -1 ∧ ¬ (9 ≤ k9 ∧ k9 ≤ 18)) ∨ (0 ≤ r.toInt ∧ k9 = 9 + r.toInt)))) ∧ L1 = L ∧ f1 = f) S Y rfl (by decide) (by decide) hA1 ⟨⟨bn_k (by decide), fun _ => c_85312, Or.inr ⟨by decide, show k9 = 9 + (8 : Int) from (by have j0 := ((tk_k hK).2.2.2.2.2.1 (show tk.toInt = 2 from by rw [c_85312]; rfl)); have j1 := (mt (tk_w hK (show 9 < 31 from by decide) (show r_85314.toInt = pkR (wdj 9).reverse from by rw [er_85314]; decide +kernel)).mpr (fun z => c_85316 ((lc_eq ex_85315).mpr z.2))); have j2 := (mt (tk_w hK (show 10 < 31 from by decide) (show r_85318.toInt = pkR (wdj 10).reverse from by rw [er_85318]; decide +kernel)).mpr (fun z => c_85320 ((lc_eq ex_85319).mpr z.2))); have j3 := (mt (tk_w hK (show 11 < 31 from by decide) (show r_85322.toInt = pkR (wdj 11).reverse from by rw [er_85322]; decide +kernel)).mpr (fun z => c_85324 ((lc_eq ex_85323).mpr z.2))); have j4 := (mt (tk_w hK (show 12 < 31 from by decide) (show r_85326.toInt = pkR (wdj 12).reverse from by rw [er_85326]; decide +kernel)).mpr (fun z => c_85328 ((lc_eq ex_85327).mpr z.2))); have j5 := (mt (tk_w hK (show 13 < 31 from by decide) (show r_85330.toInt = pkR (wdj 13).reverse from by rw [er_85330]; decide +kernel)).mpr (fun z => c_85332 ((lc_eq ex_85331).mpr z.2))); have j6 := (mt (tk_w hK (show 14 < 31 from by decide) (show r_85334.toInt = pkR (wdj 14).reverse from by rw [er_85334]; decide +kernel)).mpr (fun z => c_85336 ((lc_eq ex_85335).mpr z.2))); have j7 := (mt (tk_w hK (show 15 < 31 from by decide) (show r_85338.toInt = pkR (wdj 15).reverse from by rw [er_85338]; decide +kernel)).mpr (fun z => c_85340 ((lc_eq ex_85339).mpr z.2))); have j8 := (mt (tk_w hK (show 16 < 31 from by decide) (show r_85342.toInt = pkR (wdj 16).reverse from by rw [er_85342]; decide +kernel)).mpr (fun z => c_85344 ((lc_eq ex_85343).mpr z.2))); have j9 := ((tk_w hK (show 17 < 31 from by decide) (show r_85346.toInt = pkR (wdj 17).reverse from by rw [er_85346]; decide +kernel)).mp ⟨c_85312, (lc_eq ex_85347).mp c_85348⟩); omega)⟩⟩, rfl, rfl⟩ dX12_nameOf_223
                  · have B_85345 : bn 0 0 x_85343 := bn_w (bn_eq c_85344 (show bn 0 0 (0 : Int32) from bn_k (by decide))) (by decide)
                    refine lv_bipush (v := 7) hx hb dX12_nameOf_173 (by decide) ?_
                    exact prI (post := fun r L1 f1 => ((bn (-1) 9 r ∧ (¬ r = -1 → tk = 2) ∧ ((r = -1 ∧ ¬ (9 ≤ k9 ∧ k9 ≤ 18)) ∨ (0 ≤ r.toInt ∧ k9 = 9 + r.toInt)))) ∧ L1 = L ∧ f1 = f) S Y rfl (by decide) (by decide) hA1 ⟨⟨bn_k (by decide), fun _ => c_85312, Or.inr ⟨by decide, show k9 = 9 + (7 : Int) from (by have j0 := ((tk_k hK).2.2.2.2.2.1 (show tk.toInt = 2 from by rw [c_85312]; rfl)); have j1 := (mt (tk_w hK (show 9 < 31 from by decide) (show r_85314.toInt = pkR (wdj 9).reverse from by rw [er_85314]; decide +kernel)).mpr (fun z => c_85316 ((lc_eq ex_85315).mpr z.2))); have j2 := (mt (tk_w hK (show 10 < 31 from by decide) (show r_85318.toInt = pkR (wdj 10).reverse from by rw [er_85318]; decide +kernel)).mpr (fun z => c_85320 ((lc_eq ex_85319).mpr z.2))); have j3 := (mt (tk_w hK (show 11 < 31 from by decide) (show r_85322.toInt = pkR (wdj 11).reverse from by rw [er_85322]; decide +kernel)).mpr (fun z => c_85324 ((lc_eq ex_85323).mpr z.2))); have j4 := (mt (tk_w hK (show 12 < 31 from by decide) (show r_85326.toInt = pkR (wdj 12).reverse from by rw [er_85326]; decide +kernel)).mpr (fun z => c_85328 ((lc_eq ex_85327).mpr z.2))); have j5 := (mt (tk_w hK (show 13 < 31 from by decide) (show r_85330.toInt = pkR (wdj 13).reverse from by rw [er_85330]; decide +kernel)).mpr (fun z => c_85332 ((lc_eq ex_85331).mpr z.2))); have j6 := (mt (tk_w hK (show 14 < 31 from by decide) (show r_85334.toInt = pkR (wdj 14).reverse from by rw [er_85334]; decide +kernel)).mpr (fun z => c_85336 ((lc_eq ex_85335).mpr z.2))); have j7 := (mt (tk_w hK (show 15 < 31 from by decide) (show r_85338.toInt = pkR (wdj 15).reverse from by rw [er_85338]; decide +kernel)).mpr (fun z => c_85340 ((lc_eq ex_85339).mpr z.2))); have j8 := ((tk_w hK (show 16 < 31 from by decide) (show r_85342.toInt = pkR (wdj 16).reverse from by rw [er_85342]; decide +kernel)).mp ⟨c_85312, (lc_eq ex_85343).mp c_85344⟩); omega)⟩⟩, rfl, rfl⟩ dX12_nameOf_175
                · have B_85341 : bn 0 0 x_85339 := bn_w (bn_eq c_85340 (show bn 0 0 (0 : Int32) from bn_k (by decide))) (by decide)
                  refine lv_bipush (v := 6) hx hb dX12_nameOf_151 (by decide) ?_
                  exact prI (post := fun r L1 f1 => ((bn (-1) 9 r ∧ (¬ r = -1 → tk = 2) ∧ ((r = -1 ∧ ¬ (9 ≤ k9 ∧ k9 ≤ 18)) ∨ (0 ≤ r.toInt ∧ k9 = 9 + r.toInt)))) ∧ L1 = L ∧ f1 = f) S Y rfl (by decide) (by decide) hA1 ⟨⟨bn_k (by decide), fun _ => c_85312, Or.inr ⟨by decide, show k9 = 9 + (6 : Int) from (by have j0 := ((tk_k hK).2.2.2.2.2.1 (show tk.toInt = 2 from by rw [c_85312]; rfl)); have j1 := (mt (tk_w hK (show 9 < 31 from by decide) (show r_85314.toInt = pkR (wdj 9).reverse from by rw [er_85314]; decide +kernel)).mpr (fun z => c_85316 ((lc_eq ex_85315).mpr z.2))); have j2 := (mt (tk_w hK (show 10 < 31 from by decide) (show r_85318.toInt = pkR (wdj 10).reverse from by rw [er_85318]; decide +kernel)).mpr (fun z => c_85320 ((lc_eq ex_85319).mpr z.2))); have j3 := (mt (tk_w hK (show 11 < 31 from by decide) (show r_85322.toInt = pkR (wdj 11).reverse from by rw [er_85322]; decide +kernel)).mpr (fun z => c_85324 ((lc_eq ex_85323).mpr z.2))); have j4 := (mt (tk_w hK (show 12 < 31 from by decide) (show r_85326.toInt = pkR (wdj 12).reverse from by rw [er_85326]; decide +kernel)).mpr (fun z => c_85328 ((lc_eq ex_85327).mpr z.2))); have j5 := (mt (tk_w hK (show 13 < 31 from by decide) (show r_85330.toInt = pkR (wdj 13).reverse from by rw [er_85330]; decide +kernel)).mpr (fun z => c_85332 ((lc_eq ex_85331).mpr z.2))); have j6 := (mt (tk_w hK (show 14 < 31 from by decide) (show r_85334.toInt = pkR (wdj 14).reverse from by rw [er_85334]; decide +kernel)).mpr (fun z => c_85336 ((lc_eq ex_85335).mpr z.2))); have j7 := ((tk_w hK (show 15 < 31 from by decide) (show r_85338.toInt = pkR (wdj 15).reverse from by rw [er_85338]; decide +kernel)).mp ⟨c_85312, (lc_eq ex_85339).mp c_85340⟩); omega)⟩⟩, rfl, rfl⟩ dX12_nameOf_153
              · have B_85337 : bn 0 0 x_85335 := bn_w (bn_eq c_85336 (show bn 0 0 (0 : Int32) from bn_k (by decide))) (by decide)
                refine lv_iconst (v := 5) hx hb dX12_nameOf_130 (by decide) ?_
                exact prI (post := fun r L1 f1 => ((bn (-1) 9 r ∧ (¬ r = -1 → tk = 2) ∧ ((r = -1 ∧ ¬ (9 ≤ k9 ∧ k9 ≤ 18)) ∨ (0 ≤ r.toInt ∧ k9 = 9 + r.toInt)))) ∧ L1 = L ∧ f1 = f) S Y rfl (by decide) (by decide) hA1 ⟨⟨bn_k (by decide), fun _ => c_85312, Or.inr ⟨by decide, show k9 = 9 + (5 : Int) from (by have j0 := ((tk_k hK).2.2.2.2.2.1 (show tk.toInt = 2 from by rw [c_85312]; rfl)); have j1 := (mt (tk_w hK (show 9 < 31 from by decide) (show r_85314.toInt = pkR (wdj 9).reverse from by rw [er_85314]; decide +kernel)).mpr (fun z => c_85316 ((lc_eq ex_85315).mpr z.2))); have j2 := (mt (tk_w hK (show 10 < 31 from by decide) (show r_85318.toInt = pkR (wdj 10).reverse from by rw [er_85318]; decide +kernel)).mpr (fun z => c_85320 ((lc_eq ex_85319).mpr z.2))); have j3 := (mt (tk_w hK (show 11 < 31 from by decide) (show r_85322.toInt = pkR (wdj 11).reverse from by rw [er_85322]; decide +kernel)).mpr (fun z => c_85324 ((lc_eq ex_85323).mpr z.2))); have j4 := (mt (tk_w hK (show 12 < 31 from by decide) (show r_85326.toInt = pkR (wdj 12).reverse from by rw [er_85326]; decide +kernel)).mpr (fun z => c_85328 ((lc_eq ex_85327).mpr z.2))); have j5 := (mt (tk_w hK (show 13 < 31 from by decide) (show r_85330.toInt = pkR (wdj 13).reverse from by rw [er_85330]; decide +kernel)).mpr (fun z => c_85332 ((lc_eq ex_85331).mpr z.2))); have j6 := ((tk_w hK (show 14 < 31 from by decide) (show r_85334.toInt = pkR (wdj 14).reverse from by rw [er_85334]; decide +kernel)).mp ⟨c_85312, (lc_eq ex_85335).mp c_85336⟩); omega)⟩⟩, rfl, rfl⟩ dX12_nameOf_131
            · have B_85333 : bn 0 0 x_85331 := bn_w (bn_eq c_85332 (show bn 0 0 (0 : Int32) from bn_k (by decide))) (by decide)
              refine lv_iconst (v := 4) hx hb dX12_nameOf_109 (by decide) ?_
              exact prI (post := fun r L1 f1 => ((bn (-1) 9 r ∧ (¬ r = -1 → tk = 2) ∧ ((r = -1 ∧ ¬ (9 ≤ k9 ∧ k9 ≤ 18)) ∨ (0 ≤ r.toInt ∧ k9 = 9 + r.toInt)))) ∧ L1 = L ∧ f1 = f) S Y rfl (by decide) (by decide) hA1 ⟨⟨bn_k (by decide), fun _ => c_85312, Or.inr ⟨by decide, show k9 = 9 + (4 : Int) from (by have j0 := ((tk_k hK).2.2.2.2.2.1 (show tk.toInt = 2 from by rw [c_85312]; rfl)); have j1 := (mt (tk_w hK (show 9 < 31 from by decide) (show r_85314.toInt = pkR (wdj 9).reverse from by rw [er_85314]; decide +kernel)).mpr (fun z => c_85316 ((lc_eq ex_85315).mpr z.2))); have j2 := (mt (tk_w hK (show 10 < 31 from by decide) (show r_85318.toInt = pkR (wdj 10).reverse from by rw [er_85318]; decide +kernel)).mpr (fun z => c_85320 ((lc_eq ex_85319).mpr z.2))); have j3 := (mt (tk_w hK (show 11 < 31 from by decide) (show r_85322.toInt = pkR (wdj 11).reverse from by rw [er_85322]; decide +kernel)).mpr (fun z => c_85324 ((lc_eq ex_85323).mpr z.2))); have j4 := (mt (tk_w hK (show 12 < 31 from by decide) (show r_85326.toInt = pkR (wdj 12).reverse from by rw [er_85326]; decide +kernel)).mpr (fun z => c_85328 ((lc_eq ex_85327).mpr z.2))); have j5 := ((tk_w hK (show 13 < 31 from by decide) (show r_85330.toInt = pkR (wdj 13).reverse from by rw [er_85330]; decide +kernel)).mp ⟨c_85312, (lc_eq ex_85331).mp c_85332⟩); omega)⟩⟩, rfl, rfl⟩ dX12_nameOf_110
          · have B_85329 : bn 0 0 x_85327 := bn_w (bn_eq c_85328 (show bn 0 0 (0 : Int32) from bn_k (by decide))) (by decide)
            refine lv_iconst (v := 3) hx hb dX12_nameOf_90 (by decide) ?_
            exact prI (post := fun r L1 f1 => ((bn (-1) 9 r ∧ (¬ r = -1 → tk = 2) ∧ ((r = -1 ∧ ¬ (9 ≤ k9 ∧ k9 ≤ 18)) ∨ (0 ≤ r.toInt ∧ k9 = 9 + r.toInt)))) ∧ L1 = L ∧ f1 = f) S Y rfl (by decide) (by decide) hA1 ⟨⟨bn_k (by decide), fun _ => c_85312, Or.inr ⟨by decide, show k9 = 9 + (3 : Int) from (by have j0 := ((tk_k hK).2.2.2.2.2.1 (show tk.toInt = 2 from by rw [c_85312]; rfl)); have j1 := (mt (tk_w hK (show 9 < 31 from by decide) (show r_85314.toInt = pkR (wdj 9).reverse from by rw [er_85314]; decide +kernel)).mpr (fun z => c_85316 ((lc_eq ex_85315).mpr z.2))); have j2 := (mt (tk_w hK (show 10 < 31 from by decide) (show r_85318.toInt = pkR (wdj 10).reverse from by rw [er_85318]; decide +kernel)).mpr (fun z => c_85320 ((lc_eq ex_85319).mpr z.2))); have j3 := (mt (tk_w hK (show 11 < 31 from by decide) (show r_85322.toInt = pkR (wdj 11).reverse from by rw [er_85322]; decide +kernel)).mpr (fun z => c_85324 ((lc_eq ex_85323).mpr z.2))); have j4 := ((tk_w hK (show 12 < 31 from by decide) (show r_85326.toInt = pkR (wdj 12).reverse from by rw [er_85326]; decide +kernel)).mp ⟨c_85312, (lc_eq ex_85327).mp c_85328⟩); omega)⟩⟩, rfl, rfl⟩ dX12_nameOf_91
        · have B_85325 : bn 0 0 x_85323 := bn_w (bn_eq c_85324 (show bn 0 0 (0 : Int32) from bn_k (by decide))) (by decide)
          refine lv_iconst (v := 2) hx hb dX12_nameOf_71 (by decide) ?_
          exact prI (post := fun r L1 f1 => ((bn (-1) 9 r ∧ (¬ r = -1 → tk = 2) ∧ ((r = -1 ∧ ¬ (9 ≤ k9 ∧ k9 ≤ 18)) ∨ (0 ≤ r.toInt ∧ k9 = 9 + r.toInt)))) ∧ L1 = L ∧ f1 = f) S Y rfl (by decide) (by decide) hA1 ⟨⟨bn_k (by decide), fun _ => c_85312, Or.inr ⟨by decide, show k9 = 9 + (2 : Int) from (by have j0 := ((tk_k hK).2.2.2.2.2.1 (show tk.toInt = 2 from by rw [c_85312]; rfl)); have j1 := (mt (tk_w hK (show 9 < 31 from by decide) (show r_85314.toInt = pkR (wdj 9).reverse from by rw [er_85314]; decide +kernel)).mpr (fun z => c_85316 ((lc_eq ex_85315).mpr z.2))); have j2 := (mt (tk_w hK (show 10 < 31 from by decide) (show r_85318.toInt = pkR (wdj 10).reverse from by rw [er_85318]; decide +kernel)).mpr (fun z => c_85320 ((lc_eq ex_85319).mpr z.2))); have j3 := ((tk_w hK (show 11 < 31 from by decide) (show r_85322.toInt = pkR (wdj 11).reverse from by rw [er_85322]; decide +kernel)).mp ⟨c_85312, (lc_eq ex_85323).mp c_85324⟩); omega)⟩⟩, rfl, rfl⟩ dX12_nameOf_72
      · have B_85321 : bn 0 0 x_85319 := bn_w (bn_eq c_85320 (show bn 0 0 (0 : Int32) from bn_k (by decide))) (by decide)
        refine lv_iconst (v := 1) hx hb dX12_nameOf_48 (by decide) ?_
        exact prI (post := fun r L1 f1 => ((bn (-1) 9 r ∧ (¬ r = -1 → tk = 2) ∧ ((r = -1 ∧ ¬ (9 ≤ k9 ∧ k9 ≤ 18)) ∨ (0 ≤ r.toInt ∧ k9 = 9 + r.toInt)))) ∧ L1 = L ∧ f1 = f) S Y rfl (by decide) (by decide) hA1 ⟨⟨bn_k (by decide), fun _ => c_85312, Or.inr ⟨by decide, show k9 = 9 + (1 : Int) from (by have j0 := ((tk_k hK).2.2.2.2.2.1 (show tk.toInt = 2 from by rw [c_85312]; rfl)); have j1 := (mt (tk_w hK (show 9 < 31 from by decide) (show r_85314.toInt = pkR (wdj 9).reverse from by rw [er_85314]; decide +kernel)).mpr (fun z => c_85316 ((lc_eq ex_85315).mpr z.2))); have j2 := ((tk_w hK (show 10 < 31 from by decide) (show r_85318.toInt = pkR (wdj 10).reverse from by rw [er_85318]; decide +kernel)).mp ⟨c_85312, (lc_eq ex_85319).mp c_85320⟩); omega)⟩⟩, rfl, rfl⟩ dX12_nameOf_49
    · have B_85317 : bn 0 0 x_85315 := bn_w (bn_eq c_85316 (show bn 0 0 (0 : Int32) from bn_k (by decide))) (by decide)
      refine lv_iconst (v := 0) hx hb dX12_nameOf_27 (by decide) ?_
      exact prI (post := fun r L1 f1 => ((bn (-1) 9 r ∧ (¬ r = -1 → tk = 2) ∧ ((r = -1 ∧ ¬ (9 ≤ k9 ∧ k9 ≤ 18)) ∨ (0 ≤ r.toInt ∧ k9 = 9 + r.toInt)))) ∧ L1 = L ∧ f1 = f) S Y rfl (by decide) (by decide) hA1 ⟨⟨bn_k (by decide), fun _ => c_85312, Or.inr ⟨by decide, show k9 = 9 + (0 : Int) from (by have j0 := ((tk_k hK).2.2.2.2.2.1 (show tk.toInt = 2 from by rw [c_85312]; rfl)); have j1 := ((tk_w hK (show 9 < 31 from by decide) (show r_85314.toInt = pkR (wdj 9).reverse from by rw [er_85314]; decide +kernel)).mp ⟨c_85312, (lc_eq ex_85315).mp c_85316⟩); omega)⟩⟩, rfl, rfl⟩ dX12_nameOf_28
  · refine lv_iconst (v := (-1)) hx hb dX12_nameOf_8 (by decide) ?_
    exact prI (post := fun r L1 f1 => ((bn (-1) 9 r ∧ (¬ r = -1 → tk = 2) ∧ ((r = -1 ∧ ¬ (9 ≤ k9 ∧ k9 ≤ 18)) ∨ (0 ≤ r.toInt ∧ k9 = 9 + r.toInt)))) ∧ L1 = L ∧ f1 = f) S Y rfl (by decide) (by decide) hA1 ⟨⟨bn_k (by decide), fun h => absurd rfl h, Or.inl ⟨rfl, (by have j0 := (show ¬ (0 ≤ k9 ∧ k9 ≤ 30) from fun z => (show ¬ tk.toInt = 2 from fun z => c_85312 (Int32.toInt_inj.mp (z.trans rfl))) ((tk_k hK).2.2.2.2.2.2 z)); have j1 := (tk_k hK).2.2.2.2.2.2; omega)⟩⟩, rfl, rfl⟩ dX12_nameOf_9
set_option maxHeartbeats 4000000 in
set_option maxRecDepth 100000 in
theorem x_X12_compareOf {l : Launch} {G : GG}  {L : List Nat} {f : HF} {ad : Nat → Nat → Nat} {pa : (Nat → Int32) → Prop} {PA : (Nat → Int32) → Prop} {PI : PIT} {PX : (Nat → Int32) → Prop} {td fa fp at9 ps9 tk nu t0 wr so pd op9 cg iw on9 is9 se : Int32} {wd : Int64} {W9 : List Int} {k9 v9 : Int} (I : SH (spM PA PI PX pa) nnM G ad L f) (p_ad_0_0 : pt L f (ad 0 0) (.inr (12, [.ref (ad 1 0), .ref (ad 2 0), .ref (ad 3 0), .ref (ad 4 0), .int td, .int fa, .int fp, .int at9, .int ps9, .int tk, .int nu, .long wd, .int t0, .int wr, .int so, .ref (ad 5 0), .ref (ad 6 0), .int pd, .int op9, .int cg, .int iw, .int on9, .ref (ad 7 0), .ref (ad 8 0), .ref (ad 9 0), .int is9, .ref (ad 10 0), .ref (ad 11 0), .ref (ad 12 0), .ref (ad 13 0), .int se, .ref (ad 14 0)]))) (hK : TKR W9 k9 v9 tk nu wd) : PMp l yX12_compareOf cX12_compareOf 1 .int 0 0 0 G [.ref (ad 0 0)] L f (fun r => (bn (-1) 15 r ∧ (¬ r = -1 → ¬ tk = 0 ∧ bn 10 15 r) ∧ ((r = -1 ∧ ¬ isCmp k9) ∨ (¬ r = -1 ∧ isCmp k9)))) := by
  refine PMi.of (post := fun r L1 f1 => ((bn (-1) 15 r ∧ (¬ r = -1 → ¬ tk = 0 ∧ bn 10 15 r) ∧ ((r = -1 ∧ ¬ isCmp k9) ∨ (¬ r = -1 ∧ isCmp k9)))) ∧ L1 = L ∧ f1 = f) (own := RX12) (by decide) rfl (Nat.le_of_ble_eq_true rfl) (fun sz p e s m args below meth c A ls hA1 hname S Y hl => ?_)
  have hx := S.hx
  have hb := S.hb
  have hl : lv_has ls 1 [(0, .ref (ad 0 0))] := hl
  obtain ⟨bfe_4, bfe_5, bfe_6, bfe_7, bfe_8, bfe_12, bfe_13, bfe_17, bfe_18, bfe_19, bfe_20, bfe_25⟩ := obM I p_ad_0_0
  refine lv_aload_n hx hb dX12_compareOf_0 rfl (lv_at hl 0 rfl) ?_
  refine pg_get S Y ok_X12 9 (by decide) kf12_98 (v := .int tk) p_ad_0_0 rfl dX12_compareOf_1 ?_
  refine lv_bipush (v := 60) hx hb dX12_compareOf_4 (by decide) ?_
  refine lv_icmp_ne (tgt := 14) hx hb dX12_compareOf_6 (by decide) (fun c_85378 => ?_) (fun c_85378 => ?_)
  · refine lv_aload_n hx hb dX12_compareOf_14 rfl (lv_at hl 0 rfl) ?_
    refine pg_get S Y ok_X12 9 (by decide) kf12_98 (v := .int tk) p_ad_0_0 rfl dX12_compareOf_15 ?_
    refine lv_iconst (v := 4) hx hb dX12_compareOf_18 (by decide) ?_
    refine lv_icmp_ne (tgt := 27) hx hb dX12_compareOf_19 (by decide) (fun c_85380 => ?_) (fun c_85380 => ?_)
    · refine lv_aload_n hx hb dX12_compareOf_27 rfl (lv_at hl 0 rfl) ?_
      refine pg_get S Y ok_X12 9 (by decide) kf12_98 (v := .int tk) p_ad_0_0 rfl dX12_compareOf_28 ?_
      refine lv_bipush (v := 62) hx hb dX12_compareOf_31 (by decide) ?_
      refine lv_icmp_ne (tgt := 41) hx hb dX12_compareOf_33 (by decide) (fun c_85382 => ?_) (fun c_85382 => ?_)
      · refine lv_aload_n hx hb dX12_compareOf_41 rfl (lv_at hl 0 rfl) ?_
        refine pg_get S Y ok_X12 9 (by decide) kf12_98 (v := .int tk) p_ad_0_0 rfl dX12_compareOf_42 ?_
        refine lv_iconst (v := 5) hx hb dX12_compareOf_45 (by decide) ?_
        refine lv_icmp_ne (tgt := 54) hx hb dX12_compareOf_46 (by decide) (fun c_85384 => ?_) (fun c_85384 => ?_)
        · refine lv_aload_n hx hb dX12_compareOf_54 rfl (lv_at hl 0 rfl) ?_
          refine pg_get S Y ok_X12 9 (by decide) kf12_98 (v := .int tk) p_ad_0_0 rfl dX12_compareOf_55 ?_
          refine lv_bipush (v := 61) hx hb dX12_compareOf_58 (by decide) ?_
          refine lv_icmp_ne (tgt := 68) hx hb dX12_compareOf_60 (by decide) (fun c_85386 => ?_) (fun c_85386 => ?_)
          · refine lv_aload_n hx hb dX12_compareOf_68 rfl (lv_at hl 0 rfl) ?_
            refine pg_get S Y ok_X12 9 (by decide) kf12_98 (v := .int tk) p_ad_0_0 rfl dX12_compareOf_69 ?_
            refine lv_bipush (v := 35) hx hb dX12_compareOf_72 (by decide) ?_
            refine lv_icmp_ne (tgt := 82) hx hb dX12_compareOf_74 (by decide) (fun c_85388 => ?_) (fun c_85388 => ?_)
            · refine lv_iconst (v := (-1)) hx hb dX12_compareOf_82 (by decide) ?_
              exact prI (post := fun r L1 f1 => ((bn (-1) 15 r ∧ (¬ r = -1 → ¬ tk = 0 ∧ bn 10 15 r) ∧ ((r = -1 ∧ ¬ isCmp k9) ∨ (¬ r = -1 ∧ isCmp k9)))) ∧ L1 = L ∧ f1 = f) S Y rfl (by decide) (by decide) hA1 ⟨⟨bn_k (by decide), fun h => absurd rfl h, Or.inl ⟨rfl, (by unfold isCmp; exact (by have j0 := (mt ((tk_k hK).2.2.2.2.1 60 (by decide)).mpr (show ¬ tk.toInt = 60 from fun z => c_85378 (Int32.toInt_inj.mp (z.trans rfl)))); have j1 := (mt (tk_k hK).2.2.1.mpr (show ¬ tk.toInt = 4 from fun z => c_85380 (Int32.toInt_inj.mp (z.trans rfl)))); have j2 := (mt ((tk_k hK).2.2.2.2.1 62 (by decide)).mpr (show ¬ tk.toInt = 62 from fun z => c_85382 (Int32.toInt_inj.mp (z.trans rfl)))); have j3 := (mt (tk_k hK).2.2.2.1.mpr (show ¬ tk.toInt = 5 from fun z => c_85384 (Int32.toInt_inj.mp (z.trans rfl)))); have j4 := (mt ((tk_k hK).2.2.2.2.1 61 (by decide)).mpr (show ¬ tk.toInt = 61 from fun z => c_85386 (Int32.toInt_inj.mp (z.trans rfl)))); have j5 := (mt ((tk_k hK).2.2.2.2.1 35 (by decide)).mpr (show ¬ tk.toInt = 35 from fun z => c_85388 (Int32.toInt_inj.mp (z.trans rfl)))); omega))⟩⟩, rfl, rfl⟩ dX12_compareOf_83
            · have B_85389 : bn 35 35 tk := bn_w (bn_eq c_85388 (show bn 35 35 (35 : Int32) from bn_k (by decide))) (by decide)
              refine lv_bipush (v := 15) hx hb dX12_compareOf_77 (by decide) ?_
              refine lv_goto (tgt := 83) hx hb dX12_compareOf_79 (by decide) ?_
              exact prI (post := fun r L1 f1 => ((bn (-1) 15 r ∧ (¬ r = -1 → ¬ tk = 0 ∧ bn 10 15 r) ∧ ((r = -1 ∧ ¬ isCmp k9) ∨ (¬ r = -1 ∧ isCmp k9)))) ∧ L1 = L ∧ f1 = f) S Y rfl (by decide) (by decide) hA1 ⟨⟨bn_k (by decide), fun _ => ⟨(show ¬ tk = 0 from by rw [c_85388]; decide), bn_k (by decide)⟩, Or.inr ⟨by decide, (by unfold isCmp; exact (by have j0 := (mt ((tk_k hK).2.2.2.2.1 60 (by decide)).mpr (show ¬ tk.toInt = 60 from fun z => c_85378 (Int32.toInt_inj.mp (z.trans rfl)))); have j1 := (mt (tk_k hK).2.2.1.mpr (show ¬ tk.toInt = 4 from fun z => c_85380 (Int32.toInt_inj.mp (z.trans rfl)))); have j2 := (mt ((tk_k hK).2.2.2.2.1 62 (by decide)).mpr (show ¬ tk.toInt = 62 from fun z => c_85382 (Int32.toInt_inj.mp (z.trans rfl)))); have j3 := (mt (tk_k hK).2.2.2.1.mpr (show ¬ tk.toInt = 5 from fun z => c_85384 (Int32.toInt_inj.mp (z.trans rfl)))); have j4 := (mt ((tk_k hK).2.2.2.2.1 61 (by decide)).mpr (show ¬ tk.toInt = 61 from fun z => c_85386 (Int32.toInt_inj.mp (z.trans rfl)))); have j5 := (((tk_k hK).2.2.2.2.1 35 (by decide)).mp (show tk.toInt = 35 from by rw [c_85388]; rfl)); omega))⟩⟩, rfl, rfl⟩ dX12_compareOf_83
          · have B_85387 : bn 61 61 tk := bn_w (bn_eq c_85386 (show bn 61 61 (61 : Int32) from bn_k (by decide))) (by decide)
            refine lv_bipush (v := 14) hx hb dX12_compareOf_63 (by decide) ?_
            refine lv_goto (tgt := 83) hx hb dX12_compareOf_65 (by decide) ?_
            exact prI (post := fun r L1 f1 => ((bn (-1) 15 r ∧ (¬ r = -1 → ¬ tk = 0 ∧ bn 10 15 r) ∧ ((r = -1 ∧ ¬ isCmp k9) ∨ (¬ r = -1 ∧ isCmp k9)))) ∧ L1 = L ∧ f1 = f) S Y rfl (by decide) (by decide) hA1 ⟨⟨bn_k (by decide), fun _ => ⟨(show ¬ tk = 0 from by rw [c_85386]; decide), bn_k (by decide)⟩, Or.inr ⟨by decide, (by unfold isCmp; exact (by have j0 := (mt ((tk_k hK).2.2.2.2.1 60 (by decide)).mpr (show ¬ tk.toInt = 60 from fun z => c_85378 (Int32.toInt_inj.mp (z.trans rfl)))); have j1 := (mt (tk_k hK).2.2.1.mpr (show ¬ tk.toInt = 4 from fun z => c_85380 (Int32.toInt_inj.mp (z.trans rfl)))); have j2 := (mt ((tk_k hK).2.2.2.2.1 62 (by decide)).mpr (show ¬ tk.toInt = 62 from fun z => c_85382 (Int32.toInt_inj.mp (z.trans rfl)))); have j3 := (mt (tk_k hK).2.2.2.1.mpr (show ¬ tk.toInt = 5 from fun z => c_85384 (Int32.toInt_inj.mp (z.trans rfl)))); have j4 := (((tk_k hK).2.2.2.2.1 61 (by decide)).mp (show tk.toInt = 61 from by rw [c_85386]; rfl)); omega))⟩⟩, rfl, rfl⟩ dX12_compareOf_83
        · have B_85385 : bn 5 5 tk := bn_w (bn_eq c_85384 (show bn 5 5 (5 : Int32) from bn_k (by decide))) (by decide)
          refine lv_bipush (v := 13) hx hb dX12_compareOf_49 (by decide) ?_
          refine lv_goto (tgt := 83) hx hb dX12_compareOf_51 (by decide) ?_
          exact prI (post := fun r L1 f1 => ((bn (-1) 15 r ∧ (¬ r = -1 → ¬ tk = 0 ∧ bn 10 15 r) ∧ ((r = -1 ∧ ¬ isCmp k9) ∨ (¬ r = -1 ∧ isCmp k9)))) ∧ L1 = L ∧ f1 = f) S Y rfl (by decide) (by decide) hA1 ⟨⟨bn_k (by decide), fun _ => ⟨(show ¬ tk = 0 from by rw [c_85384]; decide), bn_k (by decide)⟩, Or.inr ⟨by decide, (by unfold isCmp; exact (by have j0 := (mt ((tk_k hK).2.2.2.2.1 60 (by decide)).mpr (show ¬ tk.toInt = 60 from fun z => c_85378 (Int32.toInt_inj.mp (z.trans rfl)))); have j1 := (mt (tk_k hK).2.2.1.mpr (show ¬ tk.toInt = 4 from fun z => c_85380 (Int32.toInt_inj.mp (z.trans rfl)))); have j2 := (mt ((tk_k hK).2.2.2.2.1 62 (by decide)).mpr (show ¬ tk.toInt = 62 from fun z => c_85382 (Int32.toInt_inj.mp (z.trans rfl)))); have j3 := ((tk_k hK).2.2.2.1.mp (show tk.toInt = 5 from by rw [c_85384]; rfl)); omega))⟩⟩, rfl, rfl⟩ dX12_compareOf_83
      · have B_85383 : bn 62 62 tk := bn_w (bn_eq c_85382 (show bn 62 62 (62 : Int32) from bn_k (by decide))) (by decide)
        refine lv_bipush (v := 12) hx hb dX12_compareOf_36 (by decide) ?_
        refine lv_goto (tgt := 83) hx hb dX12_compareOf_38 (by decide) ?_
        exact prI (post := fun r L1 f1 => ((bn (-1) 15 r ∧ (¬ r = -1 → ¬ tk = 0 ∧ bn 10 15 r) ∧ ((r = -1 ∧ ¬ isCmp k9) ∨ (¬ r = -1 ∧ isCmp k9)))) ∧ L1 = L ∧ f1 = f) S Y rfl (by decide) (by decide) hA1 ⟨⟨bn_k (by decide), fun _ => ⟨(show ¬ tk = 0 from by rw [c_85382]; decide), bn_k (by decide)⟩, Or.inr ⟨by decide, (by unfold isCmp; exact (by have j0 := (mt ((tk_k hK).2.2.2.2.1 60 (by decide)).mpr (show ¬ tk.toInt = 60 from fun z => c_85378 (Int32.toInt_inj.mp (z.trans rfl)))); have j1 := (mt (tk_k hK).2.2.1.mpr (show ¬ tk.toInt = 4 from fun z => c_85380 (Int32.toInt_inj.mp (z.trans rfl)))); have j2 := (((tk_k hK).2.2.2.2.1 62 (by decide)).mp (show tk.toInt = 62 from by rw [c_85382]; rfl)); omega))⟩⟩, rfl, rfl⟩ dX12_compareOf_83
    · have B_85381 : bn 4 4 tk := bn_w (bn_eq c_85380 (show bn 4 4 (4 : Int32) from bn_k (by decide))) (by decide)
      refine lv_bipush (v := 11) hx hb dX12_compareOf_22 (by decide) ?_
      refine lv_goto (tgt := 83) hx hb dX12_compareOf_24 (by decide) ?_
      exact prI (post := fun r L1 f1 => ((bn (-1) 15 r ∧ (¬ r = -1 → ¬ tk = 0 ∧ bn 10 15 r) ∧ ((r = -1 ∧ ¬ isCmp k9) ∨ (¬ r = -1 ∧ isCmp k9)))) ∧ L1 = L ∧ f1 = f) S Y rfl (by decide) (by decide) hA1 ⟨⟨bn_k (by decide), fun _ => ⟨(show ¬ tk = 0 from by rw [c_85380]; decide), bn_k (by decide)⟩, Or.inr ⟨by decide, (by unfold isCmp; exact (by have j0 := (mt ((tk_k hK).2.2.2.2.1 60 (by decide)).mpr (show ¬ tk.toInt = 60 from fun z => c_85378 (Int32.toInt_inj.mp (z.trans rfl)))); have j1 := ((tk_k hK).2.2.1.mp (show tk.toInt = 4 from by rw [c_85380]; rfl)); omega))⟩⟩, rfl, rfl⟩ dX12_compareOf_83
  · have B_85379 : bn 60 60 tk := bn_w (bn_eq c_85378 (show bn 60 60 (60 : Int32) from bn_k (by decide))) (by decide)
    refine lv_bipush (v := 10) hx hb dX12_compareOf_9 (by decide) ?_
    refine lv_goto (tgt := 83) hx hb dX12_compareOf_11 (by decide) ?_
    exact prI (post := fun r L1 f1 => ((bn (-1) 15 r ∧ (¬ r = -1 → ¬ tk = 0 ∧ bn 10 15 r) ∧ ((r = -1 ∧ ¬ isCmp k9) ∨ (¬ r = -1 ∧ isCmp k9)))) ∧ L1 = L ∧ f1 = f) S Y rfl (by decide) (by decide) hA1 ⟨⟨bn_k (by decide), fun _ => ⟨(show ¬ tk = 0 from by rw [c_85378]; decide), bn_k (by decide)⟩, Or.inr ⟨by decide, (by unfold isCmp; exact (by have j0 := (((tk_k hK).2.2.2.2.1 60 (by decide)).mp (show tk.toInt = 60 from by rw [c_85378]; rfl)); omega))⟩⟩, rfl, rfl⟩ dX12_compareOf_83
theorem rk_bn {r : Int32} {o : Int} (h : r.toInt = (rk o : Int)) : bn 0 7 r := by
  have h2 : rk o ≤ 7 := by
    unfold rk
    repeat' split
    all_goals omega
  exact ⟨by omega, by omega⟩
set_option maxHeartbeats 4000000 in
set_option maxRecDepth 100000 in
theorem x_X12_rank {l : Launch} {G : GG}  {L : List Nat} {f : HF}  {i1 : Int32}  : PMp l yX12_rank cX12_rank 1 .int 0 0 0 G [.int i1] L f (fun r => (r.toInt = (rk i1.toInt : Int))) := by
  refine PMi.of (post := fun r L1 f1 => ((r.toInt = (rk i1.toInt : Int))) ∧ L1 = L ∧ f1 = f) (own := RX12) (by decide) rfl (Nat.le_of_ble_eq_true rfl) (fun sz p e s m args below meth c A ls hA1 hname S Y hl => ?_)
  have hx := S.hx
  have hb := S.hb
  have hl : lv_has ls 1 [(0, .int i1)] := hl
  refine lv_iload_n hx hb dX12_rank_0 rfl (lv_at hl 0 rfl) ?_
  refine lv_bipush (v := 40) hx hb dX12_rank_1 (by decide) ?_
  refine lv_icmp_lt (tgt := 10) hx hb dX12_rank_3 (by decide) (fun c_85428 => ?_) (fun c_85428 => ?_)
  · have B_85429 : bn (-2147483648) 39 i1 := bn_w (bn_ltl c_85428 (bn_any i1) (show bn 40 40 (40 : Int32) from bn_k (by decide))) (by decide)
    refine lv_iload_n hx hb dX12_rank_10 rfl (lv_at hl 0 rfl) ?_
    refine lv_bipush (v := 22) hx hb dX12_rank_11 (by decide) ?_
    refine lv_icmp_ne (tgt := 20) hx hb dX12_rank_13 (by decide) (fun c_85431 => ?_) (fun c_85431 => ?_)
    · refine lv_iload_n hx hb dX12_rank_20 rfl (lv_at hl 0 rfl) ?_
      refine lv_bipush (v := 21) hx hb dX12_rank_21 (by decide) ?_
      refine lv_icmp_ne (tgt := 30) hx hb dX12_rank_23 (by decide) (fun c_85433 => ?_) (fun c_85433 => ?_)
      · refine lv_iload_n hx hb dX12_rank_30 rfl (lv_at hl 0 rfl) ?_
        refine lv_bipush (v := 20) hx hb dX12_rank_31 (by decide) ?_
        refine lv_icmp_ne (tgt := 40) hx hb dX12_rank_33 (by decide) (fun c_85435 => ?_) (fun c_85435 => ?_)
        · refine lv_iload_n hx hb dX12_rank_40 rfl (lv_at hl 0 rfl) ?_
          refine lv_bipush (v := 10) hx hb dX12_rank_41 (by decide) ?_
          refine lv_icmp_lt (tgt := 50) hx hb dX12_rank_43 (by decide) (fun c_85437 => ?_) (fun c_85437 => ?_)
          · have B_85438 : bn (-2147483648) 9 i1 := bn_w (bn_ltl c_85437 B_85429 (show bn 10 10 (10 : Int32) from bn_k (by decide))) (by decide)
            refine lv_iload_n hx hb dX12_rank_50 rfl (lv_at hl 0 rfl) ?_
            refine lv_iconst (v := 5) hx hb dX12_rank_51 (by decide) ?_
            refine lv_icmp_eq (tgt := 60) hx hb dX12_rank_52 (by decide) (fun c_85440 => ?_) (fun c_85440 => ?_)
            · have B_85441 : bn 5 5 i1 := bn_w (bn_eq c_85440 (show bn 5 5 (5 : Int32) from bn_k (by decide))) (by decide)
              refine lv_bipush (v := 7) hx hb dX12_rank_60 (by decide) ?_
              refine lv_goto (tgt := 77) hx hb dX12_rank_62 (by decide) ?_
              exact prI (post := fun r L1 f1 => ((r.toInt = (rk i1.toInt : Int))) ∧ L1 = L ∧ f1 = f) S Y rfl (by decide) (by decide) hA1 ⟨(by have n0 : ¬ i1.toInt = 22 := fun h => c_85431 (Int32.toInt_inj.mp h); have n1 : ¬ i1.toInt = 21 := fun h => c_85433 (Int32.toInt_inj.mp h); have n2 : ¬ i1.toInt = 20 := fun h => c_85435 (Int32.toInt_inj.mp h); have q1 := (B_85441).1; have q2 := (B_85441).2; unfold rk; rw [if_neg (by omega), if_neg (by omega), if_neg (by omega), if_neg (by omega), if_neg (by omega), if_pos (by omega)]; rfl), rfl, rfl⟩ dX12_rank_77
            · refine lv_iload_n hx hb dX12_rank_55 rfl (lv_at hl 0 rfl) ?_
              refine lv_iconst (v := 2) hx hb dX12_rank_56 (by decide) ?_
              refine lv_icmp_ne (tgt := 65) hx hb dX12_rank_57 (by decide) (fun c_85442 => ?_) (fun c_85442 => ?_)
              · refine lv_iload_n hx hb dX12_rank_65 rfl (lv_at hl 0 rfl) ?_
                refine lv_bipush (v := 8) hx hb dX12_rank_66 (by decide) ?_
                refine lv_icmp_lt (tgt := 76) hx hb dX12_rank_68 (by decide) (fun c_85444 => ?_) (fun c_85444 => ?_)
                · have B_85445 : bn (-2147483648) 7 i1 := bn_w (bn_ltl c_85444 B_85438 (show bn 8 8 (8 : Int32) from bn_k (by decide))) (by decide)
                  refine lv_iconst (v := 5) hx hb dX12_rank_76 (by decide) ?_
                  exact prI (post := fun r L1 f1 => ((r.toInt = (rk i1.toInt : Int))) ∧ L1 = L ∧ f1 = f) S Y rfl (by decide) (by decide) hA1 ⟨(by have n0 : ¬ i1.toInt = 22 := fun h => c_85431 (Int32.toInt_inj.mp h); have n1 : ¬ i1.toInt = 21 := fun h => c_85433 (Int32.toInt_inj.mp h); have n2 : ¬ i1.toInt = 20 := fun h => c_85435 (Int32.toInt_inj.mp h); have n3 : ¬ i1.toInt = 5 := fun h => c_85440 (Int32.toInt_inj.mp h); have n4 : ¬ i1.toInt = 2 := fun h => c_85442 (Int32.toInt_inj.mp h); have q1 := (B_85445).1; have q2 := (B_85445).2; unfold rk; rw [if_neg (by omega), if_neg (by omega), if_neg (by omega), if_neg (by omega), if_neg (by omega), if_neg (by omega), if_neg (by omega)]; rfl), rfl, rfl⟩ dX12_rank_77
                · have B_85446 : bn 8 9 i1 := bn_w (bn_gel c_85444 B_85438 (show bn 8 8 (8 : Int32) from bn_k (by decide))) (by decide)
                  refine lv_bipush (v := 6) hx hb dX12_rank_71 (by decide) ?_
                  refine lv_goto (tgt := 77) hx hb dX12_rank_73 (by decide) ?_
                  exact prI (post := fun r L1 f1 => ((r.toInt = (rk i1.toInt : Int))) ∧ L1 = L ∧ f1 = f) S Y rfl (by decide) (by decide) hA1 ⟨(by have n0 : ¬ i1.toInt = 22 := fun h => c_85431 (Int32.toInt_inj.mp h); have n1 : ¬ i1.toInt = 21 := fun h => c_85433 (Int32.toInt_inj.mp h); have n2 : ¬ i1.toInt = 20 := fun h => c_85435 (Int32.toInt_inj.mp h); have n3 : ¬ i1.toInt = 5 := fun h => c_85440 (Int32.toInt_inj.mp h); have n4 : ¬ i1.toInt = 2 := fun h => c_85442 (Int32.toInt_inj.mp h); have q1 := (B_85446).1; have q2 := (B_85446).2; unfold rk; rw [if_neg (by omega), if_neg (by omega), if_neg (by omega), if_neg (by omega), if_neg (by omega), if_neg (by omega), if_pos (by omega)]; rfl), rfl, rfl⟩ dX12_rank_77
              · have B_85443 : bn 2 2 i1 := bn_w (bn_eq c_85442 (show bn 2 2 (2 : Int32) from bn_k (by decide))) (by decide)
                refine lv_bipush (v := 7) hx hb dX12_rank_60 (by decide) ?_
                refine lv_goto (tgt := 77) hx hb dX12_rank_62 (by decide) ?_
                exact prI (post := fun r L1 f1 => ((r.toInt = (rk i1.toInt : Int))) ∧ L1 = L ∧ f1 = f) S Y rfl (by decide) (by decide) hA1 ⟨(by have n0 : ¬ i1.toInt = 22 := fun h => c_85431 (Int32.toInt_inj.mp h); have n1 : ¬ i1.toInt = 21 := fun h => c_85433 (Int32.toInt_inj.mp h); have n2 : ¬ i1.toInt = 20 := fun h => c_85435 (Int32.toInt_inj.mp h); have n3 : ¬ i1.toInt = 5 := fun h => c_85440 (Int32.toInt_inj.mp h); have q1 := (B_85443).1; have q2 := (B_85443).2; unfold rk; rw [if_neg (by omega), if_neg (by omega), if_neg (by omega), if_neg (by omega), if_neg (by omega), if_pos (by omega)]; rfl), rfl, rfl⟩ dX12_rank_77
          · have B_85439 : bn 10 39 i1 := bn_w (bn_gel c_85437 B_85429 (show bn 10 10 (10 : Int32) from bn_k (by decide))) (by decide)
            refine lv_iconst (v := 4) hx hb dX12_rank_46 (by decide) ?_
            refine lv_goto (tgt := 77) hx hb dX12_rank_47 (by decide) ?_
            exact prI (post := fun r L1 f1 => ((r.toInt = (rk i1.toInt : Int))) ∧ L1 = L ∧ f1 = f) S Y rfl (by decide) (by decide) hA1 ⟨(by have n0 : ¬ i1.toInt = 22 := fun h => c_85431 (Int32.toInt_inj.mp h); have n1 : ¬ i1.toInt = 21 := fun h => c_85433 (Int32.toInt_inj.mp h); have n2 : ¬ i1.toInt = 20 := fun h => c_85435 (Int32.toInt_inj.mp h); have q1 := (B_85439).1; have q2 := (B_85439).2; unfold rk; rw [if_neg (by omega), if_neg (by omega), if_neg (by omega), if_neg (by omega), if_pos (by omega)]; rfl), rfl, rfl⟩ dX12_rank_77
        · have B_85436 : bn 20 20 i1 := bn_w (bn_eq c_85435 (show bn 20 20 (20 : Int32) from bn_k (by decide))) (by decide)
          refine lv_iconst (v := 3) hx hb dX12_rank_36 (by decide) ?_
          refine lv_goto (tgt := 77) hx hb dX12_rank_37 (by decide) ?_
          exact prI (post := fun r L1 f1 => ((r.toInt = (rk i1.toInt : Int))) ∧ L1 = L ∧ f1 = f) S Y rfl (by decide) (by decide) hA1 ⟨(by have n0 : ¬ i1.toInt = 22 := fun h => c_85431 (Int32.toInt_inj.mp h); have n1 : ¬ i1.toInt = 21 := fun h => c_85433 (Int32.toInt_inj.mp h); have q1 := (B_85436).1; have q2 := (B_85436).2; unfold rk; rw [if_neg (by omega), if_neg (by omega), if_neg (by omega), if_pos (by omega)]; rfl), rfl, rfl⟩ dX12_rank_77
      · have B_85434 : bn 21 21 i1 := bn_w (bn_eq c_85433 (show bn 21 21 (21 : Int32) from bn_k (by decide))) (by decide)
        refine lv_iconst (v := 2) hx hb dX12_rank_26 (by decide) ?_
        refine lv_goto (tgt := 77) hx hb dX12_rank_27 (by decide) ?_
        exact prI (post := fun r L1 f1 => ((r.toInt = (rk i1.toInt : Int))) ∧ L1 = L ∧ f1 = f) S Y rfl (by decide) (by decide) hA1 ⟨(by have n0 : ¬ i1.toInt = 22 := fun h => c_85431 (Int32.toInt_inj.mp h); have q1 := (B_85434).1; have q2 := (B_85434).2; unfold rk; rw [if_neg (by omega), if_neg (by omega), if_pos (by omega)]; rfl), rfl, rfl⟩ dX12_rank_77
    · have B_85432 : bn 22 22 i1 := bn_w (bn_eq c_85431 (show bn 22 22 (22 : Int32) from bn_k (by decide))) (by decide)
      refine lv_iconst (v := 1) hx hb dX12_rank_16 (by decide) ?_
      refine lv_goto (tgt := 77) hx hb dX12_rank_17 (by decide) ?_
      exact prI (post := fun r L1 f1 => ((r.toInt = (rk i1.toInt : Int))) ∧ L1 = L ∧ f1 = f) S Y rfl (by decide) (by decide) hA1 ⟨(by skip; have q1 := (B_85432).1; have q2 := (B_85432).2; unfold rk; rw [if_neg (by omega), if_pos (by omega)]; rfl), rfl, rfl⟩ dX12_rank_77
  · have B_85430 : bn 40 2147483647 i1 := bn_w (bn_gel c_85428 (bn_any i1) (show bn 40 40 (40 : Int32) from bn_k (by decide))) (by decide)
    refine lv_iconst (v := 0) hx hb dX12_rank_6 (by decide) ?_
    refine lv_goto (tgt := 77) hx hb dX12_rank_7 (by decide) ?_
    exact prI (post := fun r L1 f1 => ((r.toInt = (rk i1.toInt : Int))) ∧ L1 = L ∧ f1 = f) S Y rfl (by decide) (by decide) hA1 ⟨(by skip; have q1 := (B_85430).1; have q2 := (B_85430).2; unfold rk; rw [if_pos (by omega)]; rfl), rfl, rfl⟩ dX12_rank_77
