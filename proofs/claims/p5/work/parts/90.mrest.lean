theorem dX12_isRing_0 : decode cX12_isRing 0 = .ok (.iconst 0, 1) := by decide +kernel
theorem dX12_isRing_1 : decode cX12_isRing 1 = .ok (.istore_n 2, 1) := by decide +kernel
theorem dX12_isRing_2 : decode cX12_isRing 2 = .ok (.iconst (-1), 1) := by decide +kernel
theorem dX12_isRing_3 : decode cX12_isRing 3 = .ok (.istore_n 3, 1) := by decide +kernel
theorem dX12_isRing_4 : decode cX12_isRing 4 = .ok (.aload_n 0, 1) := by decide +kernel
theorem dX12_isRing_5 : decode cX12_isRing 5 = .ok (.getfield 7, 3) := by decide +kernel
theorem dX12_isRing_8 : decode cX12_isRing 8 = .ok (.bipush 13, 2) := by decide +kernel
theorem dX12_isRing_10 : decode cX12_isRing 10 = .ok (.iaload, 1) := by decide +kernel
theorem dX12_isRing_11 : decode cX12_isRing 11 = .ok (.iconst 1, 1) := by decide +kernel
theorem dX12_isRing_12 : decode cX12_isRing 12 = .ok (.isub, 1) := by decide +kernel
theorem dX12_isRing_13 : decode cX12_isRing 13 = .ok (.istore 4, 2) := by decide +kernel
theorem dX12_isRing_15 : decode cX12_isRing 15 = .ok (.iload 4, 2) := by decide +kernel
theorem dX12_isRing_17 : decode cX12_isRing 17 = .ok (.ifCond .lt 61, 3) := by decide +kernel
theorem dX12_isRing_78 : decode cX12_isRing 78 = .ok (.iload_n 1, 1) := by decide +kernel
theorem dX12_isRing_79 : decode cX12_isRing 79 = .ok (.invokestatic 268, 3) := by decide +kernel
theorem dX12_isRing_82 : decode cX12_isRing 82 = .ok (.iconst 2, 1) := by decide +kernel
theorem dX12_isRing_83 : decode cX12_isRing 83 = .ok (.if_icmp .ge 5, 3) := by decide +kernel
theorem dX12_isRing_88 : decode cX12_isRing 88 = .ok (.aload_n 0, 1) := by decide +kernel
theorem dX12_isRing_89 : decode cX12_isRing 89 = .ok (.iload_n 3, 1) := by decide +kernel
theorem dX12_isRing_90 : decode cX12_isRing 90 = .ok (.iconst 1, 1) := by decide +kernel
theorem dX12_isRing_91 : decode cX12_isRing 91 = .ok (.invokevirtual 73, 3) := by decide +kernel
theorem dX12_isRing_94 : decode cX12_isRing 94 = .ok (.istore 4, 2) := by decide +kernel
theorem dX12_isRing_96 : decode cX12_isRing 96 = .ok (.iconst 1, 1) := by decide +kernel
theorem dX12_isRing_97 : decode cX12_isRing 97 = .ok (.istore 5, 2) := by decide +kernel
theorem dX12_isRing_86 : decode cX12_isRing 86 = .ok (.iconst 0, 1) := by decide +kernel
theorem dX12_isRing_87 : decode cX12_isRing 87 = .ok (.ireturn, 1) := by decide +kernel
theorem dX12_isRing_20 : decode cX12_isRing 20 = .ok (.iload_n 1, 1) := by decide +kernel
theorem dX12_isRing_21 : decode cX12_isRing 21 = .ok (.iload 4, 2) := by decide +kernel
theorem dX12_isRing_23 : decode cX12_isRing 23 = .ok (.invokestatic 244, 3) := by decide +kernel
theorem dX12_isRing_26 : decode cX12_isRing 26 = .ok (.ifCond .ne 6, 3) := by decide +kernel
theorem dX12_isRing_32 : decode cX12_isRing 32 = .ok (.aload_n 0, 1) := by decide +kernel
theorem dX12_isRing_33 : decode cX12_isRing 33 = .ok (.iload 4, 2) := by decide +kernel
theorem dX12_isRing_35 : decode cX12_isRing 35 = .ok (.invokevirtual 351, 3) := by decide +kernel
theorem cw_X12_isLink : CWv yX12_isLink cX12_isLink 2 (some .boolean) 1 := ⟨⟨⟨List.mem_of_getElem? (i := 137) (by decide +kernel), by decide +kernel⟩, ⟨List.mem_of_getElem? (i := 1904) (by decide +kernel), by decide +kernel⟩, by decide +kernel⟩, ⟨List.mem_of_getElem? (i := 1903) (by decide +kernel), by decide +kernel⟩, ⟨List.mem_of_getElem? (i := 98) (by decide +kernel), by decide +kernel⟩⟩
theorem km12_351 : inW (Cond.methodLink RX12 351 yX12_isLink) := ⟨List.mem_of_getElem? (i := 1901) (by decide +kernel), by decide +kernel⟩
theorem dX12_isRing_38 : decode cX12_isRing 38 = .ok (.ifCond .eq 17, 3) := by decide +kernel
theorem dX12_isRing_55 : decode cX12_isRing 55 = .ok (.iconst 0, 1) := by decide +kernel
theorem dX12_isRing_56 : decode cX12_isRing 56 = .ok (.ireturn, 1) := by decide +kernel
theorem dX12_isRing_41 : decode cX12_isRing 41 = .ok (.iload_n 2, 1) := by decide +kernel
theorem dX12_isRing_42 : decode cX12_isRing 42 = .ok (.aload_n 0, 1) := by decide +kernel
theorem dX12_isRing_43 : decode cX12_isRing 43 = .ok (.iload 4, 2) := by decide +kernel
theorem dX12_isRing_45 : decode cX12_isRing 45 = .ok (.iconst 0, 1) := by decide +kernel
theorem dX12_isRing_46 : decode cX12_isRing 46 = .ok (.invokevirtual 73, 3) := by decide +kernel
theorem dX12_isRing_49 : decode cX12_isRing 49 = .ok (.invokestatic 244, 3) := by decide +kernel
theorem dX12_isRing_52 : decode cX12_isRing 52 = .ok (.ifCond .eq 5, 3) := by decide +kernel
theorem dX12_isRing_57 : decode cX12_isRing 57 = .ok (.iload_n 2, 1) := by decide +kernel
theorem dX12_isRing_58 : decode cX12_isRing 58 = .ok (.iconst 1, 1) := by decide +kernel
theorem dX12_isRing_59 : decode cX12_isRing 59 = .ok (.aload_n 0, 1) := by decide +kernel
theorem dX12_isRing_60 : decode cX12_isRing 60 = .ok (.iload 4, 2) := by decide +kernel
theorem dX12_isRing_62 : decode cX12_isRing 62 = .ok (.iconst 0, 1) := by decide +kernel
theorem dX12_isRing_63 : decode cX12_isRing 63 = .ok (.invokevirtual 73, 3) := by decide +kernel
theorem dX12_isRing_66 : decode cX12_isRing 66 = .ok (.ishl, 1) := by decide +kernel
theorem dX12_isRing_67 : decode cX12_isRing 67 = .ok (.ior, 1) := by decide +kernel
theorem dX12_isRing_68 : decode cX12_isRing 68 = .ok (.istore_n 2, 1) := by decide +kernel
theorem dX12_isRing_69 : decode cX12_isRing 69 = .ok (.iload 4, 2) := by decide +kernel
theorem dX12_isRing_71 : decode cX12_isRing 71 = .ok (.istore_n 3, 1) := by decide +kernel
theorem dX12_isRing_72 : decode cX12_isRing 72 = .ok (.iinc 4 (-1), 3) := by decide +kernel
theorem dX12_isRing_75 : decode cX12_isRing 75 = .ok (.goto (-60), 3) := by decide +kernel
theorem dX12_isRing_29 : decode cX12_isRing 29 = .ok (.goto 43, 3) := by decide +kernel
theorem dX12_isRing_99 : decode cX12_isRing 99 = .ok (.iload 4, 2) := by decide +kernel
theorem dX12_isRing_101 : decode cX12_isRing 101 = .ok (.aload_n 0, 1) := by decide +kernel
theorem dX12_isRing_102 : decode cX12_isRing 102 = .ok (.iload_n 3, 1) := by decide +kernel
theorem dX12_isRing_103 : decode cX12_isRing 103 = .ok (.iconst 0, 1) := by decide +kernel
theorem dX12_isRing_104 : decode cX12_isRing 104 = .ok (.invokevirtual 73, 3) := by decide +kernel
theorem dX12_isRing_107 : decode cX12_isRing 107 = .ok (.if_icmp .eq 84, 3) := by decide +kernel
theorem dX12_isRing_191 : decode cX12_isRing 191 = .ok (.iload 5, 2) := by decide +kernel
theorem dX12_isRing_193 : decode cX12_isRing 193 = .ok (.iload_n 1, 1) := by decide +kernel
theorem dX12_isRing_194 : decode cX12_isRing 194 = .ok (.invokestatic 268, 3) := by decide +kernel
theorem dX12_isRing_197 : decode cX12_isRing 197 = .ok (.if_icmp .ne 7, 3) := by decide +kernel
theorem dX12_isRing_204 : decode cX12_isRing 204 = .ok (.iconst 0, 1) := by decide +kernel
theorem dX12_isRing_205 : decode cX12_isRing 205 = .ok (.ireturn, 1) := by decide +kernel
theorem dX12_isRing_200 : decode cX12_isRing 200 = .ok (.iconst 1, 1) := by decide +kernel
theorem dX12_isRing_201 : decode cX12_isRing 201 = .ok (.goto 4, 3) := by decide +kernel
theorem dX12_isRing_110 : decode cX12_isRing 110 = .ok (.iconst (-1), 1) := by decide +kernel
theorem dX12_isRing_111 : decode cX12_isRing 111 = .ok (.istore 6, 2) := by decide +kernel
theorem dX12_isRing_113 : decode cX12_isRing 113 = .ok (.iconst 0, 1) := by decide +kernel
theorem dX12_isRing_114 : decode cX12_isRing 114 = .ok (.istore 7, 2) := by decide +kernel
theorem dX12_isRing_116 : decode cX12_isRing 116 = .ok (.iload 7, 2) := by decide +kernel
theorem dX12_isRing_118 : decode cX12_isRing 118 = .ok (.aload_n 0, 1) := by decide +kernel
theorem dX12_isRing_119 : decode cX12_isRing 119 = .ok (.getfield 7, 3) := by decide +kernel
theorem dX12_isRing_122 : decode cX12_isRing 122 = .ok (.bipush 13, 2) := by decide +kernel
theorem dX12_isRing_124 : decode cX12_isRing 124 = .ok (.iaload, 1) := by decide +kernel
theorem dX12_isRing_125 : decode cX12_isRing 125 = .ok (.if_icmp .ge 34, 3) := by decide +kernel
theorem dX12_isRing_159 : decode cX12_isRing 159 = .ok (.iload 6, 2) := by decide +kernel
theorem dX12_isRing_161 : decode cX12_isRing 161 = .ok (.iconst (-1), 1) := by decide +kernel
theorem dX12_isRing_162 : decode cX12_isRing 162 = .ok (.if_icmp .eq 12, 3) := by decide +kernel
theorem dX12_isRing_174 : decode cX12_isRing 174 = .ok (.iconst 0, 1) := by decide +kernel
theorem dX12_isRing_175 : decode cX12_isRing 175 = .ok (.ireturn, 1) := by decide +kernel
theorem dX12_isRing_128 : decode cX12_isRing 128 = .ok (.iload_n 1, 1) := by decide +kernel
theorem dX12_isRing_129 : decode cX12_isRing 129 = .ok (.iload 7, 2) := by decide +kernel
theorem dX12_isRing_131 : decode cX12_isRing 131 = .ok (.invokestatic 244, 3) := by decide +kernel
theorem dX12_isRing_134 : decode cX12_isRing 134 = .ok (.ifCond .eq 19, 3) := by decide +kernel
theorem dX12_isRing_153 : decode cX12_isRing 153 = .ok (.iinc 7 1, 3) := by decide +kernel
theorem dX12_isRing_156 : decode cX12_isRing 156 = .ok (.goto (-40), 3) := by decide +kernel
theorem dX12_isRing_137 : decode cX12_isRing 137 = .ok (.aload_n 0, 1) := by decide +kernel
theorem dX12_isRing_138 : decode cX12_isRing 138 = .ok (.iload 7, 2) := by decide +kernel
theorem dX12_isRing_140 : decode cX12_isRing 140 = .ok (.iconst 0, 1) := by decide +kernel
theorem dX12_isRing_141 : decode cX12_isRing 141 = .ok (.invokevirtual 73, 3) := by decide +kernel
theorem dX12_isRing_144 : decode cX12_isRing 144 = .ok (.iload 4, 2) := by decide +kernel
theorem dX12_isRing_146 : decode cX12_isRing 146 = .ok (.if_icmp .ne 7, 3) := by decide +kernel
theorem dX12_isRing_149 : decode cX12_isRing 149 = .ok (.iload 7, 2) := by decide +kernel
theorem dX12_isRing_151 : decode cX12_isRing 151 = .ok (.istore 6, 2) := by decide +kernel
theorem dX12_isRing_165 : decode cX12_isRing 165 = .ok (.iload 5, 2) := by decide +kernel
theorem dX12_isRing_167 : decode cX12_isRing 167 = .ok (.iload_n 1, 1) := by decide +kernel
theorem dX12_isRing_168 : decode cX12_isRing 168 = .ok (.invokestatic 268, 3) := by decide +kernel
theorem dX12_isRing_171 : decode cX12_isRing 171 = .ok (.if_icmp .ne 5, 3) := by decide +kernel
theorem dX12_isRing_176 : decode cX12_isRing 176 = .ok (.aload_n 0, 1) := by decide +kernel
theorem dX12_isRing_177 : decode cX12_isRing 177 = .ok (.iload 6, 2) := by decide +kernel
theorem dX12_isRing_179 : decode cX12_isRing 179 = .ok (.iconst 1, 1) := by decide +kernel
theorem dX12_isRing_180 : decode cX12_isRing 180 = .ok (.invokevirtual 73, 3) := by decide +kernel
theorem dX12_isRing_183 : decode cX12_isRing 183 = .ok (.istore 4, 2) := by decide +kernel
theorem dX12_isRing_185 : decode cX12_isRing 185 = .ok (.iinc 5 1, 3) := by decide +kernel
theorem dX12_isRing_188 : decode cX12_isRing 188 = .ok (.goto (-89), 3) := by decide +kernel
theorem dX12_strike_0 : decode cX12_strike 0 = .ok (.iload_n 1, 1) := by decide +kernel
theorem dX12_strike_1 : decode cX12_strike 1 = .ok (.iconst 1, 1) := by decide +kernel
theorem dX12_strike_2 : decode cX12_strike 2 = .ok (.iconst 1, 1) := by decide +kernel
theorem dX12_strike_3 : decode cX12_strike 3 = .ok (.aload_n 0, 1) := by decide +kernel
theorem dX12_strike_4 : decode cX12_strike 4 = .ok (.getfield 7, 3) := by decide +kernel
theorem dX12_strike_7 : decode cX12_strike 7 = .ok (.bipush 13, 2) := by decide +kernel
theorem dX12_strike_9 : decode cX12_strike 9 = .ok (.iaload, 1) := by decide +kernel
theorem dX12_strike_10 : decode cX12_strike 10 = .ok (.ishl, 1) := by decide +kernel
theorem dX12_strike_11 : decode cX12_strike 11 = .ok (.iconst 1, 1) := by decide +kernel
theorem dX12_strike_12 : decode cX12_strike 12 = .ok (.isub, 1) := by decide +kernel
theorem dX12_strike_13 : decode cX12_strike 13 = .ok (.invokestatic 69, 3) := by decide +kernel
theorem dX12_strike_16 : decode cX12_strike 16 = .ok (.ifCond .eq 11, 3) := by decide +kernel
theorem dX12_strike_27 : decode cX12_strike 27 = .ok (.iconst (-1), 1) := by decide +kernel
theorem dX12_strike_28 : decode cX12_strike 28 = .ok (.ireturn, 1) := by decide +kernel
theorem dX12_strike_19 : decode cX12_strike 19 = .ok (.aload_n 0, 1) := by decide +kernel
theorem dX12_strike_20 : decode cX12_strike 20 = .ok (.iload_n 1, 1) := by decide +kernel
theorem dX12_strike_21 : decode cX12_strike 21 = .ok (.invokevirtual 354, 3) := by decide +kernel
theorem cw_X12_isRing : CWv yX12_isRing cX12_isRing 8 (some .boolean) 1 := ⟨⟨⟨List.mem_of_getElem? (i := 137) (by decide +kernel), by decide +kernel⟩, ⟨List.mem_of_getElem? (i := 1900) (by decide +kernel), by decide +kernel⟩, by decide +kernel⟩, ⟨List.mem_of_getElem? (i := 1899) (by decide +kernel), by decide +kernel⟩, ⟨List.mem_of_getElem? (i := 97) (by decide +kernel), by decide +kernel⟩⟩
theorem km12_354 : inW (Cond.methodLink RX12 354 yX12_isRing) := ⟨List.mem_of_getElem? (i := 1897) (by decide +kernel), by decide +kernel⟩
theorem dX12_strike_24 : decode cX12_strike 24 = .ok (.ifCond .ne 5, 3) := by decide +kernel
theorem dX12_strike_29 : decode cX12_strike 29 = .ok (.aload_n 0, 1) := by decide +kernel
theorem dX12_strike_30 : decode cX12_strike 30 = .ok (.invokevirtual 333, 3) := by decide +kernel
theorem dX12_strike_33 : decode cX12_strike 33 = .ok (.bipush 9, 2) := by decide +kernel
theorem dX12_strike_35 : decode cX12_strike 35 = .ok (.istore_n 2, 1) := by decide +kernel
theorem dX12_strike_36 : decode cX12_strike 36 = .ok (.iconst 0, 1) := by decide +kernel
theorem dX12_strike_37 : decode cX12_strike 37 = .ok (.istore_n 3, 1) := by decide +kernel
theorem dX12_strike_38 : decode cX12_strike 38 = .ok (.iload_n 3, 1) := by decide +kernel
theorem dX12_strike_39 : decode cX12_strike 39 = .ok (.aload_n 0, 1) := by decide +kernel
theorem dX12_strike_40 : decode cX12_strike 40 = .ok (.getfield 7, 3) := by decide +kernel
theorem dX12_strike_43 : decode cX12_strike 43 = .ok (.bipush 13, 2) := by decide +kernel
theorem dX12_strike_45 : decode cX12_strike 45 = .ok (.iaload, 1) := by decide +kernel
theorem dX12_strike_46 : decode cX12_strike 46 = .ok (.if_icmp .ge 34, 3) := by decide +kernel
theorem dX12_strike_80 : decode cX12_strike 80 = .ok (.iconst 0, 1) := by decide +kernel
theorem dX12_strike_81 : decode cX12_strike 81 = .ok (.istore_n 3, 1) := by decide +kernel
theorem dX12_strike_49 : decode cX12_strike 49 = .ok (.iload_n 1, 1) := by decide +kernel
theorem dX12_strike_50 : decode cX12_strike 50 = .ok (.iload_n 3, 1) := by decide +kernel
theorem dX12_strike_51 : decode cX12_strike 51 = .ok (.invokestatic 244, 3) := by decide +kernel
theorem dX12_strike_54 : decode cX12_strike 54 = .ok (.ifCond .eq 20, 3) := by decide +kernel
theorem dX12_strike_74 : decode cX12_strike 74 = .ok (.iinc 3 1, 3) := by decide +kernel
theorem dX12_strike_77 : decode cX12_strike 77 = .ok (.goto (-39), 3) := by decide +kernel
theorem dX12_strike_57 : decode cX12_strike 57 = .ok (.aload_n 0, 1) := by decide +kernel
theorem dX12_strike_58 : decode cX12_strike 58 = .ok (.iload_n 3, 1) := by decide +kernel
theorem dX12_strike_59 : decode cX12_strike 59 = .ok (.iconst 3, 1) := by decide +kernel
theorem dX12_strike_60 : decode cX12_strike 60 = .ok (.invokevirtual 73, 3) := by decide +kernel
theorem dX12_strike_63 : decode cX12_strike 63 = .ok (.iload_n 2, 1) := by decide +kernel
theorem dX12_strike_64 : decode cX12_strike 64 = .ok (.if_icmp .ge 10, 3) := by decide +kernel
theorem dX12_strike_67 : decode cX12_strike 67 = .ok (.aload_n 0, 1) := by decide +kernel
theorem dX12_strike_68 : decode cX12_strike 68 = .ok (.iload_n 3, 1) := by decide +kernel
theorem dX12_strike_69 : decode cX12_strike 69 = .ok (.iconst 3, 1) := by decide +kernel
theorem dX12_strike_70 : decode cX12_strike 70 = .ok (.invokevirtual 73, 3) := by decide +kernel
theorem dX12_strike_73 : decode cX12_strike 73 = .ok (.istore_n 2, 1) := by decide +kernel
theorem dX12_strike_82 : decode cX12_strike 82 = .ok (.iload_n 3, 1) := by decide +kernel
theorem dX12_strike_83 : decode cX12_strike 83 = .ok (.aload_n 0, 1) := by decide +kernel
theorem dX12_strike_84 : decode cX12_strike 84 = .ok (.getfield 7, 3) := by decide +kernel
theorem dX12_strike_87 : decode cX12_strike 87 = .ok (.bipush 13, 2) := by decide +kernel
theorem dX12_strike_89 : decode cX12_strike 89 = .ok (.iaload, 1) := by decide +kernel
theorem dX12_strike_90 : decode cX12_strike 90 = .ok (.if_icmp .ge 50, 3) := by decide +kernel
theorem dX12_strike_140 : decode cX12_strike 140 = .ok (.iload_n 2, 1) := by decide +kernel
theorem dX12_strike_141 : decode cX12_strike 141 = .ok (.ireturn, 1) := by decide +kernel
theorem dX12_strike_93 : decode cX12_strike 93 = .ok (.iload_n 1, 1) := by decide +kernel
theorem dX12_strike_94 : decode cX12_strike 94 = .ok (.iload_n 3, 1) := by decide +kernel
theorem dX12_strike_95 : decode cX12_strike 95 = .ok (.invokestatic 244, 3) := by decide +kernel
theorem dX12_strike_98 : decode cX12_strike 98 = .ok (.ifCond .ne 6, 3) := by decide +kernel
theorem dX12_strike_104 : decode cX12_strike 104 = .ok (.aload_n 0, 1) := by decide +kernel
theorem dX12_strike_105 : decode cX12_strike 105 = .ok (.iload_n 3, 1) := by decide +kernel
theorem dX12_strike_106 : decode cX12_strike 106 = .ok (.iconst 3, 1) := by decide +kernel
theorem dX12_strike_107 : decode cX12_strike 107 = .ok (.aload_n 0, 1) := by decide +kernel
theorem dX12_strike_108 : decode cX12_strike 108 = .ok (.iload_n 3, 1) := by decide +kernel
theorem dX12_strike_109 : decode cX12_strike 109 = .ok (.iconst 3, 1) := by decide +kernel
theorem dX12_strike_110 : decode cX12_strike 110 = .ok (.invokevirtual 73, 3) := by decide +kernel
theorem dX12_strike_113 : decode cX12_strike 113 = .ok (.iload_n 2, 1) := by decide +kernel
theorem dX12_strike_114 : decode cX12_strike 114 = .ok (.isub, 1) := by decide +kernel
theorem dX12_strike_115 : decode cX12_strike 115 = .ok (.invokevirtual 326, 3) := by decide +kernel
theorem dX12_strike_118 : decode cX12_strike 118 = .ok (.aload_n 0, 1) := by decide +kernel
theorem dX12_strike_119 : decode cX12_strike 119 = .ok (.iload_n 3, 1) := by decide +kernel
theorem dX12_strike_120 : decode cX12_strike 120 = .ok (.iconst 3, 1) := by decide +kernel
theorem dX12_strike_121 : decode cX12_strike 121 = .ok (.invokevirtual 73, 3) := by decide +kernel
theorem dX12_strike_124 : decode cX12_strike 124 = .ok (.ifCond .ne 10, 3) := by decide +kernel
theorem dX12_strike_134 : decode cX12_strike 134 = .ok (.iinc 3 1, 3) := by decide +kernel
theorem dX12_strike_137 : decode cX12_strike 137 = .ok (.goto (-55), 3) := by decide +kernel
theorem dX12_strike_127 : decode cX12_strike 127 = .ok (.aload_n 0, 1) := by decide +kernel
theorem dX12_strike_128 : decode cX12_strike 128 = .ok (.iload_n 3, 1) := by decide +kernel
theorem dX12_strike_129 : decode cX12_strike 129 = .ok (.iconst 4, 1) := by decide +kernel
theorem dX12_strike_130 : decode cX12_strike 130 = .ok (.iconst 2, 1) := by decide +kernel
theorem dX12_strike_131 : decode cX12_strike 131 = .ok (.invokevirtual 326, 3) := by decide +kernel
theorem dX12_strike_101 : decode cX12_strike 101 = .ok (.goto 33, 3) := by decide +kernel
theorem dX12_ring_0 : decode cX12_ring 0 = .ok (.iconst 0, 1) := by decide +kernel
theorem dX12_ring_1 : decode cX12_ring 1 = .ok (.istore_n 1, 1) := by decide +kernel
theorem dX12_ring_2 : decode cX12_ring 2 = .ok (.iconst 0, 1) := by decide +kernel
theorem dX12_ring_3 : decode cX12_ring 3 = .ok (.istore_n 2, 1) := by decide +kernel
theorem dX12_ring_4 : decode cX12_ring 4 = .ok (.iconst 0, 1) := by decide +kernel
theorem dX12_ring_5 : decode cX12_ring 5 = .ok (.istore_n 3, 1) := by decide +kernel
theorem dX12_ring_6 : decode cX12_ring 6 = .ok (.iload_n 3, 1) := by decide +kernel
theorem dX12_ring_7 : decode cX12_ring 7 = .ok (.aload_n 0, 1) := by decide +kernel
theorem dX12_ring_8 : decode cX12_ring 8 = .ok (.getfield 7, 3) := by decide +kernel
theorem dX12_ring_11 : decode cX12_ring 11 = .ok (.bipush 13, 2) := by decide +kernel
theorem dX12_ring_13 : decode cX12_ring 13 = .ok (.iaload, 1) := by decide +kernel
theorem dX12_ring_14 : decode cX12_ring 14 = .ok (.if_icmp .ge 27, 3) := by decide +kernel
theorem dX12_ring_41 : decode cX12_ring 41 = .ok (.iconst 1, 1) := by decide +kernel
theorem dX12_ring_42 : decode cX12_ring 42 = .ok (.istore_n 3, 1) := by decide +kernel
theorem dX12_ring_17 : decode cX12_ring 17 = .ok (.iload_n 2, 1) := by decide +kernel
theorem dX12_ring_18 : decode cX12_ring 18 = .ok (.aload_n 0, 1) := by decide +kernel
theorem dX12_ring_19 : decode cX12_ring 19 = .ok (.iload_n 3, 1) := by decide +kernel
theorem dX12_ring_20 : decode cX12_ring 20 = .ok (.invokevirtual 351, 3) := by decide +kernel
theorem dX12_ring_23 : decode cX12_ring 23 = .ok (.ifCond .eq 9, 3) := by decide +kernel
theorem dX12_ring_32 : decode cX12_ring 32 = .ok (.iconst 0, 1) := by decide +kernel
theorem dX12_ring_33 : decode cX12_ring 33 = .ok (.ior, 1) := by decide +kernel
theorem dX12_ring_34 : decode cX12_ring 34 = .ok (.istore_n 2, 1) := by decide +kernel
theorem dX12_ring_35 : decode cX12_ring 35 = .ok (.iinc 3 1, 3) := by decide +kernel
theorem dX12_ring_38 : decode cX12_ring 38 = .ok (.goto (-32), 3) := by decide +kernel
theorem dX12_ring_26 : decode cX12_ring 26 = .ok (.iconst 1, 1) := by decide +kernel
theorem dX12_ring_27 : decode cX12_ring 27 = .ok (.iload_n 3, 1) := by decide +kernel
theorem dX12_ring_28 : decode cX12_ring 28 = .ok (.ishl, 1) := by decide +kernel
theorem dX12_ring_29 : decode cX12_ring 29 = .ok (.goto 4, 3) := by decide +kernel
theorem dX12_ring_43 : decode cX12_ring 43 = .ok (.iload_n 3, 1) := by decide +kernel
theorem dX12_ring_44 : decode cX12_ring 44 = .ok (.iload_n 2, 1) := by decide +kernel
theorem dX12_ring_45 : decode cX12_ring 45 = .ok (.if_icmp .gt 54, 3) := by decide +kernel
theorem dX12_ring_99 : decode cX12_ring 99 = .ok (.iload_n 1, 1) := by decide +kernel
theorem dX12_ring_100 : decode cX12_ring 100 = .ok (.ireturn, 1) := by decide +kernel
theorem dX12_ring_48 : decode cX12_ring 48 = .ok (.iload_n 3, 1) := by decide +kernel
theorem dX12_ring_49 : decode cX12_ring 49 = .ok (.iload_n 2, 1) := by decide +kernel
theorem dX12_ring_50 : decode cX12_ring 50 = .ok (.iconst (-1), 1) := by decide +kernel
theorem dX12_ring_51 : decode cX12_ring 51 = .ok (.ixor, 1) := by decide +kernel
theorem dX12_ring_52 : decode cX12_ring 52 = .ok (.iand, 1) := by decide +kernel
theorem dX12_ring_53 : decode cX12_ring 53 = .ok (.ifCond .ne 40, 3) := by decide +kernel
theorem dX12_ring_93 : decode cX12_ring 93 = .ok (.iinc 3 1, 3) := by decide +kernel
theorem dX12_ring_96 : decode cX12_ring 96 = .ok (.goto (-53), 3) := by decide +kernel
theorem dX12_ring_56 : decode cX12_ring 56 = .ok (.iload_n 1, 1) := by decide +kernel
theorem dX12_ring_57 : decode cX12_ring 57 = .ok (.ifCond .eq 14, 3) := by decide +kernel
theorem dX12_ring_71 : decode cX12_ring 71 = .ok (.iload_n 3, 1) := by decide +kernel
theorem dX12_ring_72 : decode cX12_ring 72 = .ok (.invokestatic 268, 3) := by decide +kernel
theorem dX12_ring_75 : decode cX12_ring 75 = .ok (.bipush 6, 2) := by decide +kernel
theorem dX12_ring_77 : decode cX12_ring 77 = .ok (.if_icmp .le 6, 3) := by decide +kernel
theorem dX12_ring_83 : decode cX12_ring 83 = .ok (.aload_n 0, 1) := by decide +kernel
theorem dX12_ring_84 : decode cX12_ring 84 = .ok (.iload_n 3, 1) := by decide +kernel
theorem dX12_ring_85 : decode cX12_ring 85 = .ok (.invokevirtual 354, 3) := by decide +kernel
theorem dX12_ring_88 : decode cX12_ring 88 = .ok (.ifCond .eq 5, 3) := by decide +kernel
theorem dX12_ring_91 : decode cX12_ring 91 = .ok (.iload_n 3, 1) := by decide +kernel
theorem dX12_ring_92 : decode cX12_ring 92 = .ok (.istore_n 1, 1) := by decide +kernel
theorem dX12_ring_80 : decode cX12_ring 80 = .ok (.goto 13, 3) := by decide +kernel
theorem dX12_ring_60 : decode cX12_ring 60 = .ok (.iload_n 3, 1) := by decide +kernel
theorem dX12_ring_61 : decode cX12_ring 61 = .ok (.invokestatic 268, 3) := by decide +kernel
theorem dX12_ring_64 : decode cX12_ring 64 = .ok (.iload_n 1, 1) := by decide +kernel
theorem dX12_ring_65 : decode cX12_ring 65 = .ok (.invokestatic 268, 3) := by decide +kernel
theorem dX12_ring_68 : decode cX12_ring 68 = .ok (.if_icmp .ge 25, 3) := by decide +kernel
theorem dX12_common_0 : decode cX12_common 0 = .ok (.iload_n 0, 1) := by decide +kernel
theorem dX12_common_1 : decode cX12_common 1 = .ok (.istore_n 2, 1) := by decide +kernel
theorem dX12_common_2 : decode cX12_common 2 = .ok (.iload_n 1, 1) := by decide +kernel
theorem dX12_common_3 : decode cX12_common 3 = .ok (.istore_n 3, 1) := by decide +kernel
theorem dX12_common_4 : decode cX12_common 4 = .ok (.iload_n 3, 1) := by decide +kernel
theorem dX12_common_5 : decode cX12_common 5 = .ok (.ifCond .eq 16, 3) := by decide +kernel
theorem dX12_common_21 : decode cX12_common 21 = .ok (.iload_n 2, 1) := by decide +kernel
theorem dX12_common_22 : decode cX12_common 22 = .ok (.ireturn, 1) := by decide +kernel
theorem dX12_common_8 : decode cX12_common 8 = .ok (.iload_n 2, 1) := by decide +kernel
theorem dX12_common_9 : decode cX12_common 9 = .ok (.iload_n 3, 1) := by decide +kernel
theorem dX12_common_10 : decode cX12_common 10 = .ok (.irem, 1) := by decide +kernel
theorem dX12_common_11 : decode cX12_common 11 = .ok (.istore 4, 2) := by decide +kernel
theorem dX12_common_13 : decode cX12_common 13 = .ok (.iload_n 3, 1) := by decide +kernel
theorem dX12_common_14 : decode cX12_common 14 = .ok (.istore_n 2, 1) := by decide +kernel
theorem dX12_common_15 : decode cX12_common 15 = .ok (.iload 4, 2) := by decide +kernel
theorem dX12_common_17 : decode cX12_common 17 = .ok (.istore_n 3, 1) := by decide +kernel
theorem dX12_common_18 : decode cX12_common 18 = .ok (.goto (-14), 3) := by decide +kernel
theorem dX12_isFitting_0 : decode cX12_isFitting 0 = .ok (.iconst 0, 1) := by decide +kernel
theorem dX12_isFitting_1 : decode cX12_isFitting 1 = .ok (.istore_n 3, 1) := by decide +kernel
theorem dX12_isFitting_2 : decode cX12_isFitting 2 = .ok (.iload_n 3, 1) := by decide +kernel
theorem dX12_isFitting_3 : decode cX12_isFitting 3 = .ok (.aload_n 0, 1) := by decide +kernel
theorem dX12_isFitting_4 : decode cX12_isFitting 4 = .ok (.getfield 7, 3) := by decide +kernel
theorem dX12_isFitting_7 : decode cX12_isFitting 7 = .ok (.iconst 4, 1) := by decide +kernel
theorem dX12_isFitting_8 : decode cX12_isFitting 8 = .ok (.iaload, 1) := by decide +kernel
theorem dX12_isFitting_9 : decode cX12_isFitting 9 = .ok (.if_icmp .ge 101, 3) := by decide +kernel
theorem dX12_isFitting_110 : decode cX12_isFitting 110 = .ok (.iconst 1, 1) := by decide +kernel
theorem dX12_isFitting_111 : decode cX12_isFitting 111 = .ok (.ireturn, 1) := by decide +kernel
theorem dX12_isFitting_12 : decode cX12_isFitting 12 = .ok (.aload_n 0, 1) := by decide +kernel
theorem dX12_isFitting_13 : decode cX12_isFitting 13 = .ok (.getfield 7, 3) := by decide +kernel
theorem dX12_isFitting_16 : decode cX12_isFitting 16 = .ok (.bipush 126, 2) := by decide +kernel
theorem dX12_isFitting_18 : decode cX12_isFitting 18 = .ok (.iconst 3, 1) := by decide +kernel
theorem dX12_isFitting_19 : decode cX12_isFitting 19 = .ok (.iload_n 3, 1) := by decide +kernel
theorem dX12_isFitting_20 : decode cX12_isFitting 20 = .ok (.imul, 1) := by decide +kernel
theorem dX12_isFitting_21 : decode cX12_isFitting 21 = .ok (.iadd, 1) := by decide +kernel
theorem dX12_isFitting_22 : decode cX12_isFitting 22 = .ok (.iaload, 1) := by decide +kernel
theorem dX12_isFitting_23 : decode cX12_isFitting 23 = .ok (.iload_n 2, 1) := by decide +kernel
theorem dX12_isFitting_24 : decode cX12_isFitting 24 = .ok (.if_icmp .eq 6, 3) := by decide +kernel
theorem dX12_isFitting_30 : decode cX12_isFitting 30 = .ok (.iconst 0, 1) := by decide +kernel
theorem dX12_isFitting_31 : decode cX12_isFitting 31 = .ok (.istore 4, 2) := by decide +kernel
theorem dX12_isFitting_33 : decode cX12_isFitting 33 = .ok (.iconst 0, 1) := by decide +kernel
theorem dX12_isFitting_34 : decode cX12_isFitting 34 = .ok (.istore 5, 2) := by decide +kernel
theorem dX12_isFitting_27 : decode cX12_isFitting 27 = .ok (.goto 77, 3) := by decide +kernel
theorem dX12_isFitting_104 : decode cX12_isFitting 104 = .ok (.iinc 3 1, 3) := by decide +kernel
theorem dX12_isFitting_107 : decode cX12_isFitting 107 = .ok (.goto (-105), 3) := by decide +kernel
theorem dX12_isFitting_36 : decode cX12_isFitting 36 = .ok (.iload 5, 2) := by decide +kernel
theorem dX12_isFitting_38 : decode cX12_isFitting 38 = .ok (.aload_n 0, 1) := by decide +kernel
theorem dX12_isFitting_39 : decode cX12_isFitting 39 = .ok (.getfield 7, 3) := by decide +kernel
theorem dX12_isFitting_42 : decode cX12_isFitting 42 = .ok (.bipush 13, 2) := by decide +kernel
theorem dX12_isFitting_44 : decode cX12_isFitting 44 = .ok (.iaload, 1) := by decide +kernel
theorem dX12_isFitting_45 : decode cX12_isFitting 45 = .ok (.if_icmp .ge 39, 3) := by decide +kernel
theorem dX12_isFitting_84 : decode cX12_isFitting 84 = .ok (.iload 4, 2) := by decide +kernel
theorem dX12_isFitting_86 : decode cX12_isFitting 86 = .ok (.aload_n 0, 1) := by decide +kernel
theorem dX12_isFitting_87 : decode cX12_isFitting 87 = .ok (.getfield 7, 3) := by decide +kernel
theorem dX12_isFitting_90 : decode cX12_isFitting 90 = .ok (.bipush 126, 2) := by decide +kernel
theorem dX12_isFitting_92 : decode cX12_isFitting 92 = .ok (.iconst 3, 1) := by decide +kernel
theorem dX12_isFitting_93 : decode cX12_isFitting 93 = .ok (.iload_n 3, 1) := by decide +kernel
theorem dX12_isFitting_94 : decode cX12_isFitting 94 = .ok (.imul, 1) := by decide +kernel
theorem dX12_isFitting_95 : decode cX12_isFitting 95 = .ok (.iadd, 1) := by decide +kernel
theorem dX12_isFitting_96 : decode cX12_isFitting 96 = .ok (.iconst 2, 1) := by decide +kernel
theorem dX12_isFitting_97 : decode cX12_isFitting 97 = .ok (.iadd, 1) := by decide +kernel
theorem dX12_isFitting_98 : decode cX12_isFitting 98 = .ok (.iaload, 1) := by decide +kernel
theorem dX12_isFitting_99 : decode cX12_isFitting 99 = .ok (.if_icmp .eq 5, 3) := by decide +kernel
theorem dX12_isFitting_102 : decode cX12_isFitting 102 = .ok (.iconst 0, 1) := by decide +kernel
theorem dX12_isFitting_103 : decode cX12_isFitting 103 = .ok (.ireturn, 1) := by decide +kernel
theorem dX12_isFitting_48 : decode cX12_isFitting 48 = .ok (.iload 4, 2) := by decide +kernel
theorem dX12_isFitting_50 : decode cX12_isFitting 50 = .ok (.iload_n 1, 1) := by decide +kernel
theorem dX12_isFitting_51 : decode cX12_isFitting 51 = .ok (.iload 5, 2) := by decide +kernel
theorem dX12_isFitting_53 : decode cX12_isFitting 53 = .ok (.invokestatic 244, 3) := by decide +kernel
theorem dX12_isFitting_56 : decode cX12_isFitting 56 = .ok (.ifCond .eq 18, 3) := by decide +kernel
theorem dX12_isFitting_74 : decode cX12_isFitting 74 = .ok (.iconst 0, 1) := by decide +kernel
theorem dX12_isFitting_75 : decode cX12_isFitting 75 = .ok (.iadd, 1) := by decide +kernel
theorem dX12_isFitting_76 : decode cX12_isFitting 76 = .ok (.istore 4, 2) := by decide +kernel
theorem dX12_isFitting_78 : decode cX12_isFitting 78 = .ok (.iinc 5 1, 3) := by decide +kernel
theorem dX12_isFitting_81 : decode cX12_isFitting 81 = .ok (.goto (-45), 3) := by decide +kernel
theorem dX12_isFitting_59 : decode cX12_isFitting 59 = .ok (.aload_n 0, 1) := by decide +kernel
theorem dX12_isFitting_60 : decode cX12_isFitting 60 = .ok (.getfield 56, 3) := by decide +kernel
theorem kf12_56 : inW (Cond.fieldLink RX12 56 "KneeOathsModel" "sums" "[I") := ⟨List.mem_of_getElem? (i := 1526) (by decide +kernel), by decide +kernel⟩
theorem dX12_isFitting_63 : decode cX12_isFitting 63 = .ok (.bipush 14, 2) := by decide +kernel
theorem dX12_isFitting_65 : decode cX12_isFitting 65 = .ok (.iload_n 3, 1) := by decide +kernel
theorem dX12_isFitting_66 : decode cX12_isFitting 66 = .ok (.imul, 1) := by decide +kernel
theorem dX12_isFitting_67 : decode cX12_isFitting 67 = .ok (.iload 5, 2) := by decide +kernel
theorem dX12_isFitting_69 : decode cX12_isFitting 69 = .ok (.iadd, 1) := by decide +kernel
theorem dX12_isFitting_70 : decode cX12_isFitting 70 = .ok (.iaload, 1) := by decide +kernel
theorem dX12_isFitting_71 : decode cX12_isFitting 71 = .ok (.goto 4, 3) := by decide +kernel
theorem dX12_laySets_0 : decode cX12_laySets 0 = .ok (.aload_n 0, 1) := by decide +kernel
theorem dX12_laySets_1 : decode cX12_laySets 1 = .ok (.iload_n 1, 1) := by decide +kernel
theorem dX12_laySets_2 : decode cX12_laySets 2 = .ok (.invokevirtual 265, 3) := by decide +kernel
theorem dX12_laySets_5 : decode cX12_laySets 5 = .ok (.istore_n 2, 1) := by decide +kernel
theorem dX12_laySets_6 : decode cX12_laySets 6 = .ok (.iconst 0, 1) := by decide +kernel
theorem dX12_laySets_7 : decode cX12_laySets 7 = .ok (.istore_n 3, 1) := by decide +kernel
theorem dX12_laySets_8 : decode cX12_laySets 8 = .ok (.iload_n 3, 1) := by decide +kernel
theorem dX12_laySets_9 : decode cX12_laySets 9 = .ok (.aload_n 0, 1) := by decide +kernel
theorem dX12_laySets_10 : decode cX12_laySets 10 = .ok (.getfield 7, 3) := by decide +kernel
theorem dX12_laySets_13 : decode cX12_laySets 13 = .ok (.iconst 4, 1) := by decide +kernel
theorem dX12_laySets_14 : decode cX12_laySets 14 = .ok (.iaload, 1) := by decide +kernel
theorem dX12_laySets_15 : decode cX12_laySets 15 = .ok (.if_icmp .ge 74, 3) := by decide +kernel
theorem dX12_laySets_89 : decode cX12_laySets 89 = .ok (.aload_n 0, 1) := by decide +kernel
theorem dX12_laySets_90 : decode cX12_laySets 90 = .ok (.iconst 0, 1) := by decide +kernel
theorem dX12_laySets_91 : decode cX12_laySets 91 = .ok (.putfield 410, 3) := by decide +kernel
theorem kf12_410 : inW (Cond.fieldLink RX12 410 "KneeOathsModel" "sets" "I") := ⟨List.mem_of_getElem? (i := 1528) (by decide +kernel), by decide +kernel⟩
theorem dX12_laySets_94 : decode cX12_laySets 94 = .ok (.iconst 0, 1) := by decide +kernel
theorem dX12_laySets_95 : decode cX12_laySets 95 = .ok (.istore_n 3, 1) := by decide +kernel
theorem dX12_laySets_18 : decode cX12_laySets 18 = .ok (.iconst 0, 1) := by decide +kernel
theorem dX12_laySets_19 : decode cX12_laySets 19 = .ok (.istore 4, 2) := by decide +kernel
theorem dX12_laySets_96 : decode cX12_laySets 96 = .ok (.iload_n 3, 1) := by decide +kernel
theorem dX12_laySets_97 : decode cX12_laySets 97 = .ok (.bipush 14, 2) := by decide +kernel
theorem dX12_laySets_99 : decode cX12_laySets 99 = .ok (.if_icmp .ge 16, 3) := by decide +kernel
theorem dX12_laySets_102 : decode cX12_laySets 102 = .ok (.aload_n 0, 1) := by decide +kernel
theorem dX12_laySets_103 : decode cX12_laySets 103 = .ok (.getfield 59, 3) := by decide +kernel
theorem kf12_59 : inW (Cond.fieldLink RX12 59 "KneeOathsModel" "with" "[I") := ⟨List.mem_of_getElem? (i := 1527) (by decide +kernel), by decide +kernel⟩
theorem dX12_laySets_106 : decode cX12_laySets 106 = .ok (.iload_n 3, 1) := by decide +kernel
theorem dX12_laySets_107 : decode cX12_laySets 107 = .ok (.iconst 0, 1) := by decide +kernel
theorem dX12_laySets_108 : decode cX12_laySets 108 = .ok (.iastore, 1) := by decide +kernel
theorem dX12_laySets_109 : decode cX12_laySets 109 = .ok (.iinc 3 1, 3) := by decide +kernel
theorem dX12_laySets_112 : decode cX12_laySets 112 = .ok (.goto (-16), 3) := by decide +kernel
theorem dX12_laySets_21 : decode cX12_laySets 21 = .ok (.iload 4, 2) := by decide +kernel
theorem dX12_laySets_23 : decode cX12_laySets 23 = .ok (.aload_n 0, 1) := by decide +kernel
theorem dX12_laySets_24 : decode cX12_laySets 24 = .ok (.getfield 7, 3) := by decide +kernel
theorem dX12_laySets_27 : decode cX12_laySets 27 = .ok (.bipush 13, 2) := by decide +kernel
theorem dX12_laySets_29 : decode cX12_laySets 29 = .ok (.iaload, 1) := by decide +kernel
theorem dX12_laySets_30 : decode cX12_laySets 30 = .ok (.if_icmp .ge 53, 3) := by decide +kernel
theorem dX12_laySets_83 : decode cX12_laySets 83 = .ok (.iinc 3 1, 3) := by decide +kernel
theorem dX12_laySets_86 : decode cX12_laySets 86 = .ok (.goto (-78), 3) := by decide +kernel
theorem dX12_laySets_33 : decode cX12_laySets 33 = .ok (.aload_n 0, 1) := by decide +kernel
theorem dX12_laySets_34 : decode cX12_laySets 34 = .ok (.getfield 56, 3) := by decide +kernel
theorem dX12_laySets_37 : decode cX12_laySets 37 = .ok (.bipush 14, 2) := by decide +kernel
theorem dX12_laySets_39 : decode cX12_laySets 39 = .ok (.iload_n 3, 1) := by decide +kernel
theorem dX12_laySets_40 : decode cX12_laySets 40 = .ok (.imul, 1) := by decide +kernel
theorem dX12_laySets_41 : decode cX12_laySets 41 = .ok (.iload 4, 2) := by decide +kernel
theorem dX12_laySets_43 : decode cX12_laySets 43 = .ok (.iadd, 1) := by decide +kernel
theorem dX12_laySets_44 : decode cX12_laySets 44 = .ok (.iload_n 2, 1) := by decide +kernel
theorem dX12_laySets_45 : decode cX12_laySets 45 = .ok (.iload 4, 2) := by decide +kernel
theorem dX12_laySets_47 : decode cX12_laySets 47 = .ok (.invokestatic 244, 3) := by decide +kernel
theorem dX12_laySets_50 : decode cX12_laySets 50 = .ok (.ifCond .eq 25, 3) := by decide +kernel
theorem dX12_laySets_75 : decode cX12_laySets 75 = .ok (.iconst 0, 1) := by decide +kernel
theorem dX12_laySets_76 : decode cX12_laySets 76 = .ok (.iastore, 1) := by decide +kernel
theorem dX12_laySets_77 : decode cX12_laySets 77 = .ok (.iinc 4 1, 3) := by decide +kernel
theorem dX12_laySets_80 : decode cX12_laySets 80 = .ok (.goto (-59), 3) := by decide +kernel
theorem dX12_laySets_53 : decode cX12_laySets 53 = .ok (.aload_n 0, 1) := by decide +kernel
theorem dX12_laySets_54 : decode cX12_laySets 54 = .ok (.iload 4, 2) := by decide +kernel
theorem dX12_laySets_56 : decode cX12_laySets 56 = .ok (.aload_n 0, 1) := by decide +kernel
theorem dX12_laySets_57 : decode cX12_laySets 57 = .ok (.getfield 7, 3) := by decide +kernel
theorem dX12_laySets_60 : decode cX12_laySets 60 = .ok (.bipush 126, 2) := by decide +kernel
theorem dX12_laySets_62 : decode cX12_laySets 62 = .ok (.iconst 3, 1) := by decide +kernel
theorem dX12_laySets_63 : decode cX12_laySets 63 = .ok (.iload_n 3, 1) := by decide +kernel
theorem dX12_laySets_64 : decode cX12_laySets 64 = .ok (.imul, 1) := by decide +kernel
theorem dX12_laySets_65 : decode cX12_laySets 65 = .ok (.iadd, 1) := by decide +kernel
theorem dX12_laySets_66 : decode cX12_laySets 66 = .ok (.iconst 1, 1) := by decide +kernel
theorem dX12_laySets_67 : decode cX12_laySets 67 = .ok (.iadd, 1) := by decide +kernel
theorem dX12_laySets_68 : decode cX12_laySets 68 = .ok (.iaload, 1) := by decide +kernel
theorem dX12_laySets_69 : decode cX12_laySets 69 = .ok (.invokevirtual 308, 3) := by decide +kernel
theorem dX12_laySets_72 : decode cX12_laySets 72 = .ok (.goto 4, 3) := by decide +kernel
theorem dX12_laySets_115 : decode cX12_laySets 115 = .ok (.iconst 0, 1) := by decide +kernel
theorem dX12_laySets_116 : decode cX12_laySets 116 = .ok (.istore_n 3, 1) := by decide +kernel
theorem dX12_laySets_117 : decode cX12_laySets 117 = .ok (.iload_n 3, 1) := by decide +kernel
theorem dX12_laySets_118 : decode cX12_laySets 118 = .ok (.iload_n 2, 1) := by decide +kernel
theorem dX12_laySets_119 : decode cX12_laySets 119 = .ok (.if_icmp .gt 71, 3) := by decide +kernel
theorem dX12_laySets_122 : decode cX12_laySets 122 = .ok (.iload_n 3, 1) := by decide +kernel
theorem dX12_laySets_123 : decode cX12_laySets 123 = .ok (.iload_n 2, 1) := by decide +kernel
theorem dX12_laySets_124 : decode cX12_laySets 124 = .ok (.iconst (-1), 1) := by decide +kernel
theorem dX12_laySets_125 : decode cX12_laySets 125 = .ok (.ixor, 1) := by decide +kernel
theorem dX12_laySets_126 : decode cX12_laySets 126 = .ok (.iand, 1) := by decide +kernel
theorem dX12_laySets_127 : decode cX12_laySets 127 = .ok (.ifCond .ne 57, 3) := by decide +kernel
theorem dX12_laySets_184 : decode cX12_laySets 184 = .ok (.iinc 3 1, 3) := by decide +kernel
theorem dX12_laySets_187 : decode cX12_laySets 187 = .ok (.goto (-70), 3) := by decide +kernel
theorem dX12_laySets_130 : decode cX12_laySets 130 = .ok (.aload_n 0, 1) := by decide +kernel
theorem dX12_laySets_131 : decode cX12_laySets 131 = .ok (.iload_n 3, 1) := by decide +kernel
theorem dX12_laySets_132 : decode cX12_laySets 132 = .ok (.iload_n 1, 1) := by decide +kernel
theorem dX12_laySets_133 : decode cX12_laySets 133 = .ok (.invokevirtual 413, 3) := by decide +kernel
theorem cw_X12_isFitting : CWv yX12_isFitting cX12_isFitting 6 (some .boolean) 2 := ⟨⟨⟨List.mem_of_getElem? (i := 137) (by decide +kernel), by decide +kernel⟩, ⟨List.mem_of_getElem? (i := 2047) (by decide +kernel), by decide +kernel⟩, by decide +kernel⟩, ⟨List.mem_of_getElem? (i := 2046) (by decide +kernel), by decide +kernel⟩, ⟨List.mem_of_getElem? (i := 114) (by decide +kernel), by decide +kernel⟩⟩
theorem km12_413 : inW (Cond.methodLink RX12 413 yX12_isFitting) := ⟨List.mem_of_getElem? (i := 2044) (by decide +kernel), by decide +kernel⟩
theorem dX12_laySets_136 : decode cX12_laySets 136 = .ok (.ifCond .ne 6, 3) := by decide +kernel
theorem dX12_laySets_142 : decode cX12_laySets 142 = .ok (.aload_n 0, 1) := by decide +kernel
theorem dX12_laySets_143 : decode cX12_laySets 143 = .ok (.dup, 1) := by decide +kernel
theorem dX12_laySets_144 : decode cX12_laySets 144 = .ok (.getfield 410, 3) := by decide +kernel
theorem dX12_laySets_147 : decode cX12_laySets 147 = .ok (.iconst 1, 1) := by decide +kernel
theorem dX12_laySets_148 : decode cX12_laySets 148 = .ok (.iadd, 1) := by decide +kernel
theorem dX12_laySets_149 : decode cX12_laySets 149 = .ok (.putfield 410, 3) := by decide +kernel
theorem dX12_laySets_152 : decode cX12_laySets 152 = .ok (.iconst 0, 1) := by decide +kernel
theorem dX12_laySets_153 : decode cX12_laySets 153 = .ok (.istore 4, 2) := by decide +kernel
theorem dX12_laySets_139 : decode cX12_laySets 139 = .ok (.goto 45, 3) := by decide +kernel
theorem dX12_laySets_190 : decode cX12_laySets 190 = .ok (.return_, 1) := by decide +kernel
theorem dX12_laySets_155 : decode cX12_laySets 155 = .ok (.iload 4, 2) := by decide +kernel
theorem dX12_laySets_157 : decode cX12_laySets 157 = .ok (.bipush 14, 2) := by decide +kernel
theorem dX12_laySets_159 : decode cX12_laySets 159 = .ok (.if_icmp .ge 25, 3) := by decide +kernel
theorem dX12_laySets_162 : decode cX12_laySets 162 = .ok (.aload_n 0, 1) := by decide +kernel
theorem dX12_laySets_163 : decode cX12_laySets 163 = .ok (.getfield 59, 3) := by decide +kernel
theorem dX12_laySets_166 : decode cX12_laySets 166 = .ok (.iload 4, 2) := by decide +kernel
theorem dX12_laySets_168 : decode cX12_laySets 168 = .ok (.dup2, 1) := by decide +kernel
theorem dX12_laySets_169 : decode cX12_laySets 169 = .ok (.iaload, 1) := by decide +kernel
theorem dX12_laySets_170 : decode cX12_laySets 170 = .ok (.iload_n 3, 1) := by decide +kernel
theorem dX12_laySets_171 : decode cX12_laySets 171 = .ok (.iload 4, 2) := by decide +kernel
theorem dX12_laySets_173 : decode cX12_laySets 173 = .ok (.ishr, 1) := by decide +kernel
theorem dX12_laySets_174 : decode cX12_laySets 174 = .ok (.iconst 1, 1) := by decide +kernel
theorem dX12_laySets_175 : decode cX12_laySets 175 = .ok (.iand, 1) := by decide +kernel
theorem dX12_laySets_176 : decode cX12_laySets 176 = .ok (.iadd, 1) := by decide +kernel
theorem dX12_laySets_177 : decode cX12_laySets 177 = .ok (.iastore, 1) := by decide +kernel
theorem dX12_laySets_178 : decode cX12_laySets 178 = .ok (.iinc 4 1, 3) := by decide +kernel
theorem dX12_laySets_181 : decode cX12_laySets 181 = .ok (.goto (-26), 3) := by decide +kernel
theorem dX12_breaches_0 : decode cX12_breaches 0 = .ok (.aload_n 0, 1) := by decide +kernel
theorem dX12_breaches_1 : decode cX12_breaches 1 = .ok (.iload_n 1, 1) := by decide +kernel
theorem dX12_breaches_2 : decode cX12_breaches 2 = .ok (.invokevirtual 323, 3) := by decide +kernel
theorem dX12_breaches_5 : decode cX12_breaches 5 = .ok (.ifCond .eq 12, 3) := by decide +kernel
theorem dX12_breaches_17 : decode cX12_breaches 17 = .ok (.iconst (-1), 1) := by decide +kernel
theorem dX12_breaches_18 : decode cX12_breaches 18 = .ok (.ireturn, 1) := by decide +kernel
theorem dX12_breaches_8 : decode cX12_breaches 8 = .ok (.iload_n 2, 1) := by decide +kernel
theorem dX12_breaches_9 : decode cX12_breaches 9 = .ok (.iconst 0, 1) := by decide +kernel
theorem dX12_breaches_10 : decode cX12_breaches 10 = .ok (.iconst 2, 1) := by decide +kernel
theorem dX12_breaches_11 : decode cX12_breaches 11 = .ok (.invokestatic 69, 3) := by decide +kernel
theorem dX12_breaches_14 : decode cX12_breaches 14 = .ok (.ifCond .ne 5, 3) := by decide +kernel
theorem dX12_breaches_19 : decode cX12_breaches 19 = .ok (.aload_n 0, 1) := by decide +kernel
theorem dX12_breaches_20 : decode cX12_breaches 20 = .ok (.iload_n 1, 1) := by decide +kernel
theorem dX12_breaches_21 : decode cX12_breaches 21 = .ok (.invokevirtual 416, 3) := by decide +kernel
theorem cw_X12_laySets : CWv yX12_laySets cX12_laySets 5 none 1 := ⟨⟨⟨List.mem_of_getElem? (i := 137) (by decide +kernel), by decide +kernel⟩, ⟨List.mem_of_getElem? (i := 2043) (by decide +kernel), by decide +kernel⟩, by decide +kernel⟩, ⟨List.mem_of_getElem? (i := 2042) (by decide +kernel), by decide +kernel⟩, ⟨List.mem_of_getElem? (i := 113) (by decide +kernel), by decide +kernel⟩⟩
theorem km12_416 : inW (Cond.methodLink RX12 416 yX12_laySets) := ⟨List.mem_of_getElem? (i := 2040) (by decide +kernel), by decide +kernel⟩
theorem dX12_breaches_24 : decode cX12_breaches 24 = .ok (.iload_n 2, 1) := by decide +kernel
theorem dX12_breaches_25 : decode cX12_breaches 25 = .ok (.ifCond .ne 8, 3) := by decide +kernel
theorem dX12_breaches_33 : decode cX12_breaches 33 = .ok (.iconst 0, 1) := by decide +kernel
theorem dX12_breaches_34 : decode cX12_breaches 34 = .ok (.istore_n 3, 1) := by decide +kernel
theorem dX12_breaches_35 : decode cX12_breaches 35 = .ok (.iconst 0, 1) := by decide +kernel
theorem dX12_breaches_36 : decode cX12_breaches 36 = .ok (.istore 4, 2) := by decide +kernel
theorem dX12_breaches_28 : decode cX12_breaches 28 = .ok (.aload_n 0, 1) := by decide +kernel
theorem dX12_breaches_29 : decode cX12_breaches 29 = .ok (.getfield 410, 3) := by decide +kernel
theorem dX12_breaches_32 : decode cX12_breaches 32 = .ok (.ireturn, 1) := by decide +kernel
theorem dX12_breaches_38 : decode cX12_breaches 38 = .ok (.iload 4, 2) := by decide +kernel
theorem dX12_breaches_40 : decode cX12_breaches 40 = .ok (.aload_n 0, 1) := by decide +kernel
theorem dX12_breaches_41 : decode cX12_breaches 41 = .ok (.getfield 7, 3) := by decide +kernel
theorem dX12_breaches_44 : decode cX12_breaches 44 = .ok (.bipush 13, 2) := by decide +kernel
theorem dX12_breaches_46 : decode cX12_breaches 46 = .ok (.iaload, 1) := by decide +kernel
theorem dX12_breaches_47 : decode cX12_breaches 47 = .ok (.if_icmp .ge 52, 3) := by decide +kernel
theorem dX12_breaches_99 : decode cX12_breaches 99 = .ok (.iload_n 3, 1) := by decide +kernel
theorem dX12_breaches_100 : decode cX12_breaches 100 = .ok (.ireturn, 1) := by decide +kernel
theorem dX12_breaches_50 : decode cX12_breaches 50 = .ok (.aload_n 0, 1) := by decide +kernel
theorem dX12_breaches_51 : decode cX12_breaches 51 = .ok (.iload_n 1, 1) := by decide +kernel
theorem dX12_breaches_52 : decode cX12_breaches 52 = .ok (.invokevirtual 265, 3) := by decide +kernel
theorem dX12_breaches_55 : decode cX12_breaches 55 = .ok (.iload 4, 2) := by decide +kernel
theorem dX12_breaches_57 : decode cX12_breaches 57 = .ok (.invokestatic 244, 3) := by decide +kernel
theorem dX12_breaches_60 : decode cX12_breaches 60 = .ok (.ifCond .eq 33, 3) := by decide +kernel
theorem dX12_breaches_93 : decode cX12_breaches 93 = .ok (.iinc 4 1, 3) := by decide +kernel
theorem dX12_breaches_96 : decode cX12_breaches 96 = .ok (.goto (-58), 3) := by decide +kernel
theorem dX12_breaches_63 : decode cX12_breaches 63 = .ok (.aload_n 0, 1) := by decide +kernel
theorem dX12_breaches_64 : decode cX12_breaches 64 = .ok (.getfield 59, 3) := by decide +kernel
theorem dX12_breaches_67 : decode cX12_breaches 67 = .ok (.iload 4, 2) := by decide +kernel
theorem dX12_breaches_69 : decode cX12_breaches 69 = .ok (.iaload, 1) := by decide +kernel
theorem dX12_breaches_70 : decode cX12_breaches 70 = .ok (.iload_n 2, 1) := by decide +kernel
theorem dX12_breaches_71 : decode cX12_breaches 71 = .ok (.iconst 1, 1) := by decide +kernel
theorem dX12_breaches_72 : decode cX12_breaches 72 = .ok (.if_icmp .ne 10, 3) := by decide +kernel
theorem dX12_breaches_82 : decode cX12_breaches 82 = .ok (.iconst 0, 1) := by decide +kernel
theorem dX12_breaches_83 : decode cX12_breaches 83 = .ok (.if_icmp .ne 10, 3) := by decide +kernel
theorem dX12_breaches_86 : decode cX12_breaches 86 = .ok (.iload_n 3, 1) := by decide +kernel
theorem dX12_breaches_87 : decode cX12_breaches 87 = .ok (.iconst 1, 1) := by decide +kernel
theorem dX12_breaches_88 : decode cX12_breaches 88 = .ok (.iload 4, 2) := by decide +kernel
theorem dX12_breaches_90 : decode cX12_breaches 90 = .ok (.ishl, 1) := by decide +kernel
theorem dX12_breaches_91 : decode cX12_breaches 91 = .ok (.ior, 1) := by decide +kernel
theorem dX12_breaches_92 : decode cX12_breaches 92 = .ok (.istore_n 3, 1) := by decide +kernel
theorem dX12_breaches_75 : decode cX12_breaches 75 = .ok (.aload_n 0, 1) := by decide +kernel
theorem dX12_breaches_76 : decode cX12_breaches 76 = .ok (.getfield 410, 3) := by decide +kernel
theorem dX12_breaches_79 : decode cX12_breaches 79 = .ok (.goto 4, 3) := by decide +kernel
theorem dX12_odds_0 : decode cX12_odds 0 = .ok (.aload_n 0, 1) := by decide +kernel
theorem dX12_odds_1 : decode cX12_odds 1 = .ok (.iload_n 1, 1) := by decide +kernel
theorem dX12_odds_2 : decode cX12_odds 2 = .ok (.invokevirtual 339, 3) := by decide +kernel
theorem dX12_odds_5 : decode cX12_odds 5 = .ok (.ifCond .eq 11, 3) := by decide +kernel
theorem dX12_odds_16 : decode cX12_odds 16 = .ok (.iconst (-1), 1) := by decide +kernel
theorem dX12_odds_17 : decode cX12_odds 17 = .ok (.ireturn, 1) := by decide +kernel
theorem dX12_odds_8 : decode cX12_odds 8 = .ok (.aload_n 0, 1) := by decide +kernel
theorem dX12_odds_9 : decode cX12_odds 9 = .ok (.iload_n 1, 1) := by decide +kernel
theorem dX12_odds_10 : decode cX12_odds 10 = .ok (.invokevirtual 77, 3) := by decide +kernel
theorem dX12_odds_13 : decode cX12_odds 13 = .ok (.ifCond .ne 5, 3) := by decide +kernel
theorem dX12_odds_18 : decode cX12_odds 18 = .ok (.aload_n 0, 1) := by decide +kernel
theorem dX12_odds_19 : decode cX12_odds 19 = .ok (.aload_n 0, 1) := by decide +kernel
theorem dX12_odds_20 : decode cX12_odds 20 = .ok (.iload_n 1, 1) := by decide +kernel
theorem dX12_odds_21 : decode cX12_odds 21 = .ok (.iconst 1, 1) := by decide +kernel
theorem dX12_odds_22 : decode cX12_odds 22 = .ok (.invokevirtual 73, 3) := by decide +kernel
theorem dX12_odds_25 : decode cX12_odds 25 = .ok (.invokevirtual 416, 3) := by decide +kernel
theorem dX12_odds_28 : decode cX12_odds 28 = .ok (.aload_n 0, 1) := by decide +kernel
theorem dX12_odds_29 : decode cX12_odds 29 = .ok (.getfield 410, 3) := by decide +kernel
theorem dX12_odds_32 : decode cX12_odds 32 = .ok (.ifCond .ne 13, 3) := by decide +kernel
theorem dX12_odds_45 : decode cX12_odds 45 = .ok (.iload_n 2, 1) := by decide +kernel
theorem dX12_odds_46 : decode cX12_odds 46 = .ok (.ifCond .eq 10, 3) := by decide +kernel
theorem dX12_odds_56 : decode cX12_odds 56 = .ok (.aload_n 0, 1) := by decide +kernel
theorem dX12_odds_57 : decode cX12_odds 57 = .ok (.getfield 59, 3) := by decide +kernel
theorem dX12_odds_60 : decode cX12_odds 60 = .ok (.iload_n 1, 1) := by decide +kernel
theorem dX12_odds_61 : decode cX12_odds 61 = .ok (.iaload, 1) := by decide +kernel
theorem dX12_odds_62 : decode cX12_odds 62 = .ok (.aload_n 0, 1) := by decide +kernel
theorem dX12_odds_63 : decode cX12_odds 63 = .ok (.getfield 59, 3) := by decide +kernel
theorem dX12_odds_66 : decode cX12_odds 66 = .ok (.iload_n 1, 1) := by decide +kernel
theorem dX12_odds_67 : decode cX12_odds 67 = .ok (.iaload, 1) := by decide +kernel
theorem dX12_odds_68 : decode cX12_odds 68 = .ok (.aload_n 0, 1) := by decide +kernel
theorem dX12_odds_69 : decode cX12_odds 69 = .ok (.getfield 410, 3) := by decide +kernel
theorem dX12_odds_72 : decode cX12_odds 72 = .ok (.invokestatic 419, 3) := by decide +kernel
theorem cw_X12_common : CWs yX12_common cX12_common 5 (some .int) 2 := ⟨⟨⟨List.mem_of_getElem? (i := 137) (by decide +kernel), by decide +kernel⟩, ⟨List.mem_of_getElem? (i := 2054) (by decide +kernel), by decide +kernel⟩, by decide +kernel⟩, ⟨List.mem_of_getElem? (i := 2053) (by decide +kernel), by decide +kernel⟩⟩
theorem km12_419 : inW (Cond.methodLink RX12 419 yX12_common) := ⟨List.mem_of_getElem? (i := 2052) (by decide +kernel), by decide +kernel⟩
theorem dX12_odds_75 : decode cX12_odds 75 = .ok (.idiv, 1) := by decide +kernel
theorem dX12_odds_76 : decode cX12_odds 76 = .ok (.ireturn, 1) := by decide +kernel
theorem dX12_odds_49 : decode cX12_odds 49 = .ok (.aload_n 0, 1) := by decide +kernel
theorem dX12_odds_50 : decode cX12_odds 50 = .ok (.getfield 410, 3) := by decide +kernel
theorem dX12_odds_53 : decode cX12_odds 53 = .ok (.goto 9, 3) := by decide +kernel
theorem dX12_odds_35 : decode cX12_odds 35 = .ok (.iload_n 2, 1) := by decide +kernel
theorem dX12_odds_36 : decode cX12_odds 36 = .ok (.ifCond .eq 7, 3) := by decide +kernel
theorem dX12_odds_43 : decode cX12_odds 43 = .ok (.iconst 0, 1) := by decide +kernel
theorem dX12_odds_44 : decode cX12_odds 44 = .ok (.ireturn, 1) := by decide +kernel
theorem dX12_odds_39 : decode cX12_odds 39 = .ok (.iconst 1, 1) := by decide +kernel
theorem dX12_odds_40 : decode cX12_odds 40 = .ok (.goto 4, 3) := by decide +kernel
theorem dX12_nextAsked_0 : decode cX12_nextAsked 0 = .ok (.aload_n 0, 1) := by decide +kernel
theorem dX12_nextAsked_1 : decode cX12_nextAsked 1 = .ok (.iload_n 1, 1) := by decide +kernel
theorem dX12_nextAsked_2 : decode cX12_nextAsked 2 = .ok (.invokevirtual 323, 3) := by decide +kernel
theorem dX12_nextAsked_5 : decode cX12_nextAsked 5 = .ok (.ifCond .ne 5, 3) := by decide +kernel
theorem dX12_nextAsked_10 : decode cX12_nextAsked 10 = .ok (.aload_n 0, 1) := by decide +kernel
theorem dX12_nextAsked_11 : decode cX12_nextAsked 11 = .ok (.iload_n 1, 1) := by decide +kernel
theorem dX12_nextAsked_12 : decode cX12_nextAsked 12 = .ok (.invokevirtual 416, 3) := by decide +kernel
theorem dX12_nextAsked_15 : decode cX12_nextAsked 15 = .ok (.iconst (-1), 1) := by decide +kernel
theorem dX12_nextAsked_16 : decode cX12_nextAsked 16 = .ok (.istore_n 2, 1) := by decide +kernel
theorem dX12_nextAsked_17 : decode cX12_nextAsked 17 = .ok (.ldc_w 409, 3) := by decide +kernel
theorem kk12_409 : inW (Cond.constant RX12 409 (1000000000)) := ⟨List.mem_of_getElem? (i := 2031) (by decide +kernel), by decide +kernel⟩
theorem dX12_nextAsked_20 : decode cX12_nextAsked 20 = .ok (.istore_n 3, 1) := by decide +kernel
theorem dX12_nextAsked_21 : decode cX12_nextAsked 21 = .ok (.iconst 0, 1) := by decide +kernel
theorem dX12_nextAsked_22 : decode cX12_nextAsked 22 = .ok (.istore 4, 2) := by decide +kernel
theorem dX12_nextAsked_8 : decode cX12_nextAsked 8 = .ok (.iconst (-1), 1) := by decide +kernel
theorem dX12_nextAsked_9 : decode cX12_nextAsked 9 = .ok (.ireturn, 1) := by decide +kernel
theorem dX12_nextAsked_24 : decode cX12_nextAsked 24 = .ok (.iload 4, 2) := by decide +kernel
theorem dX12_nextAsked_26 : decode cX12_nextAsked 26 = .ok (.aload_n 0, 1) := by decide +kernel
theorem dX12_nextAsked_27 : decode cX12_nextAsked 27 = .ok (.getfield 7, 3) := by decide +kernel
theorem dX12_nextAsked_30 : decode cX12_nextAsked 30 = .ok (.bipush 13, 2) := by decide +kernel
theorem dX12_nextAsked_32 : decode cX12_nextAsked 32 = .ok (.iaload, 1) := by decide +kernel
theorem dX12_nextAsked_33 : decode cX12_nextAsked 33 = .ok (.if_icmp .ge 97, 3) := by decide +kernel
theorem dX12_nextAsked_130 : decode cX12_nextAsked 130 = .ok (.iload_n 2, 1) := by decide +kernel
theorem dX12_nextAsked_131 : decode cX12_nextAsked 131 = .ok (.ireturn, 1) := by decide +kernel
theorem dX12_nextAsked_36 : decode cX12_nextAsked 36 = .ok (.iconst 2, 1) := by decide +kernel
theorem dX12_nextAsked_37 : decode cX12_nextAsked 37 = .ok (.aload_n 0, 1) := by decide +kernel
theorem dX12_nextAsked_38 : decode cX12_nextAsked 38 = .ok (.getfield 59, 3) := by decide +kernel
theorem dX12_nextAsked_41 : decode cX12_nextAsked 41 = .ok (.iload 4, 2) := by decide +kernel
theorem dX12_nextAsked_43 : decode cX12_nextAsked 43 = .ok (.iaload, 1) := by decide +kernel
theorem dX12_nextAsked_44 : decode cX12_nextAsked 44 = .ok (.imul, 1) := by decide +kernel
theorem dX12_nextAsked_45 : decode cX12_nextAsked 45 = .ok (.aload_n 0, 1) := by decide +kernel
theorem dX12_nextAsked_46 : decode cX12_nextAsked 46 = .ok (.getfield 410, 3) := by decide +kernel
theorem dX12_nextAsked_49 : decode cX12_nextAsked 49 = .ok (.if_icmp .le 20, 3) := by decide +kernel
theorem dX12_nextAsked_69 : decode cX12_nextAsked 69 = .ok (.aload_n 0, 1) := by decide +kernel
theorem dX12_nextAsked_70 : decode cX12_nextAsked 70 = .ok (.getfield 410, 3) := by decide +kernel
theorem dX12_nextAsked_73 : decode cX12_nextAsked 73 = .ok (.iconst 2, 1) := by decide +kernel
theorem dX12_nextAsked_74 : decode cX12_nextAsked 74 = .ok (.aload_n 0, 1) := by decide +kernel
theorem dX12_nextAsked_75 : decode cX12_nextAsked 75 = .ok (.getfield 59, 3) := by decide +kernel
theorem dX12_nextAsked_78 : decode cX12_nextAsked 78 = .ok (.iload 4, 2) := by decide +kernel
theorem dX12_nextAsked_80 : decode cX12_nextAsked 80 = .ok (.iaload, 1) := by decide +kernel
theorem dX12_nextAsked_81 : decode cX12_nextAsked 81 = .ok (.imul, 1) := by decide +kernel
theorem dX12_nextAsked_82 : decode cX12_nextAsked 82 = .ok (.isub, 1) := by decide +kernel
theorem dX12_nextAsked_83 : decode cX12_nextAsked 83 = .ok (.istore 5, 2) := by decide +kernel
theorem dX12_nextAsked_85 : decode cX12_nextAsked 85 = .ok (.aload_n 0, 1) := by decide +kernel
theorem dX12_nextAsked_86 : decode cX12_nextAsked 86 = .ok (.getfield 59, 3) := by decide +kernel
theorem dX12_nextAsked_89 : decode cX12_nextAsked 89 = .ok (.iload 4, 2) := by decide +kernel
theorem dX12_nextAsked_91 : decode cX12_nextAsked 91 = .ok (.iaload, 1) := by decide +kernel
theorem dX12_nextAsked_92 : decode cX12_nextAsked 92 = .ok (.ifCond .eq 32, 3) := by decide +kernel
theorem dX12_nextAsked_124 : decode cX12_nextAsked 124 = .ok (.iinc 4 1, 3) := by decide +kernel
theorem dX12_nextAsked_127 : decode cX12_nextAsked 127 = .ok (.goto (-103), 3) := by decide +kernel
theorem dX12_nextAsked_95 : decode cX12_nextAsked 95 = .ok (.aload_n 0, 1) := by decide +kernel
theorem dX12_nextAsked_96 : decode cX12_nextAsked 96 = .ok (.getfield 59, 3) := by decide +kernel
theorem dX12_nextAsked_99 : decode cX12_nextAsked 99 = .ok (.iload 4, 2) := by decide +kernel
theorem dX12_nextAsked_101 : decode cX12_nextAsked 101 = .ok (.iaload, 1) := by decide +kernel
theorem dX12_nextAsked_102 : decode cX12_nextAsked 102 = .ok (.aload_n 0, 1) := by decide +kernel
theorem dX12_nextAsked_103 : decode cX12_nextAsked 103 = .ok (.getfield 410, 3) := by decide +kernel
theorem dX12_nextAsked_106 : decode cX12_nextAsked 106 = .ok (.if_icmp .eq 18, 3) := by decide +kernel
theorem dX12_nextAsked_109 : decode cX12_nextAsked 109 = .ok (.iload 5, 2) := by decide +kernel
theorem dX12_nextAsked_111 : decode cX12_nextAsked 111 = .ok (.iload_n 3, 1) := by decide +kernel
theorem dX12_nextAsked_112 : decode cX12_nextAsked 112 = .ok (.if_icmp .lt 6, 3) := by decide +kernel
theorem dX12_nextAsked_118 : decode cX12_nextAsked 118 = .ok (.iload 5, 2) := by decide +kernel
theorem dX12_nextAsked_120 : decode cX12_nextAsked 120 = .ok (.istore_n 3, 1) := by decide +kernel
theorem dX12_nextAsked_121 : decode cX12_nextAsked 121 = .ok (.iload 4, 2) := by decide +kernel
theorem dX12_nextAsked_123 : decode cX12_nextAsked 123 = .ok (.istore_n 2, 1) := by decide +kernel
theorem dX12_nextAsked_115 : decode cX12_nextAsked 115 = .ok (.goto 9, 3) := by decide +kernel
theorem dX12_nextAsked_52 : decode cX12_nextAsked 52 = .ok (.iconst 2, 1) := by decide +kernel
theorem dX12_nextAsked_53 : decode cX12_nextAsked 53 = .ok (.aload_n 0, 1) := by decide +kernel
theorem dX12_nextAsked_54 : decode cX12_nextAsked 54 = .ok (.getfield 59, 3) := by decide +kernel
theorem dX12_nextAsked_57 : decode cX12_nextAsked 57 = .ok (.iload 4, 2) := by decide +kernel
theorem dX12_nextAsked_59 : decode cX12_nextAsked 59 = .ok (.iaload, 1) := by decide +kernel
theorem dX12_nextAsked_60 : decode cX12_nextAsked 60 = .ok (.imul, 1) := by decide +kernel
theorem dX12_nextAsked_61 : decode cX12_nextAsked 61 = .ok (.aload_n 0, 1) := by decide +kernel
theorem dX12_nextAsked_62 : decode cX12_nextAsked 62 = .ok (.getfield 410, 3) := by decide +kernel
theorem dX12_nextAsked_65 : decode cX12_nextAsked 65 = .ok (.isub, 1) := by decide +kernel
theorem dX12_nextAsked_66 : decode cX12_nextAsked 66 = .ok (.goto 17, 3) := by decide +kernel
theorem dX12_felt_0 : decode cX12_felt 0 = .ok (.iload_n 1, 1) := by decide +kernel
theorem dX12_felt_1 : decode cX12_felt 1 = .ok (.iconst (-1), 1) := by decide +kernel
theorem dX12_felt_2 : decode cX12_felt 2 = .ok (.if_icmp .ne 12, 3) := by decide +kernel
theorem dX12_felt_14 : decode cX12_felt 14 = .ok (.aload_n 0, 1) := by decide +kernel
theorem dX12_felt_15 : decode cX12_felt 15 = .ok (.iload_n 1, 1) := by decide +kernel
theorem dX12_felt_16 : decode cX12_felt 16 = .ok (.invokevirtual 323, 3) := by decide +kernel
theorem dX12_felt_19 : decode cX12_felt 19 = .ok (.ifCond .eq 35, 3) := by decide +kernel
theorem dX12_felt_54 : decode cX12_felt 54 = .ok (.bipush (-2), 2) := by decide +kernel
theorem dX12_felt_56 : decode cX12_felt 56 = .ok (.ireturn, 1) := by decide +kernel
theorem dX12_felt_22 : decode cX12_felt 22 = .ok (.iload_n 2, 1) := by decide +kernel
theorem dX12_felt_23 : decode cX12_felt 23 = .ok (.iconst 0, 1) := by decide +kernel
theorem dX12_felt_24 : decode cX12_felt 24 = .ok (.bipush 9, 2) := by decide +kernel
theorem dX12_felt_26 : decode cX12_felt 26 = .ok (.invokestatic 69, 3) := by decide +kernel
theorem dX12_felt_29 : decode cX12_felt 29 = .ok (.ifCond .eq 25, 3) := by decide +kernel
theorem dX12_felt_32 : decode cX12_felt 32 = .ok (.iload_n 3, 1) := by decide +kernel
theorem dX12_felt_33 : decode cX12_felt 33 = .ok (.iconst 0, 1) := by decide +kernel
theorem dX12_felt_34 : decode cX12_felt 34 = .ok (.sipush 999, 3) := by decide +kernel
theorem dX12_felt_37 : decode cX12_felt 37 = .ok (.invokestatic 69, 3) := by decide +kernel
theorem dX12_felt_40 : decode cX12_felt 40 = .ok (.ifCond .eq 14, 3) := by decide +kernel
theorem dX12_felt_43 : decode cX12_felt 43 = .ok (.aload_n 0, 1) := by decide +kernel
theorem dX12_felt_44 : decode cX12_felt 44 = .ok (.getfield 7, 3) := by decide +kernel
theorem dX12_felt_47 : decode cX12_felt 47 = .ok (.iconst 4, 1) := by decide +kernel
theorem dX12_felt_48 : decode cX12_felt 48 = .ok (.iaload, 1) := by decide +kernel
theorem dX12_felt_49 : decode cX12_felt 49 = .ok (.bipush 6, 2) := by decide +kernel
theorem dX12_felt_51 : decode cX12_felt 51 = .ok (.if_icmp .ne 6, 3) := by decide +kernel
theorem dX12_felt_57 : decode cX12_felt 57 = .ok (.bipush 126, 2) := by decide +kernel
theorem dX12_felt_59 : decode cX12_felt 59 = .ok (.iconst 3, 1) := by decide +kernel
theorem dX12_felt_60 : decode cX12_felt 60 = .ok (.aload_n 0, 1) := by decide +kernel
theorem dX12_felt_61 : decode cX12_felt 61 = .ok (.getfield 7, 3) := by decide +kernel
theorem dX12_felt_64 : decode cX12_felt 64 = .ok (.iconst 4, 1) := by decide +kernel
theorem dX12_felt_65 : decode cX12_felt 65 = .ok (.iaload, 1) := by decide +kernel
theorem dX12_felt_66 : decode cX12_felt 66 = .ok (.imul, 1) := by decide +kernel
theorem dX12_felt_67 : decode cX12_felt 67 = .ok (.iadd, 1) := by decide +kernel
theorem dX12_felt_68 : decode cX12_felt 68 = .ok (.istore 4, 2) := by decide +kernel
theorem dX12_felt_70 : decode cX12_felt 70 = .ok (.aload_n 0, 1) := by decide +kernel
theorem dX12_felt_71 : decode cX12_felt 71 = .ok (.getfield 7, 3) := by decide +kernel
theorem dX12_felt_74 : decode cX12_felt 74 = .ok (.iload 4, 2) := by decide +kernel
theorem dX12_felt_76 : decode cX12_felt 76 = .ok (.iload_n 1, 1) := by decide +kernel
theorem dX12_felt_77 : decode cX12_felt 77 = .ok (.iastore, 1) := by decide +kernel
theorem dX12_felt_78 : decode cX12_felt 78 = .ok (.aload_n 0, 1) := by decide +kernel
theorem dX12_felt_79 : decode cX12_felt 79 = .ok (.getfield 7, 3) := by decide +kernel
theorem dX12_felt_82 : decode cX12_felt 82 = .ok (.iload 4, 2) := by decide +kernel
theorem dX12_felt_84 : decode cX12_felt 84 = .ok (.iconst 1, 1) := by decide +kernel
theorem dX12_felt_85 : decode cX12_felt 85 = .ok (.iadd, 1) := by decide +kernel
theorem dX12_felt_86 : decode cX12_felt 86 = .ok (.iload_n 2, 1) := by decide +kernel
theorem dX12_felt_87 : decode cX12_felt 87 = .ok (.iastore, 1) := by decide +kernel
theorem dX12_felt_88 : decode cX12_felt 88 = .ok (.aload_n 0, 1) := by decide +kernel
theorem dX12_felt_89 : decode cX12_felt 89 = .ok (.getfield 7, 3) := by decide +kernel
theorem dX12_felt_92 : decode cX12_felt 92 = .ok (.iload 4, 2) := by decide +kernel
theorem dX12_felt_94 : decode cX12_felt 94 = .ok (.iconst 2, 1) := by decide +kernel
theorem dX12_felt_95 : decode cX12_felt 95 = .ok (.iadd, 1) := by decide +kernel
theorem dX12_felt_96 : decode cX12_felt 96 = .ok (.iload_n 3, 1) := by decide +kernel
theorem dX12_felt_97 : decode cX12_felt 97 = .ok (.iastore, 1) := by decide +kernel
theorem dX12_felt_98 : decode cX12_felt 98 = .ok (.aload_n 0, 1) := by decide +kernel
theorem dX12_felt_99 : decode cX12_felt 99 = .ok (.getfield 7, 3) := by decide +kernel
theorem dX12_felt_102 : decode cX12_felt 102 = .ok (.iconst 4, 1) := by decide +kernel
theorem dX12_felt_103 : decode cX12_felt 103 = .ok (.dup2, 1) := by decide +kernel
theorem dX12_felt_104 : decode cX12_felt 104 = .ok (.iaload, 1) := by decide +kernel
theorem dX12_felt_105 : decode cX12_felt 105 = .ok (.iconst 1, 1) := by decide +kernel
theorem dX12_felt_106 : decode cX12_felt 106 = .ok (.iadd, 1) := by decide +kernel
theorem dX12_felt_107 : decode cX12_felt 107 = .ok (.iastore, 1) := by decide +kernel
theorem dX12_felt_108 : decode cX12_felt 108 = .ok (.aload_n 0, 1) := by decide +kernel
theorem dX12_felt_109 : decode cX12_felt 109 = .ok (.getfield 7, 3) := by decide +kernel
theorem dX12_felt_112 : decode cX12_felt 112 = .ok (.iconst 4, 1) := by decide +kernel
theorem dX12_felt_113 : decode cX12_felt 113 = .ok (.iaload, 1) := by decide +kernel
theorem dX12_felt_114 : decode cX12_felt 114 = .ok (.ireturn, 1) := by decide +kernel
theorem dX12_felt_5 : decode cX12_felt 5 = .ok (.aload_n 0, 1) := by decide +kernel
theorem dX12_felt_6 : decode cX12_felt 6 = .ok (.getfield 7, 3) := by decide +kernel
theorem dX12_felt_9 : decode cX12_felt 9 = .ok (.iconst 4, 1) := by decide +kernel
theorem dX12_felt_10 : decode cX12_felt 10 = .ok (.iconst 0, 1) := by decide +kernel
theorem dX12_felt_11 : decode cX12_felt 11 = .ok (.iastore, 1) := by decide +kernel
theorem dX12_felt_12 : decode cX12_felt 12 = .ok (.iconst 0, 1) := by decide +kernel
theorem dX12_felt_13 : decode cX12_felt 13 = .ok (.ireturn, 1) := by decide +kernel
theorem dX12_clash_0 : decode cX12_clash 0 = .ok (.iload_n 1, 1) := by decide +kernel
theorem dX12_clash_1 : decode cX12_clash 1 = .ok (.iconst (-1), 1) := by decide +kernel
theorem dX12_clash_2 : decode cX12_clash 2 = .ok (.if_icmp .ne 12, 3) := by decide +kernel
theorem dX12_clash_14 : decode cX12_clash 14 = .ok (.aload_n 0, 1) := by decide +kernel
theorem dX12_clash_15 : decode cX12_clash 15 = .ok (.iload_n 1, 1) := by decide +kernel
theorem dX12_clash_16 : decode cX12_clash 16 = .ok (.invokevirtual 339, 3) := by decide +kernel
theorem dX12_clash_19 : decode cX12_clash 19 = .ok (.ifCond .eq 27, 3) := by decide +kernel
theorem dX12_clash_46 : decode cX12_clash 46 = .ok (.bipush (-2), 2) := by decide +kernel
theorem dX12_clash_48 : decode cX12_clash 48 = .ok (.ireturn, 1) := by decide +kernel
theorem dX12_clash_22 : decode cX12_clash 22 = .ok (.aload_n 0, 1) := by decide +kernel
theorem dX12_clash_23 : decode cX12_clash 23 = .ok (.iload_n 2, 1) := by decide +kernel
theorem dX12_clash_24 : decode cX12_clash 24 = .ok (.invokevirtual 339, 3) := by decide +kernel
theorem dX12_clash_27 : decode cX12_clash 27 = .ok (.ifCond .eq 19, 3) := by decide +kernel
theorem dX12_clash_30 : decode cX12_clash 30 = .ok (.iload_n 1, 1) := by decide +kernel
theorem dX12_clash_31 : decode cX12_clash 31 = .ok (.iload_n 2, 1) := by decide +kernel
theorem dX12_clash_32 : decode cX12_clash 32 = .ok (.if_icmp .eq 14, 3) := by decide +kernel
theorem dX12_clash_35 : decode cX12_clash 35 = .ok (.aload_n 0, 1) := by decide +kernel
theorem dX12_clash_36 : decode cX12_clash 36 = .ok (.getfield 7, 3) := by decide +kernel
theorem dX12_clash_39 : decode cX12_clash 39 = .ok (.iconst 5, 1) := by decide +kernel
theorem dX12_clash_40 : decode cX12_clash 40 = .ok (.iaload, 1) := by decide +kernel
theorem dX12_clash_41 : decode cX12_clash 41 = .ok (.bipush 8, 2) := by decide +kernel
theorem dX12_clash_43 : decode cX12_clash 43 = .ok (.if_icmp .ne 6, 3) := by decide +kernel
theorem dX12_clash_49 : decode cX12_clash 49 = .ok (.aload_n 0, 1) := by decide +kernel
theorem dX12_clash_50 : decode cX12_clash 50 = .ok (.getfield 7, 3) := by decide +kernel
theorem dX12_clash_53 : decode cX12_clash 53 = .ok (.sipush 144, 3) := by decide +kernel
theorem dX12_clash_56 : decode cX12_clash 56 = .ok (.iconst 2, 1) := by decide +kernel
theorem dX12_clash_57 : decode cX12_clash 57 = .ok (.aload_n 0, 1) := by decide +kernel
theorem dX12_clash_58 : decode cX12_clash 58 = .ok (.getfield 7, 3) := by decide +kernel
theorem dX12_clash_61 : decode cX12_clash 61 = .ok (.iconst 5, 1) := by decide +kernel
theorem dX12_clash_62 : decode cX12_clash 62 = .ok (.iaload, 1) := by decide +kernel
theorem dX12_clash_63 : decode cX12_clash 63 = .ok (.imul, 1) := by decide +kernel
theorem dX12_clash_64 : decode cX12_clash 64 = .ok (.iadd, 1) := by decide +kernel
theorem dX12_clash_65 : decode cX12_clash 65 = .ok (.iload_n 1, 1) := by decide +kernel
theorem dX12_clash_66 : decode cX12_clash 66 = .ok (.iastore, 1) := by decide +kernel
theorem dX12_clash_67 : decode cX12_clash 67 = .ok (.aload_n 0, 1) := by decide +kernel
theorem dX12_clash_68 : decode cX12_clash 68 = .ok (.getfield 7, 3) := by decide +kernel
theorem dX12_clash_71 : decode cX12_clash 71 = .ok (.sipush 144, 3) := by decide +kernel
theorem dX12_clash_74 : decode cX12_clash 74 = .ok (.iconst 2, 1) := by decide +kernel
theorem dX12_clash_75 : decode cX12_clash 75 = .ok (.aload_n 0, 1) := by decide +kernel
theorem dX12_clash_76 : decode cX12_clash 76 = .ok (.getfield 7, 3) := by decide +kernel
theorem dX12_clash_79 : decode cX12_clash 79 = .ok (.iconst 5, 1) := by decide +kernel
theorem dX12_clash_80 : decode cX12_clash 80 = .ok (.iaload, 1) := by decide +kernel
theorem dX12_clash_81 : decode cX12_clash 81 = .ok (.imul, 1) := by decide +kernel
theorem dX12_clash_82 : decode cX12_clash 82 = .ok (.iadd, 1) := by decide +kernel
theorem dX12_clash_83 : decode cX12_clash 83 = .ok (.iconst 1, 1) := by decide +kernel
theorem dX12_clash_84 : decode cX12_clash 84 = .ok (.iadd, 1) := by decide +kernel
theorem dX12_clash_85 : decode cX12_clash 85 = .ok (.iload_n 2, 1) := by decide +kernel
theorem dX12_clash_86 : decode cX12_clash 86 = .ok (.iastore, 1) := by decide +kernel
theorem dX12_clash_87 : decode cX12_clash 87 = .ok (.aload_n 0, 1) := by decide +kernel
theorem dX12_clash_88 : decode cX12_clash 88 = .ok (.getfield 7, 3) := by decide +kernel
theorem dX12_clash_91 : decode cX12_clash 91 = .ok (.iconst 5, 1) := by decide +kernel
theorem dX12_clash_92 : decode cX12_clash 92 = .ok (.dup2, 1) := by decide +kernel
theorem dX12_clash_93 : decode cX12_clash 93 = .ok (.iaload, 1) := by decide +kernel
theorem dX12_clash_94 : decode cX12_clash 94 = .ok (.iconst 1, 1) := by decide +kernel
theorem dX12_clash_95 : decode cX12_clash 95 = .ok (.iadd, 1) := by decide +kernel
theorem dX12_clash_96 : decode cX12_clash 96 = .ok (.iastore, 1) := by decide +kernel
theorem dX12_clash_97 : decode cX12_clash 97 = .ok (.aload_n 0, 1) := by decide +kernel
theorem dX12_clash_98 : decode cX12_clash 98 = .ok (.getfield 7, 3) := by decide +kernel
theorem dX12_clash_101 : decode cX12_clash 101 = .ok (.iconst 5, 1) := by decide +kernel
theorem dX12_clash_102 : decode cX12_clash 102 = .ok (.iaload, 1) := by decide +kernel
theorem dX12_clash_103 : decode cX12_clash 103 = .ok (.ireturn, 1) := by decide +kernel
theorem dX12_clash_5 : decode cX12_clash 5 = .ok (.aload_n 0, 1) := by decide +kernel
theorem dX12_clash_6 : decode cX12_clash 6 = .ok (.getfield 7, 3) := by decide +kernel
theorem dX12_clash_9 : decode cX12_clash 9 = .ok (.iconst 5, 1) := by decide +kernel
theorem dX12_clash_10 : decode cX12_clash 10 = .ok (.iconst 0, 1) := by decide +kernel
theorem dX12_clash_11 : decode cX12_clash 11 = .ok (.iastore, 1) := by decide +kernel
theorem dX12_clash_12 : decode cX12_clash 12 = .ok (.iconst 0, 1) := by decide +kernel
theorem dX12_clash_13 : decode cX12_clash 13 = .ok (.ireturn, 1) := by decide +kernel
theorem dX12_leastReleased_0 : decode cX12_leastReleased 0 = .ok (.aload_n 0, 1) := by decide +kernel
theorem dX12_leastReleased_1 : decode cX12_leastReleased 1 = .ok (.invokevirtual 422, 3) := by decide +kernel
theorem cw_X12_keptOnes : CWv yX12_keptOnes cX12_keptOnes 3 (some .int) 0 := ⟨⟨⟨List.mem_of_getElem? (i := 137) (by decide +kernel), by decide +kernel⟩, ⟨List.mem_of_getElem? (i := 2070) (by decide +kernel), by decide +kernel⟩, by decide +kernel⟩, ⟨List.mem_of_getElem? (i := 2069) (by decide +kernel), by decide +kernel⟩, ⟨List.mem_of_getElem? (i := 115) (by decide +kernel), by decide +kernel⟩⟩
theorem km12_422 : inW (Cond.methodLink RX12 422 yX12_keptOnes) := ⟨List.mem_of_getElem? (i := 2067) (by decide +kernel), by decide +kernel⟩
theorem dX12_leastReleased_4 : decode cX12_leastReleased 4 = .ok (.istore_n 1, 1) := by decide +kernel
theorem dX12_leastReleased_5 : decode cX12_leastReleased 5 = .ok (.iload_n 1, 1) := by decide +kernel
theorem dX12_leastReleased_6 : decode cX12_leastReleased 6 = .ok (.istore_n 2, 1) := by decide +kernel
theorem dX12_leastReleased_7 : decode cX12_leastReleased 7 = .ok (.iload_n 1, 1) := by decide +kernel
theorem dX12_leastReleased_8 : decode cX12_leastReleased 8 = .ok (.istore_n 3, 1) := by decide +kernel
theorem dX12_leastReleased_9 : decode cX12_leastReleased 9 = .ok (.iload_n 3, 1) := by decide +kernel
theorem dX12_leastReleased_10 : decode cX12_leastReleased 10 = .ok (.ifCond .lt 42, 3) := by decide +kernel
theorem dX12_leastReleased_13 : decode cX12_leastReleased 13 = .ok (.iload_n 3, 1) := by decide +kernel
theorem dX12_leastReleased_14 : decode cX12_leastReleased 14 = .ok (.iload_n 1, 1) := by decide +kernel
theorem dX12_leastReleased_15 : decode cX12_leastReleased 15 = .ok (.iconst (-1), 1) := by decide +kernel
theorem dX12_leastReleased_16 : decode cX12_leastReleased 16 = .ok (.ixor, 1) := by decide +kernel
theorem dX12_leastReleased_17 : decode cX12_leastReleased 17 = .ok (.iand, 1) := by decide +kernel
theorem dX12_leastReleased_18 : decode cX12_leastReleased 18 = .ok (.ifCond .ne 28, 3) := by decide +kernel
theorem dX12_leastReleased_46 : decode cX12_leastReleased 46 = .ok (.iinc 3 (-1), 3) := by decide +kernel
theorem dX12_leastReleased_49 : decode cX12_leastReleased 49 = .ok (.goto (-40), 3) := by decide +kernel
theorem dX12_leastReleased_21 : decode cX12_leastReleased 21 = .ok (.iload_n 3, 1) := by decide +kernel
theorem dX12_leastReleased_22 : decode cX12_leastReleased 22 = .ok (.invokestatic 268, 3) := by decide +kernel
theorem dX12_leastReleased_25 : decode cX12_leastReleased 25 = .ok (.iload_n 2, 1) := by decide +kernel
theorem dX12_leastReleased_26 : decode cX12_leastReleased 26 = .ok (.invokestatic 268, 3) := by decide +kernel
theorem dX12_leastReleased_29 : decode cX12_leastReleased 29 = .ok (.if_icmp .gt 17, 3) := by decide +kernel
theorem dX12_leastReleased_32 : decode cX12_leastReleased 32 = .ok (.aload_n 0, 1) := by decide +kernel
theorem dX12_leastReleased_33 : decode cX12_leastReleased 33 = .ok (.iload_n 1, 1) := by decide +kernel
theorem dX12_leastReleased_34 : decode cX12_leastReleased 34 = .ok (.iload_n 3, 1) := by decide +kernel
theorem dX12_leastReleased_35 : decode cX12_leastReleased 35 = .ok (.iconst (-1), 1) := by decide +kernel
theorem dX12_leastReleased_36 : decode cX12_leastReleased 36 = .ok (.ixor, 1) := by decide +kernel
theorem dX12_leastReleased_37 : decode cX12_leastReleased 37 = .ok (.iand, 1) := by decide +kernel
theorem dX12_leastReleased_38 : decode cX12_leastReleased 38 = .ok (.invokevirtual 425, 3) := by decide +kernel
theorem cw_X12_isAtPeace : CWv yX12_isAtPeace cX12_isAtPeace 3 (some .boolean) 1 := ⟨⟨⟨List.mem_of_getElem? (i := 137) (by decide +kernel), by decide +kernel⟩, ⟨List.mem_of_getElem? (i := 2074) (by decide +kernel), by decide +kernel⟩, by decide +kernel⟩, ⟨List.mem_of_getElem? (i := 2073) (by decide +kernel), by decide +kernel⟩, ⟨List.mem_of_getElem? (i := 116) (by decide +kernel), by decide +kernel⟩⟩
theorem km12_425 : inW (Cond.methodLink RX12 425 yX12_isAtPeace) := ⟨List.mem_of_getElem? (i := 2071) (by decide +kernel), by decide +kernel⟩
theorem dX12_leastReleased_41 : decode cX12_leastReleased 41 = .ok (.ifCond .eq 5, 3) := by decide +kernel
theorem dX12_leastReleased_44 : decode cX12_leastReleased 44 = .ok (.iload_n 3, 1) := by decide +kernel
theorem dX12_leastReleased_45 : decode cX12_leastReleased 45 = .ok (.istore_n 2, 1) := by decide +kernel
theorem dX12_leastReleased_52 : decode cX12_leastReleased 52 = .ok (.iload_n 2, 1) := by decide +kernel
theorem dX12_leastReleased_53 : decode cX12_leastReleased 53 = .ok (.ireturn, 1) := by decide +kernel
theorem dX12_forged_0 : decode cX12_forged 0 = .ok (.aload_n 0, 1) := by decide +kernel
theorem dX12_forged_1 : decode cX12_forged 1 = .ok (.iload_n 1, 1) := by decide +kernel
theorem dX12_forged_2 : decode cX12_forged 2 = .ok (.invokevirtual 323, 3) := by decide +kernel
theorem dX12_forged_5 : decode cX12_forged 5 = .ok (.ifCond .eq 22, 3) := by decide +kernel
theorem dX12_forged_27 : decode cX12_forged 27 = .ok (.sipush (-1000), 3) := by decide +kernel
theorem dX12_forged_30 : decode cX12_forged 30 = .ok (.ireturn, 1) := by decide +kernel
theorem dX12_forged_8 : decode cX12_forged 8 = .ok (.iload_n 2, 1) := by decide +kernel
theorem dX12_forged_9 : decode cX12_forged 9 = .ok (.iconst 0, 1) := by decide +kernel
theorem dX12_forged_10 : decode cX12_forged 10 = .ok (.iconst 1, 1) := by decide +kernel
theorem dX12_forged_11 : decode cX12_forged 11 = .ok (.invokestatic 69, 3) := by decide +kernel
theorem dX12_forged_14 : decode cX12_forged 14 = .ok (.ifCond .eq 13, 3) := by decide +kernel
theorem dX12_forged_17 : decode cX12_forged 17 = .ok (.iload_n 3, 1) := by decide +kernel
theorem dX12_forged_18 : decode cX12_forged 18 = .ok (.iconst 0, 1) := by decide +kernel
theorem dX12_forged_19 : decode cX12_forged 19 = .ok (.bipush 99, 2) := by decide +kernel
theorem dX12_forged_21 : decode cX12_forged 21 = .ok (.invokestatic 69, 3) := by decide +kernel
theorem dX12_forged_24 : decode cX12_forged 24 = .ok (.ifCond .ne 7, 3) := by decide +kernel
theorem dX12_forged_31 : decode cX12_forged 31 = .ok (.iconst 0, 1) := by decide +kernel
theorem dX12_forged_32 : decode cX12_forged 32 = .ok (.istore 4, 2) := by decide +kernel
theorem dX12_forged_34 : decode cX12_forged 34 = .ok (.iconst 0, 1) := by decide +kernel
theorem dX12_forged_35 : decode cX12_forged 35 = .ok (.istore 5, 2) := by decide +kernel
theorem dX12_forged_37 : decode cX12_forged 37 = .ok (.iload 5, 2) := by decide +kernel
theorem dX12_forged_39 : decode cX12_forged 39 = .ok (.aload_n 0, 1) := by decide +kernel
theorem dX12_forged_40 : decode cX12_forged 40 = .ok (.getfield 7, 3) := by decide +kernel
theorem dX12_forged_43 : decode cX12_forged 43 = .ok (.bipush 13, 2) := by decide +kernel
theorem dX12_forged_45 : decode cX12_forged 45 = .ok (.iaload, 1) := by decide +kernel
theorem dX12_forged_46 : decode cX12_forged 46 = .ok (.if_icmp .ge 50, 3) := by decide +kernel
theorem dX12_forged_96 : decode cX12_forged 96 = .ok (.iload_n 3, 1) := by decide +kernel
theorem dX12_forged_97 : decode cX12_forged 97 = .ok (.iload 4, 2) := by decide +kernel
theorem dX12_forged_99 : decode cX12_forged 99 = .ok (.isub, 1) := by decide +kernel
theorem dX12_forged_100 : decode cX12_forged 100 = .ok (.ireturn, 1) := by decide +kernel
theorem dX12_forged_49 : decode cX12_forged 49 = .ok (.iload 4, 2) := by decide +kernel
theorem dX12_forged_51 : decode cX12_forged 51 = .ok (.aload_n 0, 1) := by decide +kernel
theorem dX12_forged_52 : decode cX12_forged 52 = .ok (.iload 5, 2) := by decide +kernel
theorem dX12_forged_54 : decode cX12_forged 54 = .ok (.iconst 1, 1) := by decide +kernel
theorem dX12_forged_55 : decode cX12_forged 55 = .ok (.invokevirtual 73, 3) := by decide +kernel
theorem dX12_forged_58 : decode cX12_forged 58 = .ok (.iload_n 1, 1) := by decide +kernel
theorem dX12_forged_59 : decode cX12_forged 59 = .ok (.if_icmp .ne 27, 3) := by decide +kernel
theorem dX12_forged_86 : decode cX12_forged 86 = .ok (.iconst 0, 1) := by decide +kernel
theorem dX12_forged_87 : decode cX12_forged 87 = .ok (.iadd, 1) := by decide +kernel
theorem dX12_forged_88 : decode cX12_forged 88 = .ok (.istore 4, 2) := by decide +kernel
theorem dX12_forged_90 : decode cX12_forged 90 = .ok (.iinc 5 1, 3) := by decide +kernel
theorem dX12_forged_93 : decode cX12_forged 93 = .ok (.goto (-56), 3) := by decide +kernel
theorem dX12_forged_62 : decode cX12_forged 62 = .ok (.aload_n 0, 1) := by decide +kernel
theorem dX12_forged_63 : decode cX12_forged 63 = .ok (.iload 5, 2) := by decide +kernel
theorem dX12_forged_65 : decode cX12_forged 65 = .ok (.iconst 2, 1) := by decide +kernel
theorem dX12_forged_66 : decode cX12_forged 66 = .ok (.invokevirtual 73, 3) := by decide +kernel
theorem dX12_forged_69 : decode cX12_forged 69 = .ok (.iload_n 2, 1) := by decide +kernel
theorem dX12_forged_70 : decode cX12_forged 70 = .ok (.if_icmp .ne 16, 3) := by decide +kernel
theorem dX12_forged_73 : decode cX12_forged 73 = .ok (.aload_n 0, 1) := by decide +kernel
theorem dX12_forged_74 : decode cX12_forged 74 = .ok (.iload 5, 2) := by decide +kernel
theorem dX12_forged_76 : decode cX12_forged 76 = .ok (.invokevirtual 77, 3) := by decide +kernel
theorem dX12_forged_79 : decode cX12_forged 79 = .ok (.ifCond .eq 7, 3) := by decide +kernel
theorem dX12_forged_82 : decode cX12_forged 82 = .ok (.iconst 1, 1) := by decide +kernel
theorem dX12_forged_83 : decode cX12_forged 83 = .ok (.goto 4, 3) := by decide +kernel
theorem dX12_inTime_0 : decode cX12_inTime 0 = .ok (.iload_n 1, 1) := by decide +kernel
theorem dX12_inTime_1 : decode cX12_inTime 1 = .ok (.iconst 0, 1) := by decide +kernel
theorem dX12_inTime_2 : decode cX12_inTime 2 = .ok (.iconst 2, 1) := by decide +kernel
theorem dX12_inTime_3 : decode cX12_inTime 3 = .ok (.invokestatic 69, 3) := by decide +kernel
theorem dX12_inTime_6 : decode cX12_inTime 6 = .ok (.ifCond .ne 5, 3) := by decide +kernel
theorem dX12_inTime_11 : decode cX12_inTime 11 = .ok (.iconst 0, 1) := by decide +kernel
theorem dX12_inTime_12 : decode cX12_inTime 12 = .ok (.istore_n 2, 1) := by decide +kernel
theorem dX12_inTime_13 : decode cX12_inTime 13 = .ok (.iconst 1, 1) := by decide +kernel
theorem dX12_inTime_14 : decode cX12_inTime 14 = .ok (.istore_n 3, 1) := by decide +kernel
theorem dX12_inTime_9 : decode cX12_inTime 9 = .ok (.iconst (-1), 1) := by decide +kernel
theorem dX12_inTime_10 : decode cX12_inTime 10 = .ok (.ireturn, 1) := by decide +kernel
theorem dX12_inTime_15 : decode cX12_inTime 15 = .ok (.iload_n 3, 1) := by decide +kernel
theorem dX12_inTime_16 : decode cX12_inTime 16 = .ok (.iconst 1, 1) := by decide +kernel
theorem dX12_inTime_17 : decode cX12_inTime 17 = .ok (.aload_n 0, 1) := by decide +kernel
theorem dX12_inTime_18 : decode cX12_inTime 18 = .ok (.getfield 7, 3) := by decide +kernel
theorem dX12_inTime_21 : decode cX12_inTime 21 = .ok (.bipush 6, 2) := by decide +kernel
theorem dX12_inTime_23 : decode cX12_inTime 23 = .ok (.iaload, 1) := by decide +kernel
theorem dX12_inTime_24 : decode cX12_inTime 24 = .ok (.ishl, 1) := by decide +kernel
theorem dX12_inTime_25 : decode cX12_inTime 25 = .ok (.if_icmp .ge 30, 3) := by decide +kernel
theorem dX12_inTime_55 : decode cX12_inTime 55 = .ok (.iload_n 1, 1) := by decide +kernel
theorem dX12_inTime_56 : decode cX12_inTime 56 = .ok (.ifCond .ne 10, 3) := by decide +kernel
theorem dX12_inTime_66 : decode cX12_inTime 66 = .ok (.iload_n 1, 1) := by decide +kernel
theorem dX12_inTime_67 : decode cX12_inTime 67 = .ok (.iconst 1, 1) := by decide +kernel
theorem dX12_inTime_68 : decode cX12_inTime 68 = .ok (.if_icmp .ne 7, 3) := by decide +kernel
theorem dX12_inTime_75 : decode cX12_inTime 75 = .ok (.aload_n 0, 1) := by decide +kernel
theorem dX12_inTime_76 : decode cX12_inTime 76 = .ok (.iload_n 2, 1) := by decide +kernel
theorem dX12_inTime_77 : decode cX12_inTime 77 = .ok (.invokevirtual 431, 3) := by decide +kernel
theorem cw_X12_workOf : CWv yX12_workOf cX12_workOf 4 (some .int) 1 := ⟨⟨⟨List.mem_of_getElem? (i := 137) (by decide +kernel), by decide +kernel⟩, ⟨List.mem_of_getElem? (i := 2094) (by decide +kernel), by decide +kernel⟩, by decide +kernel⟩, ⟨List.mem_of_getElem? (i := 2093) (by decide +kernel), by decide +kernel⟩, ⟨List.mem_of_getElem? (i := 118) (by decide +kernel), by decide +kernel⟩⟩
theorem km12_431 : inW (Cond.methodLink RX12 431 yX12_workOf) := ⟨List.mem_of_getElem? (i := 2091) (by decide +kernel), by decide +kernel⟩
theorem dX12_inTime_80 : decode cX12_inTime 80 = .ok (.ireturn, 1) := by decide +kernel
theorem dX12_inTime_71 : decode cX12_inTime 71 = .ok (.iload_n 2, 1) := by decide +kernel
theorem dX12_inTime_72 : decode cX12_inTime 72 = .ok (.goto 8, 3) := by decide +kernel
theorem dX12_inTime_59 : decode cX12_inTime 59 = .ok (.iload_n 2, 1) := by decide +kernel
theorem dX12_inTime_60 : decode cX12_inTime 60 = .ok (.invokestatic 268, 3) := by decide +kernel
theorem dX12_inTime_63 : decode cX12_inTime 63 = .ok (.goto 17, 3) := by decide +kernel
theorem dX12_inTime_28 : decode cX12_inTime 28 = .ok (.iload_n 3, 1) := by decide +kernel
theorem dX12_inTime_29 : decode cX12_inTime 29 = .ok (.invokestatic 268, 3) := by decide +kernel
theorem dX12_inTime_32 : decode cX12_inTime 32 = .ok (.iload_n 2, 1) := by decide +kernel
theorem dX12_inTime_33 : decode cX12_inTime 33 = .ok (.invokestatic 268, 3) := by decide +kernel
theorem dX12_inTime_36 : decode cX12_inTime 36 = .ok (.if_icmp .le 13, 3) := by decide +kernel
theorem dX12_inTime_49 : decode cX12_inTime 49 = .ok (.iinc 3 1, 3) := by decide +kernel
theorem dX12_inTime_52 : decode cX12_inTime 52 = .ok (.goto (-37), 3) := by decide +kernel
theorem dX12_inTime_39 : decode cX12_inTime 39 = .ok (.aload_n 0, 1) := by decide +kernel
theorem dX12_inTime_40 : decode cX12_inTime 40 = .ok (.iload_n 3, 1) := by decide +kernel
theorem dX12_inTime_41 : decode cX12_inTime 41 = .ok (.invokevirtual 428, 3) := by decide +kernel
theorem cw_X12_isInTime : CWv yX12_isInTime cX12_isInTime 6 (some .boolean) 1 := ⟨⟨⟨List.mem_of_getElem? (i := 137) (by decide +kernel), by decide +kernel⟩, ⟨List.mem_of_getElem? (i := 2090) (by decide +kernel), by decide +kernel⟩, by decide +kernel⟩, ⟨List.mem_of_getElem? (i := 2089) (by decide +kernel), by decide +kernel⟩, ⟨List.mem_of_getElem? (i := 117) (by decide +kernel), by decide +kernel⟩⟩
theorem km12_428 : inW (Cond.methodLink RX12 428 yX12_isInTime) := ⟨List.mem_of_getElem? (i := 2087) (by decide +kernel), by decide +kernel⟩
theorem dX12_inTime_44 : decode cX12_inTime 44 = .ok (.ifCond .eq 5, 3) := by decide +kernel
theorem dX12_inTime_47 : decode cX12_inTime 47 = .ok (.iload_n 3, 1) := by decide +kernel
theorem dX12_inTime_48 : decode cX12_inTime 48 = .ok (.istore_n 2, 1) := by decide +kernel
theorem dX12_whom_0 : decode cX12_whom 0 = .ok (.aload_n 0, 1) := by decide +kernel
theorem dX12_whom_1 : decode cX12_whom 1 = .ok (.iload_n 1, 1) := by decide +kernel
theorem dX12_whom_2 : decode cX12_whom 2 = .ok (.invokevirtual 323, 3) := by decide +kernel
theorem dX12_whom_5 : decode cX12_whom 5 = .ok (.ifCond .ne 5, 3) := by decide +kernel
theorem dX12_whom_10 : decode cX12_whom 10 = .ok (.iconst (-1), 1) := by decide +kernel
theorem dX12_whom_11 : decode cX12_whom 11 = .ok (.istore_n 2, 1) := by decide +kernel
theorem dX12_whom_12 : decode cX12_whom 12 = .ok (.iconst 0, 1) := by decide +kernel
theorem dX12_whom_13 : decode cX12_whom 13 = .ok (.istore_n 3, 1) := by decide +kernel
theorem dX12_whom_8 : decode cX12_whom 8 = .ok (.iconst (-1), 1) := by decide +kernel
theorem dX12_whom_9 : decode cX12_whom 9 = .ok (.ireturn, 1) := by decide +kernel
theorem dX12_whom_14 : decode cX12_whom 14 = .ok (.iload_n 3, 1) := by decide +kernel
theorem dX12_whom_15 : decode cX12_whom 15 = .ok (.aload_n 0, 1) := by decide +kernel
theorem dX12_whom_16 : decode cX12_whom 16 = .ok (.getfield 7, 3) := by decide +kernel
theorem dX12_whom_19 : decode cX12_whom 19 = .ok (.iconst 0, 1) := by decide +kernel
theorem dX12_whom_20 : decode cX12_whom 20 = .ok (.iaload, 1) := by decide +kernel
theorem dX12_whom_21 : decode cX12_whom 21 = .ok (.if_icmp .ge 34, 3) := by decide +kernel
theorem dX12_whom_55 : decode cX12_whom 55 = .ok (.iload_n 2, 1) := by decide +kernel
theorem dX12_whom_56 : decode cX12_whom 56 = .ok (.ireturn, 1) := by decide +kernel
theorem dX12_whom_24 : decode cX12_whom 24 = .ok (.iload_n 3, 1) := by decide +kernel
theorem dX12_whom_25 : decode cX12_whom 25 = .ok (.iload_n 1, 1) := by decide +kernel
theorem dX12_whom_26 : decode cX12_whom 26 = .ok (.if_icmp .eq 23, 3) := by decide +kernel
theorem dX12_whom_49 : decode cX12_whom 49 = .ok (.iinc 3 1, 3) := by decide +kernel
theorem dX12_whom_52 : decode cX12_whom 52 = .ok (.goto (-38), 3) := by decide +kernel
theorem dX12_whom_29 : decode cX12_whom 29 = .ok (.iload_n 2, 1) := by decide +kernel
theorem dX12_whom_30 : decode cX12_whom 30 = .ok (.iconst (-1), 1) := by decide +kernel
theorem dX12_whom_31 : decode cX12_whom 31 = .ok (.if_icmp .eq 16, 3) := by decide +kernel
theorem dX12_whom_47 : decode cX12_whom 47 = .ok (.iload_n 3, 1) := by decide +kernel
theorem dX12_whom_48 : decode cX12_whom 48 = .ok (.istore_n 2, 1) := by decide +kernel
theorem dX12_whom_34 : decode cX12_whom 34 = .ok (.aload_n 0, 1) := by decide +kernel
theorem dX12_whom_35 : decode cX12_whom 35 = .ok (.iload_n 3, 1) := by decide +kernel
theorem dX12_whom_36 : decode cX12_whom 36 = .ok (.invokevirtual 387, 3) := by decide +kernel
theorem dX12_whom_39 : decode cX12_whom 39 = .ok (.aload_n 0, 1) := by decide +kernel
theorem dX12_whom_40 : decode cX12_whom 40 = .ok (.iload_n 2, 1) := by decide +kernel
theorem dX12_whom_41 : decode cX12_whom 41 = .ok (.invokevirtual 387, 3) := by decide +kernel
theorem dX12_whom_44 : decode cX12_whom 44 = .ok (.if_icmp .ge 5, 3) := by decide +kernel
theorem dX12_saw_0 : decode cX12_saw 0 = .ok (.iload_n 1, 1) := by decide +kernel
theorem dX12_saw_1 : decode cX12_saw 1 = .ok (.iconst (-1), 1) := by decide +kernel
theorem dX12_saw_2 : decode cX12_saw 2 = .ok (.if_icmp .ne 13, 3) := by decide +kernel
theorem dX12_saw_15 : decode cX12_saw 15 = .ok (.aload_n 0, 1) := by decide +kernel
theorem dX12_saw_16 : decode cX12_saw 16 = .ok (.iload_n 1, 1) := by decide +kernel
theorem dX12_saw_17 : decode cX12_saw 17 = .ok (.invokevirtual 323, 3) := by decide +kernel
theorem dX12_saw_20 : decode cX12_saw 20 = .ok (.ifCond .eq 28, 3) := by decide +kernel
theorem dX12_saw_48 : decode cX12_saw 48 = .ok (.bipush (-2), 2) := by decide +kernel
theorem dX12_saw_50 : decode cX12_saw 50 = .ok (.ireturn, 1) := by decide +kernel
theorem dX12_saw_23 : decode cX12_saw 23 = .ok (.aload_n 0, 1) := by decide +kernel
theorem dX12_saw_24 : decode cX12_saw 24 = .ok (.iload_n 2, 1) := by decide +kernel
theorem dX12_saw_25 : decode cX12_saw 25 = .ok (.invokevirtual 323, 3) := by decide +kernel
theorem dX12_saw_28 : decode cX12_saw 28 = .ok (.ifCond .eq 20, 3) := by decide +kernel
theorem dX12_saw_31 : decode cX12_saw 31 = .ok (.iload_n 1, 1) := by decide +kernel
theorem dX12_saw_32 : decode cX12_saw 32 = .ok (.iload_n 2, 1) := by decide +kernel
theorem dX12_saw_33 : decode cX12_saw 33 = .ok (.if_icmp .eq 15, 3) := by decide +kernel
theorem dX12_saw_36 : decode cX12_saw 36 = .ok (.aload_n 0, 1) := by decide +kernel
theorem dX12_saw_37 : decode cX12_saw 37 = .ok (.getfield 7, 3) := by decide +kernel
theorem dX12_saw_40 : decode cX12_saw 40 = .ok (.bipush 7, 2) := by decide +kernel
theorem dX12_saw_42 : decode cX12_saw 42 = .ok (.iaload, 1) := by decide +kernel
theorem dX12_saw_43 : decode cX12_saw 43 = .ok (.bipush 8, 2) := by decide +kernel
theorem dX12_saw_45 : decode cX12_saw 45 = .ok (.if_icmp .ne 6, 3) := by decide +kernel
theorem dX12_saw_51 : decode cX12_saw 51 = .ok (.aload_n 0, 1) := by decide +kernel
theorem dX12_saw_52 : decode cX12_saw 52 = .ok (.getfield 7, 3) := by decide +kernel
theorem dX12_saw_55 : decode cX12_saw 55 = .ok (.sipush 176, 3) := by decide +kernel
theorem dX12_saw_58 : decode cX12_saw 58 = .ok (.iconst 2, 1) := by decide +kernel
theorem dX12_saw_59 : decode cX12_saw 59 = .ok (.aload_n 0, 1) := by decide +kernel
theorem dX12_saw_60 : decode cX12_saw 60 = .ok (.getfield 7, 3) := by decide +kernel
theorem dX12_saw_63 : decode cX12_saw 63 = .ok (.bipush 7, 2) := by decide +kernel
theorem dX12_saw_65 : decode cX12_saw 65 = .ok (.iaload, 1) := by decide +kernel
theorem dX12_saw_66 : decode cX12_saw 66 = .ok (.imul, 1) := by decide +kernel
theorem dX12_saw_67 : decode cX12_saw 67 = .ok (.iadd, 1) := by decide +kernel
theorem dX12_saw_68 : decode cX12_saw 68 = .ok (.iload_n 1, 1) := by decide +kernel
theorem dX12_saw_69 : decode cX12_saw 69 = .ok (.iastore, 1) := by decide +kernel
theorem dX12_saw_70 : decode cX12_saw 70 = .ok (.aload_n 0, 1) := by decide +kernel
theorem dX12_saw_71 : decode cX12_saw 71 = .ok (.getfield 7, 3) := by decide +kernel
theorem dX12_saw_74 : decode cX12_saw 74 = .ok (.sipush 176, 3) := by decide +kernel
theorem dX12_saw_77 : decode cX12_saw 77 = .ok (.iconst 2, 1) := by decide +kernel
theorem dX12_saw_78 : decode cX12_saw 78 = .ok (.aload_n 0, 1) := by decide +kernel
theorem dX12_saw_79 : decode cX12_saw 79 = .ok (.getfield 7, 3) := by decide +kernel
theorem dX12_saw_82 : decode cX12_saw 82 = .ok (.bipush 7, 2) := by decide +kernel
theorem dX12_saw_84 : decode cX12_saw 84 = .ok (.iaload, 1) := by decide +kernel
theorem dX12_saw_85 : decode cX12_saw 85 = .ok (.imul, 1) := by decide +kernel
theorem dX12_saw_86 : decode cX12_saw 86 = .ok (.iadd, 1) := by decide +kernel
theorem dX12_saw_87 : decode cX12_saw 87 = .ok (.iconst 1, 1) := by decide +kernel
theorem dX12_saw_88 : decode cX12_saw 88 = .ok (.iadd, 1) := by decide +kernel
theorem dX12_saw_89 : decode cX12_saw 89 = .ok (.iload_n 2, 1) := by decide +kernel
theorem dX12_saw_90 : decode cX12_saw 90 = .ok (.iastore, 1) := by decide +kernel
theorem dX12_saw_91 : decode cX12_saw 91 = .ok (.aload_n 0, 1) := by decide +kernel
theorem dX12_saw_92 : decode cX12_saw 92 = .ok (.getfield 7, 3) := by decide +kernel
theorem dX12_saw_95 : decode cX12_saw 95 = .ok (.bipush 7, 2) := by decide +kernel
theorem dX12_saw_97 : decode cX12_saw 97 = .ok (.dup2, 1) := by decide +kernel
theorem dX12_saw_98 : decode cX12_saw 98 = .ok (.iaload, 1) := by decide +kernel
theorem dX12_saw_99 : decode cX12_saw 99 = .ok (.iconst 1, 1) := by decide +kernel
theorem dX12_saw_100 : decode cX12_saw 100 = .ok (.iadd, 1) := by decide +kernel
theorem dX12_saw_101 : decode cX12_saw 101 = .ok (.iastore, 1) := by decide +kernel
theorem dX12_saw_102 : decode cX12_saw 102 = .ok (.aload_n 0, 1) := by decide +kernel
theorem dX12_saw_103 : decode cX12_saw 103 = .ok (.getfield 7, 3) := by decide +kernel
theorem dX12_saw_106 : decode cX12_saw 106 = .ok (.bipush 7, 2) := by decide +kernel
theorem dX12_saw_108 : decode cX12_saw 108 = .ok (.iaload, 1) := by decide +kernel
theorem dX12_saw_109 : decode cX12_saw 109 = .ok (.ireturn, 1) := by decide +kernel
theorem dX12_saw_5 : decode cX12_saw 5 = .ok (.aload_n 0, 1) := by decide +kernel
theorem dX12_saw_6 : decode cX12_saw 6 = .ok (.getfield 7, 3) := by decide +kernel
theorem dX12_saw_9 : decode cX12_saw 9 = .ok (.bipush 7, 2) := by decide +kernel
theorem dX12_saw_11 : decode cX12_saw 11 = .ok (.iconst 0, 1) := by decide +kernel
theorem dX12_saw_12 : decode cX12_saw 12 = .ok (.iastore, 1) := by decide +kernel
theorem dX12_saw_13 : decode cX12_saw 13 = .ok (.iconst 0, 1) := by decide +kernel
theorem dX12_saw_14 : decode cX12_saw 14 = .ok (.ireturn, 1) := by decide +kernel
theorem dX12_known_0 : decode cX12_known 0 = .ok (.aload_n 0, 1) := by decide +kernel
theorem dX12_known_1 : decode cX12_known 1 = .ok (.iload_n 1, 1) := by decide +kernel
theorem dX12_known_2 : decode cX12_known 2 = .ok (.invokevirtual 323, 3) := by decide +kernel
theorem dX12_known_5 : decode cX12_known 5 = .ok (.ifCond .eq 11, 3) := by decide +kernel
theorem dX12_known_16 : decode cX12_known 16 = .ok (.iconst (-1), 1) := by decide +kernel
theorem dX12_known_17 : decode cX12_known 17 = .ok (.ireturn, 1) := by decide +kernel
theorem dX12_known_8 : decode cX12_known 8 = .ok (.aload_n 0, 1) := by decide +kernel
theorem dX12_known_9 : decode cX12_known 9 = .ok (.iload_n 1, 1) := by decide +kernel
theorem dX12_known_10 : decode cX12_known 10 = .ok (.invokevirtual 437, 3) := by decide +kernel
theorem cw_X12_knownBy : CWv yX12_knownBy cX12_knownBy 4 (some .int) 1 := ⟨⟨⟨List.mem_of_getElem? (i := 137) (by decide +kernel), by decide +kernel⟩, ⟨List.mem_of_getElem? (i := 2114) (by decide +kernel), by decide +kernel⟩, by decide +kernel⟩, ⟨List.mem_of_getElem? (i := 2113) (by decide +kernel), by decide +kernel⟩, ⟨List.mem_of_getElem? (i := 119) (by decide +kernel), by decide +kernel⟩⟩
theorem km12_437 : inW (Cond.methodLink RX12 437 yX12_knownBy) := ⟨List.mem_of_getElem? (i := 2111) (by decide +kernel), by decide +kernel⟩
theorem dX12_known_13 : decode cX12_known 13 = .ok (.goto 4, 3) := by decide +kernel
theorem dX12_fewest_0 : decode cX12_fewest 0 = .ok (.iconst 1, 1) := by decide +kernel
theorem dX12_fewest_1 : decode cX12_fewest 1 = .ok (.aload_n 0, 1) := by decide +kernel
theorem dX12_fewest_2 : decode cX12_fewest 2 = .ok (.getfield 7, 3) := by decide +kernel
theorem dX12_fewest_5 : decode cX12_fewest 5 = .ok (.iconst 0, 1) := by decide +kernel
theorem dX12_fewest_6 : decode cX12_fewest 6 = .ok (.iaload, 1) := by decide +kernel
theorem dX12_fewest_7 : decode cX12_fewest 7 = .ok (.ishl, 1) := by decide +kernel
theorem dX12_fewest_8 : decode cX12_fewest 8 = .ok (.iconst 1, 1) := by decide +kernel
theorem dX12_fewest_9 : decode cX12_fewest 9 = .ok (.isub, 1) := by decide +kernel
theorem dX12_fewest_10 : decode cX12_fewest 10 = .ok (.istore_n 1, 1) := by decide +kernel
theorem dX12_fewest_11 : decode cX12_fewest 11 = .ok (.iload_n 1, 1) := by decide +kernel
theorem dX12_fewest_12 : decode cX12_fewest 12 = .ok (.istore_n 2, 1) := by decide +kernel
theorem dX12_fewest_13 : decode cX12_fewest 13 = .ok (.iload_n 2, 1) := by decide +kernel
theorem dX12_fewest_14 : decode cX12_fewest 14 = .ok (.ifCond .lt 75, 3) := by decide +kernel
theorem dX12_fewest_17 : decode cX12_fewest 17 = .ok (.iconst 0, 1) := by decide +kernel
theorem dX12_fewest_18 : decode cX12_fewest 18 = .ok (.istore_n 3, 1) := by decide +kernel
theorem dX12_fewest_19 : decode cX12_fewest 19 = .ok (.iconst 0, 1) := by decide +kernel
theorem dX12_fewest_20 : decode cX12_fewest 20 = .ok (.istore 4, 2) := by decide +kernel
theorem dX12_fewest_22 : decode cX12_fewest 22 = .ok (.iload 4, 2) := by decide +kernel
theorem dX12_fewest_24 : decode cX12_fewest 24 = .ok (.aload_n 0, 1) := by decide +kernel
theorem dX12_fewest_25 : decode cX12_fewest 25 = .ok (.getfield 7, 3) := by decide +kernel
theorem dX12_fewest_28 : decode cX12_fewest 28 = .ok (.iconst 0, 1) := by decide +kernel
theorem dX12_fewest_29 : decode cX12_fewest 29 = .ok (.iaload, 1) := by decide +kernel
theorem dX12_fewest_30 : decode cX12_fewest 30 = .ok (.if_icmp .ge 32, 3) := by decide +kernel
theorem dX12_fewest_62 : decode cX12_fewest 62 = .ok (.iload_n 3, 1) := by decide +kernel
theorem dX12_fewest_63 : decode cX12_fewest 63 = .ok (.aload_n 0, 1) := by decide +kernel
theorem dX12_fewest_64 : decode cX12_fewest 64 = .ok (.invokevirtual 440, 3) := by decide +kernel
theorem cw_X12_legible : CWv yX12_legible cX12_legible 3 (some .int) 0 := ⟨⟨⟨List.mem_of_getElem? (i := 137) (by decide +kernel), by decide +kernel⟩, ⟨List.mem_of_getElem? (i := 2130) (by decide +kernel), by decide +kernel⟩, by decide +kernel⟩, ⟨List.mem_of_getElem? (i := 2129) (by decide +kernel), by decide +kernel⟩, ⟨List.mem_of_getElem? (i := 122) (by decide +kernel), by decide +kernel⟩⟩
theorem km12_440 : inW (Cond.methodLink RX12 440 yX12_legible) := ⟨List.mem_of_getElem? (i := 2127) (by decide +kernel), by decide +kernel⟩
theorem dX12_fewest_67 : decode cX12_fewest 67 = .ok (.if_icmp .ne 16, 3) := by decide +kernel
theorem dX12_fewest_83 : decode cX12_fewest 83 = .ok (.iinc 2 (-1), 3) := by decide +kernel
theorem dX12_fewest_86 : decode cX12_fewest 86 = .ok (.goto (-73), 3) := by decide +kernel
theorem dX12_fewest_70 : decode cX12_fewest 70 = .ok (.iload_n 2, 1) := by decide +kernel
theorem dX12_fewest_71 : decode cX12_fewest 71 = .ok (.invokestatic 268, 3) := by decide +kernel
theorem dX12_fewest_74 : decode cX12_fewest 74 = .ok (.iload_n 1, 1) := by decide +kernel
theorem dX12_fewest_75 : decode cX12_fewest 75 = .ok (.invokestatic 268, 3) := by decide +kernel
theorem dX12_fewest_78 : decode cX12_fewest 78 = .ok (.if_icmp .gt 5, 3) := by decide +kernel
theorem dX12_fewest_81 : decode cX12_fewest 81 = .ok (.iload_n 2, 1) := by decide +kernel
theorem dX12_fewest_82 : decode cX12_fewest 82 = .ok (.istore_n 1, 1) := by decide +kernel
theorem dX12_fewest_33 : decode cX12_fewest 33 = .ok (.iload_n 3, 1) := by decide +kernel
theorem dX12_fewest_34 : decode cX12_fewest 34 = .ok (.iload_n 2, 1) := by decide +kernel
theorem dX12_fewest_35 : decode cX12_fewest 35 = .ok (.iload 4, 2) := by decide +kernel
theorem dX12_fewest_37 : decode cX12_fewest 37 = .ok (.invokestatic 244, 3) := by decide +kernel
theorem dX12_fewest_40 : decode cX12_fewest 40 = .ok (.ifCond .eq 13, 3) := by decide +kernel
theorem dX12_fewest_53 : decode cX12_fewest 53 = .ok (.iconst 0, 1) := by decide +kernel
theorem dX12_fewest_54 : decode cX12_fewest 54 = .ok (.ior, 1) := by decide +kernel
theorem dX12_fewest_55 : decode cX12_fewest 55 = .ok (.istore_n 3, 1) := by decide +kernel
theorem dX12_fewest_56 : decode cX12_fewest 56 = .ok (.iinc 4 1, 3) := by decide +kernel
theorem dX12_fewest_59 : decode cX12_fewest 59 = .ok (.goto (-37), 3) := by decide +kernel
theorem dX12_fewest_43 : decode cX12_fewest 43 = .ok (.aload_n 0, 1) := by decide +kernel
theorem dX12_fewest_44 : decode cX12_fewest 44 = .ok (.getfield 62, 3) := by decide +kernel
theorem kf12_62 : inW (Cond.fieldLink RX12 62 "KneeOathsModel" "sees" "[I") := ⟨List.mem_of_getElem? (i := 1529) (by decide +kernel), by decide +kernel⟩
theorem dX12_fewest_47 : decode cX12_fewest 47 = .ok (.iload 4, 2) := by decide +kernel
theorem dX12_fewest_49 : decode cX12_fewest 49 = .ok (.iaload, 1) := by decide +kernel
theorem dX12_fewest_50 : decode cX12_fewest 50 = .ok (.goto 4, 3) := by decide +kernel
theorem dX12_fewest_89 : decode cX12_fewest 89 = .ok (.iload_n 1, 1) := by decide +kernel
theorem dX12_fewest_90 : decode cX12_fewest 90 = .ok (.ireturn, 1) := by decide +kernel
theorem dX12_allSeen_0 : decode cX12_allSeen 0 = .ok (.iconst 0, 1) := by decide +kernel
theorem dX12_allSeen_1 : decode cX12_allSeen 1 = .ok (.istore_n 1, 1) := by decide +kernel
theorem dX12_allSeen_2 : decode cX12_allSeen 2 = .ok (.iload_n 1, 1) := by decide +kernel
theorem dX12_allSeen_3 : decode cX12_allSeen 3 = .ok (.aload_n 0, 1) := by decide +kernel
theorem dX12_allSeen_4 : decode cX12_allSeen 4 = .ok (.getfield 7, 3) := by decide +kernel
theorem dX12_allSeen_7 : decode cX12_allSeen 7 = .ok (.iconst 0, 1) := by decide +kernel
theorem dX12_allSeen_8 : decode cX12_allSeen 8 = .ok (.iaload, 1) := by decide +kernel
theorem dX12_allSeen_9 : decode cX12_allSeen 9 = .ok (.if_icmp .ge 20, 3) := by decide +kernel
theorem dX12_allSeen_29 : decode cX12_allSeen 29 = .ok (.aload_n 0, 1) := by decide +kernel
theorem dX12_allSeen_30 : decode cX12_allSeen 30 = .ok (.invokevirtual 443, 3) := by decide +kernel
theorem cw_X12_fewest : CWv yX12_fewest cX12_fewest 5 (some .int) 0 := ⟨⟨⟨List.mem_of_getElem? (i := 137) (by decide +kernel), by decide +kernel⟩, ⟨List.mem_of_getElem? (i := 2126) (by decide +kernel), by decide +kernel⟩, by decide +kernel⟩, ⟨List.mem_of_getElem? (i := 2125) (by decide +kernel), by decide +kernel⟩, ⟨List.mem_of_getElem? (i := 121) (by decide +kernel), by decide +kernel⟩⟩
theorem km12_443 : inW (Cond.methodLink RX12 443 yX12_fewest) := ⟨List.mem_of_getElem? (i := 2123) (by decide +kernel), by decide +kernel⟩
theorem dX12_allSeen_33 : decode cX12_allSeen 33 = .ok (.ireturn, 1) := by decide +kernel
theorem dX12_allSeen_12 : decode cX12_allSeen 12 = .ok (.aload_n 0, 1) := by decide +kernel
theorem dX12_allSeen_13 : decode cX12_allSeen 13 = .ok (.getfield 62, 3) := by decide +kernel
theorem dX12_allSeen_16 : decode cX12_allSeen 16 = .ok (.iload_n 1, 1) := by decide +kernel
theorem dX12_allSeen_17 : decode cX12_allSeen 17 = .ok (.aload_n 0, 1) := by decide +kernel
theorem dX12_allSeen_18 : decode cX12_allSeen 18 = .ok (.iload_n 1, 1) := by decide +kernel
theorem dX12_allSeen_19 : decode cX12_allSeen 19 = .ok (.invokevirtual 434, 3) := by decide +kernel
theorem dX12_allSeen_22 : decode cX12_allSeen 22 = .ok (.iastore, 1) := by decide +kernel
theorem dX12_allSeen_23 : decode cX12_allSeen 23 = .ok (.iinc 1 1, 3) := by decide +kernel
theorem dX12_allSeen_26 : decode cX12_allSeen 26 = .ok (.goto (-24), 3) := by decide +kernel
theorem dX12_together_0 : decode cX12_together 0 = .ok (.iconst 0, 1) := by decide +kernel
theorem dX12_together_1 : decode cX12_together 1 = .ok (.istore_n 1, 1) := by decide +kernel
theorem dX12_together_2 : decode cX12_together 2 = .ok (.iload_n 1, 1) := by decide +kernel
theorem dX12_together_3 : decode cX12_together 3 = .ok (.aload_n 0, 1) := by decide +kernel
theorem dX12_together_4 : decode cX12_together 4 = .ok (.getfield 7, 3) := by decide +kernel
theorem dX12_together_7 : decode cX12_together 7 = .ok (.iconst 0, 1) := by decide +kernel
theorem dX12_together_8 : decode cX12_together 8 = .ok (.iaload, 1) := by decide +kernel
theorem dX12_together_9 : decode cX12_together 9 = .ok (.if_icmp .ge 20, 3) := by decide +kernel
theorem dX12_together_29 : decode cX12_together 29 = .ok (.aload_n 0, 1) := by decide +kernel
theorem dX12_together_30 : decode cX12_together 30 = .ok (.invokevirtual 443, 3) := by decide +kernel
theorem dX12_together_33 : decode cX12_together 33 = .ok (.ireturn, 1) := by decide +kernel
theorem dX12_together_12 : decode cX12_together 12 = .ok (.aload_n 0, 1) := by decide +kernel
theorem dX12_together_13 : decode cX12_together 13 = .ok (.getfield 62, 3) := by decide +kernel
theorem dX12_together_16 : decode cX12_together 16 = .ok (.iload_n 1, 1) := by decide +kernel
theorem dX12_together_17 : decode cX12_together 17 = .ok (.aload_n 0, 1) := by decide +kernel
theorem dX12_together_18 : decode cX12_together 18 = .ok (.iload_n 1, 1) := by decide +kernel
theorem dX12_together_19 : decode cX12_together 19 = .ok (.invokevirtual 437, 3) := by decide +kernel
theorem dX12_together_22 : decode cX12_together 22 = .ok (.iastore, 1) := by decide +kernel
theorem dX12_together_23 : decode cX12_together 23 = .ok (.iinc 1 1, 3) := by decide +kernel
theorem dX12_together_26 : decode cX12_together 26 = .ok (.goto (-24), 3) := by decide +kernel
theorem dX12_worn_0 : decode cX12_worn 0 = .ok (.iload_n 1, 1) := by decide +kernel
theorem dX12_worn_1 : decode cX12_worn 1 = .ok (.iconst (-1), 1) := by decide +kernel
theorem dX12_worn_2 : decode cX12_worn 2 = .ok (.if_icmp .ne 13, 3) := by decide +kernel
theorem dX12_worn_15 : decode cX12_worn 15 = .ok (.aload_n 0, 1) := by decide +kernel
theorem dX12_worn_16 : decode cX12_worn 16 = .ok (.iload_n 1, 1) := by decide +kernel
theorem dX12_worn_17 : decode cX12_worn 17 = .ok (.invokevirtual 339, 3) := by decide +kernel
theorem dX12_worn_20 : decode cX12_worn 20 = .ok (.ifCond .eq 25, 3) := by decide +kernel
theorem dX12_worn_45 : decode cX12_worn 45 = .ok (.bipush (-2), 2) := by decide +kernel
theorem dX12_worn_47 : decode cX12_worn 47 = .ok (.ireturn, 1) := by decide +kernel
theorem dX12_worn_23 : decode cX12_worn 23 = .ok (.iload_n 2, 1) := by decide +kernel
theorem dX12_worn_24 : decode cX12_worn 24 = .ok (.iconst 0, 1) := by decide +kernel
theorem dX12_worn_25 : decode cX12_worn 25 = .ok (.bipush 99, 2) := by decide +kernel
theorem dX12_worn_27 : decode cX12_worn 27 = .ok (.invokestatic 69, 3) := by decide +kernel
theorem dX12_worn_30 : decode cX12_worn 30 = .ok (.ifCond .eq 15, 3) := by decide +kernel
theorem dX12_worn_33 : decode cX12_worn 33 = .ok (.aload_n 0, 1) := by decide +kernel
theorem dX12_worn_34 : decode cX12_worn 34 = .ok (.getfield 7, 3) := by decide +kernel
theorem dX12_worn_37 : decode cX12_worn 37 = .ok (.bipush 8, 2) := by decide +kernel
theorem dX12_worn_39 : decode cX12_worn 39 = .ok (.iaload, 1) := by decide +kernel
theorem dX12_worn_40 : decode cX12_worn 40 = .ok (.bipush 8, 2) := by decide +kernel
theorem dX12_worn_42 : decode cX12_worn 42 = .ok (.if_icmp .ne 6, 3) := by decide +kernel
theorem dX12_worn_48 : decode cX12_worn 48 = .ok (.aload_n 0, 1) := by decide +kernel
theorem dX12_worn_49 : decode cX12_worn 49 = .ok (.getfield 7, 3) := by decide +kernel
theorem dX12_worn_52 : decode cX12_worn 52 = .ok (.sipush 192, 3) := by decide +kernel
theorem dX12_worn_55 : decode cX12_worn 55 = .ok (.iconst 2, 1) := by decide +kernel
theorem dX12_worn_56 : decode cX12_worn 56 = .ok (.aload_n 0, 1) := by decide +kernel
theorem dX12_worn_57 : decode cX12_worn 57 = .ok (.getfield 7, 3) := by decide +kernel
theorem dX12_worn_60 : decode cX12_worn 60 = .ok (.bipush 8, 2) := by decide +kernel
theorem dX12_worn_62 : decode cX12_worn 62 = .ok (.iaload, 1) := by decide +kernel
theorem dX12_worn_63 : decode cX12_worn 63 = .ok (.imul, 1) := by decide +kernel
theorem dX12_worn_64 : decode cX12_worn 64 = .ok (.iadd, 1) := by decide +kernel
theorem dX12_worn_65 : decode cX12_worn 65 = .ok (.iload_n 1, 1) := by decide +kernel
theorem dX12_worn_66 : decode cX12_worn 66 = .ok (.iastore, 1) := by decide +kernel
theorem dX12_worn_67 : decode cX12_worn 67 = .ok (.aload_n 0, 1) := by decide +kernel
theorem dX12_worn_68 : decode cX12_worn 68 = .ok (.getfield 7, 3) := by decide +kernel
theorem dX12_worn_71 : decode cX12_worn 71 = .ok (.sipush 192, 3) := by decide +kernel
theorem dX12_worn_74 : decode cX12_worn 74 = .ok (.iconst 2, 1) := by decide +kernel
theorem dX12_worn_75 : decode cX12_worn 75 = .ok (.aload_n 0, 1) := by decide +kernel
theorem dX12_worn_76 : decode cX12_worn 76 = .ok (.getfield 7, 3) := by decide +kernel
theorem dX12_worn_79 : decode cX12_worn 79 = .ok (.bipush 8, 2) := by decide +kernel
theorem dX12_worn_81 : decode cX12_worn 81 = .ok (.iaload, 1) := by decide +kernel
theorem dX12_worn_82 : decode cX12_worn 82 = .ok (.imul, 1) := by decide +kernel
theorem dX12_worn_83 : decode cX12_worn 83 = .ok (.iadd, 1) := by decide +kernel
theorem dX12_worn_84 : decode cX12_worn 84 = .ok (.iconst 1, 1) := by decide +kernel
theorem dX12_worn_85 : decode cX12_worn 85 = .ok (.iadd, 1) := by decide +kernel
theorem dX12_worn_86 : decode cX12_worn 86 = .ok (.iload_n 2, 1) := by decide +kernel
theorem dX12_worn_87 : decode cX12_worn 87 = .ok (.iastore, 1) := by decide +kernel
theorem dX12_worn_88 : decode cX12_worn 88 = .ok (.aload_n 0, 1) := by decide +kernel
theorem dX12_worn_89 : decode cX12_worn 89 = .ok (.getfield 7, 3) := by decide +kernel
theorem dX12_worn_92 : decode cX12_worn 92 = .ok (.bipush 8, 2) := by decide +kernel
theorem dX12_worn_94 : decode cX12_worn 94 = .ok (.dup2, 1) := by decide +kernel
theorem dX12_worn_95 : decode cX12_worn 95 = .ok (.iaload, 1) := by decide +kernel
theorem dX12_worn_96 : decode cX12_worn 96 = .ok (.iconst 1, 1) := by decide +kernel
theorem dX12_worn_97 : decode cX12_worn 97 = .ok (.iadd, 1) := by decide +kernel
theorem dX12_worn_98 : decode cX12_worn 98 = .ok (.iastore, 1) := by decide +kernel
theorem dX12_worn_99 : decode cX12_worn 99 = .ok (.aload_n 0, 1) := by decide +kernel
theorem dX12_worn_100 : decode cX12_worn 100 = .ok (.getfield 7, 3) := by decide +kernel
theorem dX12_worn_103 : decode cX12_worn 103 = .ok (.bipush 8, 2) := by decide +kernel
theorem dX12_worn_105 : decode cX12_worn 105 = .ok (.iaload, 1) := by decide +kernel
theorem dX12_worn_106 : decode cX12_worn 106 = .ok (.ireturn, 1) := by decide +kernel
theorem dX12_worn_5 : decode cX12_worn 5 = .ok (.aload_n 0, 1) := by decide +kernel
theorem dX12_worn_6 : decode cX12_worn 6 = .ok (.getfield 7, 3) := by decide +kernel
theorem dX12_worn_9 : decode cX12_worn 9 = .ok (.bipush 8, 2) := by decide +kernel
theorem dX12_worn_11 : decode cX12_worn 11 = .ok (.iconst 0, 1) := by decide +kernel
theorem dX12_worn_12 : decode cX12_worn 12 = .ok (.iastore, 1) := by decide +kernel
theorem dX12_worn_13 : decode cX12_worn 13 = .ok (.iconst 0, 1) := by decide +kernel
theorem dX12_worn_14 : decode cX12_worn 14 = .ok (.ireturn, 1) := by decide +kernel
theorem dX12_whose_0 : decode cX12_whose 0 = .ok (.iconst 0, 1) := by decide +kernel
theorem dX12_whose_1 : decode cX12_whose 1 = .ok (.istore_n 1, 1) := by decide +kernel
theorem dX12_whose_2 : decode cX12_whose 2 = .ok (.iconst 0, 1) := by decide +kernel
theorem dX12_whose_3 : decode cX12_whose 3 = .ok (.istore_n 2, 1) := by decide +kernel
theorem dX12_whose_4 : decode cX12_whose 4 = .ok (.iload_n 2, 1) := by decide +kernel
theorem dX12_whose_5 : decode cX12_whose 5 = .ok (.aload_n 0, 1) := by decide +kernel
theorem dX12_whose_6 : decode cX12_whose 6 = .ok (.getfield 7, 3) := by decide +kernel
theorem dX12_whose_9 : decode cX12_whose 9 = .ok (.iconst 1, 1) := by decide +kernel
theorem dX12_whose_10 : decode cX12_whose 10 = .ok (.iaload, 1) := by decide +kernel
theorem dX12_whose_11 : decode cX12_whose 11 = .ok (.if_icmp .ge 112, 3) := by decide +kernel
theorem dX12_whose_123 : decode cX12_whose 123 = .ok (.iload_n 1, 1) := by decide +kernel
theorem dX12_whose_124 : decode cX12_whose 124 = .ok (.ireturn, 1) := by decide +kernel
theorem dX12_whose_14 : decode cX12_whose 14 = .ok (.iconst 1, 1) := by decide +kernel
theorem dX12_whose_15 : decode cX12_whose 15 = .ok (.istore_n 3, 1) := by decide +kernel
theorem dX12_whose_16 : decode cX12_whose 16 = .ok (.iconst 0, 1) := by decide +kernel
theorem dX12_whose_17 : decode cX12_whose 17 = .ok (.istore 4, 2) := by decide +kernel
theorem dX12_whose_19 : decode cX12_whose 19 = .ok (.iload 4, 2) := by decide +kernel
theorem dX12_whose_21 : decode cX12_whose 21 = .ok (.aload_n 0, 1) := by decide +kernel
theorem dX12_whose_22 : decode cX12_whose 22 = .ok (.getfield 7, 3) := by decide +kernel
theorem dX12_whose_25 : decode cX12_whose 25 = .ok (.bipush 8, 2) := by decide +kernel
theorem dX12_whose_27 : decode cX12_whose 27 = .ok (.iaload, 1) := by decide +kernel
theorem dX12_whose_28 : decode cX12_whose 28 = .ok (.if_icmp .ge 75, 3) := by decide +kernel
theorem dX12_whose_103 : decode cX12_whose 103 = .ok (.iload_n 1, 1) := by decide +kernel
theorem dX12_whose_104 : decode cX12_whose 104 = .ok (.iload_n 3, 1) := by decide +kernel
theorem dX12_whose_105 : decode cX12_whose 105 = .ok (.ifCond .eq 9, 3) := by decide +kernel
theorem dX12_whose_108 : decode cX12_whose 108 = .ok (.iconst 1, 1) := by decide +kernel
theorem dX12_whose_109 : decode cX12_whose 109 = .ok (.iload_n 2, 1) := by decide +kernel
theorem dX12_whose_110 : decode cX12_whose 110 = .ok (.ishl, 1) := by decide +kernel
theorem dX12_whose_111 : decode cX12_whose 111 = .ok (.goto 4, 3) := by decide +kernel
theorem dX12_whose_115 : decode cX12_whose 115 = .ok (.ior, 1) := by decide +kernel
theorem dX12_whose_116 : decode cX12_whose 116 = .ok (.istore_n 1, 1) := by decide +kernel
theorem dX12_whose_117 : decode cX12_whose 117 = .ok (.iinc 2 1, 3) := by decide +kernel
theorem dX12_whose_120 : decode cX12_whose 120 = .ok (.goto (-116), 3) := by decide +kernel
theorem dX12_whose_31 : decode cX12_whose 31 = .ok (.iload_n 3, 1) := by decide +kernel
theorem dX12_whose_32 : decode cX12_whose 32 = .ok (.ifCond .eq 63, 3) := by decide +kernel
theorem dX12_whose_35 : decode cX12_whose 35 = .ok (.aload_n 0, 1) := by decide +kernel
theorem dX12_whose_36 : decode cX12_whose 36 = .ok (.aload_n 0, 1) := by decide +kernel
theorem dX12_whose_37 : decode cX12_whose 37 = .ok (.getfield 7, 3) := by decide +kernel
theorem dX12_whose_40 : decode cX12_whose 40 = .ok (.sipush 192, 3) := by decide +kernel
theorem dX12_whose_43 : decode cX12_whose 43 = .ok (.iconst 2, 1) := by decide +kernel
theorem dX12_whose_44 : decode cX12_whose 44 = .ok (.iload 4, 2) := by decide +kernel
theorem dX12_whose_46 : decode cX12_whose 46 = .ok (.imul, 1) := by decide +kernel
theorem dX12_whose_47 : decode cX12_whose 47 = .ok (.iadd, 1) := by decide +kernel
theorem dX12_whose_48 : decode cX12_whose 48 = .ok (.iaload, 1) := by decide +kernel
theorem dX12_whose_49 : decode cX12_whose 49 = .ok (.invokevirtual 339, 3) := by decide +kernel
theorem dX12_whose_52 : decode cX12_whose 52 = .ok (.ifCond .eq 39, 3) := by decide +kernel
theorem dX12_whose_91 : decode cX12_whose 91 = .ok (.iconst 1, 1) := by decide +kernel
theorem dX12_whose_92 : decode cX12_whose 92 = .ok (.goto 4, 3) := by decide +kernel
theorem dX12_whose_96 : decode cX12_whose 96 = .ok (.istore_n 3, 1) := by decide +kernel
theorem dX12_whose_97 : decode cX12_whose 97 = .ok (.iinc 4 1, 3) := by decide +kernel
theorem dX12_whose_100 : decode cX12_whose 100 = .ok (.goto (-81), 3) := by decide +kernel
theorem dX12_whose_55 : decode cX12_whose 55 = .ok (.aload_n 0, 1) := by decide +kernel
theorem dX12_whose_56 : decode cX12_whose 56 = .ok (.iload_n 2, 1) := by decide +kernel
theorem dX12_whose_57 : decode cX12_whose 57 = .ok (.aload_n 0, 1) := by decide +kernel
theorem dX12_whose_58 : decode cX12_whose 58 = .ok (.getfield 7, 3) := by decide +kernel
theorem dX12_whose_61 : decode cX12_whose 61 = .ok (.sipush 192, 3) := by decide +kernel
theorem dX12_whose_64 : decode cX12_whose 64 = .ok (.iconst 2, 1) := by decide +kernel
theorem dX12_whose_65 : decode cX12_whose 65 = .ok (.iload 4, 2) := by decide +kernel
theorem dX12_whose_67 : decode cX12_whose 67 = .ok (.imul, 1) := by decide +kernel
theorem dX12_whose_68 : decode cX12_whose 68 = .ok (.iadd, 1) := by decide +kernel
theorem dX12_whose_69 : decode cX12_whose 69 = .ok (.iaload, 1) := by decide +kernel
theorem dX12_whose_70 : decode cX12_whose 70 = .ok (.invokevirtual 342, 3) := by decide +kernel
theorem dX12_whose_73 : decode cX12_whose 73 = .ok (.aload_n 0, 1) := by decide +kernel
theorem dX12_whose_74 : decode cX12_whose 74 = .ok (.getfield 7, 3) := by decide +kernel
theorem dX12_whose_77 : decode cX12_whose 77 = .ok (.sipush 192, 3) := by decide +kernel
theorem dX12_whose_80 : decode cX12_whose 80 = .ok (.iconst 2, 1) := by decide +kernel
theorem dX12_whose_81 : decode cX12_whose 81 = .ok (.iload 4, 2) := by decide +kernel
theorem dX12_whose_83 : decode cX12_whose 83 = .ok (.imul, 1) := by decide +kernel
theorem dX12_whose_84 : decode cX12_whose 84 = .ok (.iadd, 1) := by decide +kernel
theorem dX12_whose_85 : decode cX12_whose 85 = .ok (.iconst 1, 1) := by decide +kernel
theorem dX12_whose_86 : decode cX12_whose 86 = .ok (.iadd, 1) := by decide +kernel
theorem dX12_whose_87 : decode cX12_whose 87 = .ok (.iaload, 1) := by decide +kernel
theorem dX12_whose_88 : decode cX12_whose 88 = .ok (.if_icmp .ne 7, 3) := by decide +kernel
theorem dX12_whose_95 : decode cX12_whose 95 = .ok (.iconst 0, 1) := by decide +kernel
theorem dX12_whose_114 : decode cX12_whose 114 = .ok (.iconst 0, 1) := by decide +kernel
theorem dX12_fault_0 : decode cX12_fault 0 = .ok (.iload_n 1, 1) := by decide +kernel
theorem dX12_fault_1 : decode cX12_fault 1 = .ok (.ifCond .ne 10, 3) := by decide +kernel
theorem dX12_fault_11 : decode cX12_fault 11 = .ok (.iload_n 1, 1) := by decide +kernel
theorem dX12_fault_12 : decode cX12_fault 12 = .ok (.iconst 1, 1) := by decide +kernel
theorem dX12_fault_13 : decode cX12_fault 13 = .ok (.if_icmp .ne 10, 3) := by decide +kernel
theorem dX12_fault_23 : decode cX12_fault 23 = .ok (.iconst (-1), 1) := by decide +kernel
theorem dX12_fault_24 : decode cX12_fault 24 = .ok (.ireturn, 1) := by decide +kernel
theorem dX12_fault_16 : decode cX12_fault 16 = .ok (.aload_n 0, 1) := by decide +kernel
theorem dX12_fault_17 : decode cX12_fault 17 = .ok (.getfield 26, 3) := by decide +kernel
theorem kf12_26 : inW (Cond.fieldLink RX12 26 "KneeOathsModel" "faultPlace" "I") := ⟨List.mem_of_getElem? (i := 1504) (by decide +kernel), by decide +kernel⟩
theorem dX12_fault_20 : decode cX12_fault 20 = .ok (.goto 4, 3) := by decide +kernel
theorem dX12_fault_4 : decode cX12_fault 4 = .ok (.aload_n 0, 1) := by decide +kernel
theorem dX12_fault_5 : decode cX12_fault 5 = .ok (.getfield 22, 3) := by decide +kernel
theorem kf12_22 : inW (Cond.fieldLink RX12 22 "KneeOathsModel" "fault" "I") := ⟨List.mem_of_getElem? (i := 1503) (by decide +kernel), by decide +kernel⟩
theorem dX12_fault_8 : decode cX12_fault 8 = .ok (.goto 16, 3) := by decide +kernel
theorem dX12_by_0 : decode cX12_by 0 = .ok (.iload_n 1, 1) := by decide +kernel
theorem dX12_by_1 : decode cX12_by 1 = .ok (.iconst (-1), 1) := by decide +kernel
theorem dX12_by_2 : decode cX12_by 2 = .ok (.aload_n 0, 1) := by decide +kernel
theorem dX12_by_3 : decode cX12_by 3 = .ok (.getfield 7, 3) := by decide +kernel
theorem dX12_by_6 : decode cX12_by 6 = .ok (.iconst 1, 1) := by decide +kernel
theorem dX12_by_7 : decode cX12_by 7 = .ok (.iaload, 1) := by decide +kernel
theorem dX12_by_8 : decode cX12_by 8 = .ok (.iconst 1, 1) := by decide +kernel
theorem dX12_by_9 : decode cX12_by 9 = .ok (.isub, 1) := by decide +kernel
theorem dX12_by_10 : decode cX12_by 10 = .ok (.invokestatic 69, 3) := by decide +kernel
theorem dX12_by_13 : decode cX12_by 13 = .ok (.ifCond .ne 5, 3) := by decide +kernel
theorem dX12_by_18 : decode cX12_by 18 = .ok (.aload_n 0, 1) := by decide +kernel
theorem dX12_by_19 : decode cX12_by 19 = .ok (.getfield 7, 3) := by decide +kernel
theorem dX12_by_22 : decode cX12_by 22 = .ok (.iconst 2, 1) := by decide +kernel
theorem dX12_by_23 : decode cX12_by 23 = .ok (.iload_n 1, 1) := by decide +kernel
theorem dX12_by_24 : decode cX12_by 24 = .ok (.iastore, 1) := by decide +kernel
theorem dX12_by_25 : decode cX12_by 25 = .ok (.iconst 1, 1) := by decide +kernel
theorem dX12_by_26 : decode cX12_by 26 = .ok (.ireturn, 1) := by decide +kernel
theorem dX12_by_16 : decode cX12_by 16 = .ok (.iconst 0, 1) := by decide +kernel
theorem dX12_by_17 : decode cX12_by 17 = .ok (.ireturn, 1) := by decide +kernel
theorem dX12_about_0 : decode cX12_about 0 = .ok (.iload_n 1, 1) := by decide +kernel
theorem dX12_about_1 : decode cX12_about 1 = .ok (.iconst 0, 1) := by decide +kernel
theorem dX12_about_2 : decode cX12_about 2 = .ok (.bipush 8, 2) := by decide +kernel
theorem dX12_about_4 : decode cX12_about 4 = .ok (.invokestatic 69, 3) := by decide +kernel
theorem dX12_about_7 : decode cX12_about 7 = .ok (.ifCond .eq 12, 3) := by decide +kernel
theorem dX12_about_19 : decode cX12_about 19 = .ok (.iload_n 1, 1) := by decide +kernel
theorem dX12_about_20 : decode cX12_about 20 = .ok (.bipush 9, 2) := by decide +kernel
theorem dX12_about_22 : decode cX12_about 22 = .ok (.if_icmp .ne 10, 3) := by decide +kernel
theorem dX12_about_32 : decode cX12_about 32 = .ok (.bipush (-2), 2) := by decide +kernel
theorem dX12_about_34 : decode cX12_about 34 = .ok (.ireturn, 1) := by decide +kernel
theorem dX12_about_25 : decode cX12_about 25 = .ok (.aload_n 0, 1) := by decide +kernel
theorem dX12_about_26 : decode cX12_about 26 = .ok (.getfield 81, 3) := by decide +kernel
theorem kf12_81 : inW (Cond.fieldLink RX12 81 "KneeOathsModel" "taped" "I") := ⟨List.mem_of_getElem? (i := 1502) (by decide +kernel), by decide +kernel⟩
theorem dX12_about_29 : decode cX12_about 29 = .ok (.goto 5, 3) := by decide +kernel
theorem dX12_about_10 : decode cX12_about 10 = .ok (.aload_n 0, 1) := by decide +kernel
theorem dX12_about_11 : decode cX12_about 11 = .ok (.getfield 7, 3) := by decide +kernel
theorem dX12_about_14 : decode cX12_about 14 = .ok (.iload_n 1, 1) := by decide +kernel
theorem dX12_about_15 : decode cX12_about 15 = .ok (.iaload, 1) := by decide +kernel
theorem dX12_about_16 : decode cX12_about 16 = .ok (.goto 18, 3) := by decide +kernel
def bitsR (x : Int32) : Int32 := if h : x = 0 then 0 else 1 + bitsR (x &&& (x - 1))
termination_by x.toBitVec.toNat
decreasing_by exact an_dec h rfl rfl
theorem bitsR_0 : bitsR 0 = 0 := by unfold bitsR; rfl
theorem bitsR_s {x : Int32} (h : ¬ x = 0) : bitsR x = 1 + bitsR (x &&& (x - 1)) := by
  rw [bitsR, dif_neg h]
theorem bR_nx {n x y z n2 t : Int32} (h : n + bitsR x = t) (hx : ¬ x = 0) (e1 : y = x - 1) (e2 : z = x &&& y) (e3 : n2 = n + 1) : n2 + bitsR z = t := by
  rw [e3, e2, e1, ← h, bitsR_s hx, Int32.add_assoc]
theorem ge2_1 {r t : Int32} (e : r = t) (h : ¬ r < 2) : (1 : Int32).toInt ≤ t.toInt := by
  subst e; rw [Int32.lt_iff_toInt_lt, show (2 : Int32).toInt = 2 from rfl] at h; rw [show (1 : Int32).toInt = 1 from rfl]; omega
theorem ne_lt {y r t : Int32} (h : y.toInt ≤ t.toInt) (e : r = t) (n : ¬ y = r) : y.toInt < t.toInt := by
  subst e
  have : y.toInt ≠ r.toInt := fun z => n (Int32.toInt_inj.mp z)
  omega
set_option maxHeartbeats 4000000 in
set_option maxRecDepth 100000 in
theorem x_X12_bitsX {l : Launch} {G : GG}  {L : List Nat} {f : HF}  {i1 : Int32}  : PMp l yX12_bits cX12_bits 3 .int 0 0 0 G [.int i1] L f (fun r => (r = bitsR i1)) := by
  refine PMi.of (post := fun r L1 f1 => ((r = bitsR i1)) ∧ L1 = L ∧ f1 = f) (own := RX12) (by decide) rfl (Nat.le_of_ble_eq_true rfl) (fun sz p e s m args below meth c A ls hA1 hname S Y hl => ?_)
  have hx := S.hx
  have hb := S.hb
  have hl : lv_has ls 3 [(0, .int i1)] := hl
  have J_4 : ∀ (n4 : Nat) (y4_1 y4_2 : Int32) (H : Heap) (locs : List Loc) (ls : Array Slot), (y4_1 + bitsR y4_2 = bitsR i1) → (y4_2.toBitVec.toNat = n4) → (DY G A s [] L f H locs) → (lv_has ls 3 [(0, .int i1), (1, .int y4_1), (2, .int y4_2)]) → W p l e (rmD 0 0 0) s m args below meth c H locs (0) (0) (MQ below (va_Qi (fun r (u : List Nat × HF) => (fun r L1 f1 => ((r = bitsR i1)) ∧ L1 = L ∧ f1 = f) r u.1 u.2) (fun u t => pOut G (va_A (va_pl L f) sz) u.1 u.2 t) (va_A (va_pl L f) sz)) args s 0 0 A) (F0 m 4 ls []) := by
    intro n4
    induction n4 using Nat.strongRecOn with
    | _ n4 ih4 =>
      intro y4_1 y4_2 H locs ls hbx hm4 Y hl
      refine lv_iload_n hx hb dX12_bits_4 rfl (lv_at hl 2 rfl) ?_
      refine lv_if_eq (tgt := 20) hx hb dX12_bits_5 (by decide) (fun c_52769 => ?_) (fun c_52769 => ?_)
      · have B_52770 : bn 0 0 y4_2 := bn_w (bn_eq c_52769 (show bn 0 0 (0 : Int32) from bn_k (by decide))) (by decide)
        refine lv_iload_n hx hb dX12_bits_20 rfl (lv_at hl 1 rfl) ?_
        exact prI (post := fun r L1 f1 => ((r = bitsR i1)) ∧ L1 = L ∧ f1 = f) S Y rfl (by decide) (by decide) hA1 ⟨(by have z := hbx; rw [c_52769, bitsR_0, Int32.add_zero] at z; exact z), rfl, rfl⟩ dX12_bits_21
      · obtain ⟨x_52771, ex_52771⟩ : ∃ z : Int32, z = y4_1 + 1 := ⟨_, rfl⟩
        refine lv_iinc (v := x_52771) (lv' := [(1, .int x_52771), (0, .int i1), (2, .int y4_2)]) hx hb dX12_bits_8 hl (k := 1) rfl (by rw [ex_52771]; rfl) (by decide) rfl (fun ls hl => ?_)
        refine lv_iload_n hx hb dX12_bits_11 rfl (lv_at hl 2 rfl) ?_
        refine lv_iload_n hx hb dX12_bits_12 rfl (lv_at hl 2 rfl) ?_
        refine lv_iconst (v := 1) hx hb dX12_bits_13 (by decide) ?_
        refine lv_isub hx hb dX12_bits_14 ?_
        refine lv_topi (fun x_52772 ex_52772 => ?_)
        refine lv_iand hx hb dX12_bits_15 ?_
        refine lv_topi (fun x_52773 ex_52773 => ?_)
        refine lv_istore_n (lv' := [(2, .int x_52773), (1, .int x_52771), (0, .int i1)]) hx hb dX12_bits_16 rfl hl (by decide) rfl (fun ls hl => ?_)
        refine lv_goto (tgt := 4) hx hb dX12_bits_17 (by decide) ?_
        exact ih4 _ (by rw [← hm4]; exact an_dec c_52769 ex_52772 ex_52773) x_52771 x_52773  _ _ _  (bR_nx hbx c_52769 ex_52772 ex_52773 ex_52771) rfl Y (lv_sub hl [2, 1, 0] rfl)
  refine lv_iconst (v := 0) hx hb dX12_bits_0 (by decide) ?_
  refine lv_istore_n (lv' := [(1, .int 0), (0, .int i1)]) hx hb dX12_bits_1 rfl hl (by decide) rfl (fun ls hl => ?_)
  refine lv_iload_n hx hb dX12_bits_2 rfl (lv_at hl 1 rfl) ?_
  refine lv_istore_n (lv' := [(2, .int i1), (1, .int 0), (0, .int i1)]) hx hb dX12_bits_3 rfl hl (by decide) rfl (fun ls hl => ?_)
  exact J_4 _ 0 i1  _ _ _  (Int32.zero_add _) rfl Y (lv_sub hl [2, 1, 0] rfl)
set_option maxHeartbeats 4000000 in
set_option maxRecDepth 100000 in
theorem x_X12_isRing {l : Launch} {G : GG}  {L : List Nat} {f : HF} {ad : Nat → Nat → Nat} {w : WW} {pi : PIT} {g0 : Nat → Int32} {i1 : Int32} (I : SH (spM (IA 0 0 14 9999 w) pi (EQ g0) LDa) nnM G ad L f) (hB : BBp 0 0 14 9999 w) (hX : TX g0) : PMp l yX12_isRing cX12_isRing 8 .boolean 3 0 0 G [.ref (ad 0 0), .int i1] L f (fun r => bn 0 1 r) := by
  refine PMi.of (post := fun r L1 f1 => (bn 0 1 r) ∧ L1 = L ∧ f1 = f) (own := RX12) (by decide) rfl (Nat.le_of_ble_eq_true rfl) (fun sz p e s m args below meth c A ls hA1 hname S Y hl => ?_)
  have hx := S.hx
  have hb := S.hb
  have hl : lv_has ls 8 [(0, .ref (ad 0 0)), (1, .int i1)] := hl
  have J_99 : ∀ (n99 : Nat) (y99_2 y99_3 y99_4 y99_5 : Int32) (H : Heap) (locs : List Loc) (ls : Array Slot), (bn (-1) 13 y99_3) → (bn 1 2147483647 y99_5) → (y99_5.toInt ≤ (bitsR i1).toInt) → (((bitsR i1).toInt - y99_5.toInt).toNat = n99) → (DY G A s [] L f H locs) → (lv_has ls 8 [(0, .ref (ad 0 0)), (1, .int i1), (2, .int y99_2), (3, .int y99_3), (4, .int y99_4), (5, .int y99_5)]) → W p l e (rmD 3 0 0) s m args below meth c H locs (0) (0) (MQ below (va_Qi (fun r (u : List Nat × HF) => (fun r L1 f1 => (bn 0 1 r) ∧ L1 = L ∧ f1 = f) r u.1 u.2) (fun u t => pOut G (va_A (va_pl L f) sz) u.1 u.2 t) (va_A (va_pl L f) sz)) args s 0 0 A) (F0 m 99 ls []) := by
    intro n99
    induction n99 using Nat.strongRecOn with
    | _ n99 ih99 =>
      intro y99_2 y99_3 y99_4 y99_5 H locs ls b_y99_3 b_y99_5 hrg hm99 Y hl
      have J_116 : ∀ (n116 : Nat) (y116_6 y116_7 : Int32) (H : Heap) (locs : List Loc) (ls : Array Slot), (bn (-1) 13 y116_6) → (bn 0 14 y116_7) → (((14 : Int) - y116_7.toInt).toNat = n116) → (DY G A s [] L f H locs) → (lv_has ls 8 [(0, .ref (ad 0 0)), (1, .int i1), (2, .int y99_2), (3, .int y99_3), (4, .int y99_4), (5, .int y99_5), (6, .int y116_6), (7, .int y116_7)]) → W p l e (rmD 3 0 0) s m args below meth c H locs (0) (0) (MQ below (va_Qi (fun r (u : List Nat × HF) => (fun r L1 f1 => (bn 0 1 r) ∧ L1 = L ∧ f1 = f) r u.1 u.2) (fun u t => pOut G (va_A (va_pl L f) sz) u.1 u.2 t) (va_A (va_pl L f) sz)) args s 0 0 A) (F0 m 116 ls []) := by
        intro n116
        induction n116 using Nat.strongRecOn with
        | _ n116 ih116 =>
          intro y116_6 y116_7 H locs ls b_y116_6 b_y116_7 hm116 Y hl
          refine lv_iload hx hb dX12_isRing_116 (lv_at hl 7 rfl) ?_
          refine lv_aload_n hx hb dX12_isRing_118 rfl (lv_at hl 0 rfl) ?_
          obtain ⟨v_53750, v_53752, v_53754, v_53756, v_53758, v_53760, v_53762, v_53764, v_53765, v_53767, v_53769, v_53771, v_53773, v_53775, v_53777, v_53779, v_53781, v_53783, p_ad_0_0, b_53751, b_53753, b_53755, b_53757, b_53759, b_53761, b_53763, b_53766, b_53768, b_53770, b_53772, b_53774, b_53776, b_53778, b_53780, b_53782, b_53784⟩ := opnM_0 (j := 0) I (by decide)
          have p_ad_0_0 : pt L f (ad 0 0) (.inr (12, [.ref (ad 1 0), .ref (ad 2 0), .ref (ad 3 0), .ref (ad 4 0), .int v_53750, .int v_53752, .int v_53754, .int v_53756, .int v_53758, .int v_53760, .int v_53762, .long v_53764, .int v_53765, .int v_53767, .int v_53769, .ref (ad 5 0), .ref (ad 6 0), .int v_53771, .int v_53773, .int v_53775, .int v_53777, .int v_53779, .ref (ad 7 0), .ref (ad 8 0), .ref (ad 9 0), .int v_53781, .ref (ad 10 0), .ref (ad 11 0), .ref (ad 12 0), .ref (ad 13 0), .int v_53783, .ref (ad 14 0)])) := p_ad_0_0
          refine pg_get S Y ok_X12 0 (by decide) kf12_7 (v := .ref (ad 1 0)) p_ad_0_0 rfl dX12_isRing_119 ?_
          refine lv_bipush (v := 13) hx hb dX12_isRing_122 (by decide) ?_
          obtain ⟨g_53785, p_ad_1_0, o_53786⟩ := I.opi (k := 1) (j := 0) (by decide) rfl
          have p_ad_1_0 : pt L f (ad 1 0) (.inl (G.2 0, 10568, .inl g_53785)) := p_ad_1_0
          obtain ⟨v_53787, ev_53787⟩ : ∃ z, z = g_53785 (13 : Int32).toNatClampNeg := ⟨_, rfl⟩
          refine pg_iald S Y (v := v_53787) p_ad_1_0 (by unfold vp_in; decide) ev_53787.symm dX12_isRing_124 ?_
          have bv_53787 : bn 0 14 v_53787 := bn_eq ev_53787 (IA_13 o_53786)
          refine lv_icmp_ge (tgt := 159) hx hb dX12_isRing_125 (by decide) (fun c_53788 => ?_) (fun c_53788 => ?_)
          · refine lv_iload hx hb dX12_isRing_159 (lv_at hl 6 rfl) ?_
            refine lv_iconst (v := (-1)) hx hb dX12_isRing_161 (by decide) ?_
            refine lv_icmp_eq (tgt := 174) hx hb dX12_isRing_162 (by decide) (fun c_53791 => ?_) (fun c_53791 => ?_)
            · have B_53792 : bn (-1) (-1) y116_6 := bn_w (bn_eq c_53791 (show bn (-1) (-1) ((-1) : Int32) from bn_k (by decide))) (by decide)
              refine lv_iconst (v := 0) hx hb dX12_isRing_174 (by decide) ?_
              exact prI (post := fun r L1 f1 => (bn 0 1 r) ∧ L1 = L ∧ f1 = f) S Y rfl (by decide) (by decide) hA1 ⟨bn_w (show bn 0 0 (0 : Int32) from bn_k (by decide)) (by decide), rfl, rfl⟩ dX12_isRing_175
            · have B_53793 : bn 0 13 y116_6 := bn_w (bn_nel c_53791 b_y116_6 (show bn (-1) (-1) ((-1) : Int32) from bn_k (by decide))) (by decide)
              refine lv_iload hx hb dX12_isRing_165 (lv_at hl 5 rfl) ?_
              refine lv_iload_n hx hb dX12_isRing_167 rfl (lv_at hl 1 rfl) ?_
              refine cSp (As := [.int i1]) (rest := [.int y99_5]) S Y (x_X12_bitsX (l := l) ) cw_X12_bits km12_268 rfl ⟨Nat.le_of_ble_eq_true rfl, Nat.le_of_ble_eq_true rfl⟩ hl.1 rfl (Nat.le_of_ble_eq_true rfl) ⟨Nat.le_of_ble_eq_true rfl, Nat.le_of_ble_eq_true rfl⟩ dX12_isRing_168 (fun r_53794 H locs er_53794 Y => ?_)
              refine lv_icmp_ne (tgt := 176) hx hb dX12_isRing_171 (by decide) (fun c_53795 => ?_) (fun c_53795 => ?_)
              · refine lv_aload_n hx hb dX12_isRing_176 rfl (lv_at hl 0 rfl) ?_
                refine lv_iload hx hb dX12_isRing_177 (lv_at hl 6 rfl) ?_
                refine lv_iconst (v := 1) hx hb dX12_isRing_179 (by decide) ?_
                refine cVp (As := [.int y116_6, .int 1]) (rest := []) S Y (x_X12_getON (l := l) I hB (bn_w B_53793 (by decide)) (bn_w (show bn 1 1 (1 : Int32) from bn_k (by decide)) (by decide))) cw_X12_get km12_73 p_ad_0_0 ok_X12.1 rfl rfl ⟨Nat.le_of_ble_eq_true rfl, Nat.le_of_ble_eq_true rfl⟩ hl.1 rfl (Nat.le_of_ble_eq_true rfl) ⟨Nat.le_of_ble_eq_true rfl, Nat.le_of_ble_eq_true rfl⟩ dX12_isRing_180 (fun r_53796 H locs er_53796 Y => ?_)
                refine lv_istore (lv' := [(4, .int r_53796), (0, .ref (ad 0 0)), (1, .int i1), (2, .int y99_2), (3, .int y99_3), (5, .int y99_5), (6, .int y116_6), (7, .int y116_7)]) hx hb dX12_isRing_183 hl (by decide) rfl (fun ls hl => ?_)
                have B_53797 : bn 1 2147483646 y99_5 := ⟨b_y99_5.1, by have z8 := (ne_lt hrg er_53794 c_53795); have z7 := ti_hi (bitsR i1); omega⟩
                obtain ⟨x_53798, ex_53798⟩ : ∃ z : Int32, z = y99_5 + 1 := ⟨_, rfl⟩
                refine lv_iinc (v := x_53798) (lv' := [(5, .int x_53798), (4, .int r_53796), (0, .ref (ad 0 0)), (1, .int i1), (2, .int y99_2), (3, .int y99_3), (6, .int y116_6), (7, .int y116_7)]) hx hb dX12_isRing_185 hl (k := 5) rfl (by rw [ex_53798]; rfl) (by decide) rfl (fun ls hl => ?_)
                refine lv_goto (tgt := 99) hx hb dX12_isRing_188 (by decide) ?_
                exact ih99 _ (by rw [← hm99]; exact (by have z9 := la_add ex_53798 rfl rfl B_53797 (show bn 1 1 (1 : Int32) from bn_k (by decide)) (by decide); have z8 := (ne_lt hrg er_53794 c_53795); rw [show (1 : Int32).toInt = 1 from rfl] at z9; omega)) y99_2 y99_3 r_53796 x_53798  _ _ _  (bn_w b_y99_3 (by decide)) (bn_w (bn_eq ex_53798 (bn_add B_53797 (show bn 1 1 (1 : Int32) from bn_k (by decide)) (by decide))) (by decide)) (by have z9 := la_add ex_53798 rfl rfl B_53797 (show bn 1 1 (1 : Int32) from bn_k (by decide)) (by decide); have z8 := (ne_lt hrg er_53794 c_53795); rw [show (1 : Int32).toInt = 1 from rfl] at z9; show _ ≤ _; omega) rfl Y (lv_sub hl [2, 3, 4, 5, 1, 0] rfl)
              · refine lv_iconst (v := 0) hx hb dX12_isRing_174 (by decide) ?_
                exact prI (post := fun r L1 f1 => (bn 0 1 r) ∧ L1 = L ∧ f1 = f) S Y rfl (by decide) (by decide) hA1 ⟨bn_w (show bn 0 0 (0 : Int32) from bn_k (by decide)) (by decide), rfl, rfl⟩ dX12_isRing_175
          · have B_53789 : bn 1 14 v_53787 := bn_w (bn_gtl c_53788 bv_53787 b_y116_7) (by decide)
            have B_53790 : bn 0 13 y116_7 := bn_w (bn_gtr c_53788 bv_53787 b_y116_7) (by decide)
            refine lv_iload_n hx hb dX12_isRing_128 rfl (lv_at hl 1 rfl) ?_
            refine lv_iload hx hb dX12_isRing_129 (lv_at hl 7 rfl) ?_
            refine cSp (As := [.int i1, .int y116_7]) (rest := []) S Y (x_X12_has (l := l) ) cw_X12_has km12_244 rfl ⟨Nat.le_of_ble_eq_true rfl, Nat.le_of_ble_eq_true rfl⟩ hl.1 rfl (Nat.le_of_ble_eq_true rfl) ⟨Nat.le_of_ble_eq_true rfl, Nat.le_of_ble_eq_true rfl⟩ dX12_isRing_131 (fun r_53799 H locs er_53799 Y => ?_)
            refine lv_if_eq (tgt := 153) hx hb dX12_isRing_134 (by decide) (fun c_53800 => ?_) (fun c_53800 => ?_)
            · have B_53801 : bn 0 0 r_53799 := bn_w (bn_eq c_53800 (show bn 0 0 (0 : Int32) from bn_k (by decide))) (by decide)
              obtain ⟨x_53803, ex_53803⟩ : ∃ z : Int32, z = y116_7 + 1 := ⟨_, rfl⟩
              refine lv_iinc (v := x_53803) (lv' := [(7, .int x_53803), (0, .ref (ad 0 0)), (1, .int i1), (2, .int y99_2), (3, .int y99_3), (4, .int y99_4), (5, .int y99_5), (6, .int y116_6)]) hx hb dX12_isRing_153 hl (k := 7) rfl (by rw [ex_53803]; rfl) (by decide) rfl (fun ls hl => ?_)
              refine lv_goto (tgt := 116) hx hb dX12_isRing_156 (by decide) ?_
              exact ih116 _ (by rw [← hm116]; exact ms_up (m := 1) ex_53803 (show bn 1 1 (1 : Int32) from bn_k (by decide)) B_53790 (bn_w (bn_eq ex_53803 (bn_add B_53790 (show bn 1 1 (1 : Int32) from bn_k (by decide)) (by decide))) (by decide) : bn 0 14 x_53803) (by decide)) y116_6 x_53803  _ _ _  (bn_w b_y116_6 (by decide)) (bn_w (bn_eq ex_53803 (bn_add B_53790 (show bn 1 1 (1 : Int32) from bn_k (by decide)) (by decide))) (by decide)) rfl Y (lv_sub hl [1, 2, 3, 4, 5, 6, 7, 0] rfl)
            · have B_53802 : bn 1 1 r_53799 := bn_w (bn_nel c_53800 er_53799 (show bn 0 0 (0 : Int32) from bn_k (by decide))) (by decide)
              refine lv_aload_n hx hb dX12_isRing_137 rfl (lv_at hl 0 rfl) ?_
              refine lv_iload hx hb dX12_isRing_138 (lv_at hl 7 rfl) ?_
              refine lv_iconst (v := 0) hx hb dX12_isRing_140 (by decide) ?_
              refine cVp (As := [.int y116_7, .int 0]) (rest := []) S Y (x_X12_get (l := l) I hB (bn_w B_53790 (by decide)) (bn_w (show bn 0 0 (0 : Int32) from bn_k (by decide)) (by decide))) cw_X12_get km12_73 p_ad_0_0 ok_X12.1 rfl rfl ⟨Nat.le_of_ble_eq_true rfl, Nat.le_of_ble_eq_true rfl⟩ hl.1 rfl (Nat.le_of_ble_eq_true rfl) ⟨Nat.le_of_ble_eq_true rfl, Nat.le_of_ble_eq_true rfl⟩ dX12_isRing_141 (fun r_53804 H locs er_53804 Y => ?_)
              refine lv_iload hx hb dX12_isRing_144 (lv_at hl 4 rfl) ?_
              refine lv_icmp_ne (tgt := 153) hx hb dX12_isRing_146 (by decide) (fun c_53805 => ?_) (fun c_53805 => ?_)
              · obtain ⟨x_53806, ex_53806⟩ : ∃ z : Int32, z = y116_7 + 1 := ⟨_, rfl⟩
                refine lv_iinc (v := x_53806) (lv' := [(7, .int x_53806), (0, .ref (ad 0 0)), (1, .int i1), (2, .int y99_2), (3, .int y99_3), (4, .int y99_4), (5, .int y99_5), (6, .int y116_6)]) hx hb dX12_isRing_153 hl (k := 7) rfl (by rw [ex_53806]; rfl) (by decide) rfl (fun ls hl => ?_)
                refine lv_goto (tgt := 116) hx hb dX12_isRing_156 (by decide) ?_
                exact ih116 _ (by rw [← hm116]; exact ms_up (m := 1) ex_53806 (show bn 1 1 (1 : Int32) from bn_k (by decide)) B_53790 (bn_w (bn_eq ex_53806 (bn_add B_53790 (show bn 1 1 (1 : Int32) from bn_k (by decide)) (by decide))) (by decide) : bn 0 14 x_53806) (by decide)) y116_6 x_53806  _ _ _  (bn_w b_y116_6 (by decide)) (bn_w (bn_eq ex_53806 (bn_add B_53790 (show bn 1 1 (1 : Int32) from bn_k (by decide)) (by decide))) (by decide)) rfl Y (lv_sub hl [1, 2, 3, 4, 5, 6, 7, 0] rfl)
              · refine lv_iload hx hb dX12_isRing_149 (lv_at hl 7 rfl) ?_
                refine lv_istore (lv' := [(6, .int y116_7), (0, .ref (ad 0 0)), (1, .int i1), (2, .int y99_2), (3, .int y99_3), (4, .int y99_4), (5, .int y99_5), (7, .int y116_7)]) hx hb dX12_isRing_151 hl (by decide) rfl (fun ls hl => ?_)
                obtain ⟨x_53807, ex_53807⟩ : ∃ z : Int32, z = y116_7 + 1 := ⟨_, rfl⟩
                refine lv_iinc (v := x_53807) (lv' := [(7, .int x_53807), (6, .int y116_7), (0, .ref (ad 0 0)), (1, .int i1), (2, .int y99_2), (3, .int y99_3), (4, .int y99_4), (5, .int y99_5)]) hx hb dX12_isRing_153 hl (k := 7) rfl (by rw [ex_53807]; rfl) (by decide) rfl (fun ls hl => ?_)
                refine lv_goto (tgt := 116) hx hb dX12_isRing_156 (by decide) ?_
                exact ih116 _ (by rw [← hm116]; exact ms_up (m := 1) ex_53807 (show bn 1 1 (1 : Int32) from bn_k (by decide)) B_53790 (bn_w (bn_eq ex_53807 (bn_add B_53790 (show bn 1 1 (1 : Int32) from bn_k (by decide)) (by decide))) (by decide) : bn 0 14 x_53807) (by decide)) y116_7 x_53807  _ _ _  (bn_w B_53790 (by decide)) (bn_w (bn_eq ex_53807 (bn_add B_53790 (show bn 1 1 (1 : Int32) from bn_k (by decide)) (by decide))) (by decide)) rfl Y (lv_sub hl [2, 3, 4, 5, 6, 7, 1, 0] rfl)
      refine lv_iload hx hb dX12_isRing_99 (lv_at hl 4 rfl) ?_
      refine lv_aload_n hx hb dX12_isRing_101 rfl (lv_at hl 0 rfl) ?_
      refine lv_iload_n hx hb dX12_isRing_102 rfl (lv_at hl 3 rfl) ?_
      refine lv_iconst (v := 0) hx hb dX12_isRing_103 (by decide) ?_
      refine cVp (As := [.int y99_3, .int 0]) (rest := [.int y99_4]) S Y (x_X12_get (l := l) I hB (bn_w b_y99_3 (by decide)) (bn_w (show bn 0 0 (0 : Int32) from bn_k (by decide)) (by decide))) cw_X12_get km12_73 (I.opo (k := 0) (j := 0) (by decide) rfl).choose_spec.1 ok_X12.1 rfl rfl ⟨Nat.le_of_ble_eq_true rfl, Nat.le_of_ble_eq_true rfl⟩ hl.1 rfl (Nat.le_of_ble_eq_true rfl) ⟨Nat.le_of_ble_eq_true rfl, Nat.le_of_ble_eq_true rfl⟩ dX12_isRing_104 (fun r_53808 H locs er_53808 Y => ?_)
      refine lv_icmp_eq (tgt := 191) hx hb dX12_isRing_107 (by decide) (fun c_53809 => ?_) (fun c_53809 => ?_)
      · refine lv_iload hx hb dX12_isRing_191 (lv_at hl 5 rfl) ?_
        refine lv_iload_n hx hb dX12_isRing_193 rfl (lv_at hl 1 rfl) ?_
        refine cSp (As := [.int i1]) (rest := [.int y99_5]) S Y (x_X12_bitsX (l := l) ) cw_X12_bits km12_268 rfl ⟨Nat.le_of_ble_eq_true rfl, Nat.le_of_ble_eq_true rfl⟩ hl.1 rfl (Nat.le_of_ble_eq_true rfl) ⟨Nat.le_of_ble_eq_true rfl, Nat.le_of_ble_eq_true rfl⟩ dX12_isRing_194 (fun r_53810 H locs er_53810 Y => ?_)
        refine lv_icmp_ne (tgt := 204) hx hb dX12_isRing_197 (by decide) (fun c_53811 => ?_) (fun c_53811 => ?_)
        · refine lv_iconst (v := 0) hx hb dX12_isRing_204 (by decide) ?_
          exact prI (post := fun r L1 f1 => (bn 0 1 r) ∧ L1 = L ∧ f1 = f) S Y rfl (by decide) (by decide) hA1 ⟨bn_w (show bn 0 0 (0 : Int32) from bn_k (by decide)) (by decide), rfl, rfl⟩ dX12_isRing_205
        · refine lv_iconst (v := 1) hx hb dX12_isRing_200 (by decide) ?_
          refine lv_goto (tgt := 205) hx hb dX12_isRing_201 (by decide) ?_
          exact prI (post := fun r L1 f1 => (bn 0 1 r) ∧ L1 = L ∧ f1 = f) S Y rfl (by decide) (by decide) hA1 ⟨bn_w (show bn 1 1 (1 : Int32) from bn_k (by decide)) (by decide), rfl, rfl⟩ dX12_isRing_205
      · refine lv_iconst (v := (-1)) hx hb dX12_isRing_110 (by decide) ?_
        refine lv_istore (lv' := [(6, .int (-1)), (0, .ref (ad 0 0)), (1, .int i1), (2, .int y99_2), (3, .int y99_3), (4, .int y99_4), (5, .int y99_5)]) hx hb dX12_isRing_111 hl (by decide) rfl (fun ls hl => ?_)
        refine lv_iconst (v := 0) hx hb dX12_isRing_113 (by decide) ?_
        refine lv_istore (lv' := [(7, .int 0), (6, .int (-1)), (0, .ref (ad 0 0)), (1, .int i1), (2, .int y99_2), (3, .int y99_3), (4, .int y99_4), (5, .int y99_5)]) hx hb dX12_isRing_114 hl (by decide) rfl (fun ls hl => ?_)
        exact J_116 _ (-1) 0  _ _ _  (bn_w (show bn (-1) (-1) ((-1) : Int32) from bn_k (by decide)) (by decide)) (bn_w (show bn 0 0 (0 : Int32) from bn_k (by decide)) (by decide)) rfl Y (lv_sub hl [2, 3, 4, 5, 6, 7, 1, 0] rfl)
  have J_15 : ∀ (n15 : Nat) (y15_2 y15_3 y15_4 : Int32) (H : Heap) (locs : List Loc) (ls : Array Slot), (bn (-1) 13 y15_3) → (bn (-1) 13 y15_4) → ((y15_4.toInt - ((-1) : Int)).toNat = n15) → (DY G A s [] L f H locs) → (lv_has ls 8 [(0, .ref (ad 0 0)), (1, .int i1), (2, .int y15_2), (3, .int y15_3), (4, .int y15_4)]) → W p l e (rmD 3 0 0) s m args below meth c H locs (0) (0) (MQ below (va_Qi (fun r (u : List Nat × HF) => (fun r L1 f1 => (bn 0 1 r) ∧ L1 = L ∧ f1 = f) r u.1 u.2) (fun u t => pOut G (va_A (va_pl L f) sz) u.1 u.2 t) (va_A (va_pl L f) sz)) args s 0 0 A) (F0 m 15 ls []) := by
    intro n15
    induction n15 using Nat.strongRecOn with
    | _ n15 ih15 =>
      intro y15_2 y15_3 y15_4 H locs ls b_y15_3 b_y15_4 hm15 Y hl
      refine lv_iload hx hb dX12_isRing_15 (lv_at hl 4 rfl) ?_
      refine lv_if_lt (tgt := 78) hx hb dX12_isRing_17 (by decide) (fun c_53812 => ?_) (fun c_53812 => ?_)
      · have B_53813 : bn (-1) (-1) y15_4 := bn_w (bn_ltl c_53812 b_y15_4 (show bn 0 0 (0 : Int32) from bn_k (by decide))) (by decide)
        refine lv_iload_n hx hb dX12_isRing_78 rfl (lv_at hl 1 rfl) ?_
        refine cSp (As := [.int i1]) (rest := []) S Y (x_X12_bitsX (l := l) ) cw_X12_bits km12_268 rfl ⟨Nat.le_of_ble_eq_true rfl, Nat.le_of_ble_eq_true rfl⟩ hl.1 rfl (Nat.le_of_ble_eq_true rfl) ⟨Nat.le_of_ble_eq_true rfl, Nat.le_of_ble_eq_true rfl⟩ dX12_isRing_79 (fun r_53815 H locs er_53815 Y => ?_)
        refine lv_iconst (v := 2) hx hb dX12_isRing_82 (by decide) ?_
        refine lv_icmp_ge (tgt := 88) hx hb dX12_isRing_83 (by decide) (fun c_53816 => ?_) (fun c_53816 => ?_)
        · have B_53817 : bn 2 2147483647 r_53815 := bn_w (bn_ler c_53816 (show bn 2 2 (2 : Int32) from bn_k (by decide)) (bn_any r_53815)) (by decide)
          refine lv_aload_n hx hb dX12_isRing_88 rfl (lv_at hl 0 rfl) ?_
          refine lv_iload_n hx hb dX12_isRing_89 rfl (lv_at hl 3 rfl) ?_
          refine lv_iconst (v := 1) hx hb dX12_isRing_90 (by decide) ?_
          refine cVp (As := [.int y15_3, .int 1]) (rest := []) S Y (x_X12_get (l := l) I hB (bn_w b_y15_3 (by decide)) (bn_w (show bn 1 1 (1 : Int32) from bn_k (by decide)) (by decide))) cw_X12_get km12_73 (I.opo (k := 0) (j := 0) (by decide) rfl).choose_spec.1 ok_X12.1 rfl rfl ⟨Nat.le_of_ble_eq_true rfl, Nat.le_of_ble_eq_true rfl⟩ hl.1 rfl (Nat.le_of_ble_eq_true rfl) ⟨Nat.le_of_ble_eq_true rfl, Nat.le_of_ble_eq_true rfl⟩ dX12_isRing_91 (fun r_53819 H locs er_53819 Y => ?_)
          refine lv_istore (lv' := [(4, .int r_53819), (0, .ref (ad 0 0)), (1, .int i1), (2, .int y15_2), (3, .int y15_3)]) hx hb dX12_isRing_94 hl (by decide) rfl (fun ls hl => ?_)
          refine lv_iconst (v := 1) hx hb dX12_isRing_96 (by decide) ?_
          refine lv_istore (lv' := [(5, .int 1), (4, .int r_53819), (0, .ref (ad 0 0)), (1, .int i1), (2, .int y15_2), (3, .int y15_3)]) hx hb dX12_isRing_97 hl (by decide) rfl (fun ls hl => ?_)
          exact J_99 _ y15_2 y15_3 r_53819 1  _ _ _  (bn_w b_y15_3 (by decide)) (bn_w (show bn 1 1 (1 : Int32) from bn_k (by decide)) (by decide)) (ge2_1 er_53815 (Int32.not_lt.mpr c_53816)) rfl Y (lv_sub hl [2, 3, 4, 5, 1, 0] rfl)
        · have B_53818 : bn (-2147483648) 1 r_53815 := bn_w (bn_gtr c_53816 (show bn 2 2 (2 : Int32) from bn_k (by decide)) (bn_any r_53815)) (by decide)
          refine lv_iconst (v := 0) hx hb dX12_isRing_86 (by decide) ?_
          exact prI (post := fun r L1 f1 => (bn 0 1 r) ∧ L1 = L ∧ f1 = f) S Y rfl (by decide) (by decide) hA1 ⟨bn_w (show bn 0 0 (0 : Int32) from bn_k (by decide)) (by decide), rfl, rfl⟩ dX12_isRing_87
      · have B_53814 : bn 0 13 y15_4 := bn_w (bn_gel c_53812 b_y15_4 (show bn 0 0 (0 : Int32) from bn_k (by decide))) (by decide)
        refine lv_iload_n hx hb dX12_isRing_20 rfl (lv_at hl 1 rfl) ?_
        refine lv_iload hx hb dX12_isRing_21 (lv_at hl 4 rfl) ?_
        refine cSp (As := [.int i1, .int y15_4]) (rest := []) S Y (x_X12_has (l := l) ) cw_X12_has km12_244 rfl ⟨Nat.le_of_ble_eq_true rfl, Nat.le_of_ble_eq_true rfl⟩ hl.1 rfl (Nat.le_of_ble_eq_true rfl) ⟨Nat.le_of_ble_eq_true rfl, Nat.le_of_ble_eq_true rfl⟩ dX12_isRing_23 (fun r_53820 H locs er_53820 Y => ?_)
        refine lv_if_ne (tgt := 32) hx hb dX12_isRing_26 (by decide) (fun c_53821 => ?_) (fun c_53821 => ?_)
        · have B_53822 : bn 1 1 r_53820 := bn_w (bn_nel c_53821 er_53820 (show bn 0 0 (0 : Int32) from bn_k (by decide))) (by decide)
          refine lv_aload_n hx hb dX12_isRing_32 rfl (lv_at hl 0 rfl) ?_
          refine lv_iload hx hb dX12_isRing_33 (lv_at hl 4 rfl) ?_
          refine cVp (As := [.int y15_4]) (rest := []) S Y (x_X12_isLink (l := l) I hB (bn_w B_53814 (by decide))) cw_X12_isLink km12_351 (I.opo (k := 0) (j := 0) (by decide) rfl).choose_spec.1 ok_X12.1 rfl rfl ⟨Nat.le_of_ble_eq_true rfl, Nat.le_of_ble_eq_true rfl⟩ hl.1 rfl (Nat.le_of_ble_eq_true rfl) ⟨Nat.le_of_ble_eq_true rfl, Nat.le_of_ble_eq_true rfl⟩ dX12_isRing_35 (fun r_53824 H locs er_53824 Y => ?_)
          refine lv_if_eq (tgt := 55) hx hb dX12_isRing_38 (by decide) (fun c_53825 => ?_) (fun c_53825 => ?_)
          · have B_53826 : bn 0 0 r_53824 := bn_w (bn_eq c_53825 (show bn 0 0 (0 : Int32) from bn_k (by decide))) (by decide)
            refine lv_iconst (v := 0) hx hb dX12_isRing_55 (by decide) ?_
            exact prI (post := fun r L1 f1 => (bn 0 1 r) ∧ L1 = L ∧ f1 = f) S Y rfl (by decide) (by decide) hA1 ⟨bn_w (show bn 0 0 (0 : Int32) from bn_k (by decide)) (by decide), rfl, rfl⟩ dX12_isRing_56
          · have B_53827 : bn 1 1 r_53824 := bn_w (bn_nel c_53825 er_53824 (show bn 0 0 (0 : Int32) from bn_k (by decide))) (by decide)
            refine lv_iload_n hx hb dX12_isRing_41 rfl (lv_at hl 2 rfl) ?_
            refine lv_aload_n hx hb dX12_isRing_42 rfl (lv_at hl 0 rfl) ?_
            refine lv_iload hx hb dX12_isRing_43 (lv_at hl 4 rfl) ?_
            refine lv_iconst (v := 0) hx hb dX12_isRing_45 (by decide) ?_
            refine cVp (As := [.int y15_4, .int 0]) (rest := [.int y15_2]) S Y (x_X12_get (l := l) I hB (bn_w B_53814 (by decide)) (bn_w (show bn 0 0 (0 : Int32) from bn_k (by decide)) (by decide))) cw_X12_get km12_73 (I.opo (k := 0) (j := 0) (by decide) rfl).choose_spec.1 ok_X12.1 rfl rfl ⟨Nat.le_of_ble_eq_true rfl, Nat.le_of_ble_eq_true rfl⟩ hl.1 rfl (Nat.le_of_ble_eq_true rfl) ⟨Nat.le_of_ble_eq_true rfl, Nat.le_of_ble_eq_true rfl⟩ dX12_isRing_46 (fun r_53828 H locs er_53828 Y => ?_)
            refine cSp (As := [.int y15_2, .int r_53828]) (rest := []) S Y (x_X12_has (l := l) ) cw_X12_has km12_244 rfl ⟨Nat.le_of_ble_eq_true rfl, Nat.le_of_ble_eq_true rfl⟩ hl.1 rfl (Nat.le_of_ble_eq_true rfl) ⟨Nat.le_of_ble_eq_true rfl, Nat.le_of_ble_eq_true rfl⟩ dX12_isRing_49 (fun r_53829 H locs er_53829 Y => ?_)
            refine lv_if_eq (tgt := 57) hx hb dX12_isRing_52 (by decide) (fun c_53830 => ?_) (fun c_53830 => ?_)
            · have B_53831 : bn 0 0 r_53829 := bn_w (bn_eq c_53830 (show bn 0 0 (0 : Int32) from bn_k (by decide))) (by decide)
              refine lv_iload_n hx hb dX12_isRing_57 rfl (lv_at hl 2 rfl) ?_
              refine lv_iconst (v := 1) hx hb dX12_isRing_58 (by decide) ?_
              refine lv_aload_n hx hb dX12_isRing_59 rfl (lv_at hl 0 rfl) ?_
              refine lv_iload hx hb dX12_isRing_60 (lv_at hl 4 rfl) ?_
              refine lv_iconst (v := 0) hx hb dX12_isRing_62 (by decide) ?_
              refine cVp (As := [.int y15_4, .int 0]) (rest := [.int 1, .int y15_2]) S Y (x_X12_get (l := l) I hB (bn_w B_53814 (by decide)) (bn_w (show bn 0 0 (0 : Int32) from bn_k (by decide)) (by decide))) cw_X12_get km12_73 (I.opo (k := 0) (j := 0) (by decide) rfl).choose_spec.1 ok_X12.1 rfl rfl ⟨Nat.le_of_ble_eq_true rfl, Nat.le_of_ble_eq_true rfl⟩ hl.1 rfl (Nat.le_of_ble_eq_true rfl) ⟨Nat.le_of_ble_eq_true rfl, Nat.le_of_ble_eq_true rfl⟩ dX12_isRing_63 (fun r_53833 H locs er_53833 Y => ?_)
              refine lv_ishl hx hb dX12_isRing_66 ?_
              refine lv_topi (fun x_53834 ex_53834 => ?_)
              refine lv_ior hx hb dX12_isRing_67 ?_
              refine lv_topi (fun x_53835 ex_53835 => ?_)
              refine lv_istore_n (lv' := [(2, .int x_53835), (0, .ref (ad 0 0)), (1, .int i1), (3, .int y15_3), (4, .int y15_4)]) hx hb dX12_isRing_68 rfl hl (by decide) rfl (fun ls hl => ?_)
              refine lv_iload hx hb dX12_isRing_69 (lv_at hl 4 rfl) ?_
              refine lv_istore_n (lv' := [(3, .int y15_4), (2, .int x_53835), (0, .ref (ad 0 0)), (1, .int i1), (4, .int y15_4)]) hx hb dX12_isRing_71 rfl hl (by decide) rfl (fun ls hl => ?_)
              obtain ⟨x_53836, ex_53836⟩ : ∃ z : Int32, z = y15_4 + (-1) := ⟨_, rfl⟩
              refine lv_iinc (v := x_53836) (lv' := [(4, .int x_53836), (3, .int y15_4), (2, .int x_53835), (0, .ref (ad 0 0)), (1, .int i1)]) hx hb dX12_isRing_72 hl (k := 4) rfl (by rw [ex_53836]; rfl) (by decide) rfl (fun ls hl => ?_)
              refine lv_goto (tgt := 15) hx hb dX12_isRing_75 (by decide) ?_
              exact ih15 _ (by rw [← hm15]; exact ms_dn (m := (-1)) ex_53836 (show bn (-1) (-1) ((-1) : Int32) from bn_k (by decide)) B_53814 (bn_w (bn_eq ex_53836 (bn_add B_53814 (show bn (-1) (-1) ((-1) : Int32) from bn_k (by decide)) (by decide))) (by decide) : bn (-1) 13 x_53836) (by decide)) x_53835 y15_4 x_53836  _ _ _  (bn_w B_53814 (by decide)) (bn_w (bn_eq ex_53836 (bn_add B_53814 (show bn (-1) (-1) ((-1) : Int32) from bn_k (by decide)) (by decide))) (by decide)) rfl Y (lv_sub hl [3, 4, 2, 1, 0] rfl)
            · have B_53832 : bn 1 1 r_53829 := bn_w (bn_nel c_53830 er_53829 (show bn 0 0 (0 : Int32) from bn_k (by decide))) (by decide)
              refine lv_iconst (v := 0) hx hb dX12_isRing_55 (by decide) ?_
              exact prI (post := fun r L1 f1 => (bn 0 1 r) ∧ L1 = L ∧ f1 = f) S Y rfl (by decide) (by decide) hA1 ⟨bn_w (show bn 0 0 (0 : Int32) from bn_k (by decide)) (by decide), rfl, rfl⟩ dX12_isRing_56
        · have B_53823 : bn 0 0 r_53820 := bn_w (bn_eq c_53821 (show bn 0 0 (0 : Int32) from bn_k (by decide))) (by decide)
          refine lv_goto (tgt := 72) hx hb dX12_isRing_29 (by decide) ?_
          obtain ⟨x_53837, ex_53837⟩ : ∃ z : Int32, z = y15_4 + (-1) := ⟨_, rfl⟩
          refine lv_iinc (v := x_53837) (lv' := [(4, .int x_53837), (0, .ref (ad 0 0)), (1, .int i1), (2, .int y15_2), (3, .int y15_3)]) hx hb dX12_isRing_72 hl (k := 4) rfl (by rw [ex_53837]; rfl) (by decide) rfl (fun ls hl => ?_)
          refine lv_goto (tgt := 15) hx hb dX12_isRing_75 (by decide) ?_
          exact ih15 _ (by rw [← hm15]; exact ms_dn (m := (-1)) ex_53837 (show bn (-1) (-1) ((-1) : Int32) from bn_k (by decide)) B_53814 (bn_w (bn_eq ex_53837 (bn_add B_53814 (show bn (-1) (-1) ((-1) : Int32) from bn_k (by decide)) (by decide))) (by decide) : bn (-1) 13 x_53837) (by decide)) y15_2 y15_3 x_53837  _ _ _  (bn_w b_y15_3 (by decide)) (bn_w (bn_eq ex_53837 (bn_add B_53814 (show bn (-1) (-1) ((-1) : Int32) from bn_k (by decide)) (by decide))) (by decide)) rfl Y (lv_sub hl [1, 2, 3, 4, 0] rfl)
  refine lv_iconst (v := 0) hx hb dX12_isRing_0 (by decide) ?_
  refine lv_istore_n (lv' := [(2, .int 0), (0, .ref (ad 0 0)), (1, .int i1)]) hx hb dX12_isRing_1 rfl hl (by decide) rfl (fun ls hl => ?_)
  refine lv_iconst (v := (-1)) hx hb dX12_isRing_2 (by decide) ?_
  refine lv_istore_n (lv' := [(3, .int (-1)), (2, .int 0), (0, .ref (ad 0 0)), (1, .int i1)]) hx hb dX12_isRing_3 rfl hl (by decide) rfl (fun ls hl => ?_)
  refine lv_aload_n hx hb dX12_isRing_4 rfl (lv_at hl 2 rfl) ?_
  obtain ⟨v_53838, v_53840, v_53842, v_53844, v_53846, v_53848, v_53850, v_53852, v_53853, v_53855, v_53857, v_53859, v_53861, v_53863, v_53865, v_53867, v_53869, v_53871, p_ad_0_0, b_53839, b_53841, b_53843, b_53845, b_53847, b_53849, b_53851, b_53854, b_53856, b_53858, b_53860, b_53862, b_53864, b_53866, b_53868, b_53870, b_53872⟩ := opnM_0 (j := 0) I (by decide)
  have p_ad_0_0 : pt L f (ad 0 0) (.inr (12, [.ref (ad 1 0), .ref (ad 2 0), .ref (ad 3 0), .ref (ad 4 0), .int v_53838, .int v_53840, .int v_53842, .int v_53844, .int v_53846, .int v_53848, .int v_53850, .long v_53852, .int v_53853, .int v_53855, .int v_53857, .ref (ad 5 0), .ref (ad 6 0), .int v_53859, .int v_53861, .int v_53863, .int v_53865, .int v_53867, .ref (ad 7 0), .ref (ad 8 0), .ref (ad 9 0), .int v_53869, .ref (ad 10 0), .ref (ad 11 0), .ref (ad 12 0), .ref (ad 13 0), .int v_53871, .ref (ad 14 0)])) := p_ad_0_0
  refine pg_get S Y ok_X12 0 (by decide) kf12_7 (v := .ref (ad 1 0)) p_ad_0_0 rfl dX12_isRing_5 ?_
  refine lv_bipush (v := 13) hx hb dX12_isRing_8 (by decide) ?_
  obtain ⟨g_53873, p_ad_1_0, o_53874⟩ := I.opi (k := 1) (j := 0) (by decide) rfl
  have p_ad_1_0 : pt L f (ad 1 0) (.inl (G.2 0, 10568, .inl g_53873)) := p_ad_1_0
  obtain ⟨v_53875, ev_53875⟩ : ∃ z, z = g_53873 (13 : Int32).toNatClampNeg := ⟨_, rfl⟩
  refine pg_iald S Y (v := v_53875) p_ad_1_0 (by unfold vp_in; decide) ev_53875.symm dX12_isRing_10 ?_
  have bv_53875 : bn 0 14 v_53875 := bn_eq ev_53875 (IA_13 o_53874)
  refine lv_iconst (v := 1) hx hb dX12_isRing_11 (by decide) ?_
  refine lv_isub hx hb dX12_isRing_12 ?_
  refine lv_topi (fun x_53876 ex_53876 => ?_)
  refine lv_istore (lv' := [(4, .int x_53876), (3, .int (-1)), (2, .int 0), (0, .ref (ad 0 0)), (1, .int i1)]) hx hb dX12_isRing_13 hl (by decide) rfl (fun ls hl => ?_)
  exact J_15 _ 0 (-1) x_53876  _ _ _  (bn_w (show bn (-1) (-1) ((-1) : Int32) from bn_k (by decide)) (by decide)) (bn_w (bn_eq ex_53876 (bn_sub bv_53875 (show bn 1 1 (1 : Int32) from bn_k (by decide)) (by decide))) (by decide)) rfl Y (lv_sub hl [3, 4, 2, 1, 0] rfl)
set_option maxHeartbeats 4000000 in
set_option maxRecDepth 100000 in
theorem x_X12_strike {l : Launch} {G : GG}  {L : List Nat} {f : HF} {ad : Nat → Nat → Nat} {w : WW} {pi : PIT} {g0 : Nat → Int32} {i1 : Int32} (I : SH (spM (IA 0 0 14 9999 w) pi (EQ g0) LDa) nnM G ad L f) (hB : BBp 0 0 14 9999 w) (hX : TX g0) : PMi l yX12_strike cX12_strike 4 .int 4 0 0 G [.ref (ad 0 0), .int i1] L f (fun r L1 f1 => SH (spM (IA 0 0 14 9999 w) pi (EQ g0) LDa) nnM G ad L1 f1) := by
  refine PMi.of (post := fun r L1 f1 => SH (spM (IA 0 0 14 9999 w) pi (EQ g0) LDa) nnM G ad L1 f1) (own := RX12) (by decide) rfl (Nat.le_of_ble_eq_true rfl) (fun sz p e s m args below meth c A ls hA1 hname S Y hl => ?_)
  have hx := S.hx
  have hb := S.hb
  have hl : lv_has ls 4 [(0, .ref (ad 0 0)), (1, .int i1)] := hl
  have J_82 : ∀ (n82 : Nat) (y82_2 y82_3 : Int32) (L_82 : List Nat) (f_82 : HF) (H : Heap) (locs : List Loc) (ls : Array Slot), (SH (spM (IA 0 0 14 9999 w) pi (EQ g0) LDa) nnM G ad L_82 f_82) → (bn 0 14 y82_3) → (bn 1 16383 i1) → (((14 : Int) - y82_3.toInt).toNat = n82) → (DY G A s [] L_82 f_82 H locs) → (lv_has ls 4 [(0, .ref (ad 0 0)), (1, .int i1), (2, .int y82_2), (3, .int y82_3)]) → W p l e (rmD 4 0 0) s m args below meth c H locs (0) (0) (MQ below (va_Qi (fun r (u : List Nat × HF) => (fun r L1 f1 => SH (spM (IA 0 0 14 9999 w) pi (EQ g0) LDa) nnM G ad L1 f1) r u.1 u.2) (fun u t => pOut G (va_A (va_pl L f) sz) u.1 u.2 t) (va_A (va_pl L f) sz)) args s 0 0 A) (F0 m 82 ls []) := by
    intro n82
    induction n82 using Nat.strongRecOn with
    | _ n82 ih82 =>
      intro y82_2 y82_3 L_82 f_82 H locs ls I b_y82_3 b82_i1 hm82 Y hl
      refine lv_iload_n hx hb dX12_strike_82 rfl (lv_at hl 3 rfl) ?_
      refine lv_aload_n hx hb dX12_strike_83 rfl (lv_at hl 0 rfl) ?_
      obtain ⟨v_55519, v_55521, v_55523, v_55525, v_55527, v_55529, v_55531, v_55533, v_55534, v_55536, v_55538, v_55540, v_55542, v_55544, v_55546, v_55548, v_55550, v_55552, p_ad_0_0, b_55520, b_55522, b_55524, b_55526, b_55528, b_55530, b_55532, b_55535, b_55537, b_55539, b_55541, b_55543, b_55545, b_55547, b_55549, b_55551, b_55553⟩ := opnM_0 (j := 0) I (by decide)
      have p_ad_0_0 : pt L_82 f_82 (ad 0 0) (.inr (12, [.ref (ad 1 0), .ref (ad 2 0), .ref (ad 3 0), .ref (ad 4 0), .int v_55519, .int v_55521, .int v_55523, .int v_55525, .int v_55527, .int v_55529, .int v_55531, .long v_55533, .int v_55534, .int v_55536, .int v_55538, .ref (ad 5 0), .ref (ad 6 0), .int v_55540, .int v_55542, .int v_55544, .int v_55546, .int v_55548, .ref (ad 7 0), .ref (ad 8 0), .ref (ad 9 0), .int v_55550, .ref (ad 10 0), .ref (ad 11 0), .ref (ad 12 0), .ref (ad 13 0), .int v_55552, .ref (ad 14 0)])) := p_ad_0_0
      refine pg_get S Y ok_X12 0 (by decide) kf12_7 (v := .ref (ad 1 0)) p_ad_0_0 rfl dX12_strike_84 ?_
      refine lv_bipush (v := 13) hx hb dX12_strike_87 (by decide) ?_
      obtain ⟨g_55554, p_ad_1_0, o_55555⟩ := I.opi (k := 1) (j := 0) (by decide) rfl
      have p_ad_1_0 : pt L_82 f_82 (ad 1 0) (.inl (G.2 0, 10568, .inl g_55554)) := p_ad_1_0
      obtain ⟨v_55556, ev_55556⟩ : ∃ z, z = g_55554 (13 : Int32).toNatClampNeg := ⟨_, rfl⟩
      refine pg_iald S Y (v := v_55556) p_ad_1_0 (by unfold vp_in; decide) ev_55556.symm dX12_strike_89 ?_
      have bv_55556 : bn 0 14 v_55556 := bn_eq ev_55556 (IA_13 o_55555)
      refine lv_icmp_ge (tgt := 140) hx hb dX12_strike_90 (by decide) (fun c_55557 => ?_) (fun c_55557 => ?_)
      · refine lv_iload_n hx hb dX12_strike_140 rfl (lv_at hl 2 rfl) ?_
        exact prI (post := fun r L1 f1 => SH (spM (IA 0 0 14 9999 w) pi (EQ g0) LDa) nnM G ad L1 f1) S Y rfl (by decide) (by decide) hA1 I dX12_strike_141
      · have B_55558 : bn 1 14 v_55556 := bn_w (bn_gtl c_55557 bv_55556 b_y82_3) (by decide)
        have B_55559 : bn 0 13 y82_3 := bn_w (bn_gtr c_55557 bv_55556 b_y82_3) (by decide)
        refine lv_iload_n hx hb dX12_strike_93 rfl (lv_at hl 1 rfl) ?_
        refine lv_iload_n hx hb dX12_strike_94 rfl (lv_at hl 3 rfl) ?_
        refine cSp (As := [.int i1, .int y82_3]) (rest := []) S Y (x_X12_has (l := l) ) cw_X12_has km12_244 rfl ⟨Nat.le_of_ble_eq_true rfl, Nat.le_of_ble_eq_true rfl⟩ hl.1 rfl (Nat.le_of_ble_eq_true rfl) ⟨Nat.le_of_ble_eq_true rfl, Nat.le_of_ble_eq_true rfl⟩ dX12_strike_95 (fun r_55560 H locs er_55560 Y => ?_)
        refine lv_if_ne (tgt := 104) hx hb dX12_strike_98 (by decide) (fun c_55561 => ?_) (fun c_55561 => ?_)
        · have B_55562 : bn 1 1 r_55560 := bn_w (bn_nel c_55561 er_55560 (show bn 0 0 (0 : Int32) from bn_k (by decide))) (by decide)
          refine lv_aload_n hx hb dX12_strike_104 rfl (lv_at hl 0 rfl) ?_
          refine lv_iload_n hx hb dX12_strike_105 rfl (lv_at hl 3 rfl) ?_
          refine lv_iconst (v := 3) hx hb dX12_strike_106 (by decide) ?_
          refine lv_aload_n hx hb dX12_strike_107 rfl (lv_at hl 0 rfl) ?_
          refine lv_iload_n hx hb dX12_strike_108 rfl (lv_at hl 3 rfl) ?_
          refine lv_iconst (v := 3) hx hb dX12_strike_109 (by decide) ?_
          refine cVp (As := [.int y82_3, .int 3]) (rest := [.int 3, .int y82_3, .ref (ad 0 0)]) S Y (x_X12_get (l := l) I hB (bn_w B_55559 (by decide)) (bn_w (show bn 3 3 (3 : Int32) from bn_k (by decide)) (by decide))) cw_X12_get km12_73 p_ad_0_0 ok_X12.1 rfl rfl ⟨Nat.le_of_ble_eq_true rfl, Nat.le_of_ble_eq_true rfl⟩ hl.1 rfl (Nat.le_of_ble_eq_true rfl) ⟨Nat.le_of_ble_eq_true rfl, Nat.le_of_ble_eq_true rfl⟩ dX12_strike_110 (fun r_55564 H locs er_55564 Y => ?_)
          refine lv_iload_n hx hb dX12_strike_113 rfl (lv_at hl 2 rfl) ?_
          refine lv_isub hx hb dX12_strike_114 ?_
          refine lv_topi (fun x_55565 ex_55565 => ?_)
          refine cVv (As := [.int y82_3, .int 3, .int x_55565]) (rest := []) S Y (x_X12_put (l := l) I hB (bn_w B_55559 (by decide)) (bn_w (show bn 3 3 (3 : Int32) from bn_k (by decide)) (by decide)) (fun h => absurd h (by decide))) cw_X12_put km12_326 p_ad_0_0 ok_X12.1 rfl rfl ⟨Nat.le_of_ble_eq_true rfl, Nat.le_of_ble_eq_true rfl⟩ hl.1 rfl (Nat.le_of_ble_eq_true rfl) ⟨Nat.le_of_ble_eq_true rfl, Nat.le_of_ble_eq_true rfl⟩ dX12_strike_115 (fun L_55566 f_55567 H locs I Y => ?_)
          refine lv_aload_n hx hb dX12_strike_118 rfl (lv_at hl 0 rfl) ?_
          refine lv_iload_n hx hb dX12_strike_119 rfl (lv_at hl 3 rfl) ?_
          refine lv_iconst (v := 3) hx hb dX12_strike_120 (by decide) ?_
          refine cVp (As := [.int y82_3, .int 3]) (rest := []) S Y (x_X12_get (l := l) I hB (bn_w B_55559 (by decide)) (bn_w (show bn 3 3 (3 : Int32) from bn_k (by decide)) (by decide))) cw_X12_get km12_73 (I.opo (k := 0) (j := 0) (by decide) rfl).choose_spec.1 ok_X12.1 rfl rfl ⟨Nat.le_of_ble_eq_true rfl, Nat.le_of_ble_eq_true rfl⟩ hl.1 rfl (Nat.le_of_ble_eq_true rfl) ⟨Nat.le_of_ble_eq_true rfl, Nat.le_of_ble_eq_true rfl⟩ dX12_strike_121 (fun r_55568 H locs er_55568 Y => ?_)
          refine lv_if_ne (tgt := 134) hx hb dX12_strike_124 (by decide) (fun c_55569 => ?_) (fun c_55569 => ?_)
          · obtain ⟨x_55571, ex_55571⟩ : ∃ z : Int32, z = y82_3 + 1 := ⟨_, rfl⟩
            refine lv_iinc (v := x_55571) (lv' := [(3, .int x_55571), (0, .ref (ad 0 0)), (1, .int i1), (2, .int y82_2)]) hx hb dX12_strike_134 hl (k := 3) rfl (by rw [ex_55571]; rfl) (by decide) rfl (fun ls hl => ?_)
            refine lv_goto (tgt := 82) hx hb dX12_strike_137 (by decide) ?_
            exact ih82 _ (by rw [← hm82]; exact ms_up (m := 1) ex_55571 (show bn 1 1 (1 : Int32) from bn_k (by decide)) B_55559 (bn_w (bn_eq ex_55571 (bn_add B_55559 (show bn 1 1 (1 : Int32) from bn_k (by decide)) (by decide))) (by decide) : bn 0 14 x_55571) (by decide)) y82_2 x_55571 _ _  _ _ _ I (bn_w (bn_eq ex_55571 (bn_add B_55559 (show bn 1 1 (1 : Int32) from bn_k (by decide)) (by decide))) (by decide)) (bn_w b82_i1 (by decide)) rfl Y (lv_sub hl [1, 2, 3, 0] rfl)
          · have B_55570 : bn 0 0 r_55568 := bn_w (bn_eq c_55569 (show bn 0 0 (0 : Int32) from bn_k (by decide))) (by decide)
            refine lv_aload_n hx hb dX12_strike_127 rfl (lv_at hl 0 rfl) ?_
            refine lv_iload_n hx hb dX12_strike_128 rfl (lv_at hl 3 rfl) ?_
            refine lv_iconst (v := 4) hx hb dX12_strike_129 (by decide) ?_
            refine lv_iconst (v := 2) hx hb dX12_strike_130 (by decide) ?_
            refine cVv (As := [.int y82_3, .int 4, .int 2]) (rest := []) S Y (x_X12_put (l := l) I hB (bn_w B_55559 (by decide)) (bn_w (show bn 4 4 (4 : Int32) from bn_k (by decide)) (by decide)) (fun h => absurd h (by decide))) cw_X12_put km12_326 (I.opo (k := 0) (j := 0) (by decide) rfl).choose_spec.1 ok_X12.1 rfl rfl ⟨Nat.le_of_ble_eq_true rfl, Nat.le_of_ble_eq_true rfl⟩ hl.1 rfl (Nat.le_of_ble_eq_true rfl) ⟨Nat.le_of_ble_eq_true rfl, Nat.le_of_ble_eq_true rfl⟩ dX12_strike_131 (fun L_55572 f_55573 H locs I Y => ?_)
            obtain ⟨x_55574, ex_55574⟩ : ∃ z : Int32, z = y82_3 + 1 := ⟨_, rfl⟩
            refine lv_iinc (v := x_55574) (lv' := [(3, .int x_55574), (0, .ref (ad 0 0)), (1, .int i1), (2, .int y82_2)]) hx hb dX12_strike_134 hl (k := 3) rfl (by rw [ex_55574]; rfl) (by decide) rfl (fun ls hl => ?_)
            refine lv_goto (tgt := 82) hx hb dX12_strike_137 (by decide) ?_
            exact ih82 _ (by rw [← hm82]; exact ms_up (m := 1) ex_55574 (show bn 1 1 (1 : Int32) from bn_k (by decide)) B_55559 (bn_w (bn_eq ex_55574 (bn_add B_55559 (show bn 1 1 (1 : Int32) from bn_k (by decide)) (by decide))) (by decide) : bn 0 14 x_55574) (by decide)) y82_2 x_55574 _ _  _ _ _ I (bn_w (bn_eq ex_55574 (bn_add B_55559 (show bn 1 1 (1 : Int32) from bn_k (by decide)) (by decide))) (by decide)) (bn_w b82_i1 (by decide)) rfl Y (lv_sub hl [1, 2, 3, 0] rfl)
        · have B_55563 : bn 0 0 r_55560 := bn_w (bn_eq c_55561 (show bn 0 0 (0 : Int32) from bn_k (by decide))) (by decide)
          refine lv_goto (tgt := 134) hx hb dX12_strike_101 (by decide) ?_
          obtain ⟨x_55575, ex_55575⟩ : ∃ z : Int32, z = y82_3 + 1 := ⟨_, rfl⟩
          refine lv_iinc (v := x_55575) (lv' := [(3, .int x_55575), (0, .ref (ad 0 0)), (1, .int i1), (2, .int y82_2)]) hx hb dX12_strike_134 hl (k := 3) rfl (by rw [ex_55575]; rfl) (by decide) rfl (fun ls hl => ?_)
          refine lv_goto (tgt := 82) hx hb dX12_strike_137 (by decide) ?_
          exact ih82 _ (by rw [← hm82]; exact ms_up (m := 1) ex_55575 (show bn 1 1 (1 : Int32) from bn_k (by decide)) B_55559 (bn_w (bn_eq ex_55575 (bn_add B_55559 (show bn 1 1 (1 : Int32) from bn_k (by decide)) (by decide))) (by decide) : bn 0 14 x_55575) (by decide)) y82_2 x_55575 _ _  _ _ _ I (bn_w (bn_eq ex_55575 (bn_add B_55559 (show bn 1 1 (1 : Int32) from bn_k (by decide)) (by decide))) (by decide)) (bn_w b82_i1 (by decide)) rfl Y (lv_sub hl [1, 2, 3, 0] rfl)
  have J_38 : ∀ (n38 : Nat) (y38_2 y38_3 : Int32) (L_38 : List Nat) (f_38 : HF) (H : Heap) (locs : List Loc) (ls : Array Slot), (SH (spM (IA 0 0 14 9999 w) pi (EQ g0) LDa) nnM G ad L_38 f_38) → (bn 0 14 y38_3) → (bn 1 16383 i1) → (((14 : Int) - y38_3.toInt).toNat = n38) → (DY G A s [] L_38 f_38 H locs) → (lv_has ls 4 [(0, .ref (ad 0 0)), (1, .int i1), (2, .int y38_2), (3, .int y38_3)]) → W p l e (rmD 4 0 0) s m args below meth c H locs (0) (0) (MQ below (va_Qi (fun r (u : List Nat × HF) => (fun r L1 f1 => SH (spM (IA 0 0 14 9999 w) pi (EQ g0) LDa) nnM G ad L1 f1) r u.1 u.2) (fun u t => pOut G (va_A (va_pl L f) sz) u.1 u.2 t) (va_A (va_pl L f) sz)) args s 0 0 A) (F0 m 38 ls []) := by
    intro n38
    induction n38 using Nat.strongRecOn with
    | _ n38 ih38 =>
      intro y38_2 y38_3 L_38 f_38 H locs ls I b_y38_3 b38_i1 hm38 Y hl
      refine lv_iload_n hx hb dX12_strike_38 rfl (lv_at hl 3 rfl) ?_
      refine lv_aload_n hx hb dX12_strike_39 rfl (lv_at hl 0 rfl) ?_
      obtain ⟨v_55576, v_55578, v_55580, v_55582, v_55584, v_55586, v_55588, v_55590, v_55591, v_55593, v_55595, v_55597, v_55599, v_55601, v_55603, v_55605, v_55607, v_55609, p_ad_0_0, b_55577, b_55579, b_55581, b_55583, b_55585, b_55587, b_55589, b_55592, b_55594, b_55596, b_55598, b_55600, b_55602, b_55604, b_55606, b_55608, b_55610⟩ := opnM_0 (j := 0) I (by decide)
      have p_ad_0_0 : pt L_38 f_38 (ad 0 0) (.inr (12, [.ref (ad 1 0), .ref (ad 2 0), .ref (ad 3 0), .ref (ad 4 0), .int v_55576, .int v_55578, .int v_55580, .int v_55582, .int v_55584, .int v_55586, .int v_55588, .long v_55590, .int v_55591, .int v_55593, .int v_55595, .ref (ad 5 0), .ref (ad 6 0), .int v_55597, .int v_55599, .int v_55601, .int v_55603, .int v_55605, .ref (ad 7 0), .ref (ad 8 0), .ref (ad 9 0), .int v_55607, .ref (ad 10 0), .ref (ad 11 0), .ref (ad 12 0), .ref (ad 13 0), .int v_55609, .ref (ad 14 0)])) := p_ad_0_0
      refine pg_get S Y ok_X12 0 (by decide) kf12_7 (v := .ref (ad 1 0)) p_ad_0_0 rfl dX12_strike_40 ?_
      refine lv_bipush (v := 13) hx hb dX12_strike_43 (by decide) ?_
      obtain ⟨g_55611, p_ad_1_0, o_55612⟩ := I.opi (k := 1) (j := 0) (by decide) rfl
      have p_ad_1_0 : pt L_38 f_38 (ad 1 0) (.inl (G.2 0, 10568, .inl g_55611)) := p_ad_1_0
      obtain ⟨v_55613, ev_55613⟩ : ∃ z, z = g_55611 (13 : Int32).toNatClampNeg := ⟨_, rfl⟩
      refine pg_iald S Y (v := v_55613) p_ad_1_0 (by unfold vp_in; decide) ev_55613.symm dX12_strike_45 ?_
      have bv_55613 : bn 0 14 v_55613 := bn_eq ev_55613 (IA_13 o_55612)
      refine lv_icmp_ge (tgt := 80) hx hb dX12_strike_46 (by decide) (fun c_55614 => ?_) (fun c_55614 => ?_)
      · refine lv_iconst (v := 0) hx hb dX12_strike_80 (by decide) ?_
        refine lv_istore_n (lv' := [(3, .int 0), (0, .ref (ad 0 0)), (1, .int i1), (2, .int y38_2)]) hx hb dX12_strike_81 rfl hl (by decide) rfl (fun ls hl => ?_)
        exact J_82 _ y38_2 0 _ _  _ _ _ I (bn_w (show bn 0 0 (0 : Int32) from bn_k (by decide)) (by decide)) (bn_w b38_i1 (by decide)) rfl Y (lv_sub hl [1, 2, 3, 0] rfl)
      · have B_55615 : bn 1 14 v_55613 := bn_w (bn_gtl c_55614 bv_55613 b_y38_3) (by decide)
        have B_55616 : bn 0 13 y38_3 := bn_w (bn_gtr c_55614 bv_55613 b_y38_3) (by decide)
        refine lv_iload_n hx hb dX12_strike_49 rfl (lv_at hl 1 rfl) ?_
        refine lv_iload_n hx hb dX12_strike_50 rfl (lv_at hl 3 rfl) ?_
        refine cSp (As := [.int i1, .int y38_3]) (rest := []) S Y (x_X12_has (l := l) ) cw_X12_has km12_244 rfl ⟨Nat.le_of_ble_eq_true rfl, Nat.le_of_ble_eq_true rfl⟩ hl.1 rfl (Nat.le_of_ble_eq_true rfl) ⟨Nat.le_of_ble_eq_true rfl, Nat.le_of_ble_eq_true rfl⟩ dX12_strike_51 (fun r_55617 H locs er_55617 Y => ?_)
        refine lv_if_eq (tgt := 74) hx hb dX12_strike_54 (by decide) (fun c_55618 => ?_) (fun c_55618 => ?_)
        · have B_55619 : bn 0 0 r_55617 := bn_w (bn_eq c_55618 (show bn 0 0 (0 : Int32) from bn_k (by decide))) (by decide)
          obtain ⟨x_55621, ex_55621⟩ : ∃ z : Int32, z = y38_3 + 1 := ⟨_, rfl⟩
          refine lv_iinc (v := x_55621) (lv' := [(3, .int x_55621), (0, .ref (ad 0 0)), (1, .int i1), (2, .int y38_2)]) hx hb dX12_strike_74 hl (k := 3) rfl (by rw [ex_55621]; rfl) (by decide) rfl (fun ls hl => ?_)
          refine lv_goto (tgt := 38) hx hb dX12_strike_77 (by decide) ?_
          exact ih38 _ (by rw [← hm38]; exact ms_up (m := 1) ex_55621 (show bn 1 1 (1 : Int32) from bn_k (by decide)) B_55616 (bn_w (bn_eq ex_55621 (bn_add B_55616 (show bn 1 1 (1 : Int32) from bn_k (by decide)) (by decide))) (by decide) : bn 0 14 x_55621) (by decide)) y38_2 x_55621 _ _  _ _ _ I (bn_w (bn_eq ex_55621 (bn_add B_55616 (show bn 1 1 (1 : Int32) from bn_k (by decide)) (by decide))) (by decide)) (bn_w b38_i1 (by decide)) rfl Y (lv_sub hl [1, 2, 3, 0] rfl)
        · have B_55620 : bn 1 1 r_55617 := bn_w (bn_nel c_55618 er_55617 (show bn 0 0 (0 : Int32) from bn_k (by decide))) (by decide)
          refine lv_aload_n hx hb dX12_strike_57 rfl (lv_at hl 0 rfl) ?_
          refine lv_iload_n hx hb dX12_strike_58 rfl (lv_at hl 3 rfl) ?_
          refine lv_iconst (v := 3) hx hb dX12_strike_59 (by decide) ?_
          refine cVp (As := [.int y38_3, .int 3]) (rest := []) S Y (x_X12_get (l := l) I hB (bn_w B_55616 (by decide)) (bn_w (show bn 3 3 (3 : Int32) from bn_k (by decide)) (by decide))) cw_X12_get km12_73 p_ad_0_0 ok_X12.1 rfl rfl ⟨Nat.le_of_ble_eq_true rfl, Nat.le_of_ble_eq_true rfl⟩ hl.1 rfl (Nat.le_of_ble_eq_true rfl) ⟨Nat.le_of_ble_eq_true rfl, Nat.le_of_ble_eq_true rfl⟩ dX12_strike_60 (fun r_55622 H locs er_55622 Y => ?_)
          refine lv_iload_n hx hb dX12_strike_63 rfl (lv_at hl 2 rfl) ?_
          refine lv_icmp_ge (tgt := 74) hx hb dX12_strike_64 (by decide) (fun c_55623 => ?_) (fun c_55623 => ?_)
          · obtain ⟨x_55626, ex_55626⟩ : ∃ z : Int32, z = y38_3 + 1 := ⟨_, rfl⟩
            refine lv_iinc (v := x_55626) (lv' := [(3, .int x_55626), (0, .ref (ad 0 0)), (1, .int i1), (2, .int y38_2)]) hx hb dX12_strike_74 hl (k := 3) rfl (by rw [ex_55626]; rfl) (by decide) rfl (fun ls hl => ?_)
            refine lv_goto (tgt := 38) hx hb dX12_strike_77 (by decide) ?_
            exact ih38 _ (by rw [← hm38]; exact ms_up (m := 1) ex_55626 (show bn 1 1 (1 : Int32) from bn_k (by decide)) B_55616 (bn_w (bn_eq ex_55626 (bn_add B_55616 (show bn 1 1 (1 : Int32) from bn_k (by decide)) (by decide))) (by decide) : bn 0 14 x_55626) (by decide)) y38_2 x_55626 _ _  _ _ _ I (bn_w (bn_eq ex_55626 (bn_add B_55616 (show bn 1 1 (1 : Int32) from bn_k (by decide)) (by decide))) (by decide)) (bn_w b38_i1 (by decide)) rfl Y (lv_sub hl [1, 2, 3, 0] rfl)
          · have B_55624 : bn (-2147483647) 2147483647 y38_2 := bn_w (bn_gtl c_55623 (bn_any y38_2) (bn_any r_55622)) (by decide)
            have B_55625 : bn (-2147483648) 2147483646 r_55622 := bn_w (bn_gtr c_55623 (bn_any y38_2) (bn_any r_55622)) (by decide)
            refine lv_aload_n hx hb dX12_strike_67 rfl (lv_at hl 0 rfl) ?_
            refine lv_iload_n hx hb dX12_strike_68 rfl (lv_at hl 3 rfl) ?_
            refine lv_iconst (v := 3) hx hb dX12_strike_69 (by decide) ?_
            refine cVp (As := [.int y38_3, .int 3]) (rest := []) S Y (x_X12_get (l := l) I hB (bn_w B_55616 (by decide)) (bn_w (show bn 3 3 (3 : Int32) from bn_k (by decide)) (by decide))) cw_X12_get km12_73 p_ad_0_0 ok_X12.1 rfl rfl ⟨Nat.le_of_ble_eq_true rfl, Nat.le_of_ble_eq_true rfl⟩ hl.1 rfl (Nat.le_of_ble_eq_true rfl) ⟨Nat.le_of_ble_eq_true rfl, Nat.le_of_ble_eq_true rfl⟩ dX12_strike_70 (fun r_55627 H locs er_55627 Y => ?_)
            refine lv_istore_n (lv' := [(2, .int r_55627), (0, .ref (ad 0 0)), (1, .int i1), (3, .int y38_3)]) hx hb dX12_strike_73 rfl hl (by decide) rfl (fun ls hl => ?_)
            obtain ⟨x_55628, ex_55628⟩ : ∃ z : Int32, z = y38_3 + 1 := ⟨_, rfl⟩
            refine lv_iinc (v := x_55628) (lv' := [(3, .int x_55628), (2, .int r_55627), (0, .ref (ad 0 0)), (1, .int i1)]) hx hb dX12_strike_74 hl (k := 3) rfl (by rw [ex_55628]; rfl) (by decide) rfl (fun ls hl => ?_)
            refine lv_goto (tgt := 38) hx hb dX12_strike_77 (by decide) ?_
            exact ih38 _ (by rw [← hm38]; exact ms_up (m := 1) ex_55628 (show bn 1 1 (1 : Int32) from bn_k (by decide)) B_55616 (bn_w (bn_eq ex_55628 (bn_add B_55616 (show bn 1 1 (1 : Int32) from bn_k (by decide)) (by decide))) (by decide) : bn 0 14 x_55628) (by decide)) r_55627 x_55628 _ _  _ _ _ I (bn_w (bn_eq ex_55628 (bn_add B_55616 (show bn 1 1 (1 : Int32) from bn_k (by decide)) (by decide))) (by decide)) (bn_w b38_i1 (by decide)) rfl Y (lv_sub hl [2, 3, 1, 0] rfl)
  refine lv_iload_n hx hb dX12_strike_0 rfl (lv_at hl 1 rfl) ?_
  refine lv_iconst (v := 1) hx hb dX12_strike_1 (by decide) ?_
  refine lv_iconst (v := 1) hx hb dX12_strike_2 (by decide) ?_
  refine lv_aload_n hx hb dX12_strike_3 rfl (lv_at hl 0 rfl) ?_
  obtain ⟨v_55629, v_55631, v_55633, v_55635, v_55637, v_55639, v_55641, v_55643, v_55644, v_55646, v_55648, v_55650, v_55652, v_55654, v_55656, v_55658, v_55660, v_55662, p_ad_0_0, b_55630, b_55632, b_55634, b_55636, b_55638, b_55640, b_55642, b_55645, b_55647, b_55649, b_55651, b_55653, b_55655, b_55657, b_55659, b_55661, b_55663⟩ := opnM_0 (j := 0) I (by decide)
  have p_ad_0_0 : pt L f (ad 0 0) (.inr (12, [.ref (ad 1 0), .ref (ad 2 0), .ref (ad 3 0), .ref (ad 4 0), .int v_55629, .int v_55631, .int v_55633, .int v_55635, .int v_55637, .int v_55639, .int v_55641, .long v_55643, .int v_55644, .int v_55646, .int v_55648, .ref (ad 5 0), .ref (ad 6 0), .int v_55650, .int v_55652, .int v_55654, .int v_55656, .int v_55658, .ref (ad 7 0), .ref (ad 8 0), .ref (ad 9 0), .int v_55660, .ref (ad 10 0), .ref (ad 11 0), .ref (ad 12 0), .ref (ad 13 0), .int v_55662, .ref (ad 14 0)])) := p_ad_0_0
  refine pg_get S Y ok_X12 0 (by decide) kf12_7 (v := .ref (ad 1 0)) p_ad_0_0 rfl dX12_strike_4 ?_
  refine lv_bipush (v := 13) hx hb dX12_strike_7 (by decide) ?_
  obtain ⟨g_55664, p_ad_1_0, o_55665⟩ := I.opi (k := 1) (j := 0) (by decide) rfl
  have p_ad_1_0 : pt L f (ad 1 0) (.inl (G.2 0, 10568, .inl g_55664)) := p_ad_1_0
  obtain ⟨v_55666, ev_55666⟩ : ∃ z, z = g_55664 (13 : Int32).toNatClampNeg := ⟨_, rfl⟩
  refine pg_iald S Y (v := v_55666) p_ad_1_0 (by unfold vp_in; decide) ev_55666.symm dX12_strike_9 ?_
  have bv_55666 : bn 0 14 v_55666 := bn_eq ev_55666 (IA_13 o_55665)
  refine lv_ishl hx hb dX12_strike_10 ?_
  refine lv_topi (fun x_55667 ex_55667 => ?_)
  refine lv_iconst (v := 1) hx hb dX12_strike_11 (by decide) ?_
  refine lv_isub hx hb dX12_strike_12 ?_
  refine lv_topi (fun x_55668 ex_55668 => ?_)
  refine cSp (As := [.int i1, .int 1, .int x_55668]) (rest := []) S Y (x_X12_isIn (l := l) ) cw_X12_isIn km12_69 rfl ⟨Nat.le_of_ble_eq_true rfl, Nat.le_of_ble_eq_true rfl⟩ hl.1 rfl (Nat.le_of_ble_eq_true rfl) ⟨Nat.le_of_ble_eq_true rfl, Nat.le_of_ble_eq_true rfl⟩ dX12_strike_13 (fun r_55669 H locs er_55669 Y => ?_)
  refine lv_if_eq (tgt := 27) hx hb dX12_strike_16 (by decide) (fun c_55670 => ?_) (fun c_55670 => ?_)
  · have B_55671 : bn 0 0 r_55669 := bn_w (bn_eq c_55670 (show bn 0 0 (0 : Int32) from bn_k (by decide))) (by decide)
    refine lv_iconst (v := (-1)) hx hb dX12_strike_27 (by decide) ?_
    exact prI (post := fun r L1 f1 => SH (spM (IA 0 0 14 9999 w) pi (EQ g0) LDa) nnM G ad L1 f1) S Y rfl (by decide) (by decide) hA1 I dX12_strike_28
  · have B_55672 : bn 1 16383 i1 := bn_w (bn_i (bn_any i1) (bn_btw (er_55669.2 c_55670).1 (er_55669.2 c_55670).2 (show bn 1 1 (1 : Int32) from bn_k (by decide)) (bn_eq ex_55668 (bn_sub (bn_eq ex_55667 (bn_shl (n := 14) (bn_w bv_55666 (by decide) : bn 0 14 v_55666) (by decide) (by decide))) (show bn 1 1 (1 : Int32) from bn_k (by decide)) (by decide))))) (by decide)
    have B_55673 : bn 1 1 r_55669 := bn_w (bn_nel c_55670 er_55669.1 (show bn 0 0 (0 : Int32) from bn_k (by decide))) (by decide)
    refine lv_aload_n hx hb dX12_strike_19 rfl (lv_at hl 0 rfl) ?_
    refine lv_iload_n hx hb dX12_strike_20 rfl (lv_at hl 1 rfl) ?_
    refine cVp (As := [.int i1]) (rest := []) S Y (x_X12_isRing (l := l) I hB hX) cw_X12_isRing km12_354 p_ad_0_0 ok_X12.1 rfl rfl ⟨Nat.le_of_ble_eq_true rfl, Nat.le_of_ble_eq_true rfl⟩ hl.1 rfl (Nat.le_of_ble_eq_true rfl) ⟨Nat.le_of_ble_eq_true rfl, Nat.le_of_ble_eq_true rfl⟩ dX12_strike_21 (fun r_55674 H locs er_55674 Y => ?_)
    refine lv_if_ne (tgt := 29) hx hb dX12_strike_24 (by decide) (fun c_55675 => ?_) (fun c_55675 => ?_)
    · have B_55676 : bn 1 1 r_55674 := bn_w (bn_nel c_55675 er_55674 (show bn 0 0 (0 : Int32) from bn_k (by decide))) (by decide)
      refine lv_aload_n hx hb dX12_strike_29 rfl (lv_at hl 0 rfl) ?_
      refine cVv (As := []) (rest := []) S Y (x_X12_keep (l := l) I hB) cw_X12_keep km12_333 p_ad_0_0 ok_X12.1 rfl rfl ⟨Nat.le_of_ble_eq_true rfl, Nat.le_of_ble_eq_true rfl⟩ hl.1 rfl (Nat.le_of_ble_eq_true rfl) ⟨Nat.le_of_ble_eq_true rfl, Nat.le_of_ble_eq_true rfl⟩ dX12_strike_30 (fun L_55678 f_55679 H locs I Y => ?_)
      refine lv_bipush (v := 9) hx hb dX12_strike_33 (by decide) ?_
      refine lv_istore_n (lv' := [(2, .int 9), (0, .ref (ad 0 0)), (1, .int i1)]) hx hb dX12_strike_35 rfl hl (by decide) rfl (fun ls hl => ?_)
      refine lv_iconst (v := 0) hx hb dX12_strike_36 (by decide) ?_
      refine lv_istore_n (lv' := [(3, .int 0), (2, .int 9), (0, .ref (ad 0 0)), (1, .int i1)]) hx hb dX12_strike_37 rfl hl (by decide) rfl (fun ls hl => ?_)
      exact J_38 _ 9 0 _ _  _ _ _ I (bn_w (show bn 0 0 (0 : Int32) from bn_k (by decide)) (by decide)) (bn_w B_55672 (by decide)) rfl Y (lv_sub hl [2, 3, 1, 0] rfl)
    · have B_55677 : bn 0 0 r_55674 := bn_w (bn_eq c_55675 (show bn 0 0 (0 : Int32) from bn_k (by decide))) (by decide)
      refine lv_iconst (v := (-1)) hx hb dX12_strike_27 (by decide) ?_
      exact prI (post := fun r L1 f1 => SH (spM (IA 0 0 14 9999 w) pi (EQ g0) LDa) nnM G ad L1 f1) S Y rfl (by decide) (by decide) hA1 I dX12_strike_28
set_option maxHeartbeats 4000000 in
set_option maxRecDepth 100000 in
theorem x_X12_ring {l : Launch} {G : GG}  {L : List Nat} {f : HF} {ad : Nat → Nat → Nat} {w : WW} {pi : PIT} {g0 : Nat → Int32} (I : SH (spM (IA 0 0 14 9999 w) pi (EQ g0) LDa) nnM G ad L f) (hB : BBp 0 0 14 9999 w) (hX : TX g0) : PMp l yX12_ring cX12_ring 4 .int 4 0 0 G [.ref (ad 0 0)] L f (fun r => True) := by
  refine PMi.of (post := fun r L1 f1 => (True) ∧ L1 = L ∧ f1 = f) (own := RX12) (by decide) rfl (Nat.le_of_ble_eq_true rfl) (fun sz p e s m args below meth c A ls hA1 hname S Y hl => ?_)
  have hx := S.hx
  have hb := S.hb
  have hl : lv_has ls 4 [(0, .ref (ad 0 0))] := hl
  have J_43 : ∀ (n43 : Nat) (y43_1 y43_2 y43_3 : Int32) (H : Heap) (locs : List Loc) (ls : Array Slot), (bn 0 16383 y43_1) → (bn 0 16383 y43_2) → (bn 1 16384 y43_3) → (((16384 : Int) - y43_3.toInt).toNat = n43) → (DY G A s [] L f H locs) → (lv_has ls 4 [(0, .ref (ad 0 0)), (1, .int y43_1), (2, .int y43_2), (3, .int y43_3)]) → W p l e (rmD 4 0 0) s m args below meth c H locs (0) (0) (MQ below (va_Qi (fun r (u : List Nat × HF) => (fun r L1 f1 => (True) ∧ L1 = L ∧ f1 = f) r u.1 u.2) (fun u t => pOut G (va_A (va_pl L f) sz) u.1 u.2 t) (va_A (va_pl L f) sz)) args s 0 0 A) (F0 m 43 ls []) := by
    intro n43
    induction n43 using Nat.strongRecOn with
    | _ n43 ih43 =>
      intro y43_1 y43_2 y43_3 H locs ls b_y43_1 b_y43_2 b_y43_3 hm43 Y hl
      refine lv_iload_n hx hb dX12_ring_43 rfl (lv_at hl 3 rfl) ?_
      refine lv_iload_n hx hb dX12_ring_44 rfl (lv_at hl 2 rfl) ?_
      refine lv_icmp_gt (tgt := 99) hx hb dX12_ring_45 (by decide) (fun c_58388 => ?_) (fun c_58388 => ?_)
      · refine lv_iload_n hx hb dX12_ring_99 rfl (lv_at hl 1 rfl) ?_
        exact prI (post := fun r L1 f1 => (True) ∧ L1 = L ∧ f1 = f) S Y rfl (by decide) (by decide) hA1 ⟨trivial, rfl, rfl⟩ dX12_ring_100
      · have B_58389 : bn 1 16383 y43_2 := bn_w (bn_gel c_58388 b_y43_2 b_y43_3) (by decide)
        have B_58390 : bn 1 16383 y43_3 := bn_w (bn_ger c_58388 b_y43_2 b_y43_3) (by decide)
        refine lv_iload_n hx hb dX12_ring_48 rfl (lv_at hl 3 rfl) ?_
        refine lv_iload_n hx hb dX12_ring_49 rfl (lv_at hl 2 rfl) ?_
        refine lv_iconst (v := (-1)) hx hb dX12_ring_50 (by decide) ?_
        refine lv_ixor hx hb dX12_ring_51 ?_
        refine lv_topi (fun x_58391 ex_58391 => ?_)
        refine lv_iand hx hb dX12_ring_52 ?_
        refine lv_topi (fun x_58392 ex_58392 => ?_)
        refine lv_if_ne (tgt := 93) hx hb dX12_ring_53 (by decide) (fun c_58393 => ?_) (fun c_58393 => ?_)
        · obtain ⟨x_58395, ex_58395⟩ : ∃ z : Int32, z = y43_3 + 1 := ⟨_, rfl⟩
          refine lv_iinc (v := x_58395) (lv' := [(3, .int x_58395), (0, .ref (ad 0 0)), (1, .int y43_1), (2, .int y43_2)]) hx hb dX12_ring_93 hl (k := 3) rfl (by rw [ex_58395]; rfl) (by decide) rfl (fun ls hl => ?_)
          refine lv_goto (tgt := 43) hx hb dX12_ring_96 (by decide) ?_
          exact ih43 _ (by rw [← hm43]; exact ms_up (m := 1) ex_58395 (show bn 1 1 (1 : Int32) from bn_k (by decide)) B_58390 (bn_w (bn_eq ex_58395 (bn_add B_58390 (show bn 1 1 (1 : Int32) from bn_k (by decide)) (by decide))) (by decide) : bn 1 16384 x_58395) (by decide)) y43_1 y43_2 x_58395  _ _ _  (bn_w b_y43_1 (by decide)) (bn_w B_58389 (by decide)) (bn_w (bn_eq ex_58395 (bn_add B_58390 (show bn 1 1 (1 : Int32) from bn_k (by decide)) (by decide))) (by decide)) rfl Y (lv_sub hl [1, 2, 3, 0] rfl)
        · have B_58394 : bn 0 0 x_58392 := bn_w (bn_eq c_58393 (show bn 0 0 (0 : Int32) from bn_k (by decide))) (by decide)
          refine lv_iload_n hx hb dX12_ring_56 rfl (lv_at hl 1 rfl) ?_
          refine lv_if_eq (tgt := 71) hx hb dX12_ring_57 (by decide) (fun c_58396 => ?_) (fun c_58396 => ?_)
          · have B_58397 : bn 0 0 y43_1 := bn_w (bn_eq c_58396 (show bn 0 0 (0 : Int32) from bn_k (by decide))) (by decide)
            refine lv_iload_n hx hb dX12_ring_71 rfl (lv_at hl 3 rfl) ?_
            refine cSp (As := [.int y43_3]) (rest := []) S Y (x_X12_bits (l := l) ) cw_X12_bits km12_268 rfl ⟨Nat.le_of_ble_eq_true rfl, Nat.le_of_ble_eq_true rfl⟩ hl.1 rfl (Nat.le_of_ble_eq_true rfl) ⟨Nat.le_of_ble_eq_true rfl, Nat.le_of_ble_eq_true rfl⟩ dX12_ring_72 (fun r_58399 H locs er_58399 Y => ?_)
            refine lv_bipush (v := 6) hx hb dX12_ring_75 (by decide) ?_
            refine lv_icmp_le (tgt := 83) hx hb dX12_ring_77 (by decide) (fun c_58400 => ?_) (fun c_58400 => ?_)
            · have B_58401 : bn (-2147483648) 6 r_58399 := bn_w (bn_lel c_58400 (bn_any r_58399) (show bn 6 6 (6 : Int32) from bn_k (by decide))) (by decide)
              refine lv_aload_n hx hb dX12_ring_83 rfl (lv_at hl 0 rfl) ?_
              refine lv_iload_n hx hb dX12_ring_84 rfl (lv_at hl 3 rfl) ?_
              refine cVp (As := [.int y43_3]) (rest := []) S Y (x_X12_isRing (l := l) I hB hX) cw_X12_isRing km12_354 (I.opo (k := 0) (j := 0) (by decide) rfl).choose_spec.1 ok_X12.1 rfl rfl ⟨Nat.le_of_ble_eq_true rfl, Nat.le_of_ble_eq_true rfl⟩ hl.1 rfl (Nat.le_of_ble_eq_true rfl) ⟨Nat.le_of_ble_eq_true rfl, Nat.le_of_ble_eq_true rfl⟩ dX12_ring_85 (fun r_58403 H locs er_58403 Y => ?_)
              refine lv_if_eq (tgt := 93) hx hb dX12_ring_88 (by decide) (fun c_58404 => ?_) (fun c_58404 => ?_)
              · have B_58405 : bn 0 0 r_58403 := bn_w (bn_eq c_58404 (show bn 0 0 (0 : Int32) from bn_k (by decide))) (by decide)
                obtain ⟨x_58407, ex_58407⟩ : ∃ z : Int32, z = y43_3 + 1 := ⟨_, rfl⟩
                refine lv_iinc (v := x_58407) (lv' := [(3, .int x_58407), (0, .ref (ad 0 0)), (1, .int y43_1), (2, .int y43_2)]) hx hb dX12_ring_93 hl (k := 3) rfl (by rw [ex_58407]; rfl) (by decide) rfl (fun ls hl => ?_)
                refine lv_goto (tgt := 43) hx hb dX12_ring_96 (by decide) ?_
                exact ih43 _ (by rw [← hm43]; exact ms_up (m := 1) ex_58407 (show bn 1 1 (1 : Int32) from bn_k (by decide)) B_58390 (bn_w (bn_eq ex_58407 (bn_add B_58390 (show bn 1 1 (1 : Int32) from bn_k (by decide)) (by decide))) (by decide) : bn 1 16384 x_58407) (by decide)) y43_1 y43_2 x_58407  _ _ _  (bn_w B_58397 (by decide)) (bn_w B_58389 (by decide)) (bn_w (bn_eq ex_58407 (bn_add B_58390 (show bn 1 1 (1 : Int32) from bn_k (by decide)) (by decide))) (by decide)) rfl Y (lv_sub hl [1, 2, 3, 0] rfl)
              · have B_58406 : bn 1 1 r_58403 := bn_w (bn_nel c_58404 er_58403 (show bn 0 0 (0 : Int32) from bn_k (by decide))) (by decide)
                refine lv_iload_n hx hb dX12_ring_91 rfl (lv_at hl 3 rfl) ?_
                refine lv_istore_n (lv' := [(1, .int y43_3), (0, .ref (ad 0 0)), (2, .int y43_2), (3, .int y43_3)]) hx hb dX12_ring_92 rfl hl (by decide) rfl (fun ls hl => ?_)
                obtain ⟨x_58408, ex_58408⟩ : ∃ z : Int32, z = y43_3 + 1 := ⟨_, rfl⟩
                refine lv_iinc (v := x_58408) (lv' := [(3, .int x_58408), (1, .int y43_3), (0, .ref (ad 0 0)), (2, .int y43_2)]) hx hb dX12_ring_93 hl (k := 3) rfl (by rw [ex_58408]; rfl) (by decide) rfl (fun ls hl => ?_)
                refine lv_goto (tgt := 43) hx hb dX12_ring_96 (by decide) ?_
                exact ih43 _ (by rw [← hm43]; exact ms_up (m := 1) ex_58408 (show bn 1 1 (1 : Int32) from bn_k (by decide)) B_58390 (bn_w (bn_eq ex_58408 (bn_add B_58390 (show bn 1 1 (1 : Int32) from bn_k (by decide)) (by decide))) (by decide) : bn 1 16384 x_58408) (by decide)) y43_3 y43_2 x_58408  _ _ _  (bn_w B_58390 (by decide)) (bn_w B_58389 (by decide)) (bn_w (bn_eq ex_58408 (bn_add B_58390 (show bn 1 1 (1 : Int32) from bn_k (by decide)) (by decide))) (by decide)) rfl Y (lv_sub hl [2, 1, 3, 0] rfl)
            · have B_58402 : bn 7 2147483647 r_58399 := bn_w (bn_gtl c_58400 (bn_any r_58399) (show bn 6 6 (6 : Int32) from bn_k (by decide))) (by decide)
              refine lv_goto (tgt := 93) hx hb dX12_ring_80 (by decide) ?_
              obtain ⟨x_58409, ex_58409⟩ : ∃ z : Int32, z = y43_3 + 1 := ⟨_, rfl⟩
              refine lv_iinc (v := x_58409) (lv' := [(3, .int x_58409), (0, .ref (ad 0 0)), (1, .int y43_1), (2, .int y43_2)]) hx hb dX12_ring_93 hl (k := 3) rfl (by rw [ex_58409]; rfl) (by decide) rfl (fun ls hl => ?_)
              refine lv_goto (tgt := 43) hx hb dX12_ring_96 (by decide) ?_
              exact ih43 _ (by rw [← hm43]; exact ms_up (m := 1) ex_58409 (show bn 1 1 (1 : Int32) from bn_k (by decide)) B_58390 (bn_w (bn_eq ex_58409 (bn_add B_58390 (show bn 1 1 (1 : Int32) from bn_k (by decide)) (by decide))) (by decide) : bn 1 16384 x_58409) (by decide)) y43_1 y43_2 x_58409  _ _ _  (bn_w B_58397 (by decide)) (bn_w B_58389 (by decide)) (bn_w (bn_eq ex_58409 (bn_add B_58390 (show bn 1 1 (1 : Int32) from bn_k (by decide)) (by decide))) (by decide)) rfl Y (lv_sub hl [1, 2, 3, 0] rfl)
          · have B_58398 : bn 1 16383 y43_1 := bn_w (bn_nel c_58396 b_y43_1 (show bn 0 0 (0 : Int32) from bn_k (by decide))) (by decide)
            refine lv_iload_n hx hb dX12_ring_60 rfl (lv_at hl 3 rfl) ?_
            refine cSp (As := [.int y43_3]) (rest := []) S Y (x_X12_bits (l := l) ) cw_X12_bits km12_268 rfl ⟨Nat.le_of_ble_eq_true rfl, Nat.le_of_ble_eq_true rfl⟩ hl.1 rfl (Nat.le_of_ble_eq_true rfl) ⟨Nat.le_of_ble_eq_true rfl, Nat.le_of_ble_eq_true rfl⟩ dX12_ring_61 (fun r_58410 H locs er_58410 Y => ?_)
            refine lv_iload_n hx hb dX12_ring_64 rfl (lv_at hl 1 rfl) ?_
            refine cSp (As := [.int y43_1]) (rest := [.int r_58410]) S Y (x_X12_bits (l := l) ) cw_X12_bits km12_268 rfl ⟨Nat.le_of_ble_eq_true rfl, Nat.le_of_ble_eq_true rfl⟩ hl.1 rfl (Nat.le_of_ble_eq_true rfl) ⟨Nat.le_of_ble_eq_true rfl, Nat.le_of_ble_eq_true rfl⟩ dX12_ring_65 (fun r_58411 H locs er_58411 Y => ?_)
            refine lv_icmp_ge (tgt := 93) hx hb dX12_ring_68 (by decide) (fun c_58412 => ?_) (fun c_58412 => ?_)
            · obtain ⟨x_58415, ex_58415⟩ : ∃ z : Int32, z = y43_3 + 1 := ⟨_, rfl⟩
              refine lv_iinc (v := x_58415) (lv' := [(3, .int x_58415), (0, .ref (ad 0 0)), (1, .int y43_1), (2, .int y43_2)]) hx hb dX12_ring_93 hl (k := 3) rfl (by rw [ex_58415]; rfl) (by decide) rfl (fun ls hl => ?_)
              refine lv_goto (tgt := 43) hx hb dX12_ring_96 (by decide) ?_
              exact ih43 _ (by rw [← hm43]; exact ms_up (m := 1) ex_58415 (show bn 1 1 (1 : Int32) from bn_k (by decide)) B_58390 (bn_w (bn_eq ex_58415 (bn_add B_58390 (show bn 1 1 (1 : Int32) from bn_k (by decide)) (by decide))) (by decide) : bn 1 16384 x_58415) (by decide)) y43_1 y43_2 x_58415  _ _ _  (bn_w B_58398 (by decide)) (bn_w B_58389 (by decide)) (bn_w (bn_eq ex_58415 (bn_add B_58390 (show bn 1 1 (1 : Int32) from bn_k (by decide)) (by decide))) (by decide)) rfl Y (lv_sub hl [1, 2, 3, 0] rfl)
            · have B_58413 : bn (-2147483647) 2147483647 r_58411 := bn_w (bn_gtl c_58412 (bn_any r_58411) (bn_any r_58410)) (by decide)
              have B_58414 : bn (-2147483648) 2147483646 r_58410 := bn_w (bn_gtr c_58412 (bn_any r_58411) (bn_any r_58410)) (by decide)
              refine lv_iload_n hx hb dX12_ring_71 rfl (lv_at hl 3 rfl) ?_
              refine cSp (As := [.int y43_3]) (rest := []) S Y (x_X12_bits (l := l) ) cw_X12_bits km12_268 rfl ⟨Nat.le_of_ble_eq_true rfl, Nat.le_of_ble_eq_true rfl⟩ hl.1 rfl (Nat.le_of_ble_eq_true rfl) ⟨Nat.le_of_ble_eq_true rfl, Nat.le_of_ble_eq_true rfl⟩ dX12_ring_72 (fun r_58416 H locs er_58416 Y => ?_)
              refine lv_bipush (v := 6) hx hb dX12_ring_75 (by decide) ?_
              refine lv_icmp_le (tgt := 83) hx hb dX12_ring_77 (by decide) (fun c_58417 => ?_) (fun c_58417 => ?_)
              · have B_58418 : bn (-2147483648) 6 r_58416 := bn_w (bn_lel c_58417 (bn_any r_58416) (show bn 6 6 (6 : Int32) from bn_k (by decide))) (by decide)
                refine lv_aload_n hx hb dX12_ring_83 rfl (lv_at hl 0 rfl) ?_
                refine lv_iload_n hx hb dX12_ring_84 rfl (lv_at hl 3 rfl) ?_
                refine cVp (As := [.int y43_3]) (rest := []) S Y (x_X12_isRing (l := l) I hB hX) cw_X12_isRing km12_354 (I.opo (k := 0) (j := 0) (by decide) rfl).choose_spec.1 ok_X12.1 rfl rfl ⟨Nat.le_of_ble_eq_true rfl, Nat.le_of_ble_eq_true rfl⟩ hl.1 rfl (Nat.le_of_ble_eq_true rfl) ⟨Nat.le_of_ble_eq_true rfl, Nat.le_of_ble_eq_true rfl⟩ dX12_ring_85 (fun r_58420 H locs er_58420 Y => ?_)
                refine lv_if_eq (tgt := 93) hx hb dX12_ring_88 (by decide) (fun c_58421 => ?_) (fun c_58421 => ?_)
                · have B_58422 : bn 0 0 r_58420 := bn_w (bn_eq c_58421 (show bn 0 0 (0 : Int32) from bn_k (by decide))) (by decide)
                  obtain ⟨x_58424, ex_58424⟩ : ∃ z : Int32, z = y43_3 + 1 := ⟨_, rfl⟩
                  refine lv_iinc (v := x_58424) (lv' := [(3, .int x_58424), (0, .ref (ad 0 0)), (1, .int y43_1), (2, .int y43_2)]) hx hb dX12_ring_93 hl (k := 3) rfl (by rw [ex_58424]; rfl) (by decide) rfl (fun ls hl => ?_)
                  refine lv_goto (tgt := 43) hx hb dX12_ring_96 (by decide) ?_
                  exact ih43 _ (by rw [← hm43]; exact ms_up (m := 1) ex_58424 (show bn 1 1 (1 : Int32) from bn_k (by decide)) B_58390 (bn_w (bn_eq ex_58424 (bn_add B_58390 (show bn 1 1 (1 : Int32) from bn_k (by decide)) (by decide))) (by decide) : bn 1 16384 x_58424) (by decide)) y43_1 y43_2 x_58424  _ _ _  (bn_w B_58398 (by decide)) (bn_w B_58389 (by decide)) (bn_w (bn_eq ex_58424 (bn_add B_58390 (show bn 1 1 (1 : Int32) from bn_k (by decide)) (by decide))) (by decide)) rfl Y (lv_sub hl [1, 2, 3, 0] rfl)
                · have B_58423 : bn 1 1 r_58420 := bn_w (bn_nel c_58421 er_58420 (show bn 0 0 (0 : Int32) from bn_k (by decide))) (by decide)
                  refine lv_iload_n hx hb dX12_ring_91 rfl (lv_at hl 3 rfl) ?_
                  refine lv_istore_n (lv' := [(1, .int y43_3), (0, .ref (ad 0 0)), (2, .int y43_2), (3, .int y43_3)]) hx hb dX12_ring_92 rfl hl (by decide) rfl (fun ls hl => ?_)
                  obtain ⟨x_58425, ex_58425⟩ : ∃ z : Int32, z = y43_3 + 1 := ⟨_, rfl⟩
                  refine lv_iinc (v := x_58425) (lv' := [(3, .int x_58425), (1, .int y43_3), (0, .ref (ad 0 0)), (2, .int y43_2)]) hx hb dX12_ring_93 hl (k := 3) rfl (by rw [ex_58425]; rfl) (by decide) rfl (fun ls hl => ?_)
                  refine lv_goto (tgt := 43) hx hb dX12_ring_96 (by decide) ?_
                  exact ih43 _ (by rw [← hm43]; exact ms_up (m := 1) ex_58425 (show bn 1 1 (1 : Int32) from bn_k (by decide)) B_58390 (bn_w (bn_eq ex_58425 (bn_add B_58390 (show bn 1 1 (1 : Int32) from bn_k (by decide)) (by decide))) (by decide) : bn 1 16384 x_58425) (by decide)) y43_3 y43_2 x_58425  _ _ _  (bn_w B_58390 (by decide)) (bn_w B_58389 (by decide)) (bn_w (bn_eq ex_58425 (bn_add B_58390 (show bn 1 1 (1 : Int32) from bn_k (by decide)) (by decide))) (by decide)) rfl Y (lv_sub hl [2, 1, 3, 0] rfl)
              · have B_58419 : bn 7 2147483647 r_58416 := bn_w (bn_gtl c_58417 (bn_any r_58416) (show bn 6 6 (6 : Int32) from bn_k (by decide))) (by decide)
                refine lv_goto (tgt := 93) hx hb dX12_ring_80 (by decide) ?_
                obtain ⟨x_58426, ex_58426⟩ : ∃ z : Int32, z = y43_3 + 1 := ⟨_, rfl⟩
                refine lv_iinc (v := x_58426) (lv' := [(3, .int x_58426), (0, .ref (ad 0 0)), (1, .int y43_1), (2, .int y43_2)]) hx hb dX12_ring_93 hl (k := 3) rfl (by rw [ex_58426]; rfl) (by decide) rfl (fun ls hl => ?_)
                refine lv_goto (tgt := 43) hx hb dX12_ring_96 (by decide) ?_
                exact ih43 _ (by rw [← hm43]; exact ms_up (m := 1) ex_58426 (show bn 1 1 (1 : Int32) from bn_k (by decide)) B_58390 (bn_w (bn_eq ex_58426 (bn_add B_58390 (show bn 1 1 (1 : Int32) from bn_k (by decide)) (by decide))) (by decide) : bn 1 16384 x_58426) (by decide)) y43_1 y43_2 x_58426  _ _ _  (bn_w B_58398 (by decide)) (bn_w B_58389 (by decide)) (bn_w (bn_eq ex_58426 (bn_add B_58390 (show bn 1 1 (1 : Int32) from bn_k (by decide)) (by decide))) (by decide)) rfl Y (lv_sub hl [1, 2, 3, 0] rfl)
  have J_6 : ∀ (n6 : Nat) (y6_2 y6_3 : Int32) (H : Heap) (locs : List Loc) (ls : Array Slot), (bn 0 16383 y6_2) → (bn 0 14 y6_3) → (((14 : Int) - y6_3.toInt).toNat = n6) → (DY G A s [] L f H locs) → (lv_has ls 4 [(0, .ref (ad 0 0)), (1, .int 0), (2, .int y6_2), (3, .int y6_3)]) → W p l e (rmD 4 0 0) s m args below meth c H locs (0) (0) (MQ below (va_Qi (fun r (u : List Nat × HF) => (fun r L1 f1 => (True) ∧ L1 = L ∧ f1 = f) r u.1 u.2) (fun u t => pOut G (va_A (va_pl L f) sz) u.1 u.2 t) (va_A (va_pl L f) sz)) args s 0 0 A) (F0 m 6 ls []) := by
    intro n6
    induction n6 using Nat.strongRecOn with
    | _ n6 ih6 =>
      intro y6_2 y6_3 H locs ls b_y6_2 b_y6_3 hm6 Y hl
      refine lv_iload_n hx hb dX12_ring_6 rfl (lv_at hl 3 rfl) ?_
      refine lv_aload_n hx hb dX12_ring_7 rfl (lv_at hl 0 rfl) ?_
      obtain ⟨v_58427, v_58429, v_58431, v_58433, v_58435, v_58437, v_58439, v_58441, v_58442, v_58444, v_58446, v_58448, v_58450, v_58452, v_58454, v_58456, v_58458, v_58460, p_ad_0_0, b_58428, b_58430, b_58432, b_58434, b_58436, b_58438, b_58440, b_58443, b_58445, b_58447, b_58449, b_58451, b_58453, b_58455, b_58457, b_58459, b_58461⟩ := opnM_0 (j := 0) I (by decide)
      have p_ad_0_0 : pt L f (ad 0 0) (.inr (12, [.ref (ad 1 0), .ref (ad 2 0), .ref (ad 3 0), .ref (ad 4 0), .int v_58427, .int v_58429, .int v_58431, .int v_58433, .int v_58435, .int v_58437, .int v_58439, .long v_58441, .int v_58442, .int v_58444, .int v_58446, .ref (ad 5 0), .ref (ad 6 0), .int v_58448, .int v_58450, .int v_58452, .int v_58454, .int v_58456, .ref (ad 7 0), .ref (ad 8 0), .ref (ad 9 0), .int v_58458, .ref (ad 10 0), .ref (ad 11 0), .ref (ad 12 0), .ref (ad 13 0), .int v_58460, .ref (ad 14 0)])) := p_ad_0_0
      refine pg_get S Y ok_X12 0 (by decide) kf12_7 (v := .ref (ad 1 0)) p_ad_0_0 rfl dX12_ring_8 ?_
      refine lv_bipush (v := 13) hx hb dX12_ring_11 (by decide) ?_
      obtain ⟨g_58462, p_ad_1_0, o_58463⟩ := I.opi (k := 1) (j := 0) (by decide) rfl
      have p_ad_1_0 : pt L f (ad 1 0) (.inl (G.2 0, 10568, .inl g_58462)) := p_ad_1_0
      obtain ⟨v_58464, ev_58464⟩ : ∃ z, z = g_58462 (13 : Int32).toNatClampNeg := ⟨_, rfl⟩
      refine pg_iald S Y (v := v_58464) p_ad_1_0 (by unfold vp_in; decide) ev_58464.symm dX12_ring_13 ?_
      have bv_58464 : bn 0 14 v_58464 := bn_eq ev_58464 (IA_13 o_58463)
      refine lv_icmp_ge (tgt := 41) hx hb dX12_ring_14 (by decide) (fun c_58465 => ?_) (fun c_58465 => ?_)
      · refine lv_iconst (v := 1) hx hb dX12_ring_41 (by decide) ?_
        refine lv_istore_n (lv' := [(3, .int 1), (0, .ref (ad 0 0)), (1, .int 0), (2, .int y6_2)]) hx hb dX12_ring_42 rfl hl (by decide) rfl (fun ls hl => ?_)
        exact J_43 _ 0 y6_2 1  _ _ _  (bn_w (show bn 0 0 (0 : Int32) from bn_k (by decide)) (by decide)) (bn_w b_y6_2 (by decide)) (bn_w (show bn 1 1 (1 : Int32) from bn_k (by decide)) (by decide)) rfl Y (lv_sub hl [1, 2, 3, 0] rfl)
      · have B_58466 : bn 1 14 v_58464 := bn_w (bn_gtl c_58465 bv_58464 b_y6_3) (by decide)
        have B_58467 : bn 0 13 y6_3 := bn_w (bn_gtr c_58465 bv_58464 b_y6_3) (by decide)
        refine lv_iload_n hx hb dX12_ring_17 rfl (lv_at hl 2 rfl) ?_
        refine lv_aload_n hx hb dX12_ring_18 rfl (lv_at hl 0 rfl) ?_
        refine lv_iload_n hx hb dX12_ring_19 rfl (lv_at hl 3 rfl) ?_
        refine cVp (As := [.int y6_3]) (rest := [.int y6_2]) S Y (x_X12_isLink (l := l) I hB (bn_w B_58467 (by decide))) cw_X12_isLink km12_351 p_ad_0_0 ok_X12.1 rfl rfl ⟨Nat.le_of_ble_eq_true rfl, Nat.le_of_ble_eq_true rfl⟩ hl.1 rfl (Nat.le_of_ble_eq_true rfl) ⟨Nat.le_of_ble_eq_true rfl, Nat.le_of_ble_eq_true rfl⟩ dX12_ring_20 (fun r_58468 H locs er_58468 Y => ?_)
        refine lv_if_eq (tgt := 32) hx hb dX12_ring_23 (by decide) (fun c_58469 => ?_) (fun c_58469 => ?_)
        · have B_58470 : bn 0 0 r_58468 := bn_w (bn_eq c_58469 (show bn 0 0 (0 : Int32) from bn_k (by decide))) (by decide)
          refine lv_iconst (v := 0) hx hb dX12_ring_32 (by decide) ?_
          refine lv_ior hx hb dX12_ring_33 ?_
          refine lv_topi (fun x_58472 ex_58472 => ?_)
          refine lv_istore_n (lv' := [(2, .int x_58472), (0, .ref (ad 0 0)), (1, .int 0), (3, .int y6_3)]) hx hb dX12_ring_34 rfl hl (by decide) rfl (fun ls hl => ?_)
          obtain ⟨x_58473, ex_58473⟩ : ∃ z : Int32, z = y6_3 + 1 := ⟨_, rfl⟩
          refine lv_iinc (v := x_58473) (lv' := [(3, .int x_58473), (2, .int x_58472), (0, .ref (ad 0 0)), (1, .int 0)]) hx hb dX12_ring_35 hl (k := 3) rfl (by rw [ex_58473]; rfl) (by decide) rfl (fun ls hl => ?_)
          refine lv_goto (tgt := 6) hx hb dX12_ring_38 (by decide) ?_
          exact ih6 _ (by rw [← hm6]; exact ms_up (m := 1) ex_58473 (show bn 1 1 (1 : Int32) from bn_k (by decide)) B_58467 (bn_w (bn_eq ex_58473 (bn_add B_58467 (show bn 1 1 (1 : Int32) from bn_k (by decide)) (by decide))) (by decide) : bn 0 14 x_58473) (by decide)) x_58472 x_58473  _ _ _  (bn_w (bn_eq ex_58472 (bn_or (n := 14) (bn_w b_y6_2 (by decide) : bn 0 16383 y6_2) (bn_w (show bn 0 0 (0 : Int32) from bn_k (by decide)) (by decide) : bn 0 0 0) (by decide) (by decide))) (by decide)) (bn_w (bn_eq ex_58473 (bn_add B_58467 (show bn 1 1 (1 : Int32) from bn_k (by decide)) (by decide))) (by decide)) rfl Y (lv_sub hl [2, 3, 1, 0] rfl)
        · have B_58471 : bn 1 1 r_58468 := bn_w (bn_nel c_58469 er_58468 (show bn 0 0 (0 : Int32) from bn_k (by decide))) (by decide)
          refine lv_iconst (v := 1) hx hb dX12_ring_26 (by decide) ?_
          refine lv_iload_n hx hb dX12_ring_27 rfl (lv_at hl 3 rfl) ?_
          refine lv_ishl hx hb dX12_ring_28 ?_
          refine lv_topi (fun x_58474 ex_58474 => ?_)
          refine lv_goto (tgt := 33) hx hb dX12_ring_29 (by decide) ?_
          refine lv_ior hx hb dX12_ring_33 ?_
          refine lv_topi (fun x_58475 ex_58475 => ?_)
          refine lv_istore_n (lv' := [(2, .int x_58475), (0, .ref (ad 0 0)), (1, .int 0), (3, .int y6_3)]) hx hb dX12_ring_34 rfl hl (by decide) rfl (fun ls hl => ?_)
          obtain ⟨x_58476, ex_58476⟩ : ∃ z : Int32, z = y6_3 + 1 := ⟨_, rfl⟩
          refine lv_iinc (v := x_58476) (lv' := [(3, .int x_58476), (2, .int x_58475), (0, .ref (ad 0 0)), (1, .int 0)]) hx hb dX12_ring_35 hl (k := 3) rfl (by rw [ex_58476]; rfl) (by decide) rfl (fun ls hl => ?_)
          refine lv_goto (tgt := 6) hx hb dX12_ring_38 (by decide) ?_
          exact ih6 _ (by rw [← hm6]; exact ms_up (m := 1) ex_58476 (show bn 1 1 (1 : Int32) from bn_k (by decide)) B_58467 (bn_w (bn_eq ex_58476 (bn_add B_58467 (show bn 1 1 (1 : Int32) from bn_k (by decide)) (by decide))) (by decide) : bn 0 14 x_58476) (by decide)) x_58475 x_58476  _ _ _  (bn_w (bn_eq ex_58475 (bn_or (n := 14) (bn_w b_y6_2 (by decide) : bn 0 16383 y6_2) (bn_w (bn_eq ex_58474 (bn_shl (n := 13) (bn_w B_58467 (by decide) : bn 0 13 y6_3) (by decide) (by decide))) (by decide) : bn 0 8192 x_58474) (by decide) (by decide))) (by decide)) (bn_w (bn_eq ex_58476 (bn_add B_58467 (show bn 1 1 (1 : Int32) from bn_k (by decide)) (by decide))) (by decide)) rfl Y (lv_sub hl [2, 3, 1, 0] rfl)
  refine lv_iconst (v := 0) hx hb dX12_ring_0 (by decide) ?_
  refine lv_istore_n (lv' := [(1, .int 0), (0, .ref (ad 0 0))]) hx hb dX12_ring_1 rfl hl (by decide) rfl (fun ls hl => ?_)
  refine lv_iconst (v := 0) hx hb dX12_ring_2 (by decide) ?_
  refine lv_istore_n (lv' := [(2, .int 0), (1, .int 0), (0, .ref (ad 0 0))]) hx hb dX12_ring_3 rfl hl (by decide) rfl (fun ls hl => ?_)
  refine lv_iconst (v := 0) hx hb dX12_ring_4 (by decide) ?_
  refine lv_istore_n (lv' := [(3, .int 0), (2, .int 0), (1, .int 0), (0, .ref (ad 0 0))]) hx hb dX12_ring_5 rfl hl (by decide) rfl (fun ls hl => ?_)
  exact J_6 _ 0 0  _ _ _  (bn_w (show bn 0 0 (0 : Int32) from bn_k (by decide)) (by decide)) (bn_w (show bn 0 0 (0 : Int32) from bn_k (by decide)) (by decide)) rfl Y (lv_sub hl [3, 2, 1, 0] rfl)
set_option maxHeartbeats 4000000 in
set_option maxRecDepth 100000 in
theorem x_X12_common {l : Launch} {G : GG}  {L : List Nat} {f : HF}  {i1 i2 : Int32}  : PMp l yX12_common cX12_common 5 .int 0 0 0 G [.int i1, .int i2] L f (fun r => (¬ i2 = 0 → ¬ r = 0)) := by
  refine PMi.of (post := fun r L1 f1 => ((¬ i2 = 0 → ¬ r = 0)) ∧ L1 = L ∧ f1 = f) (own := RX12) (by decide) rfl (Nat.le_of_ble_eq_true rfl) (fun sz p e s m args below meth c A ls hA1 hname S Y hl => ?_)
  have hx := S.hx
  have hb := S.hb
  have hl : lv_has ls 5 [(0, .int i1), (1, .int i2)] := hl
  have J_4 : ∀ (n4 : Nat) (y4_2 y4_3 : Int32) (H : Heap) (locs : List Loc) (ls : Array Slot), (¬ i2 = 0 → ¬ (y4_2 = 0 ∧ y4_3 = 0)) → (y4_3.toInt.natAbs = n4) → (DY G A s [] L f H locs) → (lv_has ls 5 [(0, .int i1), (1, .int i2), (2, .int y4_2), (3, .int y4_3)]) → W p l e (rmD 0 0 0) s m args below meth c H locs (0) (0) (MQ below (va_Qi (fun r (u : List Nat × HF) => (fun r L1 f1 => ((¬ i2 = 0 → ¬ r = 0)) ∧ L1 = L ∧ f1 = f) r u.1 u.2) (fun u t => pOut G (va_A (va_pl L f) sz) u.1 u.2 t) (va_A (va_pl L f) sz)) args s 0 0 A) (F0 m 4 ls []) := by
    intro n4
    induction n4 using Nat.strongRecOn with
    | _ n4 ih4 =>
      intro y4_2 y4_3 H locs ls hcm hm4 Y hl
      refine lv_iload_n hx hb dX12_common_4 rfl (lv_at hl 3 rfl) ?_
      refine lv_if_eq (tgt := 21) hx hb dX12_common_5 (by decide) (fun c_58483 => ?_) (fun c_58483 => ?_)
      · have B_58484 : bn 0 0 y4_3 := bn_w (bn_eq c_58483 (show bn 0 0 (0 : Int32) from bn_k (by decide))) (by decide)
        refine lv_iload_n hx hb dX12_common_21 rfl (lv_at hl 2 rfl) ?_
        exact prI (post := fun r L1 f1 => ((¬ i2 = 0 → ¬ r = 0)) ∧ L1 = L ∧ f1 = f) S Y rfl (by decide) (by decide) hA1 ⟨(fun h z => hcm h ⟨z, c_58483⟩), rfl, rfl⟩ dX12_common_22
      · refine lv_iload_n hx hb dX12_common_8 rfl (lv_at hl 2 rfl) ?_
        refine lv_iload_n hx hb dX12_common_9 rfl (lv_at hl 3 rfl) ?_
        refine lv_irem hx hb dX12_common_10 c_58483 ?_
        refine lv_topi (fun x_58485 ex_58485 => ?_)
        refine lv_istore (lv' := [(4, .int x_58485), (0, .int i1), (1, .int i2), (2, .int y4_2), (3, .int y4_3)]) hx hb dX12_common_11 hl (by decide) rfl (fun ls hl => ?_)
        refine lv_iload_n hx hb dX12_common_13 rfl (lv_at hl 4 rfl) ?_
        refine lv_istore_n (lv' := [(2, .int y4_3), (4, .int x_58485), (0, .int i1), (1, .int i2), (3, .int y4_3)]) hx hb dX12_common_14 rfl hl (by decide) rfl (fun ls hl => ?_)
        refine lv_iload hx hb dX12_common_15 (lv_at hl 1 rfl) ?_
        refine lv_istore_n (lv' := [(3, .int x_58485), (2, .int y4_3), (4, .int x_58485), (0, .int i1), (1, .int i2)]) hx hb dX12_common_17 rfl hl (by decide) rfl (fun ls hl => ?_)
        refine lv_goto (tgt := 4) hx hb dX12_common_18 (by decide) ?_
        exact ih4 _ (by rw [← hm4]; exact (rem_dec c_58483 ex_58485)) y4_3 x_58485  _ _ _  (fun _ z => c_58483 z.1) rfl Y (lv_sub hl [3, 4, 1, 0] rfl)
  refine lv_iload_n hx hb dX12_common_0 rfl (lv_at hl 0 rfl) ?_
  refine lv_istore_n (lv' := [(2, .int i1), (0, .int i1), (1, .int i2)]) hx hb dX12_common_1 rfl hl (by decide) rfl (fun ls hl => ?_)
  refine lv_iload_n hx hb dX12_common_2 rfl (lv_at hl 2 rfl) ?_
  refine lv_istore_n (lv' := [(3, .int i2), (2, .int i1), (0, .int i1), (1, .int i2)]) hx hb dX12_common_3 rfl hl (by decide) rfl (fun ls hl => ?_)
  exact J_4 _ i1 i2  _ _ _  (fun h z => h z.2) rfl Y (lv_sub hl [2, 3, 1, 0] rfl)
set_option maxHeartbeats 4000000 in
set_option maxRecDepth 100000 in
theorem x_X12_isFitting {l : Launch} {G : GG}  {L : List Nat} {f : HF} {ad : Nat → Nat → Nat} {w : WW} {pi : PIT} {g0 : Nat → Int32} {i1 i2 : Int32} (I : SH (spM (IA 0 0 14 9999 w) pi (EQ g0) LDa) nnM G ad L f) (hB : BBp 0 0 14 9999 w) (hX : TX g0) : PMp l yX12_isFitting cX12_isFitting 6 .boolean 1 0 0 G [.ref (ad 0 0), .int i1, .int i2] L f (fun r => bn 0 1 r) := by
  refine PMi.of (post := fun r L1 f1 => (bn 0 1 r) ∧ L1 = L ∧ f1 = f) (own := RX12) (by decide) rfl (Nat.le_of_ble_eq_true rfl) (fun sz p e s m args below meth c A ls hA1 hname S Y hl => ?_)
  have hx := S.hx
  have hb := S.hb
  have hl : lv_has ls 6 [(0, .ref (ad 0 0)), (1, .int i1), (2, .int i2)] := hl
  have J_2 : ∀ (n2 : Nat) (y2_3 : Int32) (H : Heap) (locs : List Loc) (ls : Array Slot), (bn 0 6 y2_3) → (((6 : Int) - y2_3.toInt).toNat = n2) → (DY G A s [] L f H locs) → (lv_has ls 6 [(0, .ref (ad 0 0)), (1, .int i1), (2, .int i2), (3, .int y2_3)]) → W p l e (rmD 1 0 0) s m args below meth c H locs (0) (0) (MQ below (va_Qi (fun r (u : List Nat × HF) => (fun r L1 f1 => (bn 0 1 r) ∧ L1 = L ∧ f1 = f) r u.1 u.2) (fun u t => pOut G (va_A (va_pl L f) sz) u.1 u.2 t) (va_A (va_pl L f) sz)) args s 0 0 A) (F0 m 2 ls []) := by
    intro n2
    induction n2 using Nat.strongRecOn with
    | _ n2 ih2 =>
      intro y2_3 H locs ls b_y2_3 hm2 Y hl
      have J_36 : ∀ (n36 : Nat) (y36_4 y36_5 : Int32) (H : Heap) (locs : List Loc) (ls : Array Slot), (bn 0 14 y36_5) → (bn 0 5 y2_3) → (((14 : Int) - y36_5.toInt).toNat = n36) → (DY G A s [] L f H locs) → (lv_has ls 6 [(0, .ref (ad 0 0)), (1, .int i1), (2, .int i2), (3, .int y2_3), (4, .int y36_4), (5, .int y36_5)]) → W p l e (rmD 1 0 0) s m args below meth c H locs (0) (0) (MQ below (va_Qi (fun r (u : List Nat × HF) => (fun r L1 f1 => (bn 0 1 r) ∧ L1 = L ∧ f1 = f) r u.1 u.2) (fun u t => pOut G (va_A (va_pl L f) sz) u.1 u.2 t) (va_A (va_pl L f) sz)) args s 0 0 A) (F0 m 36 ls []) := by
        intro n36
        induction n36 using Nat.strongRecOn with
        | _ n36 ih36 =>
          intro y36_4 y36_5 H locs ls b_y36_5 b36_y2_3 hm36 Y hl
          refine lv_iload hx hb dX12_isFitting_36 (lv_at hl 5 rfl) ?_
          refine lv_aload_n hx hb dX12_isFitting_38 rfl (lv_at hl 0 rfl) ?_
          obtain ⟨v_59708, v_59710, v_59712, v_59714, v_59716, v_59718, v_59720, v_59722, v_59723, v_59725, v_59727, v_59729, v_59731, v_59733, v_59735, v_59737, v_59739, v_59741, p_ad_0_0, b_59709, b_59711, b_59713, b_59715, b_59717, b_59719, b_59721, b_59724, b_59726, b_59728, b_59730, b_59732, b_59734, b_59736, b_59738, b_59740, b_59742⟩ := opnM_0 (j := 0) I (by decide)
          have p_ad_0_0 : pt L f (ad 0 0) (.inr (12, [.ref (ad 1 0), .ref (ad 2 0), .ref (ad 3 0), .ref (ad 4 0), .int v_59708, .int v_59710, .int v_59712, .int v_59714, .int v_59716, .int v_59718, .int v_59720, .long v_59722, .int v_59723, .int v_59725, .int v_59727, .ref (ad 5 0), .ref (ad 6 0), .int v_59729, .int v_59731, .int v_59733, .int v_59735, .int v_59737, .ref (ad 7 0), .ref (ad 8 0), .ref (ad 9 0), .int v_59739, .ref (ad 10 0), .ref (ad 11 0), .ref (ad 12 0), .ref (ad 13 0), .int v_59741, .ref (ad 14 0)])) := p_ad_0_0
          refine pg_get S Y ok_X12 0 (by decide) kf12_7 (v := .ref (ad 1 0)) p_ad_0_0 rfl dX12_isFitting_39 ?_
          refine lv_bipush (v := 13) hx hb dX12_isFitting_42 (by decide) ?_
          obtain ⟨g_59743, p_ad_1_0, o_59744⟩ := I.opi (k := 1) (j := 0) (by decide) rfl
          have p_ad_1_0 : pt L f (ad 1 0) (.inl (G.2 0, 10568, .inl g_59743)) := p_ad_1_0
          obtain ⟨v_59745, ev_59745⟩ : ∃ z, z = g_59743 (13 : Int32).toNatClampNeg := ⟨_, rfl⟩
          refine pg_iald S Y (v := v_59745) p_ad_1_0 (by unfold vp_in; decide) ev_59745.symm dX12_isFitting_44 ?_
          have bv_59745 : bn 0 14 v_59745 := bn_eq ev_59745 (IA_13 o_59744)
          refine lv_icmp_ge (tgt := 84) hx hb dX12_isFitting_45 (by decide) (fun c_59746 => ?_) (fun c_59746 => ?_)
          · refine lv_iload hx hb dX12_isFitting_84 (lv_at hl 4 rfl) ?_
            refine lv_aload_n hx hb dX12_isFitting_86 rfl (lv_at hl 0 rfl) ?_
            refine pg_get S Y ok_X12 0 (by decide) kf12_7 (v := .ref (ad 1 0)) p_ad_0_0 rfl dX12_isFitting_87 ?_
            refine lv_bipush (v := 126) hx hb dX12_isFitting_90 (by decide) ?_
            refine lv_iconst (v := 3) hx hb dX12_isFitting_92 (by decide) ?_
            refine lv_iload_n hx hb dX12_isFitting_93 rfl (lv_at hl 3 rfl) ?_
            refine lv_imul hx hb dX12_isFitting_94 ?_
            refine lv_topi (fun x_59749 ex_59749 => ?_)
            refine lv_iadd hx hb dX12_isFitting_95 ?_
            refine lv_topi (fun x_59750 ex_59750 => ?_)
            refine lv_iconst (v := 2) hx hb dX12_isFitting_96 (by decide) ?_
            refine lv_iadd hx hb dX12_isFitting_97 ?_
            refine lv_topi (fun x_59751 ex_59751 => ?_)
            have B_59752 : bn 128 143 x_59751 := bn_w (bn_eq ex_59751 (bn_add (bn_eq ex_59750 (bn_add (show bn 126 126 (126 : Int32) from bn_k (by decide)) (bn_eq ex_59749 (bn_mul (show bn 3 3 (3 : Int32) from bn_k (by decide)) b36_y2_3 (by decide))) (by decide))) (show bn 2 2 (2 : Int32) from bn_k (by decide)) (by decide))) (by decide)
            obtain ⟨v_59753, ev_59753⟩ : ∃ z, z = g_59743 (x_59751 : Int32).toNatClampNeg := ⟨_, rfl⟩
            refine pg_iald S Y (v := v_59753) p_ad_1_0 (vp_bn B_59752 (by decide)) ev_59753.symm dX12_isFitting_98 ?_
            refine lv_icmp_eq (tgt := 104) hx hb dX12_isFitting_99 (by decide) (fun c_59754 => ?_) (fun c_59754 => ?_)
            · obtain ⟨x_59755, ex_59755⟩ : ∃ z : Int32, z = y2_3 + 1 := ⟨_, rfl⟩
              refine lv_iinc (v := x_59755) (lv' := [(3, .int x_59755), (0, .ref (ad 0 0)), (1, .int i1), (2, .int i2), (4, .int y36_4), (5, .int y36_5)]) hx hb dX12_isFitting_104 hl (k := 3) rfl (by rw [ex_59755]; rfl) (by decide) rfl (fun ls hl => ?_)
              refine lv_goto (tgt := 2) hx hb dX12_isFitting_107 (by decide) ?_
              exact ih2 _ (by rw [← hm2]; exact ms_up (m := 1) ex_59755 (show bn 1 1 (1 : Int32) from bn_k (by decide)) b36_y2_3 (bn_w (bn_eq ex_59755 (bn_add b36_y2_3 (show bn 1 1 (1 : Int32) from bn_k (by decide)) (by decide))) (by decide) : bn 0 6 x_59755) (by decide)) x_59755  _ _ _  (bn_w (bn_eq ex_59755 (bn_add b36_y2_3 (show bn 1 1 (1 : Int32) from bn_k (by decide)) (by decide))) (by decide)) rfl Y (lv_sub hl [1, 2, 3, 0] rfl)
            · refine lv_iconst (v := 0) hx hb dX12_isFitting_102 (by decide) ?_
              exact prI (post := fun r L1 f1 => (bn 0 1 r) ∧ L1 = L ∧ f1 = f) S Y rfl (by decide) (by decide) hA1 ⟨bn_w (show bn 0 0 (0 : Int32) from bn_k (by decide)) (by decide), rfl, rfl⟩ dX12_isFitting_103
          · have B_59747 : bn 1 14 v_59745 := bn_w (bn_gtl c_59746 bv_59745 b_y36_5) (by decide)
            have B_59748 : bn 0 13 y36_5 := bn_w (bn_gtr c_59746 bv_59745 b_y36_5) (by decide)
            refine lv_iload hx hb dX12_isFitting_48 (lv_at hl 4 rfl) ?_
            refine lv_iload_n hx hb dX12_isFitting_50 rfl (lv_at hl 1 rfl) ?_
            refine lv_iload hx hb dX12_isFitting_51 (lv_at hl 5 rfl) ?_
            refine cSp (As := [.int i1, .int y36_5]) (rest := [.int y36_4]) S Y (x_X12_has (l := l) ) cw_X12_has km12_244 rfl ⟨Nat.le_of_ble_eq_true rfl, Nat.le_of_ble_eq_true rfl⟩ hl.1 rfl (Nat.le_of_ble_eq_true rfl) ⟨Nat.le_of_ble_eq_true rfl, Nat.le_of_ble_eq_true rfl⟩ dX12_isFitting_53 (fun r_59756 H locs er_59756 Y => ?_)
            refine lv_if_eq (tgt := 74) hx hb dX12_isFitting_56 (by decide) (fun c_59757 => ?_) (fun c_59757 => ?_)
            · have B_59758 : bn 0 0 r_59756 := bn_w (bn_eq c_59757 (show bn 0 0 (0 : Int32) from bn_k (by decide))) (by decide)
              refine lv_iconst (v := 0) hx hb dX12_isFitting_74 (by decide) ?_
              refine lv_iadd hx hb dX12_isFitting_75 ?_
              refine lv_topi (fun x_59760 ex_59760 => ?_)
              refine lv_istore (lv' := [(4, .int x_59760), (0, .ref (ad 0 0)), (1, .int i1), (2, .int i2), (3, .int y2_3), (5, .int y36_5)]) hx hb dX12_isFitting_76 hl (by decide) rfl (fun ls hl => ?_)
              obtain ⟨x_59761, ex_59761⟩ : ∃ z : Int32, z = y36_5 + 1 := ⟨_, rfl⟩
              refine lv_iinc (v := x_59761) (lv' := [(5, .int x_59761), (4, .int x_59760), (0, .ref (ad 0 0)), (1, .int i1), (2, .int i2), (3, .int y2_3)]) hx hb dX12_isFitting_78 hl (k := 5) rfl (by rw [ex_59761]; rfl) (by decide) rfl (fun ls hl => ?_)
              refine lv_goto (tgt := 36) hx hb dX12_isFitting_81 (by decide) ?_
              exact ih36 _ (by rw [← hm36]; exact ms_up (m := 1) ex_59761 (show bn 1 1 (1 : Int32) from bn_k (by decide)) B_59748 (bn_w (bn_eq ex_59761 (bn_add B_59748 (show bn 1 1 (1 : Int32) from bn_k (by decide)) (by decide))) (by decide) : bn 0 14 x_59761) (by decide)) x_59760 x_59761  _ _ _  (bn_w (bn_eq ex_59761 (bn_add B_59748 (show bn 1 1 (1 : Int32) from bn_k (by decide)) (by decide))) (by decide)) (bn_w b36_y2_3 (by decide)) rfl Y (lv_sub hl [2, 3, 4, 5, 1, 0] rfl)
            · have B_59759 : bn 1 1 r_59756 := bn_w (bn_nel c_59757 er_59756 (show bn 0 0 (0 : Int32) from bn_k (by decide))) (by decide)
              refine lv_aload_n hx hb dX12_isFitting_59 rfl (lv_at hl 0 rfl) ?_
              refine pg_get S Y ok_X12 28 (by decide) kf12_56 (v := .ref (ad 12 0)) p_ad_0_0 rfl dX12_isFitting_60 ?_
              refine lv_bipush (v := 14) hx hb dX12_isFitting_63 (by decide) ?_
              refine lv_iload_n hx hb dX12_isFitting_65 rfl (lv_at hl 3 rfl) ?_
              refine lv_imul hx hb dX12_isFitting_66 ?_
              refine lv_topi (fun x_59762 ex_59762 => ?_)
              refine lv_iload hx hb dX12_isFitting_67 (lv_at hl 5 rfl) ?_
              refine lv_iadd hx hb dX12_isFitting_69 ?_
              refine lv_topi (fun x_59763 ex_59763 => ?_)
              obtain ⟨g_59764, p_ad_12_0, o_59765⟩ := I.opi (k := 12) (j := 0) (by decide) rfl
              have p_ad_12_0 : pt L f (ad 12 0) (.inl (G.2 0, 84, .inl g_59764)) := p_ad_12_0
              obtain ⟨v_59766, ev_59766⟩ : ∃ z, z = g_59764 (x_59763 : Int32).toNatClampNeg := ⟨_, rfl⟩
              refine pg_iald S Y (v := v_59766) p_ad_12_0 (vp_bn (bn_eq ex_59763 (bn_add (bn_eq ex_59762 (bn_mul (show bn 14 14 (14 : Int32) from bn_k (by decide)) b36_y2_3 (by decide))) B_59748 (by decide))) (by decide)) ev_59766.symm dX12_isFitting_70 ?_
              refine lv_goto (tgt := 75) hx hb dX12_isFitting_71 (by decide) ?_
              refine lv_iadd hx hb dX12_isFitting_75 ?_
              refine lv_topi (fun x_59767 ex_59767 => ?_)
              refine lv_istore (lv' := [(4, .int x_59767), (0, .ref (ad 0 0)), (1, .int i1), (2, .int i2), (3, .int y2_3), (5, .int y36_5)]) hx hb dX12_isFitting_76 hl (by decide) rfl (fun ls hl => ?_)
              obtain ⟨x_59768, ex_59768⟩ : ∃ z : Int32, z = y36_5 + 1 := ⟨_, rfl⟩
              refine lv_iinc (v := x_59768) (lv' := [(5, .int x_59768), (4, .int x_59767), (0, .ref (ad 0 0)), (1, .int i1), (2, .int i2), (3, .int y2_3)]) hx hb dX12_isFitting_78 hl (k := 5) rfl (by rw [ex_59768]; rfl) (by decide) rfl (fun ls hl => ?_)
              refine lv_goto (tgt := 36) hx hb dX12_isFitting_81 (by decide) ?_
              exact ih36 _ (by rw [← hm36]; exact ms_up (m := 1) ex_59768 (show bn 1 1 (1 : Int32) from bn_k (by decide)) B_59748 (bn_w (bn_eq ex_59768 (bn_add B_59748 (show bn 1 1 (1 : Int32) from bn_k (by decide)) (by decide))) (by decide) : bn 0 14 x_59768) (by decide)) x_59767 x_59768  _ _ _  (bn_w (bn_eq ex_59768 (bn_add B_59748 (show bn 1 1 (1 : Int32) from bn_k (by decide)) (by decide))) (by decide)) (bn_w b36_y2_3 (by decide)) rfl Y (lv_sub hl [2, 3, 4, 5, 1, 0] rfl)
      refine lv_iload_n hx hb dX12_isFitting_2 rfl (lv_at hl 3 rfl) ?_
      refine lv_aload_n hx hb dX12_isFitting_3 rfl (lv_at hl 0 rfl) ?_
      obtain ⟨v_59769, v_59771, v_59773, v_59775, v_59777, v_59779, v_59781, v_59783, v_59784, v_59786, v_59788, v_59790, v_59792, v_59794, v_59796, v_59798, v_59800, v_59802, p_ad_0_0, b_59770, b_59772, b_59774, b_59776, b_59778, b_59780, b_59782, b_59785, b_59787, b_59789, b_59791, b_59793, b_59795, b_59797, b_59799, b_59801, b_59803⟩ := opnM_0 (j := 0) I (by decide)
      have p_ad_0_0 : pt L f (ad 0 0) (.inr (12, [.ref (ad 1 0), .ref (ad 2 0), .ref (ad 3 0), .ref (ad 4 0), .int v_59769, .int v_59771, .int v_59773, .int v_59775, .int v_59777, .int v_59779, .int v_59781, .long v_59783, .int v_59784, .int v_59786, .int v_59788, .ref (ad 5 0), .ref (ad 6 0), .int v_59790, .int v_59792, .int v_59794, .int v_59796, .int v_59798, .ref (ad 7 0), .ref (ad 8 0), .ref (ad 9 0), .int v_59800, .ref (ad 10 0), .ref (ad 11 0), .ref (ad 12 0), .ref (ad 13 0), .int v_59802, .ref (ad 14 0)])) := p_ad_0_0
      refine pg_get S Y ok_X12 0 (by decide) kf12_7 (v := .ref (ad 1 0)) p_ad_0_0 rfl dX12_isFitting_4 ?_
      refine lv_iconst (v := 4) hx hb dX12_isFitting_7 (by decide) ?_
      obtain ⟨g_59804, p_ad_1_0, o_59805⟩ := I.opi (k := 1) (j := 0) (by decide) rfl
      have p_ad_1_0 : pt L f (ad 1 0) (.inl (G.2 0, 10568, .inl g_59804)) := p_ad_1_0
      obtain ⟨v_59806, ev_59806⟩ : ∃ z, z = g_59804 (4 : Int32).toNatClampNeg := ⟨_, rfl⟩
      refine pg_iald S Y (v := v_59806) p_ad_1_0 (by unfold vp_in; decide) ev_59806.symm dX12_isFitting_8 ?_
      have bv_59806 : bn 0 6 v_59806 := bn_eq ev_59806 (IA_4 o_59805)
      refine lv_icmp_ge (tgt := 110) hx hb dX12_isFitting_9 (by decide) (fun c_59807 => ?_) (fun c_59807 => ?_)
      · refine lv_iconst (v := 1) hx hb dX12_isFitting_110 (by decide) ?_
        exact prI (post := fun r L1 f1 => (bn 0 1 r) ∧ L1 = L ∧ f1 = f) S Y rfl (by decide) (by decide) hA1 ⟨bn_w (show bn 1 1 (1 : Int32) from bn_k (by decide)) (by decide), rfl, rfl⟩ dX12_isFitting_111
      · have B_59808 : bn 1 6 v_59806 := bn_w (bn_gtl c_59807 bv_59806 b_y2_3) (by decide)
        have B_59809 : bn 0 5 y2_3 := bn_w (bn_gtr c_59807 bv_59806 b_y2_3) (by decide)
        refine lv_aload_n hx hb dX12_isFitting_12 rfl (lv_at hl 0 rfl) ?_
        refine pg_get S Y ok_X12 0 (by decide) kf12_7 (v := .ref (ad 1 0)) p_ad_0_0 rfl dX12_isFitting_13 ?_
        refine lv_bipush (v := 126) hx hb dX12_isFitting_16 (by decide) ?_
        refine lv_iconst (v := 3) hx hb dX12_isFitting_18 (by decide) ?_
        refine lv_iload_n hx hb dX12_isFitting_19 rfl (lv_at hl 3 rfl) ?_
        refine lv_imul hx hb dX12_isFitting_20 ?_
        refine lv_topi (fun x_59810 ex_59810 => ?_)
        refine lv_iadd hx hb dX12_isFitting_21 ?_
        refine lv_topi (fun x_59811 ex_59811 => ?_)
        obtain ⟨v_59812, ev_59812⟩ : ∃ z, z = g_59804 (x_59811 : Int32).toNatClampNeg := ⟨_, rfl⟩
        refine pg_iald S Y (v := v_59812) p_ad_1_0 (vp_bn (bn_eq ex_59811 (bn_add (show bn 126 126 (126 : Int32) from bn_k (by decide)) (bn_eq ex_59810 (bn_mul (show bn 3 3 (3 : Int32) from bn_k (by decide)) B_59809 (by decide))) (by decide))) (by decide)) ev_59812.symm dX12_isFitting_22 ?_
        refine lv_iload_n hx hb dX12_isFitting_23 rfl (lv_at hl 2 rfl) ?_
        refine lv_icmp_eq (tgt := 30) hx hb dX12_isFitting_24 (by decide) (fun c_59813 => ?_) (fun c_59813 => ?_)
        · refine lv_iconst (v := 0) hx hb dX12_isFitting_30 (by decide) ?_
          refine lv_istore (lv' := [(4, .int 0), (0, .ref (ad 0 0)), (1, .int i1), (2, .int i2), (3, .int y2_3)]) hx hb dX12_isFitting_31 hl (by decide) rfl (fun ls hl => ?_)
          refine lv_iconst (v := 0) hx hb dX12_isFitting_33 (by decide) ?_
          refine lv_istore (lv' := [(5, .int 0), (4, .int 0), (0, .ref (ad 0 0)), (1, .int i1), (2, .int i2), (3, .int y2_3)]) hx hb dX12_isFitting_34 hl (by decide) rfl (fun ls hl => ?_)
          exact J_36 _ 0 0  _ _ _  (bn_w (show bn 0 0 (0 : Int32) from bn_k (by decide)) (by decide)) (bn_w B_59809 (by decide)) rfl Y (lv_sub hl [2, 3, 4, 5, 1, 0] rfl)
        · refine lv_goto (tgt := 104) hx hb dX12_isFitting_27 (by decide) ?_
          obtain ⟨x_59814, ex_59814⟩ : ∃ z : Int32, z = y2_3 + 1 := ⟨_, rfl⟩
          refine lv_iinc (v := x_59814) (lv' := [(3, .int x_59814), (0, .ref (ad 0 0)), (1, .int i1), (2, .int i2)]) hx hb dX12_isFitting_104 hl (k := 3) rfl (by rw [ex_59814]; rfl) (by decide) rfl (fun ls hl => ?_)
          refine lv_goto (tgt := 2) hx hb dX12_isFitting_107 (by decide) ?_
          exact ih2 _ (by rw [← hm2]; exact ms_up (m := 1) ex_59814 (show bn 1 1 (1 : Int32) from bn_k (by decide)) B_59809 (bn_w (bn_eq ex_59814 (bn_add B_59809 (show bn 1 1 (1 : Int32) from bn_k (by decide)) (by decide))) (by decide) : bn 0 6 x_59814) (by decide)) x_59814  _ _ _  (bn_w (bn_eq ex_59814 (bn_add B_59809 (show bn 1 1 (1 : Int32) from bn_k (by decide)) (by decide))) (by decide)) rfl Y (lv_sub hl [1, 2, 3, 0] rfl)
  refine lv_iconst (v := 0) hx hb dX12_isFitting_0 (by decide) ?_
  refine lv_istore_n (lv' := [(3, .int 0), (0, .ref (ad 0 0)), (1, .int i1), (2, .int i2)]) hx hb dX12_isFitting_1 rfl hl (by decide) rfl (fun ls hl => ?_)
  exact J_2 _ 0  _ _ _  (bn_w (show bn 0 0 (0 : Int32) from bn_k (by decide)) (by decide)) rfl Y (lv_sub hl [1, 2, 3, 0] rfl)
set_option maxHeartbeats 4000000 in
set_option maxRecDepth 100000 in
theorem x_X12_laySets {l : Launch} {G : GG}  {L : List Nat} {f : HF} {ad : Nat → Nat → Nat} {w : WW} {pi : PIT} {g0 : Nat → Int32} {i1 : Int32} (I : SH (spM (IA 0 0 14 9999 w) pi (EQ g0) LDa) nnM G ad L f) (hB : BBp 0 0 14 9999 w) (hX : TX g0) : PMv l yX12_laySets cX12_laySets 5 7 0 0 G [.ref (ad 0 0), .int i1] L f (fun L1 f1 => SH (spM (IA 0 0 14 9999 w) pi (EQ g0) LDa) nnM G ad L1 f1) := by
  refine PMv.of (post := fun L1 f1 => SH (spM (IA 0 0 14 9999 w) pi (EQ g0) LDa) nnM G ad L1 f1) (own := RX12) (by decide) rfl (Nat.le_of_ble_eq_true rfl) (fun sz p e s m args below meth c A ls hA1 hname S Y hl => ?_)
  have hx := S.hx
  have hb := S.hb
  have hl : lv_has ls 5 [(0, .ref (ad 0 0)), (1, .int i1)] := hl
  have J_117 : ∀ (n117 : Nat) (y117_2 y117_3 : Int32) (L_117 : List Nat) (f_117 : HF) (H : Heap) (locs : List Loc) (ls : Array Slot), (SH (spM (IA 0 0 14 9999 w) pi (EQ g0) LDa) nnM G ad L_117 f_117) → (bn 0 16383 y117_2) → (bn 0 16384 y117_3) → (((16384 : Int) - y117_3.toInt).toNat = n117) → (DY G A s [] L_117 f_117 H locs) → (lv_has ls 5 [(0, .ref (ad 0 0)), (1, .int i1), (2, .int y117_2), (3, .int y117_3)]) → W p l e (rmD 7 0 0) s m args below meth c H locs (0) (0) (MQ below (va_Qv (fun (u : List Nat × HF) => (fun L1 f1 => SH (spM (IA 0 0 14 9999 w) pi (EQ g0) LDa) nnM G ad L1 f1) u.1 u.2) (fun u t => pOut G (va_A (va_pl L f) sz) u.1 u.2 t) (va_A (va_pl L f) sz)) args s 0 0 A) (F0 m 117 ls []) := by
    intro n117
    induction n117 using Nat.strongRecOn with
    | _ n117 ih117 =>
      intro y117_2 y117_3 L_117 f_117 H locs ls I b_y117_2 b_y117_3 hm117 Y hl
      have J_155 : ∀ (n155 : Nat) (y155_4 : Int32) (L_155 : List Nat) (f_155 : HF) (H : Heap) (locs : List Loc) (ls : Array Slot), (SH (spM (IA 0 0 14 9999 w) pi (EQ g0) LDa) nnM G ad L_155 f_155) → (bn 0 14 y155_4) → (bn 0 16383 y117_3) → (((14 : Int) - y155_4.toInt).toNat = n155) → (DY G A s [] L_155 f_155 H locs) → (lv_has ls 5 [(0, .ref (ad 0 0)), (1, .int i1), (2, .int y117_2), (3, .int y117_3), (4, .int y155_4)]) → W p l e (rmD 7 0 0) s m args below meth c H locs (0) (0) (MQ below (va_Qv (fun (u : List Nat × HF) => (fun L1 f1 => SH (spM (IA 0 0 14 9999 w) pi (EQ g0) LDa) nnM G ad L1 f1) u.1 u.2) (fun u t => pOut G (va_A (va_pl L f) sz) u.1 u.2 t) (va_A (va_pl L f) sz)) args s 0 0 A) (F0 m 155 ls []) := by
        intro n155
        induction n155 using Nat.strongRecOn with
        | _ n155 ih155 =>
          intro y155_4 L_155 f_155 H locs ls I b_y155_4 b155_y117_3 hm155 Y hl
          refine lv_iload hx hb dX12_laySets_155 (lv_at hl 4 rfl) ?_
          refine lv_bipush (v := 14) hx hb dX12_laySets_157 (by decide) ?_
          refine lv_icmp_ge (tgt := 184) hx hb dX12_laySets_159 (by decide) (fun c_65901 => ?_) (fun c_65901 => ?_)
          · have B_65902 : bn 14 14 y155_4 := bn_w (bn_ler c_65901 (show bn 14 14 (14 : Int32) from bn_k (by decide)) b_y155_4) (by decide)
            obtain ⟨x_65904, ex_65904⟩ : ∃ z : Int32, z = y117_3 + 1 := ⟨_, rfl⟩
            refine lv_iinc (v := x_65904) (lv' := [(3, .int x_65904), (0, .ref (ad 0 0)), (1, .int i1), (2, .int y117_2), (4, .int y155_4)]) hx hb dX12_laySets_184 hl (k := 3) rfl (by rw [ex_65904]; rfl) (by decide) rfl (fun ls hl => ?_)
            refine lv_goto (tgt := 117) hx hb dX12_laySets_187 (by decide) ?_
            exact ih117 _ (by rw [← hm117]; exact ms_up (m := 1) ex_65904 (show bn 1 1 (1 : Int32) from bn_k (by decide)) b155_y117_3 (bn_w (bn_eq ex_65904 (bn_add b155_y117_3 (show bn 1 1 (1 : Int32) from bn_k (by decide)) (by decide))) (by decide) : bn 0 16384 x_65904) (by decide)) y117_2 x_65904 _ _  _ _ _ I (bn_w b_y117_2 (by decide)) (bn_w (bn_eq ex_65904 (bn_add b155_y117_3 (show bn 1 1 (1 : Int32) from bn_k (by decide)) (by decide))) (by decide)) rfl Y (lv_sub hl [1, 2, 3, 0] rfl)
          · have B_65903 : bn 0 13 y155_4 := bn_w (bn_gtr c_65901 (show bn 14 14 (14 : Int32) from bn_k (by decide)) b_y155_4) (by decide)
            refine lv_aload_n hx hb dX12_laySets_162 rfl (lv_at hl 0 rfl) ?_
            obtain ⟨v_65905, v_65907, v_65909, v_65911, v_65913, v_65915, v_65917, v_65919, v_65920, v_65922, v_65924, v_65926, v_65928, v_65930, v_65932, v_65934, v_65936, v_65938, p_ad_0_0, b_65906, b_65908, b_65910, b_65912, b_65914, b_65916, b_65918, b_65921, b_65923, b_65925, b_65927, b_65929, b_65931, b_65933, b_65935, b_65937, b_65939⟩ := opnM_0 (j := 0) I (by decide)
            have p_ad_0_0 : pt L_155 f_155 (ad 0 0) (.inr (12, [.ref (ad 1 0), .ref (ad 2 0), .ref (ad 3 0), .ref (ad 4 0), .int v_65905, .int v_65907, .int v_65909, .int v_65911, .int v_65913, .int v_65915, .int v_65917, .long v_65919, .int v_65920, .int v_65922, .int v_65924, .ref (ad 5 0), .ref (ad 6 0), .int v_65926, .int v_65928, .int v_65930, .int v_65932, .int v_65934, .ref (ad 7 0), .ref (ad 8 0), .ref (ad 9 0), .int v_65936, .ref (ad 10 0), .ref (ad 11 0), .ref (ad 12 0), .ref (ad 13 0), .int v_65938, .ref (ad 14 0)])) := p_ad_0_0
            refine pg_get S Y ok_X12 29 (by decide) kf12_59 (v := .ref (ad 13 0)) p_ad_0_0 rfl dX12_laySets_163 ?_
            refine lv_iload hx hb dX12_laySets_166 (lv_at hl 4 rfl) ?_
            refine lv_dup2_11 hx hb dX12_laySets_168 rfl rfl ?_
            obtain ⟨g_65940, p_ad_13_0, o_65941⟩ := I.opi (k := 13) (j := 0) (by decide) rfl
            have p_ad_13_0 : pt L_155 f_155 (ad 13 0) (.inl (G.2 0, 14, .inl g_65940)) := p_ad_13_0
            obtain ⟨v_65942, ev_65942⟩ : ∃ z, z = g_65940 (y155_4 : Int32).toNatClampNeg := ⟨_, rfl⟩
            refine pg_iald S Y (v := v_65942) p_ad_13_0 (vp_bn B_65903 (by decide)) ev_65942.symm dX12_laySets_169 ?_
            refine lv_iload_n hx hb dX12_laySets_170 rfl (lv_at hl 3 rfl) ?_
            refine lv_iload hx hb dX12_laySets_171 (lv_at hl 4 rfl) ?_
            refine lv_ishr hx hb dX12_laySets_173 ?_
            refine lv_topi (fun x_65943 ex_65943 => ?_)
            refine lv_iconst (v := 1) hx hb dX12_laySets_174 (by decide) ?_
            refine lv_iand hx hb dX12_laySets_175 ?_
            refine lv_topi (fun x_65944 ex_65944 => ?_)
            refine lv_iadd hx hb dX12_laySets_176 ?_
            refine lv_topi (fun x_65945 ex_65945 => ?_)
            refine pg_iast S Y p_ad_13_0 (vp_bn B_65903 (by decide)) dX12_laySets_177 (fun f_65947 H locs ef_65947 Y => ?_)
            obtain ⟨g_65946, eg_65946⟩ : ∃ z, z = upd (g_65940) (y155_4 : Int32).toNatClampNeg x_65945 := ⟨_, rfl⟩
            rw [← eg_65946] at ef_65947
            have p_ad_0_0 := p_ad_0_0.up ef_65947 (I.ne (k := 0) (j := 0) (k' := 13) (j' := 0) (by decide) (by decide) (Or.inl (by decide)))
            have p_ad_13_0 := p_ad_13_0.me ef_65947
            have o_65948 : True := trivial
            have I := I.up (k := 13) (j := 0) (by decide) ef_65947 (okE_a (g := g_65946) o_65948)
            obtain ⟨x_65949, ex_65949⟩ : ∃ z : Int32, z = y155_4 + 1 := ⟨_, rfl⟩
            refine lv_iinc (v := x_65949) (lv' := [(4, .int x_65949), (0, .ref (ad 0 0)), (1, .int i1), (2, .int y117_2), (3, .int y117_3)]) hx hb dX12_laySets_178 hl (k := 4) rfl (by rw [ex_65949]; rfl) (by decide) rfl (fun ls hl => ?_)
            refine lv_goto (tgt := 155) hx hb dX12_laySets_181 (by decide) ?_
            exact ih155 _ (by rw [← hm155]; exact ms_up (m := 1) ex_65949 (show bn 1 1 (1 : Int32) from bn_k (by decide)) B_65903 (bn_w (bn_eq ex_65949 (bn_add B_65903 (show bn 1 1 (1 : Int32) from bn_k (by decide)) (by decide))) (by decide) : bn 0 14 x_65949) (by decide)) x_65949 _ _  _ _ _ I (bn_w (bn_eq ex_65949 (bn_add B_65903 (show bn 1 1 (1 : Int32) from bn_k (by decide)) (by decide))) (by decide)) (bn_w b155_y117_3 (by decide)) rfl Y (lv_sub hl [1, 2, 3, 4, 0] rfl)
      refine lv_iload_n hx hb dX12_laySets_117 rfl (lv_at hl 3 rfl) ?_
      refine lv_iload_n hx hb dX12_laySets_118 rfl (lv_at hl 2 rfl) ?_
      refine lv_icmp_gt (tgt := 190) hx hb dX12_laySets_119 (by decide) (fun c_65950 => ?_) (fun c_65950 => ?_)
      · have B_65951 : bn 1 16384 y117_3 := bn_w (bn_ltr c_65950 b_y117_2 b_y117_3) (by decide)
        exact prV (post := fun L1 f1 => SH (spM (IA 0 0 14 9999 w) pi (EQ g0) LDa) nnM G ad L1 f1) S Y (by decide) (by decide) hA1 I dX12_laySets_190
      · have B_65952 : bn 0 16383 y117_3 := bn_w (bn_ger c_65950 b_y117_2 b_y117_3) (by decide)
        refine lv_iload_n hx hb dX12_laySets_122 rfl (lv_at hl 3 rfl) ?_
        refine lv_iload_n hx hb dX12_laySets_123 rfl (lv_at hl 2 rfl) ?_
        refine lv_iconst (v := (-1)) hx hb dX12_laySets_124 (by decide) ?_
        refine lv_ixor hx hb dX12_laySets_125 ?_
        refine lv_topi (fun x_65953 ex_65953 => ?_)
        refine lv_iand hx hb dX12_laySets_126 ?_
        refine lv_topi (fun x_65954 ex_65954 => ?_)
        refine lv_if_ne (tgt := 184) hx hb dX12_laySets_127 (by decide) (fun c_65955 => ?_) (fun c_65955 => ?_)
        · obtain ⟨x_65957, ex_65957⟩ : ∃ z : Int32, z = y117_3 + 1 := ⟨_, rfl⟩
          refine lv_iinc (v := x_65957) (lv' := [(3, .int x_65957), (0, .ref (ad 0 0)), (1, .int i1), (2, .int y117_2)]) hx hb dX12_laySets_184 hl (k := 3) rfl (by rw [ex_65957]; rfl) (by decide) rfl (fun ls hl => ?_)
          refine lv_goto (tgt := 117) hx hb dX12_laySets_187 (by decide) ?_
          exact ih117 _ (by rw [← hm117]; exact ms_up (m := 1) ex_65957 (show bn 1 1 (1 : Int32) from bn_k (by decide)) B_65952 (bn_w (bn_eq ex_65957 (bn_add B_65952 (show bn 1 1 (1 : Int32) from bn_k (by decide)) (by decide))) (by decide) : bn 0 16384 x_65957) (by decide)) y117_2 x_65957 _ _  _ _ _ I (bn_w b_y117_2 (by decide)) (bn_w (bn_eq ex_65957 (bn_add B_65952 (show bn 1 1 (1 : Int32) from bn_k (by decide)) (by decide))) (by decide)) rfl Y (lv_sub hl [1, 2, 3, 0] rfl)
        · have B_65956 : bn 0 0 x_65954 := bn_w (bn_eq c_65955 (show bn 0 0 (0 : Int32) from bn_k (by decide))) (by decide)
          refine lv_aload_n hx hb dX12_laySets_130 rfl (lv_at hl 0 rfl) ?_
          refine lv_iload_n hx hb dX12_laySets_131 rfl (lv_at hl 3 rfl) ?_
          refine lv_iload_n hx hb dX12_laySets_132 rfl (lv_at hl 1 rfl) ?_
          refine cVp (As := [.int y117_3, .int i1]) (rest := []) S Y (x_X12_isFitting (l := l) I hB hX) cw_X12_isFitting km12_413 (I.opo (k := 0) (j := 0) (by decide) rfl).choose_spec.1 ok_X12.1 rfl rfl ⟨Nat.le_of_ble_eq_true rfl, Nat.le_of_ble_eq_true rfl⟩ hl.1 rfl (Nat.le_of_ble_eq_true rfl) ⟨Nat.le_of_ble_eq_true rfl, Nat.le_of_ble_eq_true rfl⟩ dX12_laySets_133 (fun r_65958 H locs er_65958 Y => ?_)
          refine lv_if_ne (tgt := 142) hx hb dX12_laySets_136 (by decide) (fun c_65959 => ?_) (fun c_65959 => ?_)
          · have B_65960 : bn 1 1 r_65958 := bn_w (bn_nel c_65959 er_65958 (show bn 0 0 (0 : Int32) from bn_k (by decide))) (by decide)
            refine lv_aload_n hx hb dX12_laySets_142 rfl (lv_at hl 0 rfl) ?_
            refine lv_dup hx hb dX12_laySets_143 rfl ?_
            obtain ⟨v_65962, v_65964, v_65966, v_65968, v_65970, v_65972, v_65974, v_65976, v_65977, v_65979, v_65981, v_65983, v_65985, v_65987, v_65989, v_65991, v_65993, v_65995, p_ad_0_0, b_65963, b_65965, b_65967, b_65969, b_65971, b_65973, b_65975, b_65978, b_65980, b_65982, b_65984, b_65986, b_65988, b_65990, b_65992, b_65994, b_65996⟩ := opnM_0 (j := 0) I (by decide)
            have p_ad_0_0 : pt L_117 f_117 (ad 0 0) (.inr (12, [.ref (ad 1 0), .ref (ad 2 0), .ref (ad 3 0), .ref (ad 4 0), .int v_65962, .int v_65964, .int v_65966, .int v_65968, .int v_65970, .int v_65972, .int v_65974, .long v_65976, .int v_65977, .int v_65979, .int v_65981, .ref (ad 5 0), .ref (ad 6 0), .int v_65983, .int v_65985, .int v_65987, .int v_65989, .int v_65991, .ref (ad 7 0), .ref (ad 8 0), .ref (ad 9 0), .int v_65993, .ref (ad 10 0), .ref (ad 11 0), .ref (ad 12 0), .ref (ad 13 0), .int v_65995, .ref (ad 14 0)])) := p_ad_0_0
            refine pg_get S Y ok_X12 30 (by decide) kf12_410 (v := .int v_65995) p_ad_0_0 rfl dX12_laySets_144 ?_
            refine lv_iconst (v := 1) hx hb dX12_laySets_147 (by decide) ?_
            refine lv_iadd hx hb dX12_laySets_148 ?_
            refine lv_topi (fun x_65997 ex_65997 => ?_)
            refine pg_put S Y ok_X12 30 (by decide) kf12_410 rfl (fs' := [.ref (ad 1 0), .ref (ad 2 0), .ref (ad 3 0), .ref (ad 4 0), .int v_65962, .int v_65964, .int v_65966, .int v_65968, .int v_65970, .int v_65972, .int v_65974, .long v_65976, .int v_65977, .int v_65979, .int v_65981, .ref (ad 5 0), .ref (ad 6 0), .int v_65983, .int v_65985, .int v_65987, .int v_65989, .int v_65991, .ref (ad 7 0), .ref (ad 8 0), .ref (ad 9 0), .int v_65993, .ref (ad 10 0), .ref (ad 11 0), .ref (ad 12 0), .ref (ad 13 0), .int x_65997, .ref (ad 14 0)]) (v := .int x_65997) p_ad_0_0 rfl rfl rfl (Nat.le_of_ble_eq_true rfl) dX12_laySets_149 (fun f_65998 H locs ef_65998 Y => ?_)
            have p_ad_0_0 := p_ad_0_0.me ef_65998
            have I := I.up (k := 0) (j := 0) (by decide) ef_65998 (okE_o (okFs_c okV_r (okFs_c okV_r (okFs_c okV_r (okFs_c okV_r (okFs_c (okV_p b_65963) (okFs_c (okV_p b_65965) (okFs_c (okV_p b_65967) (okFs_c (okV_i b_65969) (okFs_c (okV_i b_65971) (okFs_c (okV_i b_65973) (okFs_c (okV_i b_65975) (okFs_c okV_l (okFs_c (okV_i b_65978) (okFs_c (okV_i b_65980) (okFs_c (okV_i b_65982) (okFs_c okV_r (okFs_c okV_r (okFs_c (okV_i b_65984) (okFs_c (okV_i b_65986) (okFs_c (okV_i b_65988) (okFs_c (okV_i b_65990) (okFs_c (okV_i b_65992) (okFs_c okV_r (okFs_c okV_r (okFs_c okV_r (okFs_c (okV_i b_65994) (okFs_c okV_r (okFs_c okV_r (okFs_c okV_r (okFs_c okV_r (okFs_c (okV_i (bn_w (bn_any x_65997) (by decide))) (okFs_c okV_r okFs_n)))))))))))))))))))))))))))))))))
            refine lv_iconst (v := 0) hx hb dX12_laySets_152 (by decide) ?_
            refine lv_istore (lv' := [(4, .int 0), (0, .ref (ad 0 0)), (1, .int i1), (2, .int y117_2), (3, .int y117_3)]) hx hb dX12_laySets_153 hl (by decide) rfl (fun ls hl => ?_)
            exact J_155 _ 0 _ _  _ _ _ I (bn_w (show bn 0 0 (0 : Int32) from bn_k (by decide)) (by decide)) (bn_w B_65952 (by decide)) rfl Y (lv_sub hl [1, 2, 3, 4, 0] rfl)
          · have B_65961 : bn 0 0 r_65958 := bn_w (bn_eq c_65959 (show bn 0 0 (0 : Int32) from bn_k (by decide))) (by decide)
            refine lv_goto (tgt := 184) hx hb dX12_laySets_139 (by decide) ?_
            obtain ⟨x_65999, ex_65999⟩ : ∃ z : Int32, z = y117_3 + 1 := ⟨_, rfl⟩
            refine lv_iinc (v := x_65999) (lv' := [(3, .int x_65999), (0, .ref (ad 0 0)), (1, .int i1), (2, .int y117_2)]) hx hb dX12_laySets_184 hl (k := 3) rfl (by rw [ex_65999]; rfl) (by decide) rfl (fun ls hl => ?_)
            refine lv_goto (tgt := 117) hx hb dX12_laySets_187 (by decide) ?_
            exact ih117 _ (by rw [← hm117]; exact ms_up (m := 1) ex_65999 (show bn 1 1 (1 : Int32) from bn_k (by decide)) B_65952 (bn_w (bn_eq ex_65999 (bn_add B_65952 (show bn 1 1 (1 : Int32) from bn_k (by decide)) (by decide))) (by decide) : bn 0 16384 x_65999) (by decide)) y117_2 x_65999 _ _  _ _ _ I (bn_w b_y117_2 (by decide)) (bn_w (bn_eq ex_65999 (bn_add B_65952 (show bn 1 1 (1 : Int32) from bn_k (by decide)) (by decide))) (by decide)) rfl Y (lv_sub hl [1, 2, 3, 0] rfl)
  have J_96 : ∀ (n96 : Nat) (y96_2 y96_3 : Int32) (L_96 : List Nat) (f_96 : HF) (H : Heap) (locs : List Loc) (ls : Array Slot), (SH (spM (IA 0 0 14 9999 w) pi (EQ g0) LDa) nnM G ad L_96 f_96) → (bn 0 16383 y96_2) → (bn 0 14 y96_3) → (((14 : Int) - y96_3.toInt).toNat = n96) → (DY G A s [] L_96 f_96 H locs) → (lv_has ls 5 [(0, .ref (ad 0 0)), (1, .int i1), (2, .int y96_2), (3, .int y96_3)]) → W p l e (rmD 7 0 0) s m args below meth c H locs (0) (0) (MQ below (va_Qv (fun (u : List Nat × HF) => (fun L1 f1 => SH (spM (IA 0 0 14 9999 w) pi (EQ g0) LDa) nnM G ad L1 f1) u.1 u.2) (fun u t => pOut G (va_A (va_pl L f) sz) u.1 u.2 t) (va_A (va_pl L f) sz)) args s 0 0 A) (F0 m 96 ls []) := by
    intro n96
    induction n96 using Nat.strongRecOn with
    | _ n96 ih96 =>
      intro y96_2 y96_3 L_96 f_96 H locs ls I b_y96_2 b_y96_3 hm96 Y hl
      refine lv_iload_n hx hb dX12_laySets_96 rfl (lv_at hl 3 rfl) ?_
      refine lv_bipush (v := 14) hx hb dX12_laySets_97 (by decide) ?_
      refine lv_icmp_ge (tgt := 115) hx hb dX12_laySets_99 (by decide) (fun c_66000 => ?_) (fun c_66000 => ?_)
      · have B_66001 : bn 14 14 y96_3 := bn_w (bn_ler c_66000 (show bn 14 14 (14 : Int32) from bn_k (by decide)) b_y96_3) (by decide)
        refine lv_iconst (v := 0) hx hb dX12_laySets_115 (by decide) ?_
        refine lv_istore_n (lv' := [(3, .int 0), (0, .ref (ad 0 0)), (1, .int i1), (2, .int y96_2)]) hx hb dX12_laySets_116 rfl hl (by decide) rfl (fun ls hl => ?_)
        exact J_117 _ y96_2 0 _ _  _ _ _ I (bn_w b_y96_2 (by decide)) (bn_w (show bn 0 0 (0 : Int32) from bn_k (by decide)) (by decide)) rfl Y (lv_sub hl [1, 2, 3, 0] rfl)
      · have B_66002 : bn 0 13 y96_3 := bn_w (bn_gtr c_66000 (show bn 14 14 (14 : Int32) from bn_k (by decide)) b_y96_3) (by decide)
        refine lv_aload_n hx hb dX12_laySets_102 rfl (lv_at hl 0 rfl) ?_
        obtain ⟨v_66003, v_66005, v_66007, v_66009, v_66011, v_66013, v_66015, v_66017, v_66018, v_66020, v_66022, v_66024, v_66026, v_66028, v_66030, v_66032, v_66034, v_66036, p_ad_0_0, b_66004, b_66006, b_66008, b_66010, b_66012, b_66014, b_66016, b_66019, b_66021, b_66023, b_66025, b_66027, b_66029, b_66031, b_66033, b_66035, b_66037⟩ := opnM_0 (j := 0) I (by decide)
        have p_ad_0_0 : pt L_96 f_96 (ad 0 0) (.inr (12, [.ref (ad 1 0), .ref (ad 2 0), .ref (ad 3 0), .ref (ad 4 0), .int v_66003, .int v_66005, .int v_66007, .int v_66009, .int v_66011, .int v_66013, .int v_66015, .long v_66017, .int v_66018, .int v_66020, .int v_66022, .ref (ad 5 0), .ref (ad 6 0), .int v_66024, .int v_66026, .int v_66028, .int v_66030, .int v_66032, .ref (ad 7 0), .ref (ad 8 0), .ref (ad 9 0), .int v_66034, .ref (ad 10 0), .ref (ad 11 0), .ref (ad 12 0), .ref (ad 13 0), .int v_66036, .ref (ad 14 0)])) := p_ad_0_0
        refine pg_get S Y ok_X12 29 (by decide) kf12_59 (v := .ref (ad 13 0)) p_ad_0_0 rfl dX12_laySets_103 ?_
        refine lv_iload_n hx hb dX12_laySets_106 rfl (lv_at hl 3 rfl) ?_
        refine lv_iconst (v := 0) hx hb dX12_laySets_107 (by decide) ?_
        obtain ⟨g_66038, p_ad_13_0, o_66039⟩ := I.opi (k := 13) (j := 0) (by decide) rfl
        have p_ad_13_0 : pt L_96 f_96 (ad 13 0) (.inl (G.2 0, 14, .inl g_66038)) := p_ad_13_0
        refine pg_iast S Y p_ad_13_0 (vp_bn B_66002 (by decide)) dX12_laySets_108 (fun f_66041 H locs ef_66041 Y => ?_)
        obtain ⟨g_66040, eg_66040⟩ : ∃ z, z = upd (g_66038) (y96_3 : Int32).toNatClampNeg 0 := ⟨_, rfl⟩
        rw [← eg_66040] at ef_66041
        have p_ad_0_0 := p_ad_0_0.up ef_66041 (I.ne (k := 0) (j := 0) (k' := 13) (j' := 0) (by decide) (by decide) (Or.inl (by decide)))
        have p_ad_13_0 := p_ad_13_0.me ef_66041
        have o_66042 : True := trivial
        have I := I.up (k := 13) (j := 0) (by decide) ef_66041 (okE_a (g := g_66040) o_66042)
        obtain ⟨x_66043, ex_66043⟩ : ∃ z : Int32, z = y96_3 + 1 := ⟨_, rfl⟩
        refine lv_iinc (v := x_66043) (lv' := [(3, .int x_66043), (0, .ref (ad 0 0)), (1, .int i1), (2, .int y96_2)]) hx hb dX12_laySets_109 hl (k := 3) rfl (by rw [ex_66043]; rfl) (by decide) rfl (fun ls hl => ?_)
        refine lv_goto (tgt := 96) hx hb dX12_laySets_112 (by decide) ?_
        exact ih96 _ (by rw [← hm96]; exact ms_up (m := 1) ex_66043 (show bn 1 1 (1 : Int32) from bn_k (by decide)) B_66002 (bn_w (bn_eq ex_66043 (bn_add B_66002 (show bn 1 1 (1 : Int32) from bn_k (by decide)) (by decide))) (by decide) : bn 0 14 x_66043) (by decide)) y96_2 x_66043 _ _  _ _ _ I (bn_w b_y96_2 (by decide)) (bn_w (bn_eq ex_66043 (bn_add B_66002 (show bn 1 1 (1 : Int32) from bn_k (by decide)) (by decide))) (by decide)) rfl Y (lv_sub hl [1, 2, 3, 0] rfl)
  have J_8 : ∀ (n8 : Nat) (y8_2 y8_3 : Int32) (L_8 : List Nat) (f_8 : HF) (H : Heap) (locs : List Loc) (ls : Array Slot), (SH (spM (IA 0 0 14 9999 w) pi (EQ g0) LDa) nnM G ad L_8 f_8) → (bn 0 16383 y8_2) → (bn 0 6 y8_3) → (((6 : Int) - y8_3.toInt).toNat = n8) → (DY G A s [] L_8 f_8 H locs) → (lv_has ls 5 [(0, .ref (ad 0 0)), (1, .int i1), (2, .int y8_2), (3, .int y8_3)]) → W p l e (rmD 7 0 0) s m args below meth c H locs (0) (0) (MQ below (va_Qv (fun (u : List Nat × HF) => (fun L1 f1 => SH (spM (IA 0 0 14 9999 w) pi (EQ g0) LDa) nnM G ad L1 f1) u.1 u.2) (fun u t => pOut G (va_A (va_pl L f) sz) u.1 u.2 t) (va_A (va_pl L f) sz)) args s 0 0 A) (F0 m 8 ls []) := by
    intro n8
    induction n8 using Nat.strongRecOn with
    | _ n8 ih8 =>
      intro y8_2 y8_3 L_8 f_8 H locs ls I b_y8_2 b_y8_3 hm8 Y hl
      have J_21 : ∀ (n21 : Nat) (y21_4 : Int32) (L_21 : List Nat) (f_21 : HF) (H : Heap) (locs : List Loc) (ls : Array Slot), (SH (spM (IA 0 0 14 9999 w) pi (EQ g0) LDa) nnM G ad L_21 f_21) → (bn 0 14 y21_4) → (bn 0 5 y8_3) → (((14 : Int) - y21_4.toInt).toNat = n21) → (DY G A s [] L_21 f_21 H locs) → (lv_has ls 5 [(0, .ref (ad 0 0)), (1, .int i1), (2, .int y8_2), (3, .int y8_3), (4, .int y21_4)]) → W p l e (rmD 7 0 0) s m args below meth c H locs (0) (0) (MQ below (va_Qv (fun (u : List Nat × HF) => (fun L1 f1 => SH (spM (IA 0 0 14 9999 w) pi (EQ g0) LDa) nnM G ad L1 f1) u.1 u.2) (fun u t => pOut G (va_A (va_pl L f) sz) u.1 u.2 t) (va_A (va_pl L f) sz)) args s 0 0 A) (F0 m 21 ls []) := by
        intro n21
        induction n21 using Nat.strongRecOn with
        | _ n21 ih21 =>
          intro y21_4 L_21 f_21 H locs ls I b_y21_4 b21_y8_3 hm21 Y hl
          refine lv_iload hx hb dX12_laySets_21 (lv_at hl 4 rfl) ?_
          refine lv_aload_n hx hb dX12_laySets_23 rfl (lv_at hl 0 rfl) ?_
          obtain ⟨v_66044, v_66046, v_66048, v_66050, v_66052, v_66054, v_66056, v_66058, v_66059, v_66061, v_66063, v_66065, v_66067, v_66069, v_66071, v_66073, v_66075, v_66077, p_ad_0_0, b_66045, b_66047, b_66049, b_66051, b_66053, b_66055, b_66057, b_66060, b_66062, b_66064, b_66066, b_66068, b_66070, b_66072, b_66074, b_66076, b_66078⟩ := opnM_0 (j := 0) I (by decide)
          have p_ad_0_0 : pt L_21 f_21 (ad 0 0) (.inr (12, [.ref (ad 1 0), .ref (ad 2 0), .ref (ad 3 0), .ref (ad 4 0), .int v_66044, .int v_66046, .int v_66048, .int v_66050, .int v_66052, .int v_66054, .int v_66056, .long v_66058, .int v_66059, .int v_66061, .int v_66063, .ref (ad 5 0), .ref (ad 6 0), .int v_66065, .int v_66067, .int v_66069, .int v_66071, .int v_66073, .ref (ad 7 0), .ref (ad 8 0), .ref (ad 9 0), .int v_66075, .ref (ad 10 0), .ref (ad 11 0), .ref (ad 12 0), .ref (ad 13 0), .int v_66077, .ref (ad 14 0)])) := p_ad_0_0
          refine pg_get S Y ok_X12 0 (by decide) kf12_7 (v := .ref (ad 1 0)) p_ad_0_0 rfl dX12_laySets_24 ?_
          refine lv_bipush (v := 13) hx hb dX12_laySets_27 (by decide) ?_
          obtain ⟨g_66079, p_ad_1_0, o_66080⟩ := I.opi (k := 1) (j := 0) (by decide) rfl
          have p_ad_1_0 : pt L_21 f_21 (ad 1 0) (.inl (G.2 0, 10568, .inl g_66079)) := p_ad_1_0
          obtain ⟨v_66081, ev_66081⟩ : ∃ z, z = g_66079 (13 : Int32).toNatClampNeg := ⟨_, rfl⟩
          refine pg_iald S Y (v := v_66081) p_ad_1_0 (by unfold vp_in; decide) ev_66081.symm dX12_laySets_29 ?_
          have bv_66081 : bn 0 14 v_66081 := bn_eq ev_66081 (IA_13 o_66080)
          refine lv_icmp_ge (tgt := 83) hx hb dX12_laySets_30 (by decide) (fun c_66082 => ?_) (fun c_66082 => ?_)
          · obtain ⟨x_66085, ex_66085⟩ : ∃ z : Int32, z = y8_3 + 1 := ⟨_, rfl⟩
            refine lv_iinc (v := x_66085) (lv' := [(3, .int x_66085), (0, .ref (ad 0 0)), (1, .int i1), (2, .int y8_2), (4, .int y21_4)]) hx hb dX12_laySets_83 hl (k := 3) rfl (by rw [ex_66085]; rfl) (by decide) rfl (fun ls hl => ?_)
            refine lv_goto (tgt := 8) hx hb dX12_laySets_86 (by decide) ?_
            exact ih8 _ (by rw [← hm8]; exact ms_up (m := 1) ex_66085 (show bn 1 1 (1 : Int32) from bn_k (by decide)) b21_y8_3 (bn_w (bn_eq ex_66085 (bn_add b21_y8_3 (show bn 1 1 (1 : Int32) from bn_k (by decide)) (by decide))) (by decide) : bn 0 6 x_66085) (by decide)) y8_2 x_66085 _ _  _ _ _ I (bn_w b_y8_2 (by decide)) (bn_w (bn_eq ex_66085 (bn_add b21_y8_3 (show bn 1 1 (1 : Int32) from bn_k (by decide)) (by decide))) (by decide)) rfl Y (lv_sub hl [1, 2, 3, 0] rfl)
          · have B_66083 : bn 1 14 v_66081 := bn_w (bn_gtl c_66082 bv_66081 b_y21_4) (by decide)
            have B_66084 : bn 0 13 y21_4 := bn_w (bn_gtr c_66082 bv_66081 b_y21_4) (by decide)
            refine lv_aload_n hx hb dX12_laySets_33 rfl (lv_at hl 0 rfl) ?_
            refine pg_get S Y ok_X12 28 (by decide) kf12_56 (v := .ref (ad 12 0)) p_ad_0_0 rfl dX12_laySets_34 ?_
            refine lv_bipush (v := 14) hx hb dX12_laySets_37 (by decide) ?_
            refine lv_iload_n hx hb dX12_laySets_39 rfl (lv_at hl 3 rfl) ?_
            refine lv_imul hx hb dX12_laySets_40 ?_
            refine lv_topi (fun x_66086 ex_66086 => ?_)
            refine lv_iload hx hb dX12_laySets_41 (lv_at hl 4 rfl) ?_
            refine lv_iadd hx hb dX12_laySets_43 ?_
            refine lv_topi (fun x_66087 ex_66087 => ?_)
            refine lv_iload_n hx hb dX12_laySets_44 rfl (lv_at hl 2 rfl) ?_
            refine lv_iload hx hb dX12_laySets_45 (lv_at hl 4 rfl) ?_
            refine cSp (As := [.int y8_2, .int y21_4]) (rest := [.int x_66087, .ref (ad 12 0)]) S Y (x_X12_has (l := l) ) cw_X12_has km12_244 rfl ⟨Nat.le_of_ble_eq_true rfl, Nat.le_of_ble_eq_true rfl⟩ hl.1 rfl (Nat.le_of_ble_eq_true rfl) ⟨Nat.le_of_ble_eq_true rfl, Nat.le_of_ble_eq_true rfl⟩ dX12_laySets_47 (fun r_66088 H locs er_66088 Y => ?_)
            refine lv_if_eq (tgt := 75) hx hb dX12_laySets_50 (by decide) (fun c_66089 => ?_) (fun c_66089 => ?_)
            · have B_66090 : bn 0 0 r_66088 := bn_w (bn_eq c_66089 (show bn 0 0 (0 : Int32) from bn_k (by decide))) (by decide)
              refine lv_iconst (v := 0) hx hb dX12_laySets_75 (by decide) ?_
              obtain ⟨g_66092, p_ad_12_0, o_66093⟩ := I.opi (k := 12) (j := 0) (by decide) rfl
              have p_ad_12_0 : pt L_21 f_21 (ad 12 0) (.inl (G.2 0, 84, .inl g_66092)) := p_ad_12_0
              refine pg_iast S Y p_ad_12_0 (vp_bn (bn_eq ex_66087 (bn_add (bn_eq ex_66086 (bn_mul (show bn 14 14 (14 : Int32) from bn_k (by decide)) b21_y8_3 (by decide))) B_66084 (by decide))) (by decide)) dX12_laySets_76 (fun f_66095 H locs ef_66095 Y => ?_)
              obtain ⟨g_66094, eg_66094⟩ : ∃ z, z = upd (g_66092) (x_66087 : Int32).toNatClampNeg 0 := ⟨_, rfl⟩
              rw [← eg_66094] at ef_66095
              have p_ad_0_0 := p_ad_0_0.up ef_66095 (I.ne (k := 0) (j := 0) (k' := 12) (j' := 0) (by decide) (by decide) (Or.inl (by decide)))
              have p_ad_1_0 := p_ad_1_0.up ef_66095 (I.ne (k := 1) (j := 0) (k' := 12) (j' := 0) (by decide) (by decide) (Or.inl (by decide)))
              have p_ad_12_0 := p_ad_12_0.me ef_66095
              have o_66096 : True := trivial
              have I := I.up (k := 12) (j := 0) (by decide) ef_66095 (okE_a (g := g_66094) o_66096)
              obtain ⟨x_66097, ex_66097⟩ : ∃ z : Int32, z = y21_4 + 1 := ⟨_, rfl⟩
              refine lv_iinc (v := x_66097) (lv' := [(4, .int x_66097), (0, .ref (ad 0 0)), (1, .int i1), (2, .int y8_2), (3, .int y8_3)]) hx hb dX12_laySets_77 hl (k := 4) rfl (by rw [ex_66097]; rfl) (by decide) rfl (fun ls hl => ?_)
              refine lv_goto (tgt := 21) hx hb dX12_laySets_80 (by decide) ?_
              exact ih21 _ (by rw [← hm21]; exact ms_up (m := 1) ex_66097 (show bn 1 1 (1 : Int32) from bn_k (by decide)) B_66084 (bn_w (bn_eq ex_66097 (bn_add B_66084 (show bn 1 1 (1 : Int32) from bn_k (by decide)) (by decide))) (by decide) : bn 0 14 x_66097) (by decide)) x_66097 _ _  _ _ _ I (bn_w (bn_eq ex_66097 (bn_add B_66084 (show bn 1 1 (1 : Int32) from bn_k (by decide)) (by decide))) (by decide)) (bn_w b21_y8_3 (by decide)) rfl Y (lv_sub hl [1, 2, 3, 4, 0] rfl)
            · have B_66091 : bn 1 1 r_66088 := bn_w (bn_nel c_66089 er_66088 (show bn 0 0 (0 : Int32) from bn_k (by decide))) (by decide)
              refine lv_aload_n hx hb dX12_laySets_53 rfl (lv_at hl 0 rfl) ?_
              refine lv_iload hx hb dX12_laySets_54 (lv_at hl 4 rfl) ?_
              refine lv_aload_n hx hb dX12_laySets_56 rfl (lv_at hl 0 rfl) ?_
              refine pg_get S Y ok_X12 0 (by decide) kf12_7 (v := .ref (ad 1 0)) p_ad_0_0 rfl dX12_laySets_57 ?_
              refine lv_bipush (v := 126) hx hb dX12_laySets_60 (by decide) ?_
              refine lv_iconst (v := 3) hx hb dX12_laySets_62 (by decide) ?_
              refine lv_iload_n hx hb dX12_laySets_63 rfl (lv_at hl 3 rfl) ?_
              refine lv_imul hx hb dX12_laySets_64 ?_
              refine lv_topi (fun x_66098 ex_66098 => ?_)
              refine lv_iadd hx hb dX12_laySets_65 ?_
              refine lv_topi (fun x_66099 ex_66099 => ?_)
              refine lv_iconst (v := 1) hx hb dX12_laySets_66 (by decide) ?_
              refine lv_iadd hx hb dX12_laySets_67 ?_
              refine lv_topi (fun x_66100 ex_66100 => ?_)
              have B_66101 : bn 127 142 x_66100 := bn_w (bn_eq ex_66100 (bn_add (bn_eq ex_66099 (bn_add (show bn 126 126 (126 : Int32) from bn_k (by decide)) (bn_eq ex_66098 (bn_mul (show bn 3 3 (3 : Int32) from bn_k (by decide)) b21_y8_3 (by decide))) (by decide))) (show bn 1 1 (1 : Int32) from bn_k (by decide)) (by decide))) (by decide)
              obtain ⟨v_66102, ev_66102⟩ : ∃ z, z = g_66079 (x_66100 : Int32).toNatClampNeg := ⟨_, rfl⟩
              refine pg_iald S Y (v := v_66102) p_ad_1_0 (vp_bn B_66101 (by decide)) ev_66102.symm dX12_laySets_68 ?_
              refine cVi (As := [.int y21_4, .int v_66102]) (rest := [.int x_66087, .ref (ad 12 0)]) S Y (x_X12_achesOf (l := l) I hB hX (bn_w B_66084 (by decide))) cw_X12_achesOf km12_308 p_ad_0_0 ok_X12.1 rfl rfl ⟨Nat.le_of_ble_eq_true rfl, Nat.le_of_ble_eq_true rfl⟩ hl.1 rfl (Nat.le_of_ble_eq_true rfl) ⟨Nat.le_of_ble_eq_true rfl, Nat.le_of_ble_eq_true rfl⟩ dX12_laySets_69 (fun r_66105 L_66103 f_66104 H locs I Y => ?_)
              refine lv_goto (tgt := 76) hx hb dX12_laySets_72 (by decide) ?_
              obtain ⟨g_66106, p_ad_12_0, o_66107⟩ := I.opi (k := 12) (j := 0) (by decide) rfl
              have p_ad_12_0 : pt L_66103 f_66104 (ad 12 0) (.inl (G.2 0, 84, .inl g_66106)) := p_ad_12_0
              refine pg_iast S Y p_ad_12_0 (vp_bn (bn_eq ex_66087 (bn_add (bn_eq ex_66086 (bn_mul (show bn 14 14 (14 : Int32) from bn_k (by decide)) b21_y8_3 (by decide))) B_66084 (by decide))) (by decide)) dX12_laySets_76 (fun f_66109 H locs ef_66109 Y => ?_)
              obtain ⟨g_66108, eg_66108⟩ : ∃ z, z = upd (g_66106) (x_66087 : Int32).toNatClampNeg r_66105 := ⟨_, rfl⟩
              rw [← eg_66108] at ef_66109
              have p_ad_12_0 := p_ad_12_0.me ef_66109
              have o_66110 : True := trivial
              have I := I.up (k := 12) (j := 0) (by decide) ef_66109 (okE_a (g := g_66108) o_66110)
              obtain ⟨x_66111, ex_66111⟩ : ∃ z : Int32, z = y21_4 + 1 := ⟨_, rfl⟩
              refine lv_iinc (v := x_66111) (lv' := [(4, .int x_66111), (0, .ref (ad 0 0)), (1, .int i1), (2, .int y8_2), (3, .int y8_3)]) hx hb dX12_laySets_77 hl (k := 4) rfl (by rw [ex_66111]; rfl) (by decide) rfl (fun ls hl => ?_)
              refine lv_goto (tgt := 21) hx hb dX12_laySets_80 (by decide) ?_
              exact ih21 _ (by rw [← hm21]; exact ms_up (m := 1) ex_66111 (show bn 1 1 (1 : Int32) from bn_k (by decide)) B_66084 (bn_w (bn_eq ex_66111 (bn_add B_66084 (show bn 1 1 (1 : Int32) from bn_k (by decide)) (by decide))) (by decide) : bn 0 14 x_66111) (by decide)) x_66111 _ _  _ _ _ I (bn_w (bn_eq ex_66111 (bn_add B_66084 (show bn 1 1 (1 : Int32) from bn_k (by decide)) (by decide))) (by decide)) (bn_w b21_y8_3 (by decide)) rfl Y (lv_sub hl [1, 2, 3, 4, 0] rfl)
      refine lv_iload_n hx hb dX12_laySets_8 rfl (lv_at hl 3 rfl) ?_
      refine lv_aload_n hx hb dX12_laySets_9 rfl (lv_at hl 0 rfl) ?_
      obtain ⟨v_66112, v_66114, v_66116, v_66118, v_66120, v_66122, v_66124, v_66126, v_66127, v_66129, v_66131, v_66133, v_66135, v_66137, v_66139, v_66141, v_66143, v_66145, p_ad_0_0, b_66113, b_66115, b_66117, b_66119, b_66121, b_66123, b_66125, b_66128, b_66130, b_66132, b_66134, b_66136, b_66138, b_66140, b_66142, b_66144, b_66146⟩ := opnM_0 (j := 0) I (by decide)
      have p_ad_0_0 : pt L_8 f_8 (ad 0 0) (.inr (12, [.ref (ad 1 0), .ref (ad 2 0), .ref (ad 3 0), .ref (ad 4 0), .int v_66112, .int v_66114, .int v_66116, .int v_66118, .int v_66120, .int v_66122, .int v_66124, .long v_66126, .int v_66127, .int v_66129, .int v_66131, .ref (ad 5 0), .ref (ad 6 0), .int v_66133, .int v_66135, .int v_66137, .int v_66139, .int v_66141, .ref (ad 7 0), .ref (ad 8 0), .ref (ad 9 0), .int v_66143, .ref (ad 10 0), .ref (ad 11 0), .ref (ad 12 0), .ref (ad 13 0), .int v_66145, .ref (ad 14 0)])) := p_ad_0_0
      refine pg_get S Y ok_X12 0 (by decide) kf12_7 (v := .ref (ad 1 0)) p_ad_0_0 rfl dX12_laySets_10 ?_
      refine lv_iconst (v := 4) hx hb dX12_laySets_13 (by decide) ?_
      obtain ⟨g_66147, p_ad_1_0, o_66148⟩ := I.opi (k := 1) (j := 0) (by decide) rfl
      have p_ad_1_0 : pt L_8 f_8 (ad 1 0) (.inl (G.2 0, 10568, .inl g_66147)) := p_ad_1_0
      obtain ⟨v_66149, ev_66149⟩ : ∃ z, z = g_66147 (4 : Int32).toNatClampNeg := ⟨_, rfl⟩
      refine pg_iald S Y (v := v_66149) p_ad_1_0 (by unfold vp_in; decide) ev_66149.symm dX12_laySets_14 ?_
      have bv_66149 : bn 0 6 v_66149 := bn_eq ev_66149 (IA_4 o_66148)
      refine lv_icmp_ge (tgt := 89) hx hb dX12_laySets_15 (by decide) (fun c_66150 => ?_) (fun c_66150 => ?_)
      · refine lv_aload_n hx hb dX12_laySets_89 rfl (lv_at hl 0 rfl) ?_
        refine lv_iconst (v := 0) hx hb dX12_laySets_90 (by decide) ?_
        refine pg_put S Y ok_X12 30 (by decide) kf12_410 rfl (fs' := [.ref (ad 1 0), .ref (ad 2 0), .ref (ad 3 0), .ref (ad 4 0), .int v_66112, .int v_66114, .int v_66116, .int v_66118, .int v_66120, .int v_66122, .int v_66124, .long v_66126, .int v_66127, .int v_66129, .int v_66131, .ref (ad 5 0), .ref (ad 6 0), .int v_66133, .int v_66135, .int v_66137, .int v_66139, .int v_66141, .ref (ad 7 0), .ref (ad 8 0), .ref (ad 9 0), .int v_66143, .ref (ad 10 0), .ref (ad 11 0), .ref (ad 12 0), .ref (ad 13 0), .int 0, .ref (ad 14 0)]) (v := .int 0) p_ad_0_0 rfl rfl rfl (Nat.le_of_ble_eq_true rfl) dX12_laySets_91 (fun f_66153 H locs ef_66153 Y => ?_)
        have p_ad_1_0 := p_ad_1_0.up ef_66153 (I.ne (k := 1) (j := 0) (k' := 0) (j' := 0) (by decide) (by decide) (Or.inl (by decide)))
        have p_ad_0_0 := p_ad_0_0.me ef_66153
        have I := I.up (k := 0) (j := 0) (by decide) ef_66153 (okE_o (okFs_c okV_r (okFs_c okV_r (okFs_c okV_r (okFs_c okV_r (okFs_c (okV_p b_66113) (okFs_c (okV_p b_66115) (okFs_c (okV_p b_66117) (okFs_c (okV_i b_66119) (okFs_c (okV_i b_66121) (okFs_c (okV_i b_66123) (okFs_c (okV_i b_66125) (okFs_c okV_l (okFs_c (okV_i b_66128) (okFs_c (okV_i b_66130) (okFs_c (okV_i b_66132) (okFs_c okV_r (okFs_c okV_r (okFs_c (okV_i b_66134) (okFs_c (okV_i b_66136) (okFs_c (okV_i b_66138) (okFs_c (okV_i b_66140) (okFs_c (okV_i b_66142) (okFs_c okV_r (okFs_c okV_r (okFs_c okV_r (okFs_c (okV_i b_66144) (okFs_c okV_r (okFs_c okV_r (okFs_c okV_r (okFs_c okV_r (okFs_c (okV_i (bn_w (show bn 0 0 (0 : Int32) from bn_k (by decide)) (by decide))) (okFs_c okV_r okFs_n)))))))))))))))))))))))))))))))))
        refine lv_iconst (v := 0) hx hb dX12_laySets_94 (by decide) ?_
        refine lv_istore_n (lv' := [(3, .int 0), (0, .ref (ad 0 0)), (1, .int i1), (2, .int y8_2)]) hx hb dX12_laySets_95 rfl hl (by decide) rfl (fun ls hl => ?_)
        exact J_96 _ y8_2 0 _ _  _ _ _ I (bn_w b_y8_2 (by decide)) (bn_w (show bn 0 0 (0 : Int32) from bn_k (by decide)) (by decide)) rfl Y (lv_sub hl [1, 2, 3, 0] rfl)
      · have B_66151 : bn 1 6 v_66149 := bn_w (bn_gtl c_66150 bv_66149 b_y8_3) (by decide)
        have B_66152 : bn 0 5 y8_3 := bn_w (bn_gtr c_66150 bv_66149 b_y8_3) (by decide)
        refine lv_iconst (v := 0) hx hb dX12_laySets_18 (by decide) ?_
        refine lv_istore (lv' := [(4, .int 0), (0, .ref (ad 0 0)), (1, .int i1), (2, .int y8_2), (3, .int y8_3)]) hx hb dX12_laySets_19 hl (by decide) rfl (fun ls hl => ?_)
        exact J_21 _ 0 _ _  _ _ _ I (bn_w (show bn 0 0 (0 : Int32) from bn_k (by decide)) (by decide)) (bn_w B_66152 (by decide)) rfl Y (lv_sub hl [1, 2, 3, 4, 0] rfl)
  refine lv_aload_n hx hb dX12_laySets_0 rfl (lv_at hl 0 rfl) ?_
  refine lv_iload_n hx hb dX12_laySets_1 rfl (lv_at hl 1 rfl) ?_
  refine cVp (As := [.int i1]) (rest := []) S Y (x_X12_legibleOn (l := l) I hB) cw_X12_legibleOn km12_265 (I.opo (k := 0) (j := 0) (by decide) rfl).choose_spec.1 ok_X12.1 rfl rfl ⟨Nat.le_of_ble_eq_true rfl, Nat.le_of_ble_eq_true rfl⟩ hl.1 rfl (Nat.le_of_ble_eq_true rfl) ⟨Nat.le_of_ble_eq_true rfl, Nat.le_of_ble_eq_true rfl⟩ dX12_laySets_2 (fun r_66154 H locs er_66154 Y => ?_)
  refine lv_istore_n (lv' := [(2, .int r_66154), (0, .ref (ad 0 0)), (1, .int i1)]) hx hb dX12_laySets_5 rfl hl (by decide) rfl (fun ls hl => ?_)
  refine lv_iconst (v := 0) hx hb dX12_laySets_6 (by decide) ?_
  refine lv_istore_n (lv' := [(3, .int 0), (2, .int r_66154), (0, .ref (ad 0 0)), (1, .int i1)]) hx hb dX12_laySets_7 rfl hl (by decide) rfl (fun ls hl => ?_)
  exact J_8 _ r_66154 0 _ _  _ _ _ I (bn_w er_66154 (by decide)) (bn_w (show bn 0 0 (0 : Int32) from bn_k (by decide)) (by decide)) rfl Y (lv_sub hl [2, 3, 1, 0] rfl)
set_option maxHeartbeats 4000000 in
set_option maxRecDepth 100000 in
theorem x_X12_breaches {l : Launch} {G : GG}  {L : List Nat} {f : HF} {ad : Nat → Nat → Nat} {w : WW} {pi : PIT} {g0 : Nat → Int32} {i1 i2 : Int32} (I : SH (spM (IA 0 0 14 9999 w) pi (EQ g0) LDa) nnM G ad L f) (hB : BBp 0 0 14 9999 w) (hX : TX g0) : PMi l yX12_breaches cX12_breaches 5 .int 8 0 0 G [.ref (ad 0 0), .int i1, .int i2] L f (fun r L1 f1 => SH (spM (IA 0 0 14 9999 w) pi (EQ g0) LDa) nnM G ad L1 f1) := by
  refine PMi.of (post := fun r L1 f1 => SH (spM (IA 0 0 14 9999 w) pi (EQ g0) LDa) nnM G ad L1 f1) (own := RX12) (by decide) rfl (Nat.le_of_ble_eq_true rfl) (fun sz p e s m args below meth c A ls hA1 hname S Y hl => ?_)
  have hx := S.hx
  have hb := S.hb
  have hl : lv_has ls 5 [(0, .ref (ad 0 0)), (1, .int i1), (2, .int i2)] := hl
  have J_38 : ∀ (n38 : Nat) (y38_3 y38_4 : Int32) (L_38 : List Nat) (f_38 : HF) (H : Heap) (locs : List Loc) (ls : Array Slot), (SH (spM (IA 0 0 14 9999 w) pi (EQ g0) LDa) nnM G ad L_38 f_38) → (bn 0 16383 y38_3) → (bn 0 14 y38_4) → (bn 0 5 i1) → (bn 1 2 i2) → (((14 : Int) - y38_4.toInt).toNat = n38) → (DY G A s [] L_38 f_38 H locs) → (lv_has ls 5 [(0, .ref (ad 0 0)), (1, .int i1), (2, .int i2), (3, .int y38_3), (4, .int y38_4)]) → W p l e (rmD 8 0 0) s m args below meth c H locs (0) (0) (MQ below (va_Qi (fun r (u : List Nat × HF) => (fun r L1 f1 => SH (spM (IA 0 0 14 9999 w) pi (EQ g0) LDa) nnM G ad L1 f1) r u.1 u.2) (fun u t => pOut G (va_A (va_pl L f) sz) u.1 u.2 t) (va_A (va_pl L f) sz)) args s 0 0 A) (F0 m 38 ls []) := by
    intro n38
    induction n38 using Nat.strongRecOn with
    | _ n38 ih38 =>
      intro y38_3 y38_4 L_38 f_38 H locs ls I b_y38_3 b_y38_4 b38_i1 b38_i2 hm38 Y hl
      refine lv_iload hx hb dX12_breaches_38 (lv_at hl 4 rfl) ?_
      refine lv_aload_n hx hb dX12_breaches_40 rfl (lv_at hl 0 rfl) ?_
      obtain ⟨v_67151, v_67153, v_67155, v_67157, v_67159, v_67161, v_67163, v_67165, v_67166, v_67168, v_67170, v_67172, v_67174, v_67176, v_67178, v_67180, v_67182, v_67184, p_ad_0_0, b_67152, b_67154, b_67156, b_67158, b_67160, b_67162, b_67164, b_67167, b_67169, b_67171, b_67173, b_67175, b_67177, b_67179, b_67181, b_67183, b_67185⟩ := opnM_0 (j := 0) I (by decide)
      have p_ad_0_0 : pt L_38 f_38 (ad 0 0) (.inr (12, [.ref (ad 1 0), .ref (ad 2 0), .ref (ad 3 0), .ref (ad 4 0), .int v_67151, .int v_67153, .int v_67155, .int v_67157, .int v_67159, .int v_67161, .int v_67163, .long v_67165, .int v_67166, .int v_67168, .int v_67170, .ref (ad 5 0), .ref (ad 6 0), .int v_67172, .int v_67174, .int v_67176, .int v_67178, .int v_67180, .ref (ad 7 0), .ref (ad 8 0), .ref (ad 9 0), .int v_67182, .ref (ad 10 0), .ref (ad 11 0), .ref (ad 12 0), .ref (ad 13 0), .int v_67184, .ref (ad 14 0)])) := p_ad_0_0
      refine pg_get S Y ok_X12 0 (by decide) kf12_7 (v := .ref (ad 1 0)) p_ad_0_0 rfl dX12_breaches_41 ?_
      refine lv_bipush (v := 13) hx hb dX12_breaches_44 (by decide) ?_
      obtain ⟨g_67186, p_ad_1_0, o_67187⟩ := I.opi (k := 1) (j := 0) (by decide) rfl
      have p_ad_1_0 : pt L_38 f_38 (ad 1 0) (.inl (G.2 0, 10568, .inl g_67186)) := p_ad_1_0
      obtain ⟨v_67188, ev_67188⟩ : ∃ z, z = g_67186 (13 : Int32).toNatClampNeg := ⟨_, rfl⟩
      refine pg_iald S Y (v := v_67188) p_ad_1_0 (by unfold vp_in; decide) ev_67188.symm dX12_breaches_46 ?_
      have bv_67188 : bn 0 14 v_67188 := bn_eq ev_67188 (IA_13 o_67187)
      refine lv_icmp_ge (tgt := 99) hx hb dX12_breaches_47 (by decide) (fun c_67189 => ?_) (fun c_67189 => ?_)
      · refine lv_iload_n hx hb dX12_breaches_99 rfl (lv_at hl 3 rfl) ?_
        exact prI (post := fun r L1 f1 => SH (spM (IA 0 0 14 9999 w) pi (EQ g0) LDa) nnM G ad L1 f1) S Y rfl (by decide) (by decide) hA1 I dX12_breaches_100
      · have B_67190 : bn 1 14 v_67188 := bn_w (bn_gtl c_67189 bv_67188 b_y38_4) (by decide)
        have B_67191 : bn 0 13 y38_4 := bn_w (bn_gtr c_67189 bv_67188 b_y38_4) (by decide)
        refine lv_aload_n hx hb dX12_breaches_50 rfl (lv_at hl 0 rfl) ?_
        refine lv_iload_n hx hb dX12_breaches_51 rfl (lv_at hl 1 rfl) ?_
        refine cVp (As := [.int i1]) (rest := []) S Y (x_X12_legibleOn (l := l) I hB) cw_X12_legibleOn km12_265 p_ad_0_0 ok_X12.1 rfl rfl ⟨Nat.le_of_ble_eq_true rfl, Nat.le_of_ble_eq_true rfl⟩ hl.1 rfl (Nat.le_of_ble_eq_true rfl) ⟨Nat.le_of_ble_eq_true rfl, Nat.le_of_ble_eq_true rfl⟩ dX12_breaches_52 (fun r_67192 H locs er_67192 Y => ?_)
        refine lv_iload hx hb dX12_breaches_55 (lv_at hl 4 rfl) ?_
        refine cSp (As := [.int r_67192, .int y38_4]) (rest := []) S Y (x_X12_has (l := l) ) cw_X12_has km12_244 rfl ⟨Nat.le_of_ble_eq_true rfl, Nat.le_of_ble_eq_true rfl⟩ hl.1 rfl (Nat.le_of_ble_eq_true rfl) ⟨Nat.le_of_ble_eq_true rfl, Nat.le_of_ble_eq_true rfl⟩ dX12_breaches_57 (fun r_67193 H locs er_67193 Y => ?_)
        refine lv_if_eq (tgt := 93) hx hb dX12_breaches_60 (by decide) (fun c_67194 => ?_) (fun c_67194 => ?_)
        · have B_67195 : bn 0 0 r_67193 := bn_w (bn_eq c_67194 (show bn 0 0 (0 : Int32) from bn_k (by decide))) (by decide)
          obtain ⟨x_67197, ex_67197⟩ : ∃ z : Int32, z = y38_4 + 1 := ⟨_, rfl⟩
          refine lv_iinc (v := x_67197) (lv' := [(4, .int x_67197), (0, .ref (ad 0 0)), (1, .int i1), (2, .int i2), (3, .int y38_3)]) hx hb dX12_breaches_93 hl (k := 4) rfl (by rw [ex_67197]; rfl) (by decide) rfl (fun ls hl => ?_)
          refine lv_goto (tgt := 38) hx hb dX12_breaches_96 (by decide) ?_
          exact ih38 _ (by rw [← hm38]; exact ms_up (m := 1) ex_67197 (show bn 1 1 (1 : Int32) from bn_k (by decide)) B_67191 (bn_w (bn_eq ex_67197 (bn_add B_67191 (show bn 1 1 (1 : Int32) from bn_k (by decide)) (by decide))) (by decide) : bn 0 14 x_67197) (by decide)) y38_3 x_67197 _ _  _ _ _ I (bn_w b_y38_3 (by decide)) (bn_w (bn_eq ex_67197 (bn_add B_67191 (show bn 1 1 (1 : Int32) from bn_k (by decide)) (by decide))) (by decide)) (bn_w b38_i1 (by decide)) (bn_w b38_i2 (by decide)) rfl Y (lv_sub hl [1, 2, 3, 4, 0] rfl)
        · have B_67196 : bn 1 1 r_67193 := bn_w (bn_nel c_67194 er_67193 (show bn 0 0 (0 : Int32) from bn_k (by decide))) (by decide)
          refine lv_aload_n hx hb dX12_breaches_63 rfl (lv_at hl 0 rfl) ?_
          refine pg_get S Y ok_X12 29 (by decide) kf12_59 (v := .ref (ad 13 0)) p_ad_0_0 rfl dX12_breaches_64 ?_
          refine lv_iload hx hb dX12_breaches_67 (lv_at hl 4 rfl) ?_
          obtain ⟨g_67198, p_ad_13_0, o_67199⟩ := I.opi (k := 13) (j := 0) (by decide) rfl
          have p_ad_13_0 : pt L_38 f_38 (ad 13 0) (.inl (G.2 0, 14, .inl g_67198)) := p_ad_13_0
          obtain ⟨v_67200, ev_67200⟩ : ∃ z, z = g_67198 (y38_4 : Int32).toNatClampNeg := ⟨_, rfl⟩
          refine pg_iald S Y (v := v_67200) p_ad_13_0 (vp_bn B_67191 (by decide)) ev_67200.symm dX12_breaches_69 ?_
          refine lv_iload_n hx hb dX12_breaches_70 rfl (lv_at hl 2 rfl) ?_
          refine lv_iconst (v := 1) hx hb dX12_breaches_71 (by decide) ?_
          refine lv_icmp_ne (tgt := 82) hx hb dX12_breaches_72 (by decide) (fun c_67201 => ?_) (fun c_67201 => ?_)
          · have B_67202 : bn 2 2 i2 := bn_w (bn_nel c_67201 b38_i2 (show bn 1 1 (1 : Int32) from bn_k (by decide))) (by decide)
            refine lv_iconst (v := 0) hx hb dX12_breaches_82 (by decide) ?_
            refine lv_icmp_ne (tgt := 93) hx hb dX12_breaches_83 (by decide) (fun c_67204 => ?_) (fun c_67204 => ?_)
            · obtain ⟨x_67206, ex_67206⟩ : ∃ z : Int32, z = y38_4 + 1 := ⟨_, rfl⟩
              refine lv_iinc (v := x_67206) (lv' := [(4, .int x_67206), (0, .ref (ad 0 0)), (1, .int i1), (2, .int i2), (3, .int y38_3)]) hx hb dX12_breaches_93 hl (k := 4) rfl (by rw [ex_67206]; rfl) (by decide) rfl (fun ls hl => ?_)
              refine lv_goto (tgt := 38) hx hb dX12_breaches_96 (by decide) ?_
              exact ih38 _ (by rw [← hm38]; exact ms_up (m := 1) ex_67206 (show bn 1 1 (1 : Int32) from bn_k (by decide)) B_67191 (bn_w (bn_eq ex_67206 (bn_add B_67191 (show bn 1 1 (1 : Int32) from bn_k (by decide)) (by decide))) (by decide) : bn 0 14 x_67206) (by decide)) y38_3 x_67206 _ _  _ _ _ I (bn_w b_y38_3 (by decide)) (bn_w (bn_eq ex_67206 (bn_add B_67191 (show bn 1 1 (1 : Int32) from bn_k (by decide)) (by decide))) (by decide)) (bn_w b38_i1 (by decide)) (bn_w B_67202 (by decide)) rfl Y (lv_sub hl [1, 2, 3, 4, 0] rfl)
            · have B_67205 : bn 0 0 v_67200 := bn_w (bn_eq c_67204 (show bn 0 0 (0 : Int32) from bn_k (by decide))) (by decide)
              refine lv_iload_n hx hb dX12_breaches_86 rfl (lv_at hl 3 rfl) ?_
              refine lv_iconst (v := 1) hx hb dX12_breaches_87 (by decide) ?_
              refine lv_iload hx hb dX12_breaches_88 (lv_at hl 4 rfl) ?_
              refine lv_ishl hx hb dX12_breaches_90 ?_
              refine lv_topi (fun x_67207 ex_67207 => ?_)
              refine lv_ior hx hb dX12_breaches_91 ?_
              refine lv_topi (fun x_67208 ex_67208 => ?_)
              refine lv_istore_n (lv' := [(3, .int x_67208), (0, .ref (ad 0 0)), (1, .int i1), (2, .int i2), (4, .int y38_4)]) hx hb dX12_breaches_92 rfl hl (by decide) rfl (fun ls hl => ?_)
              obtain ⟨x_67209, ex_67209⟩ : ∃ z : Int32, z = y38_4 + 1 := ⟨_, rfl⟩
              refine lv_iinc (v := x_67209) (lv' := [(4, .int x_67209), (3, .int x_67208), (0, .ref (ad 0 0)), (1, .int i1), (2, .int i2)]) hx hb dX12_breaches_93 hl (k := 4) rfl (by rw [ex_67209]; rfl) (by decide) rfl (fun ls hl => ?_)
              refine lv_goto (tgt := 38) hx hb dX12_breaches_96 (by decide) ?_
              exact ih38 _ (by rw [← hm38]; exact ms_up (m := 1) ex_67209 (show bn 1 1 (1 : Int32) from bn_k (by decide)) B_67191 (bn_w (bn_eq ex_67209 (bn_add B_67191 (show bn 1 1 (1 : Int32) from bn_k (by decide)) (by decide))) (by decide) : bn 0 14 x_67209) (by decide)) x_67208 x_67209 _ _  _ _ _ I (bn_w (bn_eq ex_67208 (bn_or (n := 14) (bn_w b_y38_3 (by decide) : bn 0 16383 y38_3) (bn_w (bn_eq ex_67207 (bn_shl (n := 13) (bn_w B_67191 (by decide) : bn 0 13 y38_4) (by decide) (by decide))) (by decide) : bn 0 8192 x_67207) (by decide) (by decide))) (by decide)) (bn_w (bn_eq ex_67209 (bn_add B_67191 (show bn 1 1 (1 : Int32) from bn_k (by decide)) (by decide))) (by decide)) (bn_w b38_i1 (by decide)) (bn_w B_67202 (by decide)) rfl Y (lv_sub hl [2, 3, 4, 1, 0] rfl)
          · have B_67203 : bn 1 1 i2 := bn_w (bn_eq c_67201 (show bn 1 1 (1 : Int32) from bn_k (by decide))) (by decide)
            refine lv_aload_n hx hb dX12_breaches_75 rfl (lv_at hl 0 rfl) ?_
            refine pg_get S Y ok_X12 30 (by decide) kf12_410 (v := .int v_67184) p_ad_0_0 rfl dX12_breaches_76 ?_
            refine lv_goto (tgt := 83) hx hb dX12_breaches_79 (by decide) ?_
            refine lv_icmp_ne (tgt := 93) hx hb dX12_breaches_83 (by decide) (fun c_67210 => ?_) (fun c_67210 => ?_)
            · obtain ⟨x_67211, ex_67211⟩ : ∃ z : Int32, z = y38_4 + 1 := ⟨_, rfl⟩
              refine lv_iinc (v := x_67211) (lv' := [(4, .int x_67211), (0, .ref (ad 0 0)), (1, .int i1), (2, .int i2), (3, .int y38_3)]) hx hb dX12_breaches_93 hl (k := 4) rfl (by rw [ex_67211]; rfl) (by decide) rfl (fun ls hl => ?_)
              refine lv_goto (tgt := 38) hx hb dX12_breaches_96 (by decide) ?_
              exact ih38 _ (by rw [← hm38]; exact ms_up (m := 1) ex_67211 (show bn 1 1 (1 : Int32) from bn_k (by decide)) B_67191 (bn_w (bn_eq ex_67211 (bn_add B_67191 (show bn 1 1 (1 : Int32) from bn_k (by decide)) (by decide))) (by decide) : bn 0 14 x_67211) (by decide)) y38_3 x_67211 _ _  _ _ _ I (bn_w b_y38_3 (by decide)) (bn_w (bn_eq ex_67211 (bn_add B_67191 (show bn 1 1 (1 : Int32) from bn_k (by decide)) (by decide))) (by decide)) (bn_w b38_i1 (by decide)) (bn_w B_67203 (by decide)) rfl Y (lv_sub hl [1, 2, 3, 4, 0] rfl)
            · refine lv_iload_n hx hb dX12_breaches_86 rfl (lv_at hl 3 rfl) ?_
              refine lv_iconst (v := 1) hx hb dX12_breaches_87 (by decide) ?_
              refine lv_iload hx hb dX12_breaches_88 (lv_at hl 4 rfl) ?_
              refine lv_ishl hx hb dX12_breaches_90 ?_
              refine lv_topi (fun x_67212 ex_67212 => ?_)
              refine lv_ior hx hb dX12_breaches_91 ?_
              refine lv_topi (fun x_67213 ex_67213 => ?_)
              refine lv_istore_n (lv' := [(3, .int x_67213), (0, .ref (ad 0 0)), (1, .int i1), (2, .int i2), (4, .int y38_4)]) hx hb dX12_breaches_92 rfl hl (by decide) rfl (fun ls hl => ?_)
              obtain ⟨x_67214, ex_67214⟩ : ∃ z : Int32, z = y38_4 + 1 := ⟨_, rfl⟩
              refine lv_iinc (v := x_67214) (lv' := [(4, .int x_67214), (3, .int x_67213), (0, .ref (ad 0 0)), (1, .int i1), (2, .int i2)]) hx hb dX12_breaches_93 hl (k := 4) rfl (by rw [ex_67214]; rfl) (by decide) rfl (fun ls hl => ?_)
              refine lv_goto (tgt := 38) hx hb dX12_breaches_96 (by decide) ?_
              exact ih38 _ (by rw [← hm38]; exact ms_up (m := 1) ex_67214 (show bn 1 1 (1 : Int32) from bn_k (by decide)) B_67191 (bn_w (bn_eq ex_67214 (bn_add B_67191 (show bn 1 1 (1 : Int32) from bn_k (by decide)) (by decide))) (by decide) : bn 0 14 x_67214) (by decide)) x_67213 x_67214 _ _  _ _ _ I (bn_w (bn_eq ex_67213 (bn_or (n := 14) (bn_w b_y38_3 (by decide) : bn 0 16383 y38_3) (bn_w (bn_eq ex_67212 (bn_shl (n := 13) (bn_w B_67191 (by decide) : bn 0 13 y38_4) (by decide) (by decide))) (by decide) : bn 0 8192 x_67212) (by decide) (by decide))) (by decide)) (bn_w (bn_eq ex_67214 (bn_add B_67191 (show bn 1 1 (1 : Int32) from bn_k (by decide)) (by decide))) (by decide)) (bn_w b38_i1 (by decide)) (bn_w B_67203 (by decide)) rfl Y (lv_sub hl [2, 3, 4, 1, 0] rfl)
  refine lv_aload_n hx hb dX12_breaches_0 rfl (lv_at hl 0 rfl) ?_
  refine lv_iload_n hx hb dX12_breaches_1 rfl (lv_at hl 1 rfl) ?_
  refine cVp (As := [.int i1]) (rest := []) S Y (x_X12_isOne (l := l) I hB) cw_X12_isOne km12_323 (I.opo (k := 0) (j := 0) (by decide) rfl).choose_spec.1 ok_X12.1 rfl rfl ⟨Nat.le_of_ble_eq_true rfl, Nat.le_of_ble_eq_true rfl⟩ hl.1 rfl (Nat.le_of_ble_eq_true rfl) ⟨Nat.le_of_ble_eq_true rfl, Nat.le_of_ble_eq_true rfl⟩ dX12_breaches_2 (fun r_67215 H locs er_67215 Y => ?_)
  refine lv_if_eq (tgt := 17) hx hb dX12_breaches_5 (by decide) (fun c_67216 => ?_) (fun c_67216 => ?_)
  · have B_67217 : bn 0 0 r_67215 := bn_w (bn_eq c_67216 (show bn 0 0 (0 : Int32) from bn_k (by decide))) (by decide)
    refine lv_iconst (v := (-1)) hx hb dX12_breaches_17 (by decide) ?_
    exact prI (post := fun r L1 f1 => SH (spM (IA 0 0 14 9999 w) pi (EQ g0) LDa) nnM G ad L1 f1) S Y rfl (by decide) (by decide) hA1 I dX12_breaches_18
  · have B_67218 : bn 0 5 i1 := bn_w (bn_i (bn_any i1) (er_67215.2 c_67216)) (by decide)
    have B_67219 : bn 1 1 r_67215 := bn_w (bn_nel c_67216 er_67215.1 (show bn 0 0 (0 : Int32) from bn_k (by decide))) (by decide)
    refine lv_iload_n hx hb dX12_breaches_8 rfl (lv_at hl 2 rfl) ?_
    refine lv_iconst (v := 0) hx hb dX12_breaches_9 (by decide) ?_
    refine lv_iconst (v := 2) hx hb dX12_breaches_10 (by decide) ?_
    refine cSp (As := [.int i2, .int 0, .int 2]) (rest := []) S Y (x_X12_isIn (l := l) ) cw_X12_isIn km12_69 rfl ⟨Nat.le_of_ble_eq_true rfl, Nat.le_of_ble_eq_true rfl⟩ hl.1 rfl (Nat.le_of_ble_eq_true rfl) ⟨Nat.le_of_ble_eq_true rfl, Nat.le_of_ble_eq_true rfl⟩ dX12_breaches_11 (fun r_67220 H locs er_67220 Y => ?_)
    refine lv_if_ne (tgt := 19) hx hb dX12_breaches_14 (by decide) (fun c_67221 => ?_) (fun c_67221 => ?_)
    · have B_67222 : bn 0 2 i2 := bn_w (bn_i (bn_any i2) (bn_btw (er_67220.2 c_67221).1 (er_67220.2 c_67221).2 (show bn 0 0 (0 : Int32) from bn_k (by decide)) (show bn 2 2 (2 : Int32) from bn_k (by decide)))) (by decide)
      have B_67223 : bn 1 1 r_67220 := bn_w (bn_nel c_67221 er_67220.1 (show bn 0 0 (0 : Int32) from bn_k (by decide))) (by decide)
      refine lv_aload_n hx hb dX12_breaches_19 rfl (lv_at hl 0 rfl) ?_
      refine lv_iload_n hx hb dX12_breaches_20 rfl (lv_at hl 1 rfl) ?_
      refine cVv (As := [.int i1]) (rest := []) S Y (x_X12_laySets (l := l) I hB hX) cw_X12_laySets km12_416 (I.opo (k := 0) (j := 0) (by decide) rfl).choose_spec.1 ok_X12.1 rfl rfl ⟨Nat.le_of_ble_eq_true rfl, Nat.le_of_ble_eq_true rfl⟩ hl.1 rfl (Nat.le_of_ble_eq_true rfl) ⟨Nat.le_of_ble_eq_true rfl, Nat.le_of_ble_eq_true rfl⟩ dX12_breaches_21 (fun L_67225 f_67226 H locs I Y => ?_)
      refine lv_iload_n hx hb dX12_breaches_24 rfl (lv_at hl 2 rfl) ?_
      refine lv_if_ne (tgt := 33) hx hb dX12_breaches_25 (by decide) (fun c_67227 => ?_) (fun c_67227 => ?_)
      · have B_67228 : bn 1 2 i2 := bn_w (bn_nel c_67227 B_67222 (show bn 0 0 (0 : Int32) from bn_k (by decide))) (by decide)
        refine lv_iconst (v := 0) hx hb dX12_breaches_33 (by decide) ?_
        refine lv_istore_n (lv' := [(3, .int 0), (0, .ref (ad 0 0)), (1, .int i1), (2, .int i2)]) hx hb dX12_breaches_34 rfl hl (by decide) rfl (fun ls hl => ?_)
        refine lv_iconst (v := 0) hx hb dX12_breaches_35 (by decide) ?_
        refine lv_istore (lv' := [(4, .int 0), (3, .int 0), (0, .ref (ad 0 0)), (1, .int i1), (2, .int i2)]) hx hb dX12_breaches_36 hl (by decide) rfl (fun ls hl => ?_)
        exact J_38 _ 0 0 _ _  _ _ _ I (bn_w (show bn 0 0 (0 : Int32) from bn_k (by decide)) (by decide)) (bn_w (show bn 0 0 (0 : Int32) from bn_k (by decide)) (by decide)) (bn_w B_67218 (by decide)) (bn_w B_67228 (by decide)) rfl Y (lv_sub hl [2, 3, 4, 1, 0] rfl)
      · have B_67229 : bn 0 0 i2 := bn_w (bn_eq c_67227 (show bn 0 0 (0 : Int32) from bn_k (by decide))) (by decide)
        refine lv_aload_n hx hb dX12_breaches_28 rfl (lv_at hl 0 rfl) ?_
        obtain ⟨v_67230, v_67232, v_67234, v_67236, v_67238, v_67240, v_67242, v_67244, v_67245, v_67247, v_67249, v_67251, v_67253, v_67255, v_67257, v_67259, v_67261, v_67263, p_ad_0_0, b_67231, b_67233, b_67235, b_67237, b_67239, b_67241, b_67243, b_67246, b_67248, b_67250, b_67252, b_67254, b_67256, b_67258, b_67260, b_67262, b_67264⟩ := opnM_0 (j := 0) I (by decide)
        have p_ad_0_0 : pt L_67225 f_67226 (ad 0 0) (.inr (12, [.ref (ad 1 0), .ref (ad 2 0), .ref (ad 3 0), .ref (ad 4 0), .int v_67230, .int v_67232, .int v_67234, .int v_67236, .int v_67238, .int v_67240, .int v_67242, .long v_67244, .int v_67245, .int v_67247, .int v_67249, .ref (ad 5 0), .ref (ad 6 0), .int v_67251, .int v_67253, .int v_67255, .int v_67257, .int v_67259, .ref (ad 7 0), .ref (ad 8 0), .ref (ad 9 0), .int v_67261, .ref (ad 10 0), .ref (ad 11 0), .ref (ad 12 0), .ref (ad 13 0), .int v_67263, .ref (ad 14 0)])) := p_ad_0_0
        refine pg_get S Y ok_X12 30 (by decide) kf12_410 (v := .int v_67263) p_ad_0_0 rfl dX12_breaches_29 ?_
        exact prI (post := fun r L1 f1 => SH (spM (IA 0 0 14 9999 w) pi (EQ g0) LDa) nnM G ad L1 f1) S Y rfl (by decide) (by decide) hA1 I dX12_breaches_32
    · have B_67224 : bn 0 0 r_67220 := bn_w (bn_eq c_67221 (show bn 0 0 (0 : Int32) from bn_k (by decide))) (by decide)
      refine lv_iconst (v := (-1)) hx hb dX12_breaches_17 (by decide) ?_
      exact prI (post := fun r L1 f1 => SH (spM (IA 0 0 14 9999 w) pi (EQ g0) LDa) nnM G ad L1 f1) S Y rfl (by decide) (by decide) hA1 I dX12_breaches_18
set_option maxHeartbeats 4000000 in
set_option maxRecDepth 100000 in
theorem x_X12_odds {l : Launch} {G : GG}  {L : List Nat} {f : HF} {ad : Nat → Nat → Nat} {w : WW} {pi : PIT} {g0 : Nat → Int32} {i1 i2 : Int32} (I : SH (spM (IA 0 0 14 9999 w) pi (EQ g0) LDa) nnM G ad L f) (hB : BBp 0 0 14 9999 w) (hX : TX g0) (b_i2 : bn 0 1 i2) : PMi l yX12_odds cX12_odds 3 .int 8 0 0 G [.ref (ad 0 0), .int i1, .int i2] L f (fun r L1 f1 => SH (spM (IA 0 0 14 9999 w) pi (EQ g0) LDa) nnM G ad L1 f1) := by
  refine PMi.of (post := fun r L1 f1 => SH (spM (IA 0 0 14 9999 w) pi (EQ g0) LDa) nnM G ad L1 f1) (own := RX12) (by decide) rfl (Nat.le_of_ble_eq_true rfl) (fun sz p e s m args below meth c A ls hA1 hname S Y hl => ?_)
  have hx := S.hx
  have hb := S.hb
  have hl : lv_has ls 3 [(0, .ref (ad 0 0)), (1, .int i1), (2, .int i2)] := hl
  refine lv_aload_n hx hb dX12_odds_0 rfl (lv_at hl 0 rfl) ?_
  refine lv_iload_n hx hb dX12_odds_1 rfl (lv_at hl 1 rfl) ?_
  refine cVp (As := [.int i1]) (rest := []) S Y (x_X12_isOath (l := l) I hB) cw_X12_isOath km12_339 (I.opo (k := 0) (j := 0) (by decide) rfl).choose_spec.1 ok_X12.1 rfl rfl ⟨Nat.le_of_ble_eq_true rfl, Nat.le_of_ble_eq_true rfl⟩ hl.1 rfl (Nat.le_of_ble_eq_true rfl) ⟨Nat.le_of_ble_eq_true rfl, Nat.le_of_ble_eq_true rfl⟩ dX12_odds_2 (fun r_67397 H locs er_67397 Y => ?_)
  refine lv_if_eq (tgt := 16) hx hb dX12_odds_5 (by decide) (fun c_67398 => ?_) (fun c_67398 => ?_)
  · have B_67399 : bn 0 0 r_67397 := bn_w (bn_eq c_67398 (show bn 0 0 (0 : Int32) from bn_k (by decide))) (by decide)
    refine lv_iconst (v := (-1)) hx hb dX12_odds_16 (by decide) ?_
    exact prI (post := fun r L1 f1 => SH (spM (IA 0 0 14 9999 w) pi (EQ g0) LDa) nnM G ad L1 f1) S Y rfl (by decide) (by decide) hA1 I dX12_odds_17
  · have B_67400 : bn 0 13 i1 := bn_w (bn_i (bn_any i1) (er_67397.2 c_67398)) (by decide)
    have B_67401 : bn 1 1 r_67397 := bn_w (bn_nel c_67398 er_67397.1 (show bn 0 0 (0 : Int32) from bn_k (by decide))) (by decide)
    refine lv_aload_n hx hb dX12_odds_8 rfl (lv_at hl 0 rfl) ?_
    refine lv_iload_n hx hb dX12_odds_9 rfl (lv_at hl 1 rfl) ?_
    refine cVp (As := [.int i1]) (rest := []) S Y (x_X12_isLegible (l := l) I hB (bn_w B_67400 (by decide))) cw_X12_isLegible km12_77 (I.opo (k := 0) (j := 0) (by decide) rfl).choose_spec.1 ok_X12.1 rfl rfl ⟨Nat.le_of_ble_eq_true rfl, Nat.le_of_ble_eq_true rfl⟩ hl.1 rfl (Nat.le_of_ble_eq_true rfl) ⟨Nat.le_of_ble_eq_true rfl, Nat.le_of_ble_eq_true rfl⟩ dX12_odds_10 (fun r_67402 H locs er_67402 Y => ?_)
    refine lv_if_ne (tgt := 18) hx hb dX12_odds_13 (by decide) (fun c_67403 => ?_) (fun c_67403 => ?_)
    · have B_67404 : bn 1 1 r_67402 := bn_w (bn_nel c_67403 er_67402 (show bn 0 0 (0 : Int32) from bn_k (by decide))) (by decide)
      refine lv_aload_n hx hb dX12_odds_18 rfl (lv_at hl 0 rfl) ?_
      refine lv_aload_n hx hb dX12_odds_19 rfl (lv_at hl 0 rfl) ?_
      refine lv_iload_n hx hb dX12_odds_20 rfl (lv_at hl 1 rfl) ?_
      refine lv_iconst (v := 1) hx hb dX12_odds_21 (by decide) ?_
      refine cVp (As := [.int i1, .int 1]) (rest := [.ref (ad 0 0)]) S Y (x_X12_getON (l := l) I hB (bn_w B_67400 (by decide)) (bn_w (show bn 1 1 (1 : Int32) from bn_k (by decide)) (by decide))) cw_X12_get km12_73 (I.opo (k := 0) (j := 0) (by decide) rfl).choose_spec.1 ok_X12.1 rfl rfl ⟨Nat.le_of_ble_eq_true rfl, Nat.le_of_ble_eq_true rfl⟩ hl.1 rfl (Nat.le_of_ble_eq_true rfl) ⟨Nat.le_of_ble_eq_true rfl, Nat.le_of_ble_eq_true rfl⟩ dX12_odds_22 (fun r_67406 H locs er_67406 Y => ?_)
      refine cVv (As := [.int r_67406]) (rest := []) S Y (x_X12_laySets (l := l) I hB hX) cw_X12_laySets km12_416 (I.opo (k := 0) (j := 0) (by decide) rfl).choose_spec.1 ok_X12.1 rfl rfl ⟨Nat.le_of_ble_eq_true rfl, Nat.le_of_ble_eq_true rfl⟩ hl.1 rfl (Nat.le_of_ble_eq_true rfl) ⟨Nat.le_of_ble_eq_true rfl, Nat.le_of_ble_eq_true rfl⟩ dX12_odds_25 (fun L_67407 f_67408 H locs I Y => ?_)
      refine lv_aload_n hx hb dX12_odds_28 rfl (lv_at hl 0 rfl) ?_
      obtain ⟨v_67409, v_67411, v_67413, v_67415, v_67417, v_67419, v_67421, v_67423, v_67424, v_67426, v_67428, v_67430, v_67432, v_67434, v_67436, v_67438, v_67440, v_67442, p_ad_0_0, b_67410, b_67412, b_67414, b_67416, b_67418, b_67420, b_67422, b_67425, b_67427, b_67429, b_67431, b_67433, b_67435, b_67437, b_67439, b_67441, b_67443⟩ := opnM_0 (j := 0) I (by decide)
      have p_ad_0_0 : pt L_67407 f_67408 (ad 0 0) (.inr (12, [.ref (ad 1 0), .ref (ad 2 0), .ref (ad 3 0), .ref (ad 4 0), .int v_67409, .int v_67411, .int v_67413, .int v_67415, .int v_67417, .int v_67419, .int v_67421, .long v_67423, .int v_67424, .int v_67426, .int v_67428, .ref (ad 5 0), .ref (ad 6 0), .int v_67430, .int v_67432, .int v_67434, .int v_67436, .int v_67438, .ref (ad 7 0), .ref (ad 8 0), .ref (ad 9 0), .int v_67440, .ref (ad 10 0), .ref (ad 11 0), .ref (ad 12 0), .ref (ad 13 0), .int v_67442, .ref (ad 14 0)])) := p_ad_0_0
      refine pg_get S Y ok_X12 30 (by decide) kf12_410 (v := .int v_67442) p_ad_0_0 rfl dX12_odds_29 ?_
      refine lv_if_ne (tgt := 45) hx hb dX12_odds_32 (by decide) (fun c_67444 => ?_) (fun c_67444 => ?_)
      · refine lv_iload_n hx hb dX12_odds_45 rfl (lv_at hl 2 rfl) ?_
        refine lv_if_eq (tgt := 56) hx hb dX12_odds_46 (by decide) (fun c_67446 => ?_) (fun c_67446 => ?_)
        · have B_67447 : bn 0 0 i2 := bn_w (bn_eq c_67446 (show bn 0 0 (0 : Int32) from bn_k (by decide))) (by decide)
          refine lv_aload_n hx hb dX12_odds_56 rfl (lv_at hl 0 rfl) ?_
          refine pg_get S Y ok_X12 29 (by decide) kf12_59 (v := .ref (ad 13 0)) p_ad_0_0 rfl dX12_odds_57 ?_
          refine lv_iload_n hx hb dX12_odds_60 rfl (lv_at hl 1 rfl) ?_
          obtain ⟨g_67449, p_ad_13_0, o_67450⟩ := I.opi (k := 13) (j := 0) (by decide) rfl
          have p_ad_13_0 : pt L_67407 f_67408 (ad 13 0) (.inl (G.2 0, 14, .inl g_67449)) := p_ad_13_0
          obtain ⟨v_67451, ev_67451⟩ : ∃ z, z = g_67449 (i1 : Int32).toNatClampNeg := ⟨_, rfl⟩
          refine pg_iald S Y (v := v_67451) p_ad_13_0 (vp_bn B_67400 (by decide)) ev_67451.symm dX12_odds_61 ?_
          refine lv_aload_n hx hb dX12_odds_62 rfl (lv_at hl 0 rfl) ?_
          refine pg_get S Y ok_X12 29 (by decide) kf12_59 (v := .ref (ad 13 0)) p_ad_0_0 rfl dX12_odds_63 ?_
          refine lv_iload_n hx hb dX12_odds_66 rfl (lv_at hl 1 rfl) ?_
          obtain ⟨v_67452, ev_67452⟩ : ∃ z, z = g_67449 (i1 : Int32).toNatClampNeg := ⟨_, rfl⟩
          refine pg_iald S Y (v := v_67452) p_ad_13_0 (vp_bn B_67400 (by decide)) ev_67452.symm dX12_odds_67 ?_
          refine lv_aload_n hx hb dX12_odds_68 rfl (lv_at hl 0 rfl) ?_
          refine pg_get S Y ok_X12 30 (by decide) kf12_410 (v := .int v_67442) p_ad_0_0 rfl dX12_odds_69 ?_
          refine cSp (As := [.int v_67452, .int v_67442]) (rest := [.int v_67451]) S Y (x_X12_common (l := l) ) cw_X12_common km12_419 rfl ⟨Nat.le_of_ble_eq_true rfl, Nat.le_of_ble_eq_true rfl⟩ hl.1 rfl (Nat.le_of_ble_eq_true rfl) ⟨Nat.le_of_ble_eq_true rfl, Nat.le_of_ble_eq_true rfl⟩ dX12_odds_72 (fun r_67453 H locs er_67453 Y => ?_)
          refine lv_idiv hx hb dX12_odds_75 (er_67453 c_67444) ?_
          refine lv_topi (fun x_67454 ex_67454 => ?_)
          exact prI (post := fun r L1 f1 => SH (spM (IA 0 0 14 9999 w) pi (EQ g0) LDa) nnM G ad L1 f1) S Y rfl (by decide) (by decide) hA1 I dX12_odds_76
        · have B_67448 : bn 1 1 i2 := bn_w (bn_nel c_67446 b_i2 (show bn 0 0 (0 : Int32) from bn_k (by decide))) (by decide)
          refine lv_aload_n hx hb dX12_odds_49 rfl (lv_at hl 0 rfl) ?_
          refine pg_get S Y ok_X12 30 (by decide) kf12_410 (v := .int v_67442) p_ad_0_0 rfl dX12_odds_50 ?_
          refine lv_goto (tgt := 62) hx hb dX12_odds_53 (by decide) ?_
          refine lv_aload_n hx hb dX12_odds_62 rfl (lv_at hl 0 rfl) ?_
          refine pg_get S Y ok_X12 29 (by decide) kf12_59 (v := .ref (ad 13 0)) p_ad_0_0 rfl dX12_odds_63 ?_
          refine lv_iload_n hx hb dX12_odds_66 rfl (lv_at hl 1 rfl) ?_
          obtain ⟨g_67455, p_ad_13_0, o_67456⟩ := I.opi (k := 13) (j := 0) (by decide) rfl
          have p_ad_13_0 : pt L_67407 f_67408 (ad 13 0) (.inl (G.2 0, 14, .inl g_67455)) := p_ad_13_0
          obtain ⟨v_67457, ev_67457⟩ : ∃ z, z = g_67455 (i1 : Int32).toNatClampNeg := ⟨_, rfl⟩
          refine pg_iald S Y (v := v_67457) p_ad_13_0 (vp_bn B_67400 (by decide)) ev_67457.symm dX12_odds_67 ?_
          refine lv_aload_n hx hb dX12_odds_68 rfl (lv_at hl 0 rfl) ?_
          refine pg_get S Y ok_X12 30 (by decide) kf12_410 (v := .int v_67442) p_ad_0_0 rfl dX12_odds_69 ?_
          refine cSp (As := [.int v_67457, .int v_67442]) (rest := [.int v_67442]) S Y (x_X12_common (l := l) ) cw_X12_common km12_419 rfl ⟨Nat.le_of_ble_eq_true rfl, Nat.le_of_ble_eq_true rfl⟩ hl.1 rfl (Nat.le_of_ble_eq_true rfl) ⟨Nat.le_of_ble_eq_true rfl, Nat.le_of_ble_eq_true rfl⟩ dX12_odds_72 (fun r_67458 H locs er_67458 Y => ?_)
          refine lv_idiv hx hb dX12_odds_75 (er_67458 c_67444) ?_
          refine lv_topi (fun x_67459 ex_67459 => ?_)
          exact prI (post := fun r L1 f1 => SH (spM (IA 0 0 14 9999 w) pi (EQ g0) LDa) nnM G ad L1 f1) S Y rfl (by decide) (by decide) hA1 I dX12_odds_76
      · have B_67445 : bn 0 0 v_67442 := bn_w (bn_eq c_67444 (show bn 0 0 (0 : Int32) from bn_k (by decide))) (by decide)
        refine lv_iload_n hx hb dX12_odds_35 rfl (lv_at hl 2 rfl) ?_
        refine lv_if_eq (tgt := 43) hx hb dX12_odds_36 (by decide) (fun c_67460 => ?_) (fun c_67460 => ?_)
        · have B_67461 : bn 0 0 i2 := bn_w (bn_eq c_67460 (show bn 0 0 (0 : Int32) from bn_k (by decide))) (by decide)
          refine lv_iconst (v := 0) hx hb dX12_odds_43 (by decide) ?_
          exact prI (post := fun r L1 f1 => SH (spM (IA 0 0 14 9999 w) pi (EQ g0) LDa) nnM G ad L1 f1) S Y rfl (by decide) (by decide) hA1 I dX12_odds_44
        · have B_67462 : bn 1 1 i2 := bn_w (bn_nel c_67460 b_i2 (show bn 0 0 (0 : Int32) from bn_k (by decide))) (by decide)
          refine lv_iconst (v := 1) hx hb dX12_odds_39 (by decide) ?_
          refine lv_goto (tgt := 44) hx hb dX12_odds_40 (by decide) ?_
          exact prI (post := fun r L1 f1 => SH (spM (IA 0 0 14 9999 w) pi (EQ g0) LDa) nnM G ad L1 f1) S Y rfl (by decide) (by decide) hA1 I dX12_odds_44
    · have B_67405 : bn 0 0 r_67402 := bn_w (bn_eq c_67403 (show bn 0 0 (0 : Int32) from bn_k (by decide))) (by decide)
      refine lv_iconst (v := (-1)) hx hb dX12_odds_16 (by decide) ?_
      exact prI (post := fun r L1 f1 => SH (spM (IA 0 0 14 9999 w) pi (EQ g0) LDa) nnM G ad L1 f1) S Y rfl (by decide) (by decide) hA1 I dX12_odds_17
set_option maxHeartbeats 4000000 in
set_option maxRecDepth 100000 in
theorem x_X12_nextAsked {l : Launch} {G : GG}  {L : List Nat} {f : HF} {ad : Nat → Nat → Nat} {w : WW} {pi : PIT} {g0 : Nat → Int32} {i1 : Int32} (I : SH (spM (IA 0 0 14 9999 w) pi (EQ g0) LDa) nnM G ad L f) (hB : BBp 0 0 14 9999 w) (hX : TX g0) : PMi l yX12_nextAsked cX12_nextAsked 6 .int 8 0 0 G [.ref (ad 0 0), .int i1] L f (fun r L1 f1 => SH (spM (IA 0 0 14 9999 w) pi (EQ g0) LDa) nnM G ad L1 f1) := by
  refine PMi.of (post := fun r L1 f1 => SH (spM (IA 0 0 14 9999 w) pi (EQ g0) LDa) nnM G ad L1 f1) (own := RX12) (by decide) rfl (Nat.le_of_ble_eq_true rfl) (fun sz p e s m args below meth c A ls hA1 hname S Y hl => ?_)
  have hx := S.hx
  have hb := S.hb
  have hl : lv_has ls 6 [(0, .ref (ad 0 0)), (1, .int i1)] := hl
  have J_24 : ∀ (n24 : Nat) (y24_2 y24_3 y24_4 : Int32) (L_24 : List Nat) (f_24 : HF) (H : Heap) (locs : List Loc) (ls : Array Slot), (SH (spM (IA 0 0 14 9999 w) pi (EQ g0) LDa) nnM G ad L_24 f_24) → (bn (-1) 13 y24_2) → (bn (-2147483648) 1000000000 y24_3) → (bn 0 14 y24_4) → (bn 0 5 i1) → (((14 : Int) - y24_4.toInt).toNat = n24) → (DY G A s [] L_24 f_24 H locs) → (lv_has ls 6 [(0, .ref (ad 0 0)), (1, .int i1), (2, .int y24_2), (3, .int y24_3), (4, .int y24_4)]) → W p l e (rmD 8 0 0) s m args below meth c H locs (0) (0) (MQ below (va_Qi (fun r (u : List Nat × HF) => (fun r L1 f1 => SH (spM (IA 0 0 14 9999 w) pi (EQ g0) LDa) nnM G ad L1 f1) r u.1 u.2) (fun u t => pOut G (va_A (va_pl L f) sz) u.1 u.2 t) (va_A (va_pl L f) sz)) args s 0 0 A) (F0 m 24 ls []) := by
    intro n24
    induction n24 using Nat.strongRecOn with
    | _ n24 ih24 =>
      intro y24_2 y24_3 y24_4 L_24 f_24 H locs ls I b_y24_2 b_y24_3 b_y24_4 b24_i1 hm24 Y hl
      refine lv_iload hx hb dX12_nextAsked_24 (lv_at hl 4 rfl) ?_
      refine lv_aload_n hx hb dX12_nextAsked_26 rfl (lv_at hl 0 rfl) ?_
      obtain ⟨v_68583, v_68585, v_68587, v_68589, v_68591, v_68593, v_68595, v_68597, v_68598, v_68600, v_68602, v_68604, v_68606, v_68608, v_68610, v_68612, v_68614, v_68616, p_ad_0_0, b_68584, b_68586, b_68588, b_68590, b_68592, b_68594, b_68596, b_68599, b_68601, b_68603, b_68605, b_68607, b_68609, b_68611, b_68613, b_68615, b_68617⟩ := opnM_0 (j := 0) I (by decide)
      have p_ad_0_0 : pt L_24 f_24 (ad 0 0) (.inr (12, [.ref (ad 1 0), .ref (ad 2 0), .ref (ad 3 0), .ref (ad 4 0), .int v_68583, .int v_68585, .int v_68587, .int v_68589, .int v_68591, .int v_68593, .int v_68595, .long v_68597, .int v_68598, .int v_68600, .int v_68602, .ref (ad 5 0), .ref (ad 6 0), .int v_68604, .int v_68606, .int v_68608, .int v_68610, .int v_68612, .ref (ad 7 0), .ref (ad 8 0), .ref (ad 9 0), .int v_68614, .ref (ad 10 0), .ref (ad 11 0), .ref (ad 12 0), .ref (ad 13 0), .int v_68616, .ref (ad 14 0)])) := p_ad_0_0
      refine pg_get S Y ok_X12 0 (by decide) kf12_7 (v := .ref (ad 1 0)) p_ad_0_0 rfl dX12_nextAsked_27 ?_
      refine lv_bipush (v := 13) hx hb dX12_nextAsked_30 (by decide) ?_
      obtain ⟨g_68618, p_ad_1_0, o_68619⟩ := I.opi (k := 1) (j := 0) (by decide) rfl
      have p_ad_1_0 : pt L_24 f_24 (ad 1 0) (.inl (G.2 0, 10568, .inl g_68618)) := p_ad_1_0
      obtain ⟨v_68620, ev_68620⟩ : ∃ z, z = g_68618 (13 : Int32).toNatClampNeg := ⟨_, rfl⟩
      refine pg_iald S Y (v := v_68620) p_ad_1_0 (by unfold vp_in; decide) ev_68620.symm dX12_nextAsked_32 ?_
      have bv_68620 : bn 0 14 v_68620 := bn_eq ev_68620 (IA_13 o_68619)
      refine lv_icmp_ge (tgt := 130) hx hb dX12_nextAsked_33 (by decide) (fun c_68621 => ?_) (fun c_68621 => ?_)
      · refine lv_iload_n hx hb dX12_nextAsked_130 rfl (lv_at hl 2 rfl) ?_
        exact prI (post := fun r L1 f1 => SH (spM (IA 0 0 14 9999 w) pi (EQ g0) LDa) nnM G ad L1 f1) S Y rfl (by decide) (by decide) hA1 I dX12_nextAsked_131
      · have B_68622 : bn 1 14 v_68620 := bn_w (bn_gtl c_68621 bv_68620 b_y24_4) (by decide)
        have B_68623 : bn 0 13 y24_4 := bn_w (bn_gtr c_68621 bv_68620 b_y24_4) (by decide)
        refine lv_iconst (v := 2) hx hb dX12_nextAsked_36 (by decide) ?_
        refine lv_aload_n hx hb dX12_nextAsked_37 rfl (lv_at hl 0 rfl) ?_
        refine pg_get S Y ok_X12 29 (by decide) kf12_59 (v := .ref (ad 13 0)) p_ad_0_0 rfl dX12_nextAsked_38 ?_
        refine lv_iload hx hb dX12_nextAsked_41 (lv_at hl 4 rfl) ?_
        obtain ⟨g_68624, p_ad_13_0, o_68625⟩ := I.opi (k := 13) (j := 0) (by decide) rfl
        have p_ad_13_0 : pt L_24 f_24 (ad 13 0) (.inl (G.2 0, 14, .inl g_68624)) := p_ad_13_0
        obtain ⟨v_68626, ev_68626⟩ : ∃ z, z = g_68624 (y24_4 : Int32).toNatClampNeg := ⟨_, rfl⟩
        refine pg_iald S Y (v := v_68626) p_ad_13_0 (vp_bn B_68623 (by decide)) ev_68626.symm dX12_nextAsked_43 ?_
        refine lv_imul hx hb dX12_nextAsked_44 ?_
        refine lv_topi (fun x_68627 ex_68627 => ?_)
        refine lv_aload_n hx hb dX12_nextAsked_45 rfl (lv_at hl 0 rfl) ?_
        refine pg_get S Y ok_X12 30 (by decide) kf12_410 (v := .int v_68616) p_ad_0_0 rfl dX12_nextAsked_46 ?_
        refine lv_icmp_le (tgt := 69) hx hb dX12_nextAsked_49 (by decide) (fun c_68628 => ?_) (fun c_68628 => ?_)
        · refine lv_aload_n hx hb dX12_nextAsked_69 rfl (lv_at hl 0 rfl) ?_
          refine pg_get S Y ok_X12 30 (by decide) kf12_410 (v := .int v_68616) p_ad_0_0 rfl dX12_nextAsked_70 ?_
          refine lv_iconst (v := 2) hx hb dX12_nextAsked_73 (by decide) ?_
          refine lv_aload_n hx hb dX12_nextAsked_74 rfl (lv_at hl 0 rfl) ?_
          refine pg_get S Y ok_X12 29 (by decide) kf12_59 (v := .ref (ad 13 0)) p_ad_0_0 rfl dX12_nextAsked_75 ?_
          refine lv_iload hx hb dX12_nextAsked_78 (lv_at hl 4 rfl) ?_
          obtain ⟨v_68631, ev_68631⟩ : ∃ z, z = g_68624 (y24_4 : Int32).toNatClampNeg := ⟨_, rfl⟩
          refine pg_iald S Y (v := v_68631) p_ad_13_0 (vp_bn B_68623 (by decide)) ev_68631.symm dX12_nextAsked_80 ?_
          refine lv_imul hx hb dX12_nextAsked_81 ?_
          refine lv_topi (fun x_68632 ex_68632 => ?_)
          refine lv_isub hx hb dX12_nextAsked_82 ?_
          refine lv_topi (fun x_68633 ex_68633 => ?_)
          refine lv_istore (lv' := [(5, .int x_68633), (0, .ref (ad 0 0)), (1, .int i1), (2, .int y24_2), (3, .int y24_3), (4, .int y24_4)]) hx hb dX12_nextAsked_83 hl (by decide) rfl (fun ls hl => ?_)
          refine lv_aload_n hx hb dX12_nextAsked_85 rfl (lv_at hl 1 rfl) ?_
          refine pg_get S Y ok_X12 29 (by decide) kf12_59 (v := .ref (ad 13 0)) p_ad_0_0 rfl dX12_nextAsked_86 ?_
          refine lv_iload hx hb dX12_nextAsked_89 (lv_at hl 5 rfl) ?_
          obtain ⟨v_68634, ev_68634⟩ : ∃ z, z = g_68624 (y24_4 : Int32).toNatClampNeg := ⟨_, rfl⟩
          refine pg_iald S Y (v := v_68634) p_ad_13_0 (vp_bn B_68623 (by decide)) ev_68634.symm dX12_nextAsked_91 ?_
          refine lv_if_eq (tgt := 124) hx hb dX12_nextAsked_92 (by decide) (fun c_68635 => ?_) (fun c_68635 => ?_)
          · have B_68636 : bn 0 0 v_68634 := bn_w (bn_eq c_68635 (show bn 0 0 (0 : Int32) from bn_k (by decide))) (by decide)
            obtain ⟨x_68637, ex_68637⟩ : ∃ z : Int32, z = y24_4 + 1 := ⟨_, rfl⟩
            refine lv_iinc (v := x_68637) (lv' := [(4, .int x_68637), (5, .int x_68633), (0, .ref (ad 0 0)), (1, .int i1), (2, .int y24_2), (3, .int y24_3)]) hx hb dX12_nextAsked_124 hl (k := 5) rfl (by rw [ex_68637]; rfl) (by decide) rfl (fun ls hl => ?_)
            refine lv_goto (tgt := 24) hx hb dX12_nextAsked_127 (by decide) ?_
            exact ih24 _ (by rw [← hm24]; exact ms_up (m := 1) ex_68637 (show bn 1 1 (1 : Int32) from bn_k (by decide)) B_68623 (bn_w (bn_eq ex_68637 (bn_add B_68623 (show bn 1 1 (1 : Int32) from bn_k (by decide)) (by decide))) (by decide) : bn 0 14 x_68637) (by decide)) y24_2 y24_3 x_68637 _ _  _ _ _ I (bn_w b_y24_2 (by decide)) (bn_w b_y24_3 (by decide)) (bn_w (bn_eq ex_68637 (bn_add B_68623 (show bn 1 1 (1 : Int32) from bn_k (by decide)) (by decide))) (by decide)) (bn_w b24_i1 (by decide)) rfl Y (lv_sub hl [2, 3, 4, 5, 0] rfl)
          · refine lv_aload_n hx hb dX12_nextAsked_95 rfl (lv_at hl 1 rfl) ?_
            refine pg_get S Y ok_X12 29 (by decide) kf12_59 (v := .ref (ad 13 0)) p_ad_0_0 rfl dX12_nextAsked_96 ?_
            refine lv_iload hx hb dX12_nextAsked_99 (lv_at hl 5 rfl) ?_
            obtain ⟨v_68638, ev_68638⟩ : ∃ z, z = g_68624 (y24_4 : Int32).toNatClampNeg := ⟨_, rfl⟩
            refine pg_iald S Y (v := v_68638) p_ad_13_0 (vp_bn B_68623 (by decide)) ev_68638.symm dX12_nextAsked_101 ?_
            refine lv_aload_n hx hb dX12_nextAsked_102 rfl (lv_at hl 1 rfl) ?_
            refine pg_get S Y ok_X12 30 (by decide) kf12_410 (v := .int v_68616) p_ad_0_0 rfl dX12_nextAsked_103 ?_
            refine lv_icmp_eq (tgt := 124) hx hb dX12_nextAsked_106 (by decide) (fun c_68639 => ?_) (fun c_68639 => ?_)
            · obtain ⟨x_68640, ex_68640⟩ : ∃ z : Int32, z = y24_4 + 1 := ⟨_, rfl⟩
              refine lv_iinc (v := x_68640) (lv' := [(4, .int x_68640), (5, .int x_68633), (0, .ref (ad 0 0)), (1, .int i1), (2, .int y24_2), (3, .int y24_3)]) hx hb dX12_nextAsked_124 hl (k := 5) rfl (by rw [ex_68640]; rfl) (by decide) rfl (fun ls hl => ?_)
              refine lv_goto (tgt := 24) hx hb dX12_nextAsked_127 (by decide) ?_
              exact ih24 _ (by rw [← hm24]; exact ms_up (m := 1) ex_68640 (show bn 1 1 (1 : Int32) from bn_k (by decide)) B_68623 (bn_w (bn_eq ex_68640 (bn_add B_68623 (show bn 1 1 (1 : Int32) from bn_k (by decide)) (by decide))) (by decide) : bn 0 14 x_68640) (by decide)) y24_2 y24_3 x_68640 _ _  _ _ _ I (bn_w b_y24_2 (by decide)) (bn_w b_y24_3 (by decide)) (bn_w (bn_eq ex_68640 (bn_add B_68623 (show bn 1 1 (1 : Int32) from bn_k (by decide)) (by decide))) (by decide)) (bn_w b24_i1 (by decide)) rfl Y (lv_sub hl [2, 3, 4, 5, 0] rfl)
            · refine lv_iload hx hb dX12_nextAsked_109 (lv_at hl 0 rfl) ?_
              refine lv_iload_n hx hb dX12_nextAsked_111 rfl (lv_at hl 4 rfl) ?_
              refine lv_icmp_lt (tgt := 118) hx hb dX12_nextAsked_112 (by decide) (fun c_68641 => ?_) (fun c_68641 => ?_)
              · have B_68642 : bn (-2147483648) 999999999 x_68633 := bn_w (bn_ltl c_68641 (bn_any x_68633) b_y24_3) (by decide)
                have B_68643 : bn (-2147483647) 1000000000 y24_3 := bn_w (bn_ltr c_68641 (bn_any x_68633) b_y24_3) (by decide)
                refine lv_iload hx hb dX12_nextAsked_118 (lv_at hl 0 rfl) ?_
                refine lv_istore_n (lv' := [(3, .int x_68633), (5, .int x_68633), (0, .ref (ad 0 0)), (1, .int i1), (2, .int y24_2), (4, .int y24_4)]) hx hb dX12_nextAsked_120 rfl hl (by decide) rfl (fun ls hl => ?_)
                refine lv_iload hx hb dX12_nextAsked_121 (lv_at hl 5 rfl) ?_
                refine lv_istore_n (lv' := [(2, .int y24_4), (3, .int x_68633), (5, .int x_68633), (0, .ref (ad 0 0)), (1, .int i1), (4, .int y24_4)]) hx hb dX12_nextAsked_123 rfl hl (by decide) rfl (fun ls hl => ?_)
                obtain ⟨x_68644, ex_68644⟩ : ∃ z : Int32, z = y24_4 + 1 := ⟨_, rfl⟩
                refine lv_iinc (v := x_68644) (lv' := [(4, .int x_68644), (2, .int y24_4), (3, .int x_68633), (5, .int x_68633), (0, .ref (ad 0 0)), (1, .int i1)]) hx hb dX12_nextAsked_124 hl (k := 5) rfl (by rw [ex_68644]; rfl) (by decide) rfl (fun ls hl => ?_)
                refine lv_goto (tgt := 24) hx hb dX12_nextAsked_127 (by decide) ?_
                exact ih24 _ (by rw [← hm24]; exact ms_up (m := 1) ex_68644 (show bn 1 1 (1 : Int32) from bn_k (by decide)) B_68623 (bn_w (bn_eq ex_68644 (bn_add B_68623 (show bn 1 1 (1 : Int32) from bn_k (by decide)) (by decide))) (by decide) : bn 0 14 x_68644) (by decide)) y24_4 x_68633 x_68644 _ _  _ _ _ I (bn_w B_68623 (by decide)) (bn_w B_68642 (by decide)) (bn_w (bn_eq ex_68644 (bn_add B_68623 (show bn 1 1 (1 : Int32) from bn_k (by decide)) (by decide))) (by decide)) (bn_w b24_i1 (by decide)) rfl Y (lv_sub hl [4, 5, 1, 2, 0] rfl)
              · refine lv_goto (tgt := 124) hx hb dX12_nextAsked_115 (by decide) ?_
                obtain ⟨x_68645, ex_68645⟩ : ∃ z : Int32, z = y24_4 + 1 := ⟨_, rfl⟩
                refine lv_iinc (v := x_68645) (lv' := [(4, .int x_68645), (5, .int x_68633), (0, .ref (ad 0 0)), (1, .int i1), (2, .int y24_2), (3, .int y24_3)]) hx hb dX12_nextAsked_124 hl (k := 5) rfl (by rw [ex_68645]; rfl) (by decide) rfl (fun ls hl => ?_)
                refine lv_goto (tgt := 24) hx hb dX12_nextAsked_127 (by decide) ?_
                exact ih24 _ (by rw [← hm24]; exact ms_up (m := 1) ex_68645 (show bn 1 1 (1 : Int32) from bn_k (by decide)) B_68623 (bn_w (bn_eq ex_68645 (bn_add B_68623 (show bn 1 1 (1 : Int32) from bn_k (by decide)) (by decide))) (by decide) : bn 0 14 x_68645) (by decide)) y24_2 y24_3 x_68645 _ _  _ _ _ I (bn_w b_y24_2 (by decide)) (bn_w b_y24_3 (by decide)) (bn_w (bn_eq ex_68645 (bn_add B_68623 (show bn 1 1 (1 : Int32) from bn_k (by decide)) (by decide))) (by decide)) (bn_w b24_i1 (by decide)) rfl Y (lv_sub hl [2, 3, 4, 5, 0] rfl)
        · have B_68629 : bn (-2147483647) 2147483647 x_68627 := bn_w (bn_gtl c_68628 (bn_any x_68627) (bn_any v_68616)) (by decide)
          have B_68630 : bn (-2147483648) 2147483646 v_68616 := bn_w (bn_gtr c_68628 (bn_any x_68627) (bn_any v_68616)) (by decide)
          refine lv_iconst (v := 2) hx hb dX12_nextAsked_52 (by decide) ?_
          refine lv_aload_n hx hb dX12_nextAsked_53 rfl (lv_at hl 0 rfl) ?_
          refine pg_get S Y ok_X12 29 (by decide) kf12_59 (v := .ref (ad 13 0)) p_ad_0_0 rfl dX12_nextAsked_54 ?_
          refine lv_iload hx hb dX12_nextAsked_57 (lv_at hl 4 rfl) ?_
          obtain ⟨v_68646, ev_68646⟩ : ∃ z, z = g_68624 (y24_4 : Int32).toNatClampNeg := ⟨_, rfl⟩
          refine pg_iald S Y (v := v_68646) p_ad_13_0 (vp_bn B_68623 (by decide)) ev_68646.symm dX12_nextAsked_59 ?_
          refine lv_imul hx hb dX12_nextAsked_60 ?_
          refine lv_topi (fun x_68647 ex_68647 => ?_)
          refine lv_aload_n hx hb dX12_nextAsked_61 rfl (lv_at hl 0 rfl) ?_
          refine pg_get S Y ok_X12 30 (by decide) kf12_410 (v := .int v_68616) p_ad_0_0 rfl dX12_nextAsked_62 ?_
          refine lv_isub hx hb dX12_nextAsked_65 ?_
          refine lv_topi (fun x_68648 ex_68648 => ?_)
          refine lv_goto (tgt := 83) hx hb dX12_nextAsked_66 (by decide) ?_
          refine lv_istore (lv' := [(5, .int x_68648), (0, .ref (ad 0 0)), (1, .int i1), (2, .int y24_2), (3, .int y24_3), (4, .int y24_4)]) hx hb dX12_nextAsked_83 hl (by decide) rfl (fun ls hl => ?_)
          refine lv_aload_n hx hb dX12_nextAsked_85 rfl (lv_at hl 1 rfl) ?_
          refine pg_get S Y ok_X12 29 (by decide) kf12_59 (v := .ref (ad 13 0)) p_ad_0_0 rfl dX12_nextAsked_86 ?_
          refine lv_iload hx hb dX12_nextAsked_89 (lv_at hl 5 rfl) ?_
          obtain ⟨v_68649, ev_68649⟩ : ∃ z, z = g_68624 (y24_4 : Int32).toNatClampNeg := ⟨_, rfl⟩
          refine pg_iald S Y (v := v_68649) p_ad_13_0 (vp_bn B_68623 (by decide)) ev_68649.symm dX12_nextAsked_91 ?_
          refine lv_if_eq (tgt := 124) hx hb dX12_nextAsked_92 (by decide) (fun c_68650 => ?_) (fun c_68650 => ?_)
          · have B_68651 : bn 0 0 v_68649 := bn_w (bn_eq c_68650 (show bn 0 0 (0 : Int32) from bn_k (by decide))) (by decide)
            obtain ⟨x_68652, ex_68652⟩ : ∃ z : Int32, z = y24_4 + 1 := ⟨_, rfl⟩
            refine lv_iinc (v := x_68652) (lv' := [(4, .int x_68652), (5, .int x_68648), (0, .ref (ad 0 0)), (1, .int i1), (2, .int y24_2), (3, .int y24_3)]) hx hb dX12_nextAsked_124 hl (k := 5) rfl (by rw [ex_68652]; rfl) (by decide) rfl (fun ls hl => ?_)
            refine lv_goto (tgt := 24) hx hb dX12_nextAsked_127 (by decide) ?_
            exact ih24 _ (by rw [← hm24]; exact ms_up (m := 1) ex_68652 (show bn 1 1 (1 : Int32) from bn_k (by decide)) B_68623 (bn_w (bn_eq ex_68652 (bn_add B_68623 (show bn 1 1 (1 : Int32) from bn_k (by decide)) (by decide))) (by decide) : bn 0 14 x_68652) (by decide)) y24_2 y24_3 x_68652 _ _  _ _ _ I (bn_w b_y24_2 (by decide)) (bn_w b_y24_3 (by decide)) (bn_w (bn_eq ex_68652 (bn_add B_68623 (show bn 1 1 (1 : Int32) from bn_k (by decide)) (by decide))) (by decide)) (bn_w b24_i1 (by decide)) rfl Y (lv_sub hl [2, 3, 4, 5, 0] rfl)
          · refine lv_aload_n hx hb dX12_nextAsked_95 rfl (lv_at hl 1 rfl) ?_
            refine pg_get S Y ok_X12 29 (by decide) kf12_59 (v := .ref (ad 13 0)) p_ad_0_0 rfl dX12_nextAsked_96 ?_
            refine lv_iload hx hb dX12_nextAsked_99 (lv_at hl 5 rfl) ?_
            obtain ⟨v_68653, ev_68653⟩ : ∃ z, z = g_68624 (y24_4 : Int32).toNatClampNeg := ⟨_, rfl⟩
            refine pg_iald S Y (v := v_68653) p_ad_13_0 (vp_bn B_68623 (by decide)) ev_68653.symm dX12_nextAsked_101 ?_
            refine lv_aload_n hx hb dX12_nextAsked_102 rfl (lv_at hl 1 rfl) ?_
            refine pg_get S Y ok_X12 30 (by decide) kf12_410 (v := .int v_68616) p_ad_0_0 rfl dX12_nextAsked_103 ?_
            refine lv_icmp_eq (tgt := 124) hx hb dX12_nextAsked_106 (by decide) (fun c_68654 => ?_) (fun c_68654 => ?_)
            · have B_68655 : bn (-2147483648) 2147483646 v_68653 := bn_w (bn_eq c_68654 B_68630) (by decide)
              obtain ⟨x_68656, ex_68656⟩ : ∃ z : Int32, z = y24_4 + 1 := ⟨_, rfl⟩
              refine lv_iinc (v := x_68656) (lv' := [(4, .int x_68656), (5, .int x_68648), (0, .ref (ad 0 0)), (1, .int i1), (2, .int y24_2), (3, .int y24_3)]) hx hb dX12_nextAsked_124 hl (k := 5) rfl (by rw [ex_68656]; rfl) (by decide) rfl (fun ls hl => ?_)
              refine lv_goto (tgt := 24) hx hb dX12_nextAsked_127 (by decide) ?_
              exact ih24 _ (by rw [← hm24]; exact ms_up (m := 1) ex_68656 (show bn 1 1 (1 : Int32) from bn_k (by decide)) B_68623 (bn_w (bn_eq ex_68656 (bn_add B_68623 (show bn 1 1 (1 : Int32) from bn_k (by decide)) (by decide))) (by decide) : bn 0 14 x_68656) (by decide)) y24_2 y24_3 x_68656 _ _  _ _ _ I (bn_w b_y24_2 (by decide)) (bn_w b_y24_3 (by decide)) (bn_w (bn_eq ex_68656 (bn_add B_68623 (show bn 1 1 (1 : Int32) from bn_k (by decide)) (by decide))) (by decide)) (bn_w b24_i1 (by decide)) rfl Y (lv_sub hl [2, 3, 4, 5, 0] rfl)
            · refine lv_iload hx hb dX12_nextAsked_109 (lv_at hl 0 rfl) ?_
              refine lv_iload_n hx hb dX12_nextAsked_111 rfl (lv_at hl 4 rfl) ?_
              refine lv_icmp_lt (tgt := 118) hx hb dX12_nextAsked_112 (by decide) (fun c_68657 => ?_) (fun c_68657 => ?_)
              · have B_68658 : bn (-2147483648) 999999999 x_68648 := bn_w (bn_ltl c_68657 (bn_any x_68648) b_y24_3) (by decide)
                have B_68659 : bn (-2147483647) 1000000000 y24_3 := bn_w (bn_ltr c_68657 (bn_any x_68648) b_y24_3) (by decide)
                refine lv_iload hx hb dX12_nextAsked_118 (lv_at hl 0 rfl) ?_
                refine lv_istore_n (lv' := [(3, .int x_68648), (5, .int x_68648), (0, .ref (ad 0 0)), (1, .int i1), (2, .int y24_2), (4, .int y24_4)]) hx hb dX12_nextAsked_120 rfl hl (by decide) rfl (fun ls hl => ?_)
                refine lv_iload hx hb dX12_nextAsked_121 (lv_at hl 5 rfl) ?_
                refine lv_istore_n (lv' := [(2, .int y24_4), (3, .int x_68648), (5, .int x_68648), (0, .ref (ad 0 0)), (1, .int i1), (4, .int y24_4)]) hx hb dX12_nextAsked_123 rfl hl (by decide) rfl (fun ls hl => ?_)
                obtain ⟨x_68660, ex_68660⟩ : ∃ z : Int32, z = y24_4 + 1 := ⟨_, rfl⟩
                refine lv_iinc (v := x_68660) (lv' := [(4, .int x_68660), (2, .int y24_4), (3, .int x_68648), (5, .int x_68648), (0, .ref (ad 0 0)), (1, .int i1)]) hx hb dX12_nextAsked_124 hl (k := 5) rfl (by rw [ex_68660]; rfl) (by decide) rfl (fun ls hl => ?_)
                refine lv_goto (tgt := 24) hx hb dX12_nextAsked_127 (by decide) ?_
                exact ih24 _ (by rw [← hm24]; exact ms_up (m := 1) ex_68660 (show bn 1 1 (1 : Int32) from bn_k (by decide)) B_68623 (bn_w (bn_eq ex_68660 (bn_add B_68623 (show bn 1 1 (1 : Int32) from bn_k (by decide)) (by decide))) (by decide) : bn 0 14 x_68660) (by decide)) y24_4 x_68648 x_68660 _ _  _ _ _ I (bn_w B_68623 (by decide)) (bn_w B_68658 (by decide)) (bn_w (bn_eq ex_68660 (bn_add B_68623 (show bn 1 1 (1 : Int32) from bn_k (by decide)) (by decide))) (by decide)) (bn_w b24_i1 (by decide)) rfl Y (lv_sub hl [4, 5, 1, 2, 0] rfl)
              · refine lv_goto (tgt := 124) hx hb dX12_nextAsked_115 (by decide) ?_
                obtain ⟨x_68661, ex_68661⟩ : ∃ z : Int32, z = y24_4 + 1 := ⟨_, rfl⟩
                refine lv_iinc (v := x_68661) (lv' := [(4, .int x_68661), (5, .int x_68648), (0, .ref (ad 0 0)), (1, .int i1), (2, .int y24_2), (3, .int y24_3)]) hx hb dX12_nextAsked_124 hl (k := 5) rfl (by rw [ex_68661]; rfl) (by decide) rfl (fun ls hl => ?_)
                refine lv_goto (tgt := 24) hx hb dX12_nextAsked_127 (by decide) ?_
                exact ih24 _ (by rw [← hm24]; exact ms_up (m := 1) ex_68661 (show bn 1 1 (1 : Int32) from bn_k (by decide)) B_68623 (bn_w (bn_eq ex_68661 (bn_add B_68623 (show bn 1 1 (1 : Int32) from bn_k (by decide)) (by decide))) (by decide) : bn 0 14 x_68661) (by decide)) y24_2 y24_3 x_68661 _ _  _ _ _ I (bn_w b_y24_2 (by decide)) (bn_w b_y24_3 (by decide)) (bn_w (bn_eq ex_68661 (bn_add B_68623 (show bn 1 1 (1 : Int32) from bn_k (by decide)) (by decide))) (by decide)) (bn_w b24_i1 (by decide)) rfl Y (lv_sub hl [2, 3, 4, 5, 0] rfl)
  refine lv_aload_n hx hb dX12_nextAsked_0 rfl (lv_at hl 0 rfl) ?_
  refine lv_iload_n hx hb dX12_nextAsked_1 rfl (lv_at hl 1 rfl) ?_
  refine cVp (As := [.int i1]) (rest := []) S Y (x_X12_isOne (l := l) I hB) cw_X12_isOne km12_323 (I.opo (k := 0) (j := 0) (by decide) rfl).choose_spec.1 ok_X12.1 rfl rfl ⟨Nat.le_of_ble_eq_true rfl, Nat.le_of_ble_eq_true rfl⟩ hl.1 rfl (Nat.le_of_ble_eq_true rfl) ⟨Nat.le_of_ble_eq_true rfl, Nat.le_of_ble_eq_true rfl⟩ dX12_nextAsked_2 (fun r_68662 H locs er_68662 Y => ?_)
  refine lv_if_ne (tgt := 10) hx hb dX12_nextAsked_5 (by decide) (fun c_68663 => ?_) (fun c_68663 => ?_)
  · have B_68664 : bn 0 5 i1 := bn_w (bn_i (bn_any i1) (er_68662.2 c_68663)) (by decide)
    have B_68665 : bn 1 1 r_68662 := bn_w (bn_nel c_68663 er_68662.1 (show bn 0 0 (0 : Int32) from bn_k (by decide))) (by decide)
    refine lv_aload_n hx hb dX12_nextAsked_10 rfl (lv_at hl 0 rfl) ?_
    refine lv_iload_n hx hb dX12_nextAsked_11 rfl (lv_at hl 1 rfl) ?_
    refine cVv (As := [.int i1]) (rest := []) S Y (x_X12_laySets (l := l) I hB hX) cw_X12_laySets km12_416 (I.opo (k := 0) (j := 0) (by decide) rfl).choose_spec.1 ok_X12.1 rfl rfl ⟨Nat.le_of_ble_eq_true rfl, Nat.le_of_ble_eq_true rfl⟩ hl.1 rfl (Nat.le_of_ble_eq_true rfl) ⟨Nat.le_of_ble_eq_true rfl, Nat.le_of_ble_eq_true rfl⟩ dX12_nextAsked_12 (fun L_68667 f_68668 H locs I Y => ?_)
    refine lv_iconst (v := (-1)) hx hb dX12_nextAsked_15 (by decide) ?_
    refine lv_istore_n (lv' := [(2, .int (-1)), (0, .ref (ad 0 0)), (1, .int i1)]) hx hb dX12_nextAsked_16 rfl hl (by decide) rfl (fun ls hl => ?_)
    refine lv_ldcw (v := 1000000000) hx hb S.ow (S.w kk12_409) dX12_nextAsked_17 ?_
    refine lv_istore_n (lv' := [(3, .int 1000000000), (2, .int (-1)), (0, .ref (ad 0 0)), (1, .int i1)]) hx hb dX12_nextAsked_20 rfl hl (by decide) rfl (fun ls hl => ?_)
    refine lv_iconst (v := 0) hx hb dX12_nextAsked_21 (by decide) ?_
    refine lv_istore (lv' := [(4, .int 0), (3, .int 1000000000), (2, .int (-1)), (0, .ref (ad 0 0)), (1, .int i1)]) hx hb dX12_nextAsked_22 hl (by decide) rfl (fun ls hl => ?_)
    exact J_24 _ (-1) 1000000000 0 _ _  _ _ _ I (bn_w (show bn (-1) (-1) ((-1) : Int32) from bn_k (by decide)) (by decide)) (bn_w (show bn 1000000000 1000000000 (1000000000 : Int32) from bn_k (by decide)) (by decide)) (bn_w (show bn 0 0 (0 : Int32) from bn_k (by decide)) (by decide)) (bn_w B_68664 (by decide)) rfl Y (lv_sub hl [3, 4, 2, 1, 0] rfl)
  · have B_68666 : bn 0 0 r_68662 := bn_w (bn_eq c_68663 (show bn 0 0 (0 : Int32) from bn_k (by decide))) (by decide)
    refine lv_iconst (v := (-1)) hx hb dX12_nextAsked_8 (by decide) ?_
    exact prI (post := fun r L1 f1 => SH (spM (IA 0 0 14 9999 w) pi (EQ g0) LDa) nnM G ad L1 f1) S Y rfl (by decide) (by decide) hA1 I dX12_nextAsked_9
set_option maxHeartbeats 4000000 in
set_option maxRecDepth 100000 in
theorem x_X12_felt {l : Launch} {G : GG}  {L : List Nat} {f : HF} {ad : Nat → Nat → Nat} {w : WW} {pi : PIT} {g0 : Nat → Int32} {i1 i2 i3 : Int32} (I : SH (spM (IA 0 0 14 9999 w) pi (EQ g0) LDa) nnM G ad L f) (hB : BBp 0 0 14 9999 w) (hX : TX g0) : PMi l yX12_felt cX12_felt 5 .int 2 0 0 G [.ref (ad 0 0), .int i1, .int i2, .int i3] L f (fun r L1 f1 => SH (spM (IA 0 0 14 9999 w) pi (EQ g0) LDa) nnM G ad L1 f1) := by
  refine PMi.of (post := fun r L1 f1 => SH (spM (IA 0 0 14 9999 w) pi (EQ g0) LDa) nnM G ad L1 f1) (own := RX12) (by decide) rfl (Nat.le_of_ble_eq_true rfl) (fun sz p e s m args below meth c A ls hA1 hname S Y hl => ?_)
  have hx := S.hx
  have hb := S.hb
  have hl : lv_has ls 5 [(0, .ref (ad 0 0)), (1, .int i1), (2, .int i2), (3, .int i3)] := hl
  refine lv_iload_n hx hb dX12_felt_0 rfl (lv_at hl 1 rfl) ?_
  refine lv_iconst (v := (-1)) hx hb dX12_felt_1 (by decide) ?_
  refine lv_icmp_ne (tgt := 14) hx hb dX12_felt_2 (by decide) (fun c_68913 => ?_) (fun c_68913 => ?_)
  · refine lv_aload_n hx hb dX12_felt_14 rfl (lv_at hl 0 rfl) ?_
    refine lv_iload_n hx hb dX12_felt_15 rfl (lv_at hl 1 rfl) ?_
    refine cVp (As := [.int i1]) (rest := []) S Y (x_X12_isOne (l := l) I hB) cw_X12_isOne km12_323 (I.opo (k := 0) (j := 0) (by decide) rfl).choose_spec.1 ok_X12.1 rfl rfl ⟨Nat.le_of_ble_eq_true rfl, Nat.le_of_ble_eq_true rfl⟩ hl.1 rfl (Nat.le_of_ble_eq_true rfl) ⟨Nat.le_of_ble_eq_true rfl, Nat.le_of_ble_eq_true rfl⟩ dX12_felt_16 (fun r_68915 H locs er_68915 Y => ?_)
    refine lv_if_eq (tgt := 54) hx hb dX12_felt_19 (by decide) (fun c_68916 => ?_) (fun c_68916 => ?_)
    · have B_68917 : bn 0 0 r_68915 := bn_w (bn_eq c_68916 (show bn 0 0 (0 : Int32) from bn_k (by decide))) (by decide)
      refine lv_bipush (v := (-2)) hx hb dX12_felt_54 (by decide) ?_
      exact prI (post := fun r L1 f1 => SH (spM (IA 0 0 14 9999 w) pi (EQ g0) LDa) nnM G ad L1 f1) S Y rfl (by decide) (by decide) hA1 I dX12_felt_56
    · have B_68918 : bn 0 5 i1 := bn_w (bn_i (bn_any i1) (er_68915.2 c_68916)) (by decide)
      have B_68919 : bn 1 1 r_68915 := bn_w (bn_nel c_68916 er_68915.1 (show bn 0 0 (0 : Int32) from bn_k (by decide))) (by decide)
      refine lv_iload_n hx hb dX12_felt_22 rfl (lv_at hl 2 rfl) ?_
      refine lv_iconst (v := 0) hx hb dX12_felt_23 (by decide) ?_
      refine lv_bipush (v := 9) hx hb dX12_felt_24 (by decide) ?_
      refine cSp (As := [.int i2, .int 0, .int 9]) (rest := []) S Y (x_X12_isIn (l := l) ) cw_X12_isIn km12_69 rfl ⟨Nat.le_of_ble_eq_true rfl, Nat.le_of_ble_eq_true rfl⟩ hl.1 rfl (Nat.le_of_ble_eq_true rfl) ⟨Nat.le_of_ble_eq_true rfl, Nat.le_of_ble_eq_true rfl⟩ dX12_felt_26 (fun r_68920 H locs er_68920 Y => ?_)
      refine lv_if_eq (tgt := 54) hx hb dX12_felt_29 (by decide) (fun c_68921 => ?_) (fun c_68921 => ?_)
      · have B_68922 : bn 0 0 r_68920 := bn_w (bn_eq c_68921 (show bn 0 0 (0 : Int32) from bn_k (by decide))) (by decide)
        refine lv_bipush (v := (-2)) hx hb dX12_felt_54 (by decide) ?_
        exact prI (post := fun r L1 f1 => SH (spM (IA 0 0 14 9999 w) pi (EQ g0) LDa) nnM G ad L1 f1) S Y rfl (by decide) (by decide) hA1 I dX12_felt_56
      · have B_68923 : bn 0 9 i2 := bn_w (bn_i (bn_any i2) (bn_btw (er_68920.2 c_68921).1 (er_68920.2 c_68921).2 (show bn 0 0 (0 : Int32) from bn_k (by decide)) (show bn 9 9 (9 : Int32) from bn_k (by decide)))) (by decide)
        have B_68924 : bn 1 1 r_68920 := bn_w (bn_nel c_68921 er_68920.1 (show bn 0 0 (0 : Int32) from bn_k (by decide))) (by decide)
        refine lv_iload_n hx hb dX12_felt_32 rfl (lv_at hl 3 rfl) ?_
        refine lv_iconst (v := 0) hx hb dX12_felt_33 (by decide) ?_
        refine lv_sipush (v := 999) hx hb dX12_felt_34 (by decide) ?_
        refine cSp (As := [.int i3, .int 0, .int 999]) (rest := []) S Y (x_X12_isIn (l := l) ) cw_X12_isIn km12_69 rfl ⟨Nat.le_of_ble_eq_true rfl, Nat.le_of_ble_eq_true rfl⟩ hl.1 rfl (Nat.le_of_ble_eq_true rfl) ⟨Nat.le_of_ble_eq_true rfl, Nat.le_of_ble_eq_true rfl⟩ dX12_felt_37 (fun r_68925 H locs er_68925 Y => ?_)
        refine lv_if_eq (tgt := 54) hx hb dX12_felt_40 (by decide) (fun c_68926 => ?_) (fun c_68926 => ?_)
        · have B_68927 : bn 0 0 r_68925 := bn_w (bn_eq c_68926 (show bn 0 0 (0 : Int32) from bn_k (by decide))) (by decide)
          refine lv_bipush (v := (-2)) hx hb dX12_felt_54 (by decide) ?_
          exact prI (post := fun r L1 f1 => SH (spM (IA 0 0 14 9999 w) pi (EQ g0) LDa) nnM G ad L1 f1) S Y rfl (by decide) (by decide) hA1 I dX12_felt_56
        · have B_68928 : bn 0 999 i3 := bn_w (bn_i (bn_any i3) (bn_btw (er_68925.2 c_68926).1 (er_68925.2 c_68926).2 (show bn 0 0 (0 : Int32) from bn_k (by decide)) (show bn 999 999 (999 : Int32) from bn_k (by decide)))) (by decide)
          have B_68929 : bn 1 1 r_68925 := bn_w (bn_nel c_68926 er_68925.1 (show bn 0 0 (0 : Int32) from bn_k (by decide))) (by decide)
          refine lv_aload_n hx hb dX12_felt_43 rfl (lv_at hl 0 rfl) ?_
          obtain ⟨v_68930, v_68932, v_68934, v_68936, v_68938, v_68940, v_68942, v_68944, v_68945, v_68947, v_68949, v_68951, v_68953, v_68955, v_68957, v_68959, v_68961, v_68963, p_ad_0_0, b_68931, b_68933, b_68935, b_68937, b_68939, b_68941, b_68943, b_68946, b_68948, b_68950, b_68952, b_68954, b_68956, b_68958, b_68960, b_68962, b_68964⟩ := opnM_0 (j := 0) I (by decide)
          have p_ad_0_0 : pt L f (ad 0 0) (.inr (12, [.ref (ad 1 0), .ref (ad 2 0), .ref (ad 3 0), .ref (ad 4 0), .int v_68930, .int v_68932, .int v_68934, .int v_68936, .int v_68938, .int v_68940, .int v_68942, .long v_68944, .int v_68945, .int v_68947, .int v_68949, .ref (ad 5 0), .ref (ad 6 0), .int v_68951, .int v_68953, .int v_68955, .int v_68957, .int v_68959, .ref (ad 7 0), .ref (ad 8 0), .ref (ad 9 0), .int v_68961, .ref (ad 10 0), .ref (ad 11 0), .ref (ad 12 0), .ref (ad 13 0), .int v_68963, .ref (ad 14 0)])) := p_ad_0_0
          refine pg_get S Y ok_X12 0 (by decide) kf12_7 (v := .ref (ad 1 0)) p_ad_0_0 rfl dX12_felt_44 ?_
          refine lv_iconst (v := 4) hx hb dX12_felt_47 (by decide) ?_
          obtain ⟨g_68965, p_ad_1_0, o_68966⟩ := I.opi (k := 1) (j := 0) (by decide) rfl
          have p_ad_1_0 : pt L f (ad 1 0) (.inl (G.2 0, 10568, .inl g_68965)) := p_ad_1_0
          obtain ⟨v_68967, ev_68967⟩ : ∃ z, z = g_68965 (4 : Int32).toNatClampNeg := ⟨_, rfl⟩
          refine pg_iald S Y (v := v_68967) p_ad_1_0 (by unfold vp_in; decide) ev_68967.symm dX12_felt_48 ?_
          have bv_68967 : bn 0 6 v_68967 := bn_eq ev_68967 (IA_4 o_68966)
          refine lv_bipush (v := 6) hx hb dX12_felt_49 (by decide) ?_
          refine lv_icmp_ne (tgt := 57) hx hb dX12_felt_51 (by decide) (fun c_68968 => ?_) (fun c_68968 => ?_)
          · have B_68969 : bn 0 5 v_68967 := bn_w (bn_neu c_68968 bv_68967 (show bn 6 6 (6 : Int32) from bn_k (by decide))) (by decide)
            refine lv_bipush (v := 126) hx hb dX12_felt_57 (by decide) ?_
            refine lv_iconst (v := 3) hx hb dX12_felt_59 (by decide) ?_
            refine lv_aload_n hx hb dX12_felt_60 rfl (lv_at hl 0 rfl) ?_
            refine pg_get S Y ok_X12 0 (by decide) kf12_7 (v := .ref (ad 1 0)) p_ad_0_0 rfl dX12_felt_61 ?_
            refine lv_iconst (v := 4) hx hb dX12_felt_64 (by decide) ?_
            refine pg_iald S Y (v := v_68967) p_ad_1_0 (by unfold vp_in; decide) ev_68967.symm dX12_felt_65 ?_
            refine lv_imul hx hb dX12_felt_66 ?_
            refine lv_topi (fun x_68971 ex_68971 => ?_)
            refine lv_iadd hx hb dX12_felt_67 ?_
            refine lv_topi (fun x_68972 ex_68972 => ?_)
            refine lv_istore (lv' := [(4, .int x_68972), (0, .ref (ad 0 0)), (1, .int i1), (2, .int i2), (3, .int i3)]) hx hb dX12_felt_68 hl (by decide) rfl (fun ls hl => ?_)
            refine lv_aload_n hx hb dX12_felt_70 rfl (lv_at hl 1 rfl) ?_
            refine pg_get S Y ok_X12 0 (by decide) kf12_7 (v := .ref (ad 1 0)) p_ad_0_0 rfl dX12_felt_71 ?_
            refine lv_iload hx hb dX12_felt_74 (lv_at hl 0 rfl) ?_
            refine lv_iload_n hx hb dX12_felt_76 rfl (lv_at hl 2 rfl) ?_
            refine pg_iast S Y p_ad_1_0 (vp_bn (bn_eq ex_68972 (bn_add (show bn 126 126 (126 : Int32) from bn_k (by decide)) (bn_eq ex_68971 (bn_mul (show bn 3 3 (3 : Int32) from bn_k (by decide)) B_68969 (by decide))) (by decide))) (by decide)) dX12_felt_77 (fun f_68974 H locs ef_68974 Y => ?_)
            obtain ⟨g_68973, eg_68973⟩ : ∃ z, z = upd (g_68965) (x_68972 : Int32).toNatClampNeg i1 := ⟨_, rfl⟩
            rw [← eg_68973] at ef_68974
            have p_ad_0_0 := p_ad_0_0.up ef_68974 (I.ne (k := 0) (j := 0) (k' := 1) (j' := 0) (by decide) (by decide) (Or.inl (by decide)))
            have p_ad_1_0 := p_ad_1_0.me ef_68974
            have o_68975 : (IA 0 0 14 9999 w) g_68973 := (by rw [eg_68973]; exact (IA_free o_68966 (fr_of (bn_eq ex_68972 (bn_add (show bn 126 126 (126 : Int32) from bn_k (by decide)) (bn_eq ex_68971 (bn_mul (show bn 3 3 (3 : Int32) from bn_k (by decide)) B_68969 (by decide))) (by decide))) (by decide))))
            have I := I.up (k := 1) (j := 0) (by decide) ef_68974 (okE_a (g := g_68973) o_68975)
            have q_68976 : g_68973 (4 : Int32).toNatClampNeg = v_68967 := by rw [eg_68973]; exact (pk_un (nq_of (bn_eq ex_68972 (bn_add (show bn 126 126 (126 : Int32) from bn_k (by decide)) (bn_eq ex_68971 (bn_mul (show bn 3 3 (3 : Int32) from bn_k (by decide)) B_68969 (by decide))) (by decide))) (by decide))).trans ev_68967.symm
            refine lv_aload_n hx hb dX12_felt_78 rfl (lv_at hl 1 rfl) ?_
            refine pg_get S Y ok_X12 0 (by decide) kf12_7 (v := .ref (ad 1 0)) p_ad_0_0 rfl dX12_felt_79 ?_
            refine lv_iload hx hb dX12_felt_82 (lv_at hl 0 rfl) ?_
            refine lv_iconst (v := 1) hx hb dX12_felt_84 (by decide) ?_
            refine lv_iadd hx hb dX12_felt_85 ?_
            refine lv_topi (fun x_68977 ex_68977 => ?_)
            have B_68978 : bn 127 142 x_68977 := bn_w (bn_eq ex_68977 (bn_add (bn_eq ex_68972 (bn_add (show bn 126 126 (126 : Int32) from bn_k (by decide)) (bn_eq ex_68971 (bn_mul (show bn 3 3 (3 : Int32) from bn_k (by decide)) B_68969 (by decide))) (by decide))) (show bn 1 1 (1 : Int32) from bn_k (by decide)) (by decide))) (by decide)
            refine lv_iload_n hx hb dX12_felt_86 rfl (lv_at hl 3 rfl) ?_
            refine pg_iast S Y p_ad_1_0 (vp_bn B_68978 (by decide)) dX12_felt_87 (fun f_68980 H locs ef_68980 Y => ?_)
            obtain ⟨g_68979, eg_68979⟩ : ∃ z, z = upd (g_68973) (x_68977 : Int32).toNatClampNeg i2 := ⟨_, rfl⟩
            rw [← eg_68979] at ef_68980
            have p_ad_0_0 := p_ad_0_0.up ef_68980 (I.ne (k := 0) (j := 0) (k' := 1) (j' := 0) (by decide) (by decide) (Or.inl (by decide)))
            have p_ad_1_0 := p_ad_1_0.me ef_68980
            have o_68981 : (IA 0 0 14 9999 w) g_68979 := (by rw [eg_68979]; exact (IA_free o_68975 (fr_of B_68978 (by decide))))
            have I := I.up (k := 1) (j := 0) (by decide) ef_68980 (okE_a (g := g_68979) o_68981)
            have q_68982 : g_68979 (4 : Int32).toNatClampNeg = v_68967 := by rw [eg_68979]; exact (pk_un (nq_of B_68978 (by decide))).trans q_68976
            refine lv_aload_n hx hb dX12_felt_88 rfl (lv_at hl 1 rfl) ?_
            refine pg_get S Y ok_X12 0 (by decide) kf12_7 (v := .ref (ad 1 0)) p_ad_0_0 rfl dX12_felt_89 ?_
            refine lv_iload hx hb dX12_felt_92 (lv_at hl 0 rfl) ?_
            refine lv_iconst (v := 2) hx hb dX12_felt_94 (by decide) ?_
            refine lv_iadd hx hb dX12_felt_95 ?_
            refine lv_topi (fun x_68983 ex_68983 => ?_)
            have B_68984 : bn 128 143 x_68983 := bn_w (bn_eq ex_68983 (bn_add (bn_eq ex_68972 (bn_add (show bn 126 126 (126 : Int32) from bn_k (by decide)) (bn_eq ex_68971 (bn_mul (show bn 3 3 (3 : Int32) from bn_k (by decide)) B_68969 (by decide))) (by decide))) (show bn 2 2 (2 : Int32) from bn_k (by decide)) (by decide))) (by decide)
            refine lv_iload_n hx hb dX12_felt_96 rfl (lv_at hl 4 rfl) ?_
            refine pg_iast S Y p_ad_1_0 (vp_bn B_68984 (by decide)) dX12_felt_97 (fun f_68986 H locs ef_68986 Y => ?_)
            obtain ⟨g_68985, eg_68985⟩ : ∃ z, z = upd (g_68979) (x_68983 : Int32).toNatClampNeg i3 := ⟨_, rfl⟩
            rw [← eg_68985] at ef_68986
            have p_ad_0_0 := p_ad_0_0.up ef_68986 (I.ne (k := 0) (j := 0) (k' := 1) (j' := 0) (by decide) (by decide) (Or.inl (by decide)))
            have p_ad_1_0 := p_ad_1_0.me ef_68986
            have o_68987 : (IA 0 0 14 9999 w) g_68985 := (by rw [eg_68985]; exact (IA_free o_68981 (fr_of B_68984 (by decide))))
            have I := I.up (k := 1) (j := 0) (by decide) ef_68986 (okE_a (g := g_68985) o_68987)
            have q_68988 : g_68985 (4 : Int32).toNatClampNeg = v_68967 := by rw [eg_68985]; exact (pk_un (nq_of B_68984 (by decide))).trans q_68982
            refine lv_aload_n hx hb dX12_felt_98 rfl (lv_at hl 1 rfl) ?_
            refine pg_get S Y ok_X12 0 (by decide) kf12_7 (v := .ref (ad 1 0)) p_ad_0_0 rfl dX12_felt_99 ?_
            refine lv_iconst (v := 4) hx hb dX12_felt_102 (by decide) ?_
            refine lv_dup2_11 hx hb dX12_felt_103 rfl rfl ?_
            refine pg_iald S Y (v := v_68967) p_ad_1_0 (by unfold vp_in; decide) q_68988 dX12_felt_104 ?_
            refine lv_iconst (v := 1) hx hb dX12_felt_105 (by decide) ?_
            refine lv_iadd hx hb dX12_felt_106 ?_
            refine lv_topi (fun x_68989 ex_68989 => ?_)
            refine pg_iast S Y p_ad_1_0 (by unfold vp_in; decide) dX12_felt_107 (fun f_68991 H locs ef_68991 Y => ?_)
            obtain ⟨g_68990, eg_68990⟩ : ∃ z, z = upd (g_68985) (4 : Int32).toNatClampNeg x_68989 := ⟨_, rfl⟩
            rw [← eg_68990] at ef_68991
            have p_ad_0_0 := p_ad_0_0.up ef_68991 (I.ne (k := 0) (j := 0) (k' := 1) (j' := 0) (by decide) (by decide) (Or.inl (by decide)))
            have p_ad_1_0 := p_ad_1_0.me ef_68991
            have o_68992 : (IA 0 0 14 9999 w) g_68990 := (by rw [eg_68990]; exact (IA_s4 o_68987 (bn_w (bn_eq ex_68989 (bn_add B_68969 (show bn 1 1 (1 : Int32) from bn_k (by decide)) (by decide))) (by decide))))
            have I := I.up (k := 1) (j := 0) (by decide) ef_68991 (okE_a (g := g_68990) o_68992)
            have q_68993 : g_68990 (4 : Int32).toNatClampNeg = x_68989 := by rw [eg_68990]; exact pk_us
            refine lv_aload_n hx hb dX12_felt_108 rfl (lv_at hl 1 rfl) ?_
            refine pg_get S Y ok_X12 0 (by decide) kf12_7 (v := .ref (ad 1 0)) p_ad_0_0 rfl dX12_felt_109 ?_
            refine lv_iconst (v := 4) hx hb dX12_felt_112 (by decide) ?_
            refine pg_iald S Y (v := x_68989) p_ad_1_0 (by unfold vp_in; decide) q_68993 dX12_felt_113 ?_
            exact prI (post := fun r L1 f1 => SH (spM (IA 0 0 14 9999 w) pi (EQ g0) LDa) nnM G ad L1 f1) S Y rfl (by decide) (by decide) hA1 I dX12_felt_114
          · have B_68970 : bn 6 6 v_68967 := bn_w (bn_eq c_68968 (show bn 6 6 (6 : Int32) from bn_k (by decide))) (by decide)
            refine lv_bipush (v := (-2)) hx hb dX12_felt_54 (by decide) ?_
            exact prI (post := fun r L1 f1 => SH (spM (IA 0 0 14 9999 w) pi (EQ g0) LDa) nnM G ad L1 f1) S Y rfl (by decide) (by decide) hA1 I dX12_felt_56
  · have B_68914 : bn (-1) (-1) i1 := bn_w (bn_eq c_68913 (show bn (-1) (-1) ((-1) : Int32) from bn_k (by decide))) (by decide)
    refine lv_aload_n hx hb dX12_felt_5 rfl (lv_at hl 0 rfl) ?_
    obtain ⟨v_68994, v_68996, v_68998, v_69000, v_69002, v_69004, v_69006, v_69008, v_69009, v_69011, v_69013, v_69015, v_69017, v_69019, v_69021, v_69023, v_69025, v_69027, p_ad_0_0, b_68995, b_68997, b_68999, b_69001, b_69003, b_69005, b_69007, b_69010, b_69012, b_69014, b_69016, b_69018, b_69020, b_69022, b_69024, b_69026, b_69028⟩ := opnM_0 (j := 0) I (by decide)
    have p_ad_0_0 : pt L f (ad 0 0) (.inr (12, [.ref (ad 1 0), .ref (ad 2 0), .ref (ad 3 0), .ref (ad 4 0), .int v_68994, .int v_68996, .int v_68998, .int v_69000, .int v_69002, .int v_69004, .int v_69006, .long v_69008, .int v_69009, .int v_69011, .int v_69013, .ref (ad 5 0), .ref (ad 6 0), .int v_69015, .int v_69017, .int v_69019, .int v_69021, .int v_69023, .ref (ad 7 0), .ref (ad 8 0), .ref (ad 9 0), .int v_69025, .ref (ad 10 0), .ref (ad 11 0), .ref (ad 12 0), .ref (ad 13 0), .int v_69027, .ref (ad 14 0)])) := p_ad_0_0
    refine pg_get S Y ok_X12 0 (by decide) kf12_7 (v := .ref (ad 1 0)) p_ad_0_0 rfl dX12_felt_6 ?_
    refine lv_iconst (v := 4) hx hb dX12_felt_9 (by decide) ?_
    refine lv_iconst (v := 0) hx hb dX12_felt_10 (by decide) ?_
    obtain ⟨g_69029, p_ad_1_0, o_69030⟩ := I.opi (k := 1) (j := 0) (by decide) rfl
    have p_ad_1_0 : pt L f (ad 1 0) (.inl (G.2 0, 10568, .inl g_69029)) := p_ad_1_0
    refine pg_iast S Y p_ad_1_0 (by unfold vp_in; decide) dX12_felt_11 (fun f_69032 H locs ef_69032 Y => ?_)
    obtain ⟨g_69031, eg_69031⟩ : ∃ z, z = upd (g_69029) (4 : Int32).toNatClampNeg 0 := ⟨_, rfl⟩
    rw [← eg_69031] at ef_69032
    have p_ad_0_0 := p_ad_0_0.up ef_69032 (I.ne (k := 0) (j := 0) (k' := 1) (j' := 0) (by decide) (by decide) (Or.inl (by decide)))
    have p_ad_1_0 := p_ad_1_0.me ef_69032
    have o_69033 : (IA 0 0 14 9999 w) g_69031 := (by rw [eg_69031]; exact (IA_s4 o_69030 (bn_w (show bn 0 0 (0 : Int32) from bn_k (by decide)) (by decide))))
    have I := I.up (k := 1) (j := 0) (by decide) ef_69032 (okE_a (g := g_69031) o_69033)
    have q_69034 : g_69031 (4 : Int32).toNatClampNeg = 0 := by rw [eg_69031]; exact pk_us
    refine lv_iconst (v := 0) hx hb dX12_felt_12 (by decide) ?_
    exact prI (post := fun r L1 f1 => SH (spM (IA 0 0 14 9999 w) pi (EQ g0) LDa) nnM G ad L1 f1) S Y rfl (by decide) (by decide) hA1 I dX12_felt_13
set_option maxHeartbeats 4000000 in
set_option maxRecDepth 100000 in
theorem x_X12_clash {l : Launch} {G : GG}  {L : List Nat} {f : HF} {ad : Nat → Nat → Nat} {w : WW} {pi : PIT} {g0 : Nat → Int32} {i1 i2 : Int32} (I : SH (spM (IA 0 0 14 9999 w) pi (EQ g0) LDa) nnM G ad L f) (hB : BBp 0 0 14 9999 w) (hX : TX g0) : PMi l yX12_clash cX12_clash 3 .int 2 0 0 G [.ref (ad 0 0), .int i1, .int i2] L f (fun r L1 f1 => SH (spM (IA 0 0 14 9999 w) pi (EQ g0) LDa) nnM G ad L1 f1) := by
  refine PMi.of (post := fun r L1 f1 => SH (spM (IA 0 0 14 9999 w) pi (EQ g0) LDa) nnM G ad L1 f1) (own := RX12) (by decide) rfl (Nat.le_of_ble_eq_true rfl) (fun sz p e s m args below meth c A ls hA1 hname S Y hl => ?_)
  have hx := S.hx
  have hb := S.hb
  have hl : lv_has ls 3 [(0, .ref (ad 0 0)), (1, .int i1), (2, .int i2)] := hl
  refine lv_iload_n hx hb dX12_clash_0 rfl (lv_at hl 1 rfl) ?_
  refine lv_iconst (v := (-1)) hx hb dX12_clash_1 (by decide) ?_
  refine lv_icmp_ne (tgt := 14) hx hb dX12_clash_2 (by decide) (fun c_69263 => ?_) (fun c_69263 => ?_)
  · refine lv_aload_n hx hb dX12_clash_14 rfl (lv_at hl 0 rfl) ?_
    refine lv_iload_n hx hb dX12_clash_15 rfl (lv_at hl 1 rfl) ?_
    refine cVp (As := [.int i1]) (rest := []) S Y (x_X12_isOath (l := l) I hB) cw_X12_isOath km12_339 (I.opo (k := 0) (j := 0) (by decide) rfl).choose_spec.1 ok_X12.1 rfl rfl ⟨Nat.le_of_ble_eq_true rfl, Nat.le_of_ble_eq_true rfl⟩ hl.1 rfl (Nat.le_of_ble_eq_true rfl) ⟨Nat.le_of_ble_eq_true rfl, Nat.le_of_ble_eq_true rfl⟩ dX12_clash_16 (fun r_69265 H locs er_69265 Y => ?_)
    refine lv_if_eq (tgt := 46) hx hb dX12_clash_19 (by decide) (fun c_69266 => ?_) (fun c_69266 => ?_)
    · have B_69267 : bn 0 0 r_69265 := bn_w (bn_eq c_69266 (show bn 0 0 (0 : Int32) from bn_k (by decide))) (by decide)
      refine lv_bipush (v := (-2)) hx hb dX12_clash_46 (by decide) ?_
      exact prI (post := fun r L1 f1 => SH (spM (IA 0 0 14 9999 w) pi (EQ g0) LDa) nnM G ad L1 f1) S Y rfl (by decide) (by decide) hA1 I dX12_clash_48
    · have B_69268 : bn 0 13 i1 := bn_w (bn_i (bn_any i1) (er_69265.2 c_69266)) (by decide)
      have B_69269 : bn 1 1 r_69265 := bn_w (bn_nel c_69266 er_69265.1 (show bn 0 0 (0 : Int32) from bn_k (by decide))) (by decide)
      refine lv_aload_n hx hb dX12_clash_22 rfl (lv_at hl 0 rfl) ?_
      refine lv_iload_n hx hb dX12_clash_23 rfl (lv_at hl 2 rfl) ?_
      refine cVp (As := [.int i2]) (rest := []) S Y (x_X12_isOath (l := l) I hB) cw_X12_isOath km12_339 (I.opo (k := 0) (j := 0) (by decide) rfl).choose_spec.1 ok_X12.1 rfl rfl ⟨Nat.le_of_ble_eq_true rfl, Nat.le_of_ble_eq_true rfl⟩ hl.1 rfl (Nat.le_of_ble_eq_true rfl) ⟨Nat.le_of_ble_eq_true rfl, Nat.le_of_ble_eq_true rfl⟩ dX12_clash_24 (fun r_69270 H locs er_69270 Y => ?_)
      refine lv_if_eq (tgt := 46) hx hb dX12_clash_27 (by decide) (fun c_69271 => ?_) (fun c_69271 => ?_)
      · have B_69272 : bn 0 0 r_69270 := bn_w (bn_eq c_69271 (show bn 0 0 (0 : Int32) from bn_k (by decide))) (by decide)
        refine lv_bipush (v := (-2)) hx hb dX12_clash_46 (by decide) ?_
        exact prI (post := fun r L1 f1 => SH (spM (IA 0 0 14 9999 w) pi (EQ g0) LDa) nnM G ad L1 f1) S Y rfl (by decide) (by decide) hA1 I dX12_clash_48
      · have B_69273 : bn 0 13 i2 := bn_w (bn_i (bn_any i2) (er_69270.2 c_69271)) (by decide)
        have B_69274 : bn 1 1 r_69270 := bn_w (bn_nel c_69271 er_69270.1 (show bn 0 0 (0 : Int32) from bn_k (by decide))) (by decide)
        refine lv_iload_n hx hb dX12_clash_30 rfl (lv_at hl 1 rfl) ?_
        refine lv_iload_n hx hb dX12_clash_31 rfl (lv_at hl 2 rfl) ?_
        refine lv_icmp_eq (tgt := 46) hx hb dX12_clash_32 (by decide) (fun c_69275 => ?_) (fun c_69275 => ?_)
        · refine lv_bipush (v := (-2)) hx hb dX12_clash_46 (by decide) ?_
          exact prI (post := fun r L1 f1 => SH (spM (IA 0 0 14 9999 w) pi (EQ g0) LDa) nnM G ad L1 f1) S Y rfl (by decide) (by decide) hA1 I dX12_clash_48
        · refine lv_aload_n hx hb dX12_clash_35 rfl (lv_at hl 0 rfl) ?_
          obtain ⟨v_69276, v_69278, v_69280, v_69282, v_69284, v_69286, v_69288, v_69290, v_69291, v_69293, v_69295, v_69297, v_69299, v_69301, v_69303, v_69305, v_69307, v_69309, p_ad_0_0, b_69277, b_69279, b_69281, b_69283, b_69285, b_69287, b_69289, b_69292, b_69294, b_69296, b_69298, b_69300, b_69302, b_69304, b_69306, b_69308, b_69310⟩ := opnM_0 (j := 0) I (by decide)
          have p_ad_0_0 : pt L f (ad 0 0) (.inr (12, [.ref (ad 1 0), .ref (ad 2 0), .ref (ad 3 0), .ref (ad 4 0), .int v_69276, .int v_69278, .int v_69280, .int v_69282, .int v_69284, .int v_69286, .int v_69288, .long v_69290, .int v_69291, .int v_69293, .int v_69295, .ref (ad 5 0), .ref (ad 6 0), .int v_69297, .int v_69299, .int v_69301, .int v_69303, .int v_69305, .ref (ad 7 0), .ref (ad 8 0), .ref (ad 9 0), .int v_69307, .ref (ad 10 0), .ref (ad 11 0), .ref (ad 12 0), .ref (ad 13 0), .int v_69309, .ref (ad 14 0)])) := p_ad_0_0
          refine pg_get S Y ok_X12 0 (by decide) kf12_7 (v := .ref (ad 1 0)) p_ad_0_0 rfl dX12_clash_36 ?_
          refine lv_iconst (v := 5) hx hb dX12_clash_39 (by decide) ?_
          obtain ⟨g_69311, p_ad_1_0, o_69312⟩ := I.opi (k := 1) (j := 0) (by decide) rfl
          have p_ad_1_0 : pt L f (ad 1 0) (.inl (G.2 0, 10568, .inl g_69311)) := p_ad_1_0
          obtain ⟨v_69313, ev_69313⟩ : ∃ z, z = g_69311 (5 : Int32).toNatClampNeg := ⟨_, rfl⟩
          refine pg_iald S Y (v := v_69313) p_ad_1_0 (by unfold vp_in; decide) ev_69313.symm dX12_clash_40 ?_
          have bv_69313 : bn 0 8 v_69313 := bn_eq ev_69313 (IA_5 o_69312)
          refine lv_bipush (v := 8) hx hb dX12_clash_41 (by decide) ?_
          refine lv_icmp_ne (tgt := 49) hx hb dX12_clash_43 (by decide) (fun c_69314 => ?_) (fun c_69314 => ?_)
          · have B_69315 : bn 0 7 v_69313 := bn_w (bn_neu c_69314 bv_69313 (show bn 8 8 (8 : Int32) from bn_k (by decide))) (by decide)
            refine lv_aload_n hx hb dX12_clash_49 rfl (lv_at hl 0 rfl) ?_
            refine pg_get S Y ok_X12 0 (by decide) kf12_7 (v := .ref (ad 1 0)) p_ad_0_0 rfl dX12_clash_50 ?_
            refine lv_sipush (v := 144) hx hb dX12_clash_53 (by decide) ?_
            refine lv_iconst (v := 2) hx hb dX12_clash_56 (by decide) ?_
            refine lv_aload_n hx hb dX12_clash_57 rfl (lv_at hl 0 rfl) ?_
            refine pg_get S Y ok_X12 0 (by decide) kf12_7 (v := .ref (ad 1 0)) p_ad_0_0 rfl dX12_clash_58 ?_
            refine lv_iconst (v := 5) hx hb dX12_clash_61 (by decide) ?_
            refine pg_iald S Y (v := v_69313) p_ad_1_0 (by unfold vp_in; decide) ev_69313.symm dX12_clash_62 ?_
            refine lv_imul hx hb dX12_clash_63 ?_
            refine lv_topi (fun x_69317 ex_69317 => ?_)
            refine lv_iadd hx hb dX12_clash_64 ?_
            refine lv_topi (fun x_69318 ex_69318 => ?_)
            refine lv_iload_n hx hb dX12_clash_65 rfl (lv_at hl 1 rfl) ?_
            refine pg_iast S Y p_ad_1_0 (vp_bn (bn_eq ex_69318 (bn_add (show bn 144 144 (144 : Int32) from bn_k (by decide)) (bn_eq ex_69317 (bn_mul (show bn 2 2 (2 : Int32) from bn_k (by decide)) B_69315 (by decide))) (by decide))) (by decide)) dX12_clash_66 (fun f_69320 H locs ef_69320 Y => ?_)
            obtain ⟨g_69319, eg_69319⟩ : ∃ z, z = upd (g_69311) (x_69318 : Int32).toNatClampNeg i1 := ⟨_, rfl⟩
            rw [← eg_69319] at ef_69320
            have p_ad_0_0 := p_ad_0_0.up ef_69320 (I.ne (k := 0) (j := 0) (k' := 1) (j' := 0) (by decide) (by decide) (Or.inl (by decide)))
            have p_ad_1_0 := p_ad_1_0.me ef_69320
            have o_69321 : (IA 0 0 14 9999 w) g_69319 := (by rw [eg_69319]; exact (IA_free o_69312 (fr_of (bn_eq ex_69318 (bn_add (show bn 144 144 (144 : Int32) from bn_k (by decide)) (bn_eq ex_69317 (bn_mul (show bn 2 2 (2 : Int32) from bn_k (by decide)) B_69315 (by decide))) (by decide))) (by decide))))
            have I := I.up (k := 1) (j := 0) (by decide) ef_69320 (okE_a (g := g_69319) o_69321)
            have q_69322 : g_69319 (5 : Int32).toNatClampNeg = v_69313 := by rw [eg_69319]; exact (pk_un (nq_of (bn_eq ex_69318 (bn_add (show bn 144 144 (144 : Int32) from bn_k (by decide)) (bn_eq ex_69317 (bn_mul (show bn 2 2 (2 : Int32) from bn_k (by decide)) B_69315 (by decide))) (by decide))) (by decide))).trans ev_69313.symm
            refine lv_aload_n hx hb dX12_clash_67 rfl (lv_at hl 0 rfl) ?_
            refine pg_get S Y ok_X12 0 (by decide) kf12_7 (v := .ref (ad 1 0)) p_ad_0_0 rfl dX12_clash_68 ?_
            refine lv_sipush (v := 144) hx hb dX12_clash_71 (by decide) ?_
            refine lv_iconst (v := 2) hx hb dX12_clash_74 (by decide) ?_
            refine lv_aload_n hx hb dX12_clash_75 rfl (lv_at hl 0 rfl) ?_
            refine pg_get S Y ok_X12 0 (by decide) kf12_7 (v := .ref (ad 1 0)) p_ad_0_0 rfl dX12_clash_76 ?_
            refine lv_iconst (v := 5) hx hb dX12_clash_79 (by decide) ?_
            refine pg_iald S Y (v := v_69313) p_ad_1_0 (by unfold vp_in; decide) q_69322 dX12_clash_80 ?_
            refine lv_imul hx hb dX12_clash_81 ?_
            refine lv_topi (fun x_69323 ex_69323 => ?_)
            refine lv_iadd hx hb dX12_clash_82 ?_
            refine lv_topi (fun x_69324 ex_69324 => ?_)
            refine lv_iconst (v := 1) hx hb dX12_clash_83 (by decide) ?_
            refine lv_iadd hx hb dX12_clash_84 ?_
            refine lv_topi (fun x_69325 ex_69325 => ?_)
            have B_69326 : bn 145 159 x_69325 := bn_w (bn_eq ex_69325 (bn_add (bn_eq ex_69324 (bn_add (show bn 144 144 (144 : Int32) from bn_k (by decide)) (bn_eq ex_69323 (bn_mul (show bn 2 2 (2 : Int32) from bn_k (by decide)) B_69315 (by decide))) (by decide))) (show bn 1 1 (1 : Int32) from bn_k (by decide)) (by decide))) (by decide)
            refine lv_iload_n hx hb dX12_clash_85 rfl (lv_at hl 2 rfl) ?_
            refine pg_iast S Y p_ad_1_0 (vp_bn B_69326 (by decide)) dX12_clash_86 (fun f_69328 H locs ef_69328 Y => ?_)
            obtain ⟨g_69327, eg_69327⟩ : ∃ z, z = upd (g_69319) (x_69325 : Int32).toNatClampNeg i2 := ⟨_, rfl⟩
            rw [← eg_69327] at ef_69328
            have p_ad_0_0 := p_ad_0_0.up ef_69328 (I.ne (k := 0) (j := 0) (k' := 1) (j' := 0) (by decide) (by decide) (Or.inl (by decide)))
            have p_ad_1_0 := p_ad_1_0.me ef_69328
            have o_69329 : (IA 0 0 14 9999 w) g_69327 := (by rw [eg_69327]; exact (IA_free o_69321 (fr_of B_69326 (by decide))))
            have I := I.up (k := 1) (j := 0) (by decide) ef_69328 (okE_a (g := g_69327) o_69329)
            have q_69330 : g_69327 (5 : Int32).toNatClampNeg = v_69313 := by rw [eg_69327]; exact (pk_un (nq_of B_69326 (by decide))).trans q_69322
            refine lv_aload_n hx hb dX12_clash_87 rfl (lv_at hl 0 rfl) ?_
            refine pg_get S Y ok_X12 0 (by decide) kf12_7 (v := .ref (ad 1 0)) p_ad_0_0 rfl dX12_clash_88 ?_
            refine lv_iconst (v := 5) hx hb dX12_clash_91 (by decide) ?_
            refine lv_dup2_11 hx hb dX12_clash_92 rfl rfl ?_
            refine pg_iald S Y (v := v_69313) p_ad_1_0 (by unfold vp_in; decide) q_69330 dX12_clash_93 ?_
            refine lv_iconst (v := 1) hx hb dX12_clash_94 (by decide) ?_
            refine lv_iadd hx hb dX12_clash_95 ?_
            refine lv_topi (fun x_69331 ex_69331 => ?_)
            refine pg_iast S Y p_ad_1_0 (by unfold vp_in; decide) dX12_clash_96 (fun f_69333 H locs ef_69333 Y => ?_)
            obtain ⟨g_69332, eg_69332⟩ : ∃ z, z = upd (g_69327) (5 : Int32).toNatClampNeg x_69331 := ⟨_, rfl⟩
            rw [← eg_69332] at ef_69333
            have p_ad_0_0 := p_ad_0_0.up ef_69333 (I.ne (k := 0) (j := 0) (k' := 1) (j' := 0) (by decide) (by decide) (Or.inl (by decide)))
            have p_ad_1_0 := p_ad_1_0.me ef_69333
            have o_69334 : (IA 0 0 14 9999 w) g_69332 := (by rw [eg_69332]; exact (IA_s5 o_69329 (bn_w (bn_eq ex_69331 (bn_add B_69315 (show bn 1 1 (1 : Int32) from bn_k (by decide)) (by decide))) (by decide))))
            have I := I.up (k := 1) (j := 0) (by decide) ef_69333 (okE_a (g := g_69332) o_69334)
            have q_69335 : g_69332 (5 : Int32).toNatClampNeg = x_69331 := by rw [eg_69332]; exact pk_us
            refine lv_aload_n hx hb dX12_clash_97 rfl (lv_at hl 0 rfl) ?_
            refine pg_get S Y ok_X12 0 (by decide) kf12_7 (v := .ref (ad 1 0)) p_ad_0_0 rfl dX12_clash_98 ?_
            refine lv_iconst (v := 5) hx hb dX12_clash_101 (by decide) ?_
            refine pg_iald S Y (v := x_69331) p_ad_1_0 (by unfold vp_in; decide) q_69335 dX12_clash_102 ?_
            exact prI (post := fun r L1 f1 => SH (spM (IA 0 0 14 9999 w) pi (EQ g0) LDa) nnM G ad L1 f1) S Y rfl (by decide) (by decide) hA1 I dX12_clash_103
          · have B_69316 : bn 8 8 v_69313 := bn_w (bn_eq c_69314 (show bn 8 8 (8 : Int32) from bn_k (by decide))) (by decide)
            refine lv_bipush (v := (-2)) hx hb dX12_clash_46 (by decide) ?_
            exact prI (post := fun r L1 f1 => SH (spM (IA 0 0 14 9999 w) pi (EQ g0) LDa) nnM G ad L1 f1) S Y rfl (by decide) (by decide) hA1 I dX12_clash_48
  · have B_69264 : bn (-1) (-1) i1 := bn_w (bn_eq c_69263 (show bn (-1) (-1) ((-1) : Int32) from bn_k (by decide))) (by decide)
    refine lv_aload_n hx hb dX12_clash_5 rfl (lv_at hl 0 rfl) ?_
    obtain ⟨v_69336, v_69338, v_69340, v_69342, v_69344, v_69346, v_69348, v_69350, v_69351, v_69353, v_69355, v_69357, v_69359, v_69361, v_69363, v_69365, v_69367, v_69369, p_ad_0_0, b_69337, b_69339, b_69341, b_69343, b_69345, b_69347, b_69349, b_69352, b_69354, b_69356, b_69358, b_69360, b_69362, b_69364, b_69366, b_69368, b_69370⟩ := opnM_0 (j := 0) I (by decide)
    have p_ad_0_0 : pt L f (ad 0 0) (.inr (12, [.ref (ad 1 0), .ref (ad 2 0), .ref (ad 3 0), .ref (ad 4 0), .int v_69336, .int v_69338, .int v_69340, .int v_69342, .int v_69344, .int v_69346, .int v_69348, .long v_69350, .int v_69351, .int v_69353, .int v_69355, .ref (ad 5 0), .ref (ad 6 0), .int v_69357, .int v_69359, .int v_69361, .int v_69363, .int v_69365, .ref (ad 7 0), .ref (ad 8 0), .ref (ad 9 0), .int v_69367, .ref (ad 10 0), .ref (ad 11 0), .ref (ad 12 0), .ref (ad 13 0), .int v_69369, .ref (ad 14 0)])) := p_ad_0_0
    refine pg_get S Y ok_X12 0 (by decide) kf12_7 (v := .ref (ad 1 0)) p_ad_0_0 rfl dX12_clash_6 ?_
    refine lv_iconst (v := 5) hx hb dX12_clash_9 (by decide) ?_
    refine lv_iconst (v := 0) hx hb dX12_clash_10 (by decide) ?_
    obtain ⟨g_69371, p_ad_1_0, o_69372⟩ := I.opi (k := 1) (j := 0) (by decide) rfl
    have p_ad_1_0 : pt L f (ad 1 0) (.inl (G.2 0, 10568, .inl g_69371)) := p_ad_1_0
    refine pg_iast S Y p_ad_1_0 (by unfold vp_in; decide) dX12_clash_11 (fun f_69374 H locs ef_69374 Y => ?_)
    obtain ⟨g_69373, eg_69373⟩ : ∃ z, z = upd (g_69371) (5 : Int32).toNatClampNeg 0 := ⟨_, rfl⟩
    rw [← eg_69373] at ef_69374
    have p_ad_0_0 := p_ad_0_0.up ef_69374 (I.ne (k := 0) (j := 0) (k' := 1) (j' := 0) (by decide) (by decide) (Or.inl (by decide)))
    have p_ad_1_0 := p_ad_1_0.me ef_69374
    have o_69375 : (IA 0 0 14 9999 w) g_69373 := (by rw [eg_69373]; exact (IA_s5 o_69372 (bn_w (show bn 0 0 (0 : Int32) from bn_k (by decide)) (by decide))))
    have I := I.up (k := 1) (j := 0) (by decide) ef_69374 (okE_a (g := g_69373) o_69375)
    have q_69376 : g_69373 (5 : Int32).toNatClampNeg = 0 := by rw [eg_69373]; exact pk_us
    refine lv_iconst (v := 0) hx hb dX12_clash_12 (by decide) ?_
    exact prI (post := fun r L1 f1 => SH (spM (IA 0 0 14 9999 w) pi (EQ g0) LDa) nnM G ad L1 f1) S Y rfl (by decide) (by decide) hA1 I dX12_clash_13
set_option maxHeartbeats 4000000 in
set_option maxRecDepth 100000 in
theorem x_X12_leastReleased {l : Launch} {G : GG}  {L : List Nat} {f : HF} {ad : Nat → Nat → Nat} {w : WW} {pi : PIT} {g0 : Nat → Int32} (I : SH (spM (IA 0 0 14 9999 w) pi (EQ g0) LDa) nnM G ad L f) (hB : BBp 0 0 14 9999 w) (hX : TX g0) : PMp l yX12_leastReleased cX12_leastReleased 4 .int 2 0 0 G [.ref (ad 0 0)] L f (fun r => True) := by
  refine PMi.of (post := fun r L1 f1 => (True) ∧ L1 = L ∧ f1 = f) (own := RX12) (by decide) rfl (Nat.le_of_ble_eq_true rfl) (fun sz p e s m args below meth c A ls hA1 hname S Y hl => ?_)
  have hx := S.hx
  have hb := S.hb
  have hl : lv_has ls 4 [(0, .ref (ad 0 0))] := hl
  have J_9 : ∀ (n9 : Nat) (y9_1 y9_2 y9_3 : Int32) (H : Heap) (locs : List Loc) (ls : Array Slot), (bn 0 16383 y9_1) → (bn 0 16383 y9_2) → (bn (-1) 16383 y9_3) → ((y9_3.toInt - ((-1) : Int)).toNat = n9) → (DY G A s [] L f H locs) → (lv_has ls 4 [(0, .ref (ad 0 0)), (1, .int y9_1), (2, .int y9_2), (3, .int y9_3)]) → W p l e (rmD 2 0 0) s m args below meth c H locs (0) (0) (MQ below (va_Qi (fun r (u : List Nat × HF) => (fun r L1 f1 => (True) ∧ L1 = L ∧ f1 = f) r u.1 u.2) (fun u t => pOut G (va_A (va_pl L f) sz) u.1 u.2 t) (va_A (va_pl L f) sz)) args s 0 0 A) (F0 m 9 ls []) := by
    intro n9
    induction n9 using Nat.strongRecOn with
    | _ n9 ih9 =>
      intro y9_1 y9_2 y9_3 H locs ls b_y9_1 b_y9_2 b_y9_3 hm9 Y hl
      refine lv_iload_n hx hb dX12_leastReleased_9 rfl (lv_at hl 3 rfl) ?_
      refine lv_if_lt (tgt := 52) hx hb dX12_leastReleased_10 (by decide) (fun c_69442 => ?_) (fun c_69442 => ?_)
      · have B_69443 : bn (-1) (-1) y9_3 := bn_w (bn_ltl c_69442 b_y9_3 (show bn 0 0 (0 : Int32) from bn_k (by decide))) (by decide)
        refine lv_iload_n hx hb dX12_leastReleased_52 rfl (lv_at hl 2 rfl) ?_
        exact prI (post := fun r L1 f1 => (True) ∧ L1 = L ∧ f1 = f) S Y rfl (by decide) (by decide) hA1 ⟨trivial, rfl, rfl⟩ dX12_leastReleased_53
      · have B_69444 : bn 0 16383 y9_3 := bn_w (bn_gel c_69442 b_y9_3 (show bn 0 0 (0 : Int32) from bn_k (by decide))) (by decide)
        refine lv_iload_n hx hb dX12_leastReleased_13 rfl (lv_at hl 3 rfl) ?_
        refine lv_iload_n hx hb dX12_leastReleased_14 rfl (lv_at hl 1 rfl) ?_
        refine lv_iconst (v := (-1)) hx hb dX12_leastReleased_15 (by decide) ?_
        refine lv_ixor hx hb dX12_leastReleased_16 ?_
        refine lv_topi (fun x_69445 ex_69445 => ?_)
        refine lv_iand hx hb dX12_leastReleased_17 ?_
        refine lv_topi (fun x_69446 ex_69446 => ?_)
        refine lv_if_ne (tgt := 46) hx hb dX12_leastReleased_18 (by decide) (fun c_69447 => ?_) (fun c_69447 => ?_)
        · obtain ⟨x_69449, ex_69449⟩ : ∃ z : Int32, z = y9_3 + (-1) := ⟨_, rfl⟩
          refine lv_iinc (v := x_69449) (lv' := [(3, .int x_69449), (0, .ref (ad 0 0)), (1, .int y9_1), (2, .int y9_2)]) hx hb dX12_leastReleased_46 hl (k := 3) rfl (by rw [ex_69449]; rfl) (by decide) rfl (fun ls hl => ?_)
          refine lv_goto (tgt := 9) hx hb dX12_leastReleased_49 (by decide) ?_
          exact ih9 _ (by rw [← hm9]; exact ms_dn (m := (-1)) ex_69449 (show bn (-1) (-1) ((-1) : Int32) from bn_k (by decide)) B_69444 (bn_w (bn_eq ex_69449 (bn_add B_69444 (show bn (-1) (-1) ((-1) : Int32) from bn_k (by decide)) (by decide))) (by decide) : bn (-1) 16383 x_69449) (by decide)) y9_1 y9_2 x_69449  _ _ _  (bn_w b_y9_1 (by decide)) (bn_w b_y9_2 (by decide)) (bn_w (bn_eq ex_69449 (bn_add B_69444 (show bn (-1) (-1) ((-1) : Int32) from bn_k (by decide)) (by decide))) (by decide)) rfl Y (lv_sub hl [1, 2, 3, 0] rfl)
        · have B_69448 : bn 0 0 x_69446 := bn_w (bn_eq c_69447 (show bn 0 0 (0 : Int32) from bn_k (by decide))) (by decide)
          refine lv_iload_n hx hb dX12_leastReleased_21 rfl (lv_at hl 3 rfl) ?_
          refine cSp (As := [.int y9_3]) (rest := []) S Y (x_X12_bits (l := l) ) cw_X12_bits km12_268 rfl ⟨Nat.le_of_ble_eq_true rfl, Nat.le_of_ble_eq_true rfl⟩ hl.1 rfl (Nat.le_of_ble_eq_true rfl) ⟨Nat.le_of_ble_eq_true rfl, Nat.le_of_ble_eq_true rfl⟩ dX12_leastReleased_22 (fun r_69450 H locs er_69450 Y => ?_)
          refine lv_iload_n hx hb dX12_leastReleased_25 rfl (lv_at hl 2 rfl) ?_
          refine cSp (As := [.int y9_2]) (rest := [.int r_69450]) S Y (x_X12_bits (l := l) ) cw_X12_bits km12_268 rfl ⟨Nat.le_of_ble_eq_true rfl, Nat.le_of_ble_eq_true rfl⟩ hl.1 rfl (Nat.le_of_ble_eq_true rfl) ⟨Nat.le_of_ble_eq_true rfl, Nat.le_of_ble_eq_true rfl⟩ dX12_leastReleased_26 (fun r_69451 H locs er_69451 Y => ?_)
          refine lv_icmp_gt (tgt := 46) hx hb dX12_leastReleased_29 (by decide) (fun c_69452 => ?_) (fun c_69452 => ?_)
          · have B_69453 : bn (-2147483648) 2147483646 r_69451 := bn_w (bn_ltl c_69452 (bn_any r_69451) (bn_any r_69450)) (by decide)
            have B_69454 : bn (-2147483647) 2147483647 r_69450 := bn_w (bn_ltr c_69452 (bn_any r_69451) (bn_any r_69450)) (by decide)
            obtain ⟨x_69455, ex_69455⟩ : ∃ z : Int32, z = y9_3 + (-1) := ⟨_, rfl⟩
            refine lv_iinc (v := x_69455) (lv' := [(3, .int x_69455), (0, .ref (ad 0 0)), (1, .int y9_1), (2, .int y9_2)]) hx hb dX12_leastReleased_46 hl (k := 3) rfl (by rw [ex_69455]; rfl) (by decide) rfl (fun ls hl => ?_)
            refine lv_goto (tgt := 9) hx hb dX12_leastReleased_49 (by decide) ?_
            exact ih9 _ (by rw [← hm9]; exact ms_dn (m := (-1)) ex_69455 (show bn (-1) (-1) ((-1) : Int32) from bn_k (by decide)) B_69444 (bn_w (bn_eq ex_69455 (bn_add B_69444 (show bn (-1) (-1) ((-1) : Int32) from bn_k (by decide)) (by decide))) (by decide) : bn (-1) 16383 x_69455) (by decide)) y9_1 y9_2 x_69455  _ _ _  (bn_w b_y9_1 (by decide)) (bn_w b_y9_2 (by decide)) (bn_w (bn_eq ex_69455 (bn_add B_69444 (show bn (-1) (-1) ((-1) : Int32) from bn_k (by decide)) (by decide))) (by decide)) rfl Y (lv_sub hl [1, 2, 3, 0] rfl)
          · refine lv_aload_n hx hb dX12_leastReleased_32 rfl (lv_at hl 0 rfl) ?_
            refine lv_iload_n hx hb dX12_leastReleased_33 rfl (lv_at hl 1 rfl) ?_
            refine lv_iload_n hx hb dX12_leastReleased_34 rfl (lv_at hl 3 rfl) ?_
            refine lv_iconst (v := (-1)) hx hb dX12_leastReleased_35 (by decide) ?_
            refine lv_ixor hx hb dX12_leastReleased_36 ?_
            refine lv_topi (fun x_69456 ex_69456 => ?_)
            refine lv_iand hx hb dX12_leastReleased_37 ?_
            refine lv_topi (fun x_69457 ex_69457 => ?_)
            refine cVp (As := [.int x_69457]) (rest := []) S Y (x_X12_isAtPeace (l := l) I hB) cw_X12_isAtPeace km12_425 (I.opo (k := 0) (j := 0) (by decide) rfl).choose_spec.1 ok_X12.1 rfl rfl ⟨Nat.le_of_ble_eq_true rfl, Nat.le_of_ble_eq_true rfl⟩ hl.1 rfl (Nat.le_of_ble_eq_true rfl) ⟨Nat.le_of_ble_eq_true rfl, Nat.le_of_ble_eq_true rfl⟩ dX12_leastReleased_38 (fun r_69458 H locs er_69458 Y => ?_)
            refine lv_if_eq (tgt := 46) hx hb dX12_leastReleased_41 (by decide) (fun c_69459 => ?_) (fun c_69459 => ?_)
            · have B_69460 : bn 0 0 r_69458 := bn_w (bn_eq c_69459 (show bn 0 0 (0 : Int32) from bn_k (by decide))) (by decide)
              obtain ⟨x_69462, ex_69462⟩ : ∃ z : Int32, z = y9_3 + (-1) := ⟨_, rfl⟩
              refine lv_iinc (v := x_69462) (lv' := [(3, .int x_69462), (0, .ref (ad 0 0)), (1, .int y9_1), (2, .int y9_2)]) hx hb dX12_leastReleased_46 hl (k := 3) rfl (by rw [ex_69462]; rfl) (by decide) rfl (fun ls hl => ?_)
              refine lv_goto (tgt := 9) hx hb dX12_leastReleased_49 (by decide) ?_
              exact ih9 _ (by rw [← hm9]; exact ms_dn (m := (-1)) ex_69462 (show bn (-1) (-1) ((-1) : Int32) from bn_k (by decide)) B_69444 (bn_w (bn_eq ex_69462 (bn_add B_69444 (show bn (-1) (-1) ((-1) : Int32) from bn_k (by decide)) (by decide))) (by decide) : bn (-1) 16383 x_69462) (by decide)) y9_1 y9_2 x_69462  _ _ _  (bn_w b_y9_1 (by decide)) (bn_w b_y9_2 (by decide)) (bn_w (bn_eq ex_69462 (bn_add B_69444 (show bn (-1) (-1) ((-1) : Int32) from bn_k (by decide)) (by decide))) (by decide)) rfl Y (lv_sub hl [1, 2, 3, 0] rfl)
            · have B_69461 : bn 1 1 r_69458 := bn_w (bn_nel c_69459 er_69458 (show bn 0 0 (0 : Int32) from bn_k (by decide))) (by decide)
              refine lv_iload_n hx hb dX12_leastReleased_44 rfl (lv_at hl 3 rfl) ?_
              refine lv_istore_n (lv' := [(2, .int y9_3), (0, .ref (ad 0 0)), (1, .int y9_1), (3, .int y9_3)]) hx hb dX12_leastReleased_45 rfl hl (by decide) rfl (fun ls hl => ?_)
              obtain ⟨x_69463, ex_69463⟩ : ∃ z : Int32, z = y9_3 + (-1) := ⟨_, rfl⟩
              refine lv_iinc (v := x_69463) (lv' := [(3, .int x_69463), (2, .int y9_3), (0, .ref (ad 0 0)), (1, .int y9_1)]) hx hb dX12_leastReleased_46 hl (k := 3) rfl (by rw [ex_69463]; rfl) (by decide) rfl (fun ls hl => ?_)
              refine lv_goto (tgt := 9) hx hb dX12_leastReleased_49 (by decide) ?_
              exact ih9 _ (by rw [← hm9]; exact ms_dn (m := (-1)) ex_69463 (show bn (-1) (-1) ((-1) : Int32) from bn_k (by decide)) B_69444 (bn_w (bn_eq ex_69463 (bn_add B_69444 (show bn (-1) (-1) ((-1) : Int32) from bn_k (by decide)) (by decide))) (by decide) : bn (-1) 16383 x_69463) (by decide)) y9_1 y9_3 x_69463  _ _ _  (bn_w b_y9_1 (by decide)) (bn_w B_69444 (by decide)) (bn_w (bn_eq ex_69463 (bn_add B_69444 (show bn (-1) (-1) ((-1) : Int32) from bn_k (by decide)) (by decide))) (by decide)) rfl Y (lv_sub hl [2, 3, 1, 0] rfl)
  refine lv_aload_n hx hb dX12_leastReleased_0 rfl (lv_at hl 0 rfl) ?_
  refine cVp (As := []) (rest := []) S Y (x_X12_keptOnes (l := l) I hB) cw_X12_keptOnes km12_422 (I.opo (k := 0) (j := 0) (by decide) rfl).choose_spec.1 ok_X12.1 rfl rfl ⟨Nat.le_of_ble_eq_true rfl, Nat.le_of_ble_eq_true rfl⟩ hl.1 rfl (Nat.le_of_ble_eq_true rfl) ⟨Nat.le_of_ble_eq_true rfl, Nat.le_of_ble_eq_true rfl⟩ dX12_leastReleased_1 (fun r_69464 H locs er_69464 Y => ?_)
  refine lv_istore_n (lv' := [(1, .int r_69464), (0, .ref (ad 0 0))]) hx hb dX12_leastReleased_4 rfl hl (by decide) rfl (fun ls hl => ?_)
  refine lv_iload_n hx hb dX12_leastReleased_5 rfl (lv_at hl 0 rfl) ?_
  refine lv_istore_n (lv' := [(2, .int r_69464), (1, .int r_69464), (0, .ref (ad 0 0))]) hx hb dX12_leastReleased_6 rfl hl (by decide) rfl (fun ls hl => ?_)
  refine lv_iload_n hx hb dX12_leastReleased_7 rfl (lv_at hl 1 rfl) ?_
  refine lv_istore_n (lv' := [(3, .int r_69464), (2, .int r_69464), (1, .int r_69464), (0, .ref (ad 0 0))]) hx hb dX12_leastReleased_8 rfl hl (by decide) rfl (fun ls hl => ?_)
  exact J_9 _ r_69464 r_69464 r_69464  _ _ _  (bn_w er_69464 (by decide)) (bn_w er_69464 (by decide)) (bn_w er_69464 (by decide)) rfl Y (lv_sub hl [3, 2, 1, 0] rfl)
set_option maxHeartbeats 4000000 in
set_option maxRecDepth 100000 in
theorem x_X12_forged {l : Launch} {G : GG}  {L : List Nat} {f : HF} {ad : Nat → Nat → Nat} {w : WW} {pi : PIT} {g0 : Nat → Int32} {i1 i2 i3 : Int32} (I : SH (spM (IA 0 0 14 9999 w) pi (EQ g0) LDa) nnM G ad L f) (hB : BBp 0 0 14 9999 w) (hX : TX g0) : PMp l yX12_forged cX12_forged 6 .int 2 0 0 G [.ref (ad 0 0), .int i1, .int i2, .int i3] L f (fun r => True) := by
  refine PMi.of (post := fun r L1 f1 => (True) ∧ L1 = L ∧ f1 = f) (own := RX12) (by decide) rfl (Nat.le_of_ble_eq_true rfl) (fun sz p e s m args below meth c A ls hA1 hname S Y hl => ?_)
  have hx := S.hx
  have hb := S.hb
  have hl : lv_has ls 6 [(0, .ref (ad 0 0)), (1, .int i1), (2, .int i2), (3, .int i3)] := hl
  have J_37 : ∀ (n37 : Nat) (y37_4 y37_5 : Int32) (H : Heap) (locs : List Loc) (ls : Array Slot), (bn 0 14 y37_5) → (bn 0 5 i1) → (bn 0 1 i2) → (bn 0 99 i3) → (((14 : Int) - y37_5.toInt).toNat = n37) → (DY G A s [] L f H locs) → (lv_has ls 6 [(0, .ref (ad 0 0)), (1, .int i1), (2, .int i2), (3, .int i3), (4, .int y37_4), (5, .int y37_5)]) → W p l e (rmD 2 0 0) s m args below meth c H locs (0) (0) (MQ below (va_Qi (fun r (u : List Nat × HF) => (fun r L1 f1 => (True) ∧ L1 = L ∧ f1 = f) r u.1 u.2) (fun u t => pOut G (va_A (va_pl L f) sz) u.1 u.2 t) (va_A (va_pl L f) sz)) args s 0 0 A) (F0 m 37 ls []) := by
    intro n37
    induction n37 using Nat.strongRecOn with
    | _ n37 ih37 =>
      intro y37_4 y37_5 H locs ls b_y37_5 b37_i1 b37_i2 b37_i3 hm37 Y hl
      refine lv_iload hx hb dX12_forged_37 (lv_at hl 5 rfl) ?_
      refine lv_aload_n hx hb dX12_forged_39 rfl (lv_at hl 0 rfl) ?_
      obtain ⟨v_73035, v_73037, v_73039, v_73041, v_73043, v_73045, v_73047, v_73049, v_73050, v_73052, v_73054, v_73056, v_73058, v_73060, v_73062, v_73064, v_73066, v_73068, p_ad_0_0, b_73036, b_73038, b_73040, b_73042, b_73044, b_73046, b_73048, b_73051, b_73053, b_73055, b_73057, b_73059, b_73061, b_73063, b_73065, b_73067, b_73069⟩ := opnM_0 (j := 0) I (by decide)
      have p_ad_0_0 : pt L f (ad 0 0) (.inr (12, [.ref (ad 1 0), .ref (ad 2 0), .ref (ad 3 0), .ref (ad 4 0), .int v_73035, .int v_73037, .int v_73039, .int v_73041, .int v_73043, .int v_73045, .int v_73047, .long v_73049, .int v_73050, .int v_73052, .int v_73054, .ref (ad 5 0), .ref (ad 6 0), .int v_73056, .int v_73058, .int v_73060, .int v_73062, .int v_73064, .ref (ad 7 0), .ref (ad 8 0), .ref (ad 9 0), .int v_73066, .ref (ad 10 0), .ref (ad 11 0), .ref (ad 12 0), .ref (ad 13 0), .int v_73068, .ref (ad 14 0)])) := p_ad_0_0
      refine pg_get S Y ok_X12 0 (by decide) kf12_7 (v := .ref (ad 1 0)) p_ad_0_0 rfl dX12_forged_40 ?_
      refine lv_bipush (v := 13) hx hb dX12_forged_43 (by decide) ?_
      obtain ⟨g_73070, p_ad_1_0, o_73071⟩ := I.opi (k := 1) (j := 0) (by decide) rfl
      have p_ad_1_0 : pt L f (ad 1 0) (.inl (G.2 0, 10568, .inl g_73070)) := p_ad_1_0
      obtain ⟨v_73072, ev_73072⟩ : ∃ z, z = g_73070 (13 : Int32).toNatClampNeg := ⟨_, rfl⟩
      refine pg_iald S Y (v := v_73072) p_ad_1_0 (by unfold vp_in; decide) ev_73072.symm dX12_forged_45 ?_
      have bv_73072 : bn 0 14 v_73072 := bn_eq ev_73072 (IA_13 o_73071)
      refine lv_icmp_ge (tgt := 96) hx hb dX12_forged_46 (by decide) (fun c_73073 => ?_) (fun c_73073 => ?_)
      · refine lv_iload_n hx hb dX12_forged_96 rfl (lv_at hl 3 rfl) ?_
        refine lv_iload hx hb dX12_forged_97 (lv_at hl 4 rfl) ?_
        refine lv_isub hx hb dX12_forged_99 ?_
        refine lv_topi (fun x_73076 ex_73076 => ?_)
        exact prI (post := fun r L1 f1 => (True) ∧ L1 = L ∧ f1 = f) S Y rfl (by decide) (by decide) hA1 ⟨trivial, rfl, rfl⟩ dX12_forged_100
      · have B_73074 : bn 1 14 v_73072 := bn_w (bn_gtl c_73073 bv_73072 b_y37_5) (by decide)
        have B_73075 : bn 0 13 y37_5 := bn_w (bn_gtr c_73073 bv_73072 b_y37_5) (by decide)
        refine lv_iload hx hb dX12_forged_49 (lv_at hl 4 rfl) ?_
        refine lv_aload_n hx hb dX12_forged_51 rfl (lv_at hl 0 rfl) ?_
        refine lv_iload hx hb dX12_forged_52 (lv_at hl 5 rfl) ?_
        refine lv_iconst (v := 1) hx hb dX12_forged_54 (by decide) ?_
        refine cVp (As := [.int y37_5, .int 1]) (rest := [.int y37_4]) S Y (x_X12_getON (l := l) I hB (bn_w B_73075 (by decide)) (bn_w (show bn 1 1 (1 : Int32) from bn_k (by decide)) (by decide))) cw_X12_get km12_73 p_ad_0_0 ok_X12.1 rfl rfl ⟨Nat.le_of_ble_eq_true rfl, Nat.le_of_ble_eq_true rfl⟩ hl.1 rfl (Nat.le_of_ble_eq_true rfl) ⟨Nat.le_of_ble_eq_true rfl, Nat.le_of_ble_eq_true rfl⟩ dX12_forged_55 (fun r_73077 H locs er_73077 Y => ?_)
        refine lv_iload_n hx hb dX12_forged_58 rfl (lv_at hl 1 rfl) ?_
        refine lv_icmp_ne (tgt := 86) hx hb dX12_forged_59 (by decide) (fun c_73078 => ?_) (fun c_73078 => ?_)
        · refine lv_iconst (v := 0) hx hb dX12_forged_86 (by decide) ?_
          refine lv_iadd hx hb dX12_forged_87 ?_
          refine lv_topi (fun x_73079 ex_73079 => ?_)
          refine lv_istore (lv' := [(4, .int x_73079), (0, .ref (ad 0 0)), (1, .int i1), (2, .int i2), (3, .int i3), (5, .int y37_5)]) hx hb dX12_forged_88 hl (by decide) rfl (fun ls hl => ?_)
          obtain ⟨x_73080, ex_73080⟩ : ∃ z : Int32, z = y37_5 + 1 := ⟨_, rfl⟩
          refine lv_iinc (v := x_73080) (lv' := [(5, .int x_73080), (4, .int x_73079), (0, .ref (ad 0 0)), (1, .int i1), (2, .int i2), (3, .int i3)]) hx hb dX12_forged_90 hl (k := 5) rfl (by rw [ex_73080]; rfl) (by decide) rfl (fun ls hl => ?_)
          refine lv_goto (tgt := 37) hx hb dX12_forged_93 (by decide) ?_
          exact ih37 _ (by rw [← hm37]; exact ms_up (m := 1) ex_73080 (show bn 1 1 (1 : Int32) from bn_k (by decide)) B_73075 (bn_w (bn_eq ex_73080 (bn_add B_73075 (show bn 1 1 (1 : Int32) from bn_k (by decide)) (by decide))) (by decide) : bn 0 14 x_73080) (by decide)) x_73079 x_73080  _ _ _  (bn_w (bn_eq ex_73080 (bn_add B_73075 (show bn 1 1 (1 : Int32) from bn_k (by decide)) (by decide))) (by decide)) (bn_w b37_i1 (by decide)) (bn_w b37_i2 (by decide)) (bn_w b37_i3 (by decide)) rfl Y (lv_sub hl [2, 3, 4, 5, 1, 0] rfl)
        · refine lv_aload_n hx hb dX12_forged_62 rfl (lv_at hl 0 rfl) ?_
          refine lv_iload hx hb dX12_forged_63 (lv_at hl 5 rfl) ?_
          refine lv_iconst (v := 2) hx hb dX12_forged_65 (by decide) ?_
          refine cVp (As := [.int y37_5, .int 2]) (rest := [.int y37_4]) S Y (x_X12_get (l := l) I hB (bn_w B_73075 (by decide)) (bn_w (show bn 2 2 (2 : Int32) from bn_k (by decide)) (by decide))) cw_X12_get km12_73 p_ad_0_0 ok_X12.1 rfl rfl ⟨Nat.le_of_ble_eq_true rfl, Nat.le_of_ble_eq_true rfl⟩ hl.1 rfl (Nat.le_of_ble_eq_true rfl) ⟨Nat.le_of_ble_eq_true rfl, Nat.le_of_ble_eq_true rfl⟩ dX12_forged_66 (fun r_73081 H locs er_73081 Y => ?_)
          refine lv_iload_n hx hb dX12_forged_69 rfl (lv_at hl 2 rfl) ?_
          refine lv_icmp_ne (tgt := 86) hx hb dX12_forged_70 (by decide) (fun c_73082 => ?_) (fun c_73082 => ?_)
          · refine lv_iconst (v := 0) hx hb dX12_forged_86 (by decide) ?_
            refine lv_iadd hx hb dX12_forged_87 ?_
            refine lv_topi (fun x_73084 ex_73084 => ?_)
            refine lv_istore (lv' := [(4, .int x_73084), (0, .ref (ad 0 0)), (1, .int i1), (2, .int i2), (3, .int i3), (5, .int y37_5)]) hx hb dX12_forged_88 hl (by decide) rfl (fun ls hl => ?_)
            obtain ⟨x_73085, ex_73085⟩ : ∃ z : Int32, z = y37_5 + 1 := ⟨_, rfl⟩
            refine lv_iinc (v := x_73085) (lv' := [(5, .int x_73085), (4, .int x_73084), (0, .ref (ad 0 0)), (1, .int i1), (2, .int i2), (3, .int i3)]) hx hb dX12_forged_90 hl (k := 5) rfl (by rw [ex_73085]; rfl) (by decide) rfl (fun ls hl => ?_)
            refine lv_goto (tgt := 37) hx hb dX12_forged_93 (by decide) ?_
            exact ih37 _ (by rw [← hm37]; exact ms_up (m := 1) ex_73085 (show bn 1 1 (1 : Int32) from bn_k (by decide)) B_73075 (bn_w (bn_eq ex_73085 (bn_add B_73075 (show bn 1 1 (1 : Int32) from bn_k (by decide)) (by decide))) (by decide) : bn 0 14 x_73085) (by decide)) x_73084 x_73085  _ _ _  (bn_w (bn_eq ex_73085 (bn_add B_73075 (show bn 1 1 (1 : Int32) from bn_k (by decide)) (by decide))) (by decide)) (bn_w b37_i1 (by decide)) (bn_w b37_i2 (by decide)) (bn_w b37_i3 (by decide)) rfl Y (lv_sub hl [2, 3, 4, 5, 1, 0] rfl)
          · have B_73083 : bn 0 1 r_73081 := bn_w (bn_eq c_73082 b37_i2) (by decide)
            refine lv_aload_n hx hb dX12_forged_73 rfl (lv_at hl 0 rfl) ?_
            refine lv_iload hx hb dX12_forged_74 (lv_at hl 5 rfl) ?_
            refine cVp (As := [.int y37_5]) (rest := [.int y37_4]) S Y (x_X12_isLegible (l := l) I hB (bn_w B_73075 (by decide))) cw_X12_isLegible km12_77 p_ad_0_0 ok_X12.1 rfl rfl ⟨Nat.le_of_ble_eq_true rfl, Nat.le_of_ble_eq_true rfl⟩ hl.1 rfl (Nat.le_of_ble_eq_true rfl) ⟨Nat.le_of_ble_eq_true rfl, Nat.le_of_ble_eq_true rfl⟩ dX12_forged_76 (fun r_73086 H locs er_73086 Y => ?_)
            refine lv_if_eq (tgt := 86) hx hb dX12_forged_79 (by decide) (fun c_73087 => ?_) (fun c_73087 => ?_)
            · have B_73088 : bn 0 0 r_73086 := bn_w (bn_eq c_73087 (show bn 0 0 (0 : Int32) from bn_k (by decide))) (by decide)
              refine lv_iconst (v := 0) hx hb dX12_forged_86 (by decide) ?_
              refine lv_iadd hx hb dX12_forged_87 ?_
              refine lv_topi (fun x_73090 ex_73090 => ?_)
              refine lv_istore (lv' := [(4, .int x_73090), (0, .ref (ad 0 0)), (1, .int i1), (2, .int i2), (3, .int i3), (5, .int y37_5)]) hx hb dX12_forged_88 hl (by decide) rfl (fun ls hl => ?_)
              obtain ⟨x_73091, ex_73091⟩ : ∃ z : Int32, z = y37_5 + 1 := ⟨_, rfl⟩
              refine lv_iinc (v := x_73091) (lv' := [(5, .int x_73091), (4, .int x_73090), (0, .ref (ad 0 0)), (1, .int i1), (2, .int i2), (3, .int i3)]) hx hb dX12_forged_90 hl (k := 5) rfl (by rw [ex_73091]; rfl) (by decide) rfl (fun ls hl => ?_)
              refine lv_goto (tgt := 37) hx hb dX12_forged_93 (by decide) ?_
              exact ih37 _ (by rw [← hm37]; exact ms_up (m := 1) ex_73091 (show bn 1 1 (1 : Int32) from bn_k (by decide)) B_73075 (bn_w (bn_eq ex_73091 (bn_add B_73075 (show bn 1 1 (1 : Int32) from bn_k (by decide)) (by decide))) (by decide) : bn 0 14 x_73091) (by decide)) x_73090 x_73091  _ _ _  (bn_w (bn_eq ex_73091 (bn_add B_73075 (show bn 1 1 (1 : Int32) from bn_k (by decide)) (by decide))) (by decide)) (bn_w b37_i1 (by decide)) (bn_w b37_i2 (by decide)) (bn_w b37_i3 (by decide)) rfl Y (lv_sub hl [2, 3, 4, 5, 1, 0] rfl)
            · have B_73089 : bn 1 1 r_73086 := bn_w (bn_nel c_73087 er_73086 (show bn 0 0 (0 : Int32) from bn_k (by decide))) (by decide)
              refine lv_iconst (v := 1) hx hb dX12_forged_82 (by decide) ?_
              refine lv_goto (tgt := 87) hx hb dX12_forged_83 (by decide) ?_
              refine lv_iadd hx hb dX12_forged_87 ?_
              refine lv_topi (fun x_73092 ex_73092 => ?_)
              refine lv_istore (lv' := [(4, .int x_73092), (0, .ref (ad 0 0)), (1, .int i1), (2, .int i2), (3, .int i3), (5, .int y37_5)]) hx hb dX12_forged_88 hl (by decide) rfl (fun ls hl => ?_)
              obtain ⟨x_73093, ex_73093⟩ : ∃ z : Int32, z = y37_5 + 1 := ⟨_, rfl⟩
              refine lv_iinc (v := x_73093) (lv' := [(5, .int x_73093), (4, .int x_73092), (0, .ref (ad 0 0)), (1, .int i1), (2, .int i2), (3, .int i3)]) hx hb dX12_forged_90 hl (k := 5) rfl (by rw [ex_73093]; rfl) (by decide) rfl (fun ls hl => ?_)
              refine lv_goto (tgt := 37) hx hb dX12_forged_93 (by decide) ?_
              exact ih37 _ (by rw [← hm37]; exact ms_up (m := 1) ex_73093 (show bn 1 1 (1 : Int32) from bn_k (by decide)) B_73075 (bn_w (bn_eq ex_73093 (bn_add B_73075 (show bn 1 1 (1 : Int32) from bn_k (by decide)) (by decide))) (by decide) : bn 0 14 x_73093) (by decide)) x_73092 x_73093  _ _ _  (bn_w (bn_eq ex_73093 (bn_add B_73075 (show bn 1 1 (1 : Int32) from bn_k (by decide)) (by decide))) (by decide)) (bn_w b37_i1 (by decide)) (bn_w b37_i2 (by decide)) (bn_w b37_i3 (by decide)) rfl Y (lv_sub hl [2, 3, 4, 5, 1, 0] rfl)
  refine lv_aload_n hx hb dX12_forged_0 rfl (lv_at hl 0 rfl) ?_
  refine lv_iload_n hx hb dX12_forged_1 rfl (lv_at hl 1 rfl) ?_
  refine cVp (As := [.int i1]) (rest := []) S Y (x_X12_isOne (l := l) I hB) cw_X12_isOne km12_323 (I.opo (k := 0) (j := 0) (by decide) rfl).choose_spec.1 ok_X12.1 rfl rfl ⟨Nat.le_of_ble_eq_true rfl, Nat.le_of_ble_eq_true rfl⟩ hl.1 rfl (Nat.le_of_ble_eq_true rfl) ⟨Nat.le_of_ble_eq_true rfl, Nat.le_of_ble_eq_true rfl⟩ dX12_forged_2 (fun r_73094 H locs er_73094 Y => ?_)
  refine lv_if_eq (tgt := 27) hx hb dX12_forged_5 (by decide) (fun c_73095 => ?_) (fun c_73095 => ?_)
  · have B_73096 : bn 0 0 r_73094 := bn_w (bn_eq c_73095 (show bn 0 0 (0 : Int32) from bn_k (by decide))) (by decide)
    refine lv_sipush (v := (-1000)) hx hb dX12_forged_27 (by decide) ?_
    exact prI (post := fun r L1 f1 => (True) ∧ L1 = L ∧ f1 = f) S Y rfl (by decide) (by decide) hA1 ⟨trivial, rfl, rfl⟩ dX12_forged_30
  · have B_73097 : bn 0 5 i1 := bn_w (bn_i (bn_any i1) (er_73094.2 c_73095)) (by decide)
    have B_73098 : bn 1 1 r_73094 := bn_w (bn_nel c_73095 er_73094.1 (show bn 0 0 (0 : Int32) from bn_k (by decide))) (by decide)
    refine lv_iload_n hx hb dX12_forged_8 rfl (lv_at hl 2 rfl) ?_
    refine lv_iconst (v := 0) hx hb dX12_forged_9 (by decide) ?_
    refine lv_iconst (v := 1) hx hb dX12_forged_10 (by decide) ?_
    refine cSp (As := [.int i2, .int 0, .int 1]) (rest := []) S Y (x_X12_isIn (l := l) ) cw_X12_isIn km12_69 rfl ⟨Nat.le_of_ble_eq_true rfl, Nat.le_of_ble_eq_true rfl⟩ hl.1 rfl (Nat.le_of_ble_eq_true rfl) ⟨Nat.le_of_ble_eq_true rfl, Nat.le_of_ble_eq_true rfl⟩ dX12_forged_11 (fun r_73099 H locs er_73099 Y => ?_)
    refine lv_if_eq (tgt := 27) hx hb dX12_forged_14 (by decide) (fun c_73100 => ?_) (fun c_73100 => ?_)
    · have B_73101 : bn 0 0 r_73099 := bn_w (bn_eq c_73100 (show bn 0 0 (0 : Int32) from bn_k (by decide))) (by decide)
      refine lv_sipush (v := (-1000)) hx hb dX12_forged_27 (by decide) ?_
      exact prI (post := fun r L1 f1 => (True) ∧ L1 = L ∧ f1 = f) S Y rfl (by decide) (by decide) hA1 ⟨trivial, rfl, rfl⟩ dX12_forged_30
    · have B_73102 : bn 0 1 i2 := bn_w (bn_i (bn_any i2) (bn_btw (er_73099.2 c_73100).1 (er_73099.2 c_73100).2 (show bn 0 0 (0 : Int32) from bn_k (by decide)) (show bn 1 1 (1 : Int32) from bn_k (by decide)))) (by decide)
      have B_73103 : bn 1 1 r_73099 := bn_w (bn_nel c_73100 er_73099.1 (show bn 0 0 (0 : Int32) from bn_k (by decide))) (by decide)
      refine lv_iload_n hx hb dX12_forged_17 rfl (lv_at hl 3 rfl) ?_
      refine lv_iconst (v := 0) hx hb dX12_forged_18 (by decide) ?_
      refine lv_bipush (v := 99) hx hb dX12_forged_19 (by decide) ?_
      refine cSp (As := [.int i3, .int 0, .int 99]) (rest := []) S Y (x_X12_isIn (l := l) ) cw_X12_isIn km12_69 rfl ⟨Nat.le_of_ble_eq_true rfl, Nat.le_of_ble_eq_true rfl⟩ hl.1 rfl (Nat.le_of_ble_eq_true rfl) ⟨Nat.le_of_ble_eq_true rfl, Nat.le_of_ble_eq_true rfl⟩ dX12_forged_21 (fun r_73104 H locs er_73104 Y => ?_)
      refine lv_if_ne (tgt := 31) hx hb dX12_forged_24 (by decide) (fun c_73105 => ?_) (fun c_73105 => ?_)
      · have B_73106 : bn 0 99 i3 := bn_w (bn_i (bn_any i3) (bn_btw (er_73104.2 c_73105).1 (er_73104.2 c_73105).2 (show bn 0 0 (0 : Int32) from bn_k (by decide)) (show bn 99 99 (99 : Int32) from bn_k (by decide)))) (by decide)
        have B_73107 : bn 1 1 r_73104 := bn_w (bn_nel c_73105 er_73104.1 (show bn 0 0 (0 : Int32) from bn_k (by decide))) (by decide)
        refine lv_iconst (v := 0) hx hb dX12_forged_31 (by decide) ?_
        refine lv_istore (lv' := [(4, .int 0), (0, .ref (ad 0 0)), (1, .int i1), (2, .int i2), (3, .int i3)]) hx hb dX12_forged_32 hl (by decide) rfl (fun ls hl => ?_)
        refine lv_iconst (v := 0) hx hb dX12_forged_34 (by decide) ?_
        refine lv_istore (lv' := [(5, .int 0), (4, .int 0), (0, .ref (ad 0 0)), (1, .int i1), (2, .int i2), (3, .int i3)]) hx hb dX12_forged_35 hl (by decide) rfl (fun ls hl => ?_)
        exact J_37 _ 0 0  _ _ _  (bn_w (show bn 0 0 (0 : Int32) from bn_k (by decide)) (by decide)) (bn_w B_73097 (by decide)) (bn_w B_73102 (by decide)) (bn_w B_73106 (by decide)) rfl Y (lv_sub hl [2, 3, 4, 5, 1, 0] rfl)
      · have B_73108 : bn 0 0 r_73104 := bn_w (bn_eq c_73105 (show bn 0 0 (0 : Int32) from bn_k (by decide))) (by decide)
        refine lv_sipush (v := (-1000)) hx hb dX12_forged_27 (by decide) ?_
        exact prI (post := fun r L1 f1 => (True) ∧ L1 = L ∧ f1 = f) S Y rfl (by decide) (by decide) hA1 ⟨trivial, rfl, rfl⟩ dX12_forged_30
set_option maxHeartbeats 4000000 in
set_option maxRecDepth 100000 in
theorem x_X12_inTime {l : Launch} {G : GG}  {L : List Nat} {f : HF} {ad : Nat → Nat → Nat} {w : WW} {pi : PIT} {g0 : Nat → Int32} {i1 : Int32} (I : SH (spM (IA 0 0 14 9999 w) pi (EQ g0) LDa) nnM G ad L f) (hB : BBp 0 0 14 9999 w) (hX : TX g0) : PMp l yX12_inTime cX12_inTime 4 .int 2 0 0 G [.ref (ad 0 0), .int i1] L f (fun r => True) := by
  refine PMi.of (post := fun r L1 f1 => (True) ∧ L1 = L ∧ f1 = f) (own := RX12) (by decide) rfl (Nat.le_of_ble_eq_true rfl) (fun sz p e s m args below meth c A ls hA1 hname S Y hl => ?_)
  have hx := S.hx
  have hb := S.hb
  have hl : lv_has ls 4 [(0, .ref (ad 0 0)), (1, .int i1)] := hl
  have J_15 : ∀ (n15 : Nat) (y15_2 y15_3 : Int32) (H : Heap) (locs : List Loc) (ls : Array Slot), (bn 0 255 y15_2) → (bn 1 299 y15_3) → (bn 0 2 i1) → (((299 : Int) - y15_3.toInt).toNat = n15) → (DY G A s [] L f H locs) → (lv_has ls 4 [(0, .ref (ad 0 0)), (1, .int i1), (2, .int y15_2), (3, .int y15_3)]) → W p l e (rmD 2 0 0) s m args below meth c H locs (0) (0) (MQ below (va_Qi (fun r (u : List Nat × HF) => (fun r L1 f1 => (True) ∧ L1 = L ∧ f1 = f) r u.1 u.2) (fun u t => pOut G (va_A (va_pl L f) sz) u.1 u.2 t) (va_A (va_pl L f) sz)) args s 0 0 A) (F0 m 15 ls []) := by
    intro n15
    induction n15 using Nat.strongRecOn with
    | _ n15 ih15 =>
      intro y15_2 y15_3 H locs ls b_y15_2 b_y15_3 b15_i1 hm15 Y hl
      refine lv_iload_n hx hb dX12_inTime_15 rfl (lv_at hl 3 rfl) ?_
      refine lv_iconst (v := 1) hx hb dX12_inTime_16 (by decide) ?_
      refine lv_aload_n hx hb dX12_inTime_17 rfl (lv_at hl 0 rfl) ?_
      obtain ⟨v_75661, v_75663, v_75665, v_75667, v_75669, v_75671, v_75673, v_75675, v_75676, v_75678, v_75680, v_75682, v_75684, v_75686, v_75688, v_75690, v_75692, v_75694, p_ad_0_0, b_75662, b_75664, b_75666, b_75668, b_75670, b_75672, b_75674, b_75677, b_75679, b_75681, b_75683, b_75685, b_75687, b_75689, b_75691, b_75693, b_75695⟩ := opnM_0 (j := 0) I (by decide)
      have p_ad_0_0 : pt L f (ad 0 0) (.inr (12, [.ref (ad 1 0), .ref (ad 2 0), .ref (ad 3 0), .ref (ad 4 0), .int v_75661, .int v_75663, .int v_75665, .int v_75667, .int v_75669, .int v_75671, .int v_75673, .long v_75675, .int v_75676, .int v_75678, .int v_75680, .ref (ad 5 0), .ref (ad 6 0), .int v_75682, .int v_75684, .int v_75686, .int v_75688, .int v_75690, .ref (ad 7 0), .ref (ad 8 0), .ref (ad 9 0), .int v_75692, .ref (ad 10 0), .ref (ad 11 0), .ref (ad 12 0), .ref (ad 13 0), .int v_75694, .ref (ad 14 0)])) := p_ad_0_0
      refine pg_get S Y ok_X12 0 (by decide) kf12_7 (v := .ref (ad 1 0)) p_ad_0_0 rfl dX12_inTime_18 ?_
      refine lv_bipush (v := 6) hx hb dX12_inTime_21 (by decide) ?_
      obtain ⟨g_75696, p_ad_1_0, o_75697⟩ := I.opi (k := 1) (j := 0) (by decide) rfl
      have p_ad_1_0 : pt L f (ad 1 0) (.inl (G.2 0, 10568, .inl g_75696)) := p_ad_1_0
      obtain ⟨v_75698, ev_75698⟩ : ∃ z, z = g_75696 (6 : Int32).toNatClampNeg := ⟨_, rfl⟩
      refine pg_iald S Y (v := v_75698) p_ad_1_0 (by unfold vp_in; decide) ev_75698.symm dX12_inTime_23 ?_
      have bv_75698 : bn 0 8 v_75698 := bn_eq ev_75698 (bn_w (a' := 0) (b' := 8) (IA_6 o_75697) (by have h9 := hB; unfold BBp at h9; omega))
      refine lv_ishl hx hb dX12_inTime_24 ?_
      refine lv_topi (fun x_75699 ex_75699 => ?_)
      refine lv_icmp_ge (tgt := 55) hx hb dX12_inTime_25 (by decide) (fun c_75700 => ?_) (fun c_75700 => ?_)
      · refine lv_iload_n hx hb dX12_inTime_55 rfl (lv_at hl 1 rfl) ?_
        refine lv_if_ne (tgt := 66) hx hb dX12_inTime_56 (by decide) (fun c_75703 => ?_) (fun c_75703 => ?_)
        · have B_75704 : bn 1 2 i1 := bn_w (bn_nel c_75703 b15_i1 (show bn 0 0 (0 : Int32) from bn_k (by decide))) (by decide)
          refine lv_iload_n hx hb dX12_inTime_66 rfl (lv_at hl 1 rfl) ?_
          refine lv_iconst (v := 1) hx hb dX12_inTime_67 (by decide) ?_
          refine lv_icmp_ne (tgt := 75) hx hb dX12_inTime_68 (by decide) (fun c_75706 => ?_) (fun c_75706 => ?_)
          · have B_75707 : bn 2 2 i1 := bn_w (bn_nel c_75706 B_75704 (show bn 1 1 (1 : Int32) from bn_k (by decide))) (by decide)
            refine lv_aload_n hx hb dX12_inTime_75 rfl (lv_at hl 0 rfl) ?_
            refine lv_iload_n hx hb dX12_inTime_76 rfl (lv_at hl 2 rfl) ?_
            refine cVp (As := [.int y15_2]) (rest := []) S Y (x_X12_workOf (l := l) I hB) cw_X12_workOf km12_431 p_ad_0_0 ok_X12.1 rfl rfl ⟨Nat.le_of_ble_eq_true rfl, Nat.le_of_ble_eq_true rfl⟩ hl.1 rfl (Nat.le_of_ble_eq_true rfl) ⟨Nat.le_of_ble_eq_true rfl, Nat.le_of_ble_eq_true rfl⟩ dX12_inTime_77 (fun r_75709 H locs er_75709 Y => ?_)
            exact prI (post := fun r L1 f1 => (True) ∧ L1 = L ∧ f1 = f) S Y rfl (by decide) (by decide) hA1 ⟨trivial, rfl, rfl⟩ dX12_inTime_80
          · have B_75708 : bn 1 1 i1 := bn_w (bn_eq c_75706 (show bn 1 1 (1 : Int32) from bn_k (by decide))) (by decide)
            refine lv_iload_n hx hb dX12_inTime_71 rfl (lv_at hl 2 rfl) ?_
            refine lv_goto (tgt := 80) hx hb dX12_inTime_72 (by decide) ?_
            exact prI (post := fun r L1 f1 => (True) ∧ L1 = L ∧ f1 = f) S Y rfl (by decide) (by decide) hA1 ⟨trivial, rfl, rfl⟩ dX12_inTime_80
        · have B_75705 : bn 0 0 i1 := bn_w (bn_eq c_75703 (show bn 0 0 (0 : Int32) from bn_k (by decide))) (by decide)
          refine lv_iload_n hx hb dX12_inTime_59 rfl (lv_at hl 2 rfl) ?_
          refine cSp (As := [.int y15_2]) (rest := []) S Y (x_X12_bits (l := l) ) cw_X12_bits km12_268 rfl ⟨Nat.le_of_ble_eq_true rfl, Nat.le_of_ble_eq_true rfl⟩ hl.1 rfl (Nat.le_of_ble_eq_true rfl) ⟨Nat.le_of_ble_eq_true rfl, Nat.le_of_ble_eq_true rfl⟩ dX12_inTime_60 (fun r_75710 H locs er_75710 Y => ?_)
          refine lv_goto (tgt := 80) hx hb dX12_inTime_63 (by decide) ?_
          exact prI (post := fun r L1 f1 => (True) ∧ L1 = L ∧ f1 = f) S Y rfl (by decide) (by decide) hA1 ⟨trivial, rfl, rfl⟩ dX12_inTime_80
      · have B_75701 : bn 2 256 x_75699 := bn_w (bn_gtl c_75700 (bn_eq ex_75699 (bn_shl (n := 8) (bn_w bv_75698 (by decide) : bn 0 8 v_75698) (by decide) (by decide))) b_y15_3) (by decide)
        have B_75702 : bn 1 255 y15_3 := bn_w (bn_gtr c_75700 (bn_eq ex_75699 (bn_shl (n := 8) (bn_w bv_75698 (by decide) : bn 0 8 v_75698) (by decide) (by decide))) b_y15_3) (by decide)
        refine lv_iload_n hx hb dX12_inTime_28 rfl (lv_at hl 3 rfl) ?_
        refine cSp (As := [.int y15_3]) (rest := []) S Y (x_X12_bits (l := l) ) cw_X12_bits km12_268 rfl ⟨Nat.le_of_ble_eq_true rfl, Nat.le_of_ble_eq_true rfl⟩ hl.1 rfl (Nat.le_of_ble_eq_true rfl) ⟨Nat.le_of_ble_eq_true rfl, Nat.le_of_ble_eq_true rfl⟩ dX12_inTime_29 (fun r_75711 H locs er_75711 Y => ?_)
        refine lv_iload_n hx hb dX12_inTime_32 rfl (lv_at hl 2 rfl) ?_
        refine cSp (As := [.int y15_2]) (rest := [.int r_75711]) S Y (x_X12_bits (l := l) ) cw_X12_bits km12_268 rfl ⟨Nat.le_of_ble_eq_true rfl, Nat.le_of_ble_eq_true rfl⟩ hl.1 rfl (Nat.le_of_ble_eq_true rfl) ⟨Nat.le_of_ble_eq_true rfl, Nat.le_of_ble_eq_true rfl⟩ dX12_inTime_33 (fun r_75712 H locs er_75712 Y => ?_)
        refine lv_icmp_le (tgt := 49) hx hb dX12_inTime_36 (by decide) (fun c_75713 => ?_) (fun c_75713 => ?_)
        · obtain ⟨x_75716, ex_75716⟩ : ∃ z : Int32, z = y15_3 + 1 := ⟨_, rfl⟩
          refine lv_iinc (v := x_75716) (lv' := [(3, .int x_75716), (0, .ref (ad 0 0)), (1, .int i1), (2, .int y15_2)]) hx hb dX12_inTime_49 hl (k := 3) rfl (by rw [ex_75716]; rfl) (by decide) rfl (fun ls hl => ?_)
          refine lv_goto (tgt := 15) hx hb dX12_inTime_52 (by decide) ?_
          exact ih15 _ (by rw [← hm15]; exact ms_up (m := 1) ex_75716 (show bn 1 1 (1 : Int32) from bn_k (by decide)) B_75702 (bn_w (bn_eq ex_75716 (bn_add B_75702 (show bn 1 1 (1 : Int32) from bn_k (by decide)) (by decide))) (by decide) : bn 1 299 x_75716) (by decide)) y15_2 x_75716  _ _ _  (bn_w b_y15_2 (by decide)) (bn_w (bn_eq ex_75716 (bn_add B_75702 (show bn 1 1 (1 : Int32) from bn_k (by decide)) (by decide))) (by decide)) (bn_w b15_i1 (by decide)) rfl Y (lv_sub hl [1, 2, 3, 0] rfl)
        · have B_75714 : bn (-2147483647) 2147483647 r_75711 := bn_w (bn_gtl c_75713 (bn_any r_75711) (bn_any r_75712)) (by decide)
          have B_75715 : bn (-2147483648) 2147483646 r_75712 := bn_w (bn_gtr c_75713 (bn_any r_75711) (bn_any r_75712)) (by decide)
          refine lv_aload_n hx hb dX12_inTime_39 rfl (lv_at hl 0 rfl) ?_
          refine lv_iload_n hx hb dX12_inTime_40 rfl (lv_at hl 3 rfl) ?_
          refine cVp (As := [.int y15_3]) (rest := []) S Y (x_X12_isInTime (l := l) I hB) cw_X12_isInTime km12_428 p_ad_0_0 ok_X12.1 rfl rfl ⟨Nat.le_of_ble_eq_true rfl, Nat.le_of_ble_eq_true rfl⟩ hl.1 rfl (Nat.le_of_ble_eq_true rfl) ⟨Nat.le_of_ble_eq_true rfl, Nat.le_of_ble_eq_true rfl⟩ dX12_inTime_41 (fun r_75717 H locs er_75717 Y => ?_)
          refine lv_if_eq (tgt := 49) hx hb dX12_inTime_44 (by decide) (fun c_75718 => ?_) (fun c_75718 => ?_)
          · have B_75719 : bn 0 0 r_75717 := bn_w (bn_eq c_75718 (show bn 0 0 (0 : Int32) from bn_k (by decide))) (by decide)
            obtain ⟨x_75721, ex_75721⟩ : ∃ z : Int32, z = y15_3 + 1 := ⟨_, rfl⟩
            refine lv_iinc (v := x_75721) (lv' := [(3, .int x_75721), (0, .ref (ad 0 0)), (1, .int i1), (2, .int y15_2)]) hx hb dX12_inTime_49 hl (k := 3) rfl (by rw [ex_75721]; rfl) (by decide) rfl (fun ls hl => ?_)
            refine lv_goto (tgt := 15) hx hb dX12_inTime_52 (by decide) ?_
            exact ih15 _ (by rw [← hm15]; exact ms_up (m := 1) ex_75721 (show bn 1 1 (1 : Int32) from bn_k (by decide)) B_75702 (bn_w (bn_eq ex_75721 (bn_add B_75702 (show bn 1 1 (1 : Int32) from bn_k (by decide)) (by decide))) (by decide) : bn 1 299 x_75721) (by decide)) y15_2 x_75721  _ _ _  (bn_w b_y15_2 (by decide)) (bn_w (bn_eq ex_75721 (bn_add B_75702 (show bn 1 1 (1 : Int32) from bn_k (by decide)) (by decide))) (by decide)) (bn_w b15_i1 (by decide)) rfl Y (lv_sub hl [1, 2, 3, 0] rfl)
          · have B_75720 : bn 1 1 r_75717 := bn_w (bn_nel c_75718 er_75717 (show bn 0 0 (0 : Int32) from bn_k (by decide))) (by decide)
            refine lv_iload_n hx hb dX12_inTime_47 rfl (lv_at hl 3 rfl) ?_
            refine lv_istore_n (lv' := [(2, .int y15_3), (0, .ref (ad 0 0)), (1, .int i1), (3, .int y15_3)]) hx hb dX12_inTime_48 rfl hl (by decide) rfl (fun ls hl => ?_)
            obtain ⟨x_75722, ex_75722⟩ : ∃ z : Int32, z = y15_3 + 1 := ⟨_, rfl⟩
            refine lv_iinc (v := x_75722) (lv' := [(3, .int x_75722), (2, .int y15_3), (0, .ref (ad 0 0)), (1, .int i1)]) hx hb dX12_inTime_49 hl (k := 3) rfl (by rw [ex_75722]; rfl) (by decide) rfl (fun ls hl => ?_)
            refine lv_goto (tgt := 15) hx hb dX12_inTime_52 (by decide) ?_
            exact ih15 _ (by rw [← hm15]; exact ms_up (m := 1) ex_75722 (show bn 1 1 (1 : Int32) from bn_k (by decide)) B_75702 (bn_w (bn_eq ex_75722 (bn_add B_75702 (show bn 1 1 (1 : Int32) from bn_k (by decide)) (by decide))) (by decide) : bn 1 299 x_75722) (by decide)) y15_3 x_75722  _ _ _  (bn_w B_75702 (by decide)) (bn_w (bn_eq ex_75722 (bn_add B_75702 (show bn 1 1 (1 : Int32) from bn_k (by decide)) (by decide))) (by decide)) (bn_w b15_i1 (by decide)) rfl Y (lv_sub hl [2, 3, 1, 0] rfl)
  refine lv_iload_n hx hb dX12_inTime_0 rfl (lv_at hl 1 rfl) ?_
  refine lv_iconst (v := 0) hx hb dX12_inTime_1 (by decide) ?_
  refine lv_iconst (v := 2) hx hb dX12_inTime_2 (by decide) ?_
  refine cSp (As := [.int i1, .int 0, .int 2]) (rest := []) S Y (x_X12_isIn (l := l) ) cw_X12_isIn km12_69 rfl ⟨Nat.le_of_ble_eq_true rfl, Nat.le_of_ble_eq_true rfl⟩ hl.1 rfl (Nat.le_of_ble_eq_true rfl) ⟨Nat.le_of_ble_eq_true rfl, Nat.le_of_ble_eq_true rfl⟩ dX12_inTime_3 (fun r_75723 H locs er_75723 Y => ?_)
  refine lv_if_ne (tgt := 11) hx hb dX12_inTime_6 (by decide) (fun c_75724 => ?_) (fun c_75724 => ?_)
  · have B_75725 : bn 0 2 i1 := bn_w (bn_i (bn_any i1) (bn_btw (er_75723.2 c_75724).1 (er_75723.2 c_75724).2 (show bn 0 0 (0 : Int32) from bn_k (by decide)) (show bn 2 2 (2 : Int32) from bn_k (by decide)))) (by decide)
    have B_75726 : bn 1 1 r_75723 := bn_w (bn_nel c_75724 er_75723.1 (show bn 0 0 (0 : Int32) from bn_k (by decide))) (by decide)
    refine lv_iconst (v := 0) hx hb dX12_inTime_11 (by decide) ?_
    refine lv_istore_n (lv' := [(2, .int 0), (0, .ref (ad 0 0)), (1, .int i1)]) hx hb dX12_inTime_12 rfl hl (by decide) rfl (fun ls hl => ?_)
    refine lv_iconst (v := 1) hx hb dX12_inTime_13 (by decide) ?_
    refine lv_istore_n (lv' := [(3, .int 1), (2, .int 0), (0, .ref (ad 0 0)), (1, .int i1)]) hx hb dX12_inTime_14 rfl hl (by decide) rfl (fun ls hl => ?_)
    exact J_15 _ 0 1  _ _ _  (bn_w (show bn 0 0 (0 : Int32) from bn_k (by decide)) (by decide)) (bn_w (show bn 1 1 (1 : Int32) from bn_k (by decide)) (by decide)) (bn_w B_75725 (by decide)) rfl Y (lv_sub hl [2, 3, 1, 0] rfl)
  · have B_75727 : bn 0 0 r_75723 := bn_w (bn_eq c_75724 (show bn 0 0 (0 : Int32) from bn_k (by decide))) (by decide)
    refine lv_iconst (v := (-1)) hx hb dX12_inTime_9 (by decide) ?_
    exact prI (post := fun r L1 f1 => (True) ∧ L1 = L ∧ f1 = f) S Y rfl (by decide) (by decide) hA1 ⟨trivial, rfl, rfl⟩ dX12_inTime_10
set_option maxHeartbeats 4000000 in
set_option maxRecDepth 100000 in
theorem x_X12_whom {l : Launch} {G : GG}  {L : List Nat} {f : HF} {ad : Nat → Nat → Nat} {w : WW} {pi : PIT} {g0 : Nat → Int32} {i1 : Int32} (I : SH (spM (IA 0 0 14 9999 w) pi (EQ g0) LDa) nnM G ad L f) (hB : BBp 0 0 14 9999 w) (hX : TX g0) : PMi l yX12_whom cX12_whom 4 .int 7 0 0 G [.ref (ad 0 0), .int i1] L f (fun r L1 f1 => SH (spM (IA 0 0 14 9999 w) pi (EQ g0) LDa) nnM G ad L1 f1) := by
  refine PMi.of (post := fun r L1 f1 => SH (spM (IA 0 0 14 9999 w) pi (EQ g0) LDa) nnM G ad L1 f1) (own := RX12) (by decide) rfl (Nat.le_of_ble_eq_true rfl) (fun sz p e s m args below meth c A ls hA1 hname S Y hl => ?_)
  have hx := S.hx
  have hb := S.hb
  have hl : lv_has ls 4 [(0, .ref (ad 0 0)), (1, .int i1)] := hl
  have J_14 : ∀ (n14 : Nat) (y14_2 y14_3 : Int32) (L_14 : List Nat) (f_14 : HF) (H : Heap) (locs : List Loc) (ls : Array Slot), (SH (spM (IA 0 0 14 9999 w) pi (EQ g0) LDa) nnM G ad L_14 f_14) → (bn (-1) 5 y14_2) → (bn 0 6 y14_3) → (bn 0 5 i1) → (((6 : Int) - y14_3.toInt).toNat = n14) → (DY G A s [] L_14 f_14 H locs) → (lv_has ls 4 [(0, .ref (ad 0 0)), (1, .int i1), (2, .int y14_2), (3, .int y14_3)]) → W p l e (rmD 7 0 0) s m args below meth c H locs (0) (0) (MQ below (va_Qi (fun r (u : List Nat × HF) => (fun r L1 f1 => SH (spM (IA 0 0 14 9999 w) pi (EQ g0) LDa) nnM G ad L1 f1) r u.1 u.2) (fun u t => pOut G (va_A (va_pl L f) sz) u.1 u.2 t) (va_A (va_pl L f) sz)) args s 0 0 A) (F0 m 14 ls []) := by
    intro n14
    induction n14 using Nat.strongRecOn with
    | _ n14 ih14 =>
      intro y14_2 y14_3 L_14 f_14 H locs ls I b_y14_2 b_y14_3 b14_i1 hm14 Y hl
      refine lv_iload_n hx hb dX12_whom_14 rfl (lv_at hl 3 rfl) ?_
      refine lv_aload_n hx hb dX12_whom_15 rfl (lv_at hl 0 rfl) ?_
      obtain ⟨v_76188, v_76190, v_76192, v_76194, v_76196, v_76198, v_76200, v_76202, v_76203, v_76205, v_76207, v_76209, v_76211, v_76213, v_76215, v_76217, v_76219, v_76221, p_ad_0_0, b_76189, b_76191, b_76193, b_76195, b_76197, b_76199, b_76201, b_76204, b_76206, b_76208, b_76210, b_76212, b_76214, b_76216, b_76218, b_76220, b_76222⟩ := opnM_0 (j := 0) I (by decide)
      have p_ad_0_0 : pt L_14 f_14 (ad 0 0) (.inr (12, [.ref (ad 1 0), .ref (ad 2 0), .ref (ad 3 0), .ref (ad 4 0), .int v_76188, .int v_76190, .int v_76192, .int v_76194, .int v_76196, .int v_76198, .int v_76200, .long v_76202, .int v_76203, .int v_76205, .int v_76207, .ref (ad 5 0), .ref (ad 6 0), .int v_76209, .int v_76211, .int v_76213, .int v_76215, .int v_76217, .ref (ad 7 0), .ref (ad 8 0), .ref (ad 9 0), .int v_76219, .ref (ad 10 0), .ref (ad 11 0), .ref (ad 12 0), .ref (ad 13 0), .int v_76221, .ref (ad 14 0)])) := p_ad_0_0
      refine pg_get S Y ok_X12 0 (by decide) kf12_7 (v := .ref (ad 1 0)) p_ad_0_0 rfl dX12_whom_16 ?_
      refine lv_iconst (v := 0) hx hb dX12_whom_19 (by decide) ?_
      obtain ⟨g_76223, p_ad_1_0, o_76224⟩ := I.opi (k := 1) (j := 0) (by decide) rfl
      have p_ad_1_0 : pt L_14 f_14 (ad 1 0) (.inl (G.2 0, 10568, .inl g_76223)) := p_ad_1_0
      obtain ⟨v_76225, ev_76225⟩ : ∃ z, z = g_76223 (0 : Int32).toNatClampNeg := ⟨_, rfl⟩
      refine pg_iald S Y (v := v_76225) p_ad_1_0 (by unfold vp_in; decide) ev_76225.symm dX12_whom_20 ?_
      have bv_76225 : bn 0 6 v_76225 := bn_eq ev_76225 (IA_0 o_76224)
      refine lv_icmp_ge (tgt := 55) hx hb dX12_whom_21 (by decide) (fun c_76226 => ?_) (fun c_76226 => ?_)
      · refine lv_iload_n hx hb dX12_whom_55 rfl (lv_at hl 2 rfl) ?_
        exact prI (post := fun r L1 f1 => SH (spM (IA 0 0 14 9999 w) pi (EQ g0) LDa) nnM G ad L1 f1) S Y rfl (by decide) (by decide) hA1 I dX12_whom_56
      · have B_76227 : bn 1 6 v_76225 := bn_w (bn_gtl c_76226 bv_76225 b_y14_3) (by decide)
        have B_76228 : bn 0 5 y14_3 := bn_w (bn_gtr c_76226 bv_76225 b_y14_3) (by decide)
        refine lv_iload_n hx hb dX12_whom_24 rfl (lv_at hl 3 rfl) ?_
        refine lv_iload_n hx hb dX12_whom_25 rfl (lv_at hl 1 rfl) ?_
        refine lv_icmp_eq (tgt := 49) hx hb dX12_whom_26 (by decide) (fun c_76229 => ?_) (fun c_76229 => ?_)
        · obtain ⟨x_76230, ex_76230⟩ : ∃ z : Int32, z = y14_3 + 1 := ⟨_, rfl⟩
          refine lv_iinc (v := x_76230) (lv' := [(3, .int x_76230), (0, .ref (ad 0 0)), (1, .int i1), (2, .int y14_2)]) hx hb dX12_whom_49 hl (k := 3) rfl (by rw [ex_76230]; rfl) (by decide) rfl (fun ls hl => ?_)
          refine lv_goto (tgt := 14) hx hb dX12_whom_52 (by decide) ?_
          exact ih14 _ (by rw [← hm14]; exact ms_up (m := 1) ex_76230 (show bn 1 1 (1 : Int32) from bn_k (by decide)) B_76228 (bn_w (bn_eq ex_76230 (bn_add B_76228 (show bn 1 1 (1 : Int32) from bn_k (by decide)) (by decide))) (by decide) : bn 0 6 x_76230) (by decide)) y14_2 x_76230 _ _  _ _ _ I (bn_w b_y14_2 (by decide)) (bn_w (bn_eq ex_76230 (bn_add B_76228 (show bn 1 1 (1 : Int32) from bn_k (by decide)) (by decide))) (by decide)) (bn_w b14_i1 (by decide)) rfl Y (lv_sub hl [1, 2, 3, 0] rfl)
        · refine lv_iload_n hx hb dX12_whom_29 rfl (lv_at hl 2 rfl) ?_
          refine lv_iconst (v := (-1)) hx hb dX12_whom_30 (by decide) ?_
          refine lv_icmp_eq (tgt := 47) hx hb dX12_whom_31 (by decide) (fun c_76231 => ?_) (fun c_76231 => ?_)
          · have B_76232 : bn (-1) (-1) y14_2 := bn_w (bn_eq c_76231 (show bn (-1) (-1) ((-1) : Int32) from bn_k (by decide))) (by decide)
            refine lv_iload_n hx hb dX12_whom_47 rfl (lv_at hl 3 rfl) ?_
            refine lv_istore_n (lv' := [(2, .int y14_3), (0, .ref (ad 0 0)), (1, .int i1), (3, .int y14_3)]) hx hb dX12_whom_48 rfl hl (by decide) rfl (fun ls hl => ?_)
            obtain ⟨x_76234, ex_76234⟩ : ∃ z : Int32, z = y14_3 + 1 := ⟨_, rfl⟩
            refine lv_iinc (v := x_76234) (lv' := [(3, .int x_76234), (2, .int y14_3), (0, .ref (ad 0 0)), (1, .int i1)]) hx hb dX12_whom_49 hl (k := 3) rfl (by rw [ex_76234]; rfl) (by decide) rfl (fun ls hl => ?_)
            refine lv_goto (tgt := 14) hx hb dX12_whom_52 (by decide) ?_
            exact ih14 _ (by rw [← hm14]; exact ms_up (m := 1) ex_76234 (show bn 1 1 (1 : Int32) from bn_k (by decide)) B_76228 (bn_w (bn_eq ex_76234 (bn_add B_76228 (show bn 1 1 (1 : Int32) from bn_k (by decide)) (by decide))) (by decide) : bn 0 6 x_76234) (by decide)) y14_3 x_76234 _ _  _ _ _ I (bn_w B_76228 (by decide)) (bn_w (bn_eq ex_76234 (bn_add B_76228 (show bn 1 1 (1 : Int32) from bn_k (by decide)) (by decide))) (by decide)) (bn_w b14_i1 (by decide)) rfl Y (lv_sub hl [2, 3, 1, 0] rfl)
          · have B_76233 : bn 0 5 y14_2 := bn_w (bn_nel c_76231 b_y14_2 (show bn (-1) (-1) ((-1) : Int32) from bn_k (by decide))) (by decide)
            refine lv_aload_n hx hb dX12_whom_34 rfl (lv_at hl 0 rfl) ?_
            refine lv_iload_n hx hb dX12_whom_35 rfl (lv_at hl 3 rfl) ?_
            refine cVi (As := [.int y14_3]) (rest := []) S Y (x_X12_riskOf (l := l) I hB hX (bn_w B_76228 (by decide))) cw_X12_riskOf km12_387 p_ad_0_0 ok_X12.1 rfl rfl ⟨Nat.le_of_ble_eq_true rfl, Nat.le_of_ble_eq_true rfl⟩ hl.1 rfl (Nat.le_of_ble_eq_true rfl) ⟨Nat.le_of_ble_eq_true rfl, Nat.le_of_ble_eq_true rfl⟩ dX12_whom_36 (fun r_76237 L_76235 f_76236 H locs I Y => ?_)
            refine lv_aload_n hx hb dX12_whom_39 rfl (lv_at hl 0 rfl) ?_
            refine lv_iload_n hx hb dX12_whom_40 rfl (lv_at hl 2 rfl) ?_
            refine cVi (As := [.int y14_2]) (rest := [.int r_76237]) S Y (x_X12_riskOf (l := l) I hB hX (bn_w B_76233 (by decide))) cw_X12_riskOf km12_387 (I.opo (k := 0) (j := 0) (by decide) rfl).choose_spec.1 ok_X12.1 rfl rfl ⟨Nat.le_of_ble_eq_true rfl, Nat.le_of_ble_eq_true rfl⟩ hl.1 rfl (Nat.le_of_ble_eq_true rfl) ⟨Nat.le_of_ble_eq_true rfl, Nat.le_of_ble_eq_true rfl⟩ dX12_whom_41 (fun r_76240 L_76238 f_76239 H locs I Y => ?_)
            refine lv_icmp_ge (tgt := 49) hx hb dX12_whom_44 (by decide) (fun c_76241 => ?_) (fun c_76241 => ?_)
            · obtain ⟨x_76244, ex_76244⟩ : ∃ z : Int32, z = y14_3 + 1 := ⟨_, rfl⟩
              refine lv_iinc (v := x_76244) (lv' := [(3, .int x_76244), (0, .ref (ad 0 0)), (1, .int i1), (2, .int y14_2)]) hx hb dX12_whom_49 hl (k := 3) rfl (by rw [ex_76244]; rfl) (by decide) rfl (fun ls hl => ?_)
              refine lv_goto (tgt := 14) hx hb dX12_whom_52 (by decide) ?_
              exact ih14 _ (by rw [← hm14]; exact ms_up (m := 1) ex_76244 (show bn 1 1 (1 : Int32) from bn_k (by decide)) B_76228 (bn_w (bn_eq ex_76244 (bn_add B_76228 (show bn 1 1 (1 : Int32) from bn_k (by decide)) (by decide))) (by decide) : bn 0 6 x_76244) (by decide)) y14_2 x_76244 _ _  _ _ _ I (bn_w B_76233 (by decide)) (bn_w (bn_eq ex_76244 (bn_add B_76228 (show bn 1 1 (1 : Int32) from bn_k (by decide)) (by decide))) (by decide)) (bn_w b14_i1 (by decide)) rfl Y (lv_sub hl [1, 2, 3, 0] rfl)
            · have B_76242 : bn (-2147483647) 2147483647 r_76240 := bn_w (bn_gtl c_76241 (bn_any r_76240) (bn_any r_76237)) (by decide)
              have B_76243 : bn (-2147483648) 2147483646 r_76237 := bn_w (bn_gtr c_76241 (bn_any r_76240) (bn_any r_76237)) (by decide)
              refine lv_iload_n hx hb dX12_whom_47 rfl (lv_at hl 3 rfl) ?_
              refine lv_istore_n (lv' := [(2, .int y14_3), (0, .ref (ad 0 0)), (1, .int i1), (3, .int y14_3)]) hx hb dX12_whom_48 rfl hl (by decide) rfl (fun ls hl => ?_)
              obtain ⟨x_76245, ex_76245⟩ : ∃ z : Int32, z = y14_3 + 1 := ⟨_, rfl⟩
              refine lv_iinc (v := x_76245) (lv' := [(3, .int x_76245), (2, .int y14_3), (0, .ref (ad 0 0)), (1, .int i1)]) hx hb dX12_whom_49 hl (k := 3) rfl (by rw [ex_76245]; rfl) (by decide) rfl (fun ls hl => ?_)
              refine lv_goto (tgt := 14) hx hb dX12_whom_52 (by decide) ?_
              exact ih14 _ (by rw [← hm14]; exact ms_up (m := 1) ex_76245 (show bn 1 1 (1 : Int32) from bn_k (by decide)) B_76228 (bn_w (bn_eq ex_76245 (bn_add B_76228 (show bn 1 1 (1 : Int32) from bn_k (by decide)) (by decide))) (by decide) : bn 0 6 x_76245) (by decide)) y14_3 x_76245 _ _  _ _ _ I (bn_w B_76228 (by decide)) (bn_w (bn_eq ex_76245 (bn_add B_76228 (show bn 1 1 (1 : Int32) from bn_k (by decide)) (by decide))) (by decide)) (bn_w b14_i1 (by decide)) rfl Y (lv_sub hl [2, 3, 1, 0] rfl)
  refine lv_aload_n hx hb dX12_whom_0 rfl (lv_at hl 0 rfl) ?_
  refine lv_iload_n hx hb dX12_whom_1 rfl (lv_at hl 1 rfl) ?_
  refine cVp (As := [.int i1]) (rest := []) S Y (x_X12_isOne (l := l) I hB) cw_X12_isOne km12_323 (I.opo (k := 0) (j := 0) (by decide) rfl).choose_spec.1 ok_X12.1 rfl rfl ⟨Nat.le_of_ble_eq_true rfl, Nat.le_of_ble_eq_true rfl⟩ hl.1 rfl (Nat.le_of_ble_eq_true rfl) ⟨Nat.le_of_ble_eq_true rfl, Nat.le_of_ble_eq_true rfl⟩ dX12_whom_2 (fun r_76246 H locs er_76246 Y => ?_)
  refine lv_if_ne (tgt := 10) hx hb dX12_whom_5 (by decide) (fun c_76247 => ?_) (fun c_76247 => ?_)
  · have B_76248 : bn 0 5 i1 := bn_w (bn_i (bn_any i1) (er_76246.2 c_76247)) (by decide)
    have B_76249 : bn 1 1 r_76246 := bn_w (bn_nel c_76247 er_76246.1 (show bn 0 0 (0 : Int32) from bn_k (by decide))) (by decide)
    refine lv_iconst (v := (-1)) hx hb dX12_whom_10 (by decide) ?_
    refine lv_istore_n (lv' := [(2, .int (-1)), (0, .ref (ad 0 0)), (1, .int i1)]) hx hb dX12_whom_11 rfl hl (by decide) rfl (fun ls hl => ?_)
    refine lv_iconst (v := 0) hx hb dX12_whom_12 (by decide) ?_
    refine lv_istore_n (lv' := [(3, .int 0), (2, .int (-1)), (0, .ref (ad 0 0)), (1, .int i1)]) hx hb dX12_whom_13 rfl hl (by decide) rfl (fun ls hl => ?_)
    exact J_14 _ (-1) 0 _ _  _ _ _ I (bn_w (show bn (-1) (-1) ((-1) : Int32) from bn_k (by decide)) (by decide)) (bn_w (show bn 0 0 (0 : Int32) from bn_k (by decide)) (by decide)) (bn_w B_76248 (by decide)) rfl Y (lv_sub hl [2, 3, 1, 0] rfl)
  · have B_76250 : bn 0 0 r_76246 := bn_w (bn_eq c_76247 (show bn 0 0 (0 : Int32) from bn_k (by decide))) (by decide)
    refine lv_iconst (v := (-1)) hx hb dX12_whom_8 (by decide) ?_
    exact prI (post := fun r L1 f1 => SH (spM (IA 0 0 14 9999 w) pi (EQ g0) LDa) nnM G ad L1 f1) S Y rfl (by decide) (by decide) hA1 I dX12_whom_9
set_option maxHeartbeats 4000000 in
set_option maxRecDepth 100000 in
theorem x_X12_saw {l : Launch} {G : GG}  {L : List Nat} {f : HF} {ad : Nat → Nat → Nat} {w : WW} {pi : PIT} {g0 : Nat → Int32} {i1 i2 : Int32} (I : SH (spM (IA 0 0 14 9999 w) pi (EQ g0) LDa) nnM G ad L f) (hB : BBp 0 0 14 9999 w) (hX : TX g0) : PMi l yX12_saw cX12_saw 3 .int 2 0 0 G [.ref (ad 0 0), .int i1, .int i2] L f (fun r L1 f1 => SH (spM (IA 0 0 14 9999 w) pi (EQ g0) LDa) nnM G ad L1 f1) := by
  refine PMi.of (post := fun r L1 f1 => SH (spM (IA 0 0 14 9999 w) pi (EQ g0) LDa) nnM G ad L1 f1) (own := RX12) (by decide) rfl (Nat.le_of_ble_eq_true rfl) (fun sz p e s m args below meth c A ls hA1 hname S Y hl => ?_)
  have hx := S.hx
  have hb := S.hb
  have hl : lv_has ls 3 [(0, .ref (ad 0 0)), (1, .int i1), (2, .int i2)] := hl
  refine lv_iload_n hx hb dX12_saw_0 rfl (lv_at hl 1 rfl) ?_
  refine lv_iconst (v := (-1)) hx hb dX12_saw_1 (by decide) ?_
  refine lv_icmp_ne (tgt := 15) hx hb dX12_saw_2 (by decide) (fun c_76479 => ?_) (fun c_76479 => ?_)
  · refine lv_aload_n hx hb dX12_saw_15 rfl (lv_at hl 0 rfl) ?_
    refine lv_iload_n hx hb dX12_saw_16 rfl (lv_at hl 1 rfl) ?_
    refine cVp (As := [.int i1]) (rest := []) S Y (x_X12_isOne (l := l) I hB) cw_X12_isOne km12_323 (I.opo (k := 0) (j := 0) (by decide) rfl).choose_spec.1 ok_X12.1 rfl rfl ⟨Nat.le_of_ble_eq_true rfl, Nat.le_of_ble_eq_true rfl⟩ hl.1 rfl (Nat.le_of_ble_eq_true rfl) ⟨Nat.le_of_ble_eq_true rfl, Nat.le_of_ble_eq_true rfl⟩ dX12_saw_17 (fun r_76481 H locs er_76481 Y => ?_)
    refine lv_if_eq (tgt := 48) hx hb dX12_saw_20 (by decide) (fun c_76482 => ?_) (fun c_76482 => ?_)
    · have B_76483 : bn 0 0 r_76481 := bn_w (bn_eq c_76482 (show bn 0 0 (0 : Int32) from bn_k (by decide))) (by decide)
      refine lv_bipush (v := (-2)) hx hb dX12_saw_48 (by decide) ?_
      exact prI (post := fun r L1 f1 => SH (spM (IA 0 0 14 9999 w) pi (EQ g0) LDa) nnM G ad L1 f1) S Y rfl (by decide) (by decide) hA1 I dX12_saw_50
    · have B_76484 : bn 0 5 i1 := bn_w (bn_i (bn_any i1) (er_76481.2 c_76482)) (by decide)
      have B_76485 : bn 1 1 r_76481 := bn_w (bn_nel c_76482 er_76481.1 (show bn 0 0 (0 : Int32) from bn_k (by decide))) (by decide)
      refine lv_aload_n hx hb dX12_saw_23 rfl (lv_at hl 0 rfl) ?_
      refine lv_iload_n hx hb dX12_saw_24 rfl (lv_at hl 2 rfl) ?_
      refine cVp (As := [.int i2]) (rest := []) S Y (x_X12_isOne (l := l) I hB) cw_X12_isOne km12_323 (I.opo (k := 0) (j := 0) (by decide) rfl).choose_spec.1 ok_X12.1 rfl rfl ⟨Nat.le_of_ble_eq_true rfl, Nat.le_of_ble_eq_true rfl⟩ hl.1 rfl (Nat.le_of_ble_eq_true rfl) ⟨Nat.le_of_ble_eq_true rfl, Nat.le_of_ble_eq_true rfl⟩ dX12_saw_25 (fun r_76486 H locs er_76486 Y => ?_)
      refine lv_if_eq (tgt := 48) hx hb dX12_saw_28 (by decide) (fun c_76487 => ?_) (fun c_76487 => ?_)
      · have B_76488 : bn 0 0 r_76486 := bn_w (bn_eq c_76487 (show bn 0 0 (0 : Int32) from bn_k (by decide))) (by decide)
        refine lv_bipush (v := (-2)) hx hb dX12_saw_48 (by decide) ?_
        exact prI (post := fun r L1 f1 => SH (spM (IA 0 0 14 9999 w) pi (EQ g0) LDa) nnM G ad L1 f1) S Y rfl (by decide) (by decide) hA1 I dX12_saw_50
      · have B_76489 : bn 0 5 i2 := bn_w (bn_i (bn_any i2) (er_76486.2 c_76487)) (by decide)
        have B_76490 : bn 1 1 r_76486 := bn_w (bn_nel c_76487 er_76486.1 (show bn 0 0 (0 : Int32) from bn_k (by decide))) (by decide)
        refine lv_iload_n hx hb dX12_saw_31 rfl (lv_at hl 1 rfl) ?_
        refine lv_iload_n hx hb dX12_saw_32 rfl (lv_at hl 2 rfl) ?_
        refine lv_icmp_eq (tgt := 48) hx hb dX12_saw_33 (by decide) (fun c_76491 => ?_) (fun c_76491 => ?_)
        · refine lv_bipush (v := (-2)) hx hb dX12_saw_48 (by decide) ?_
          exact prI (post := fun r L1 f1 => SH (spM (IA 0 0 14 9999 w) pi (EQ g0) LDa) nnM G ad L1 f1) S Y rfl (by decide) (by decide) hA1 I dX12_saw_50
        · refine lv_aload_n hx hb dX12_saw_36 rfl (lv_at hl 0 rfl) ?_
          obtain ⟨v_76492, v_76494, v_76496, v_76498, v_76500, v_76502, v_76504, v_76506, v_76507, v_76509, v_76511, v_76513, v_76515, v_76517, v_76519, v_76521, v_76523, v_76525, p_ad_0_0, b_76493, b_76495, b_76497, b_76499, b_76501, b_76503, b_76505, b_76508, b_76510, b_76512, b_76514, b_76516, b_76518, b_76520, b_76522, b_76524, b_76526⟩ := opnM_0 (j := 0) I (by decide)
          have p_ad_0_0 : pt L f (ad 0 0) (.inr (12, [.ref (ad 1 0), .ref (ad 2 0), .ref (ad 3 0), .ref (ad 4 0), .int v_76492, .int v_76494, .int v_76496, .int v_76498, .int v_76500, .int v_76502, .int v_76504, .long v_76506, .int v_76507, .int v_76509, .int v_76511, .ref (ad 5 0), .ref (ad 6 0), .int v_76513, .int v_76515, .int v_76517, .int v_76519, .int v_76521, .ref (ad 7 0), .ref (ad 8 0), .ref (ad 9 0), .int v_76523, .ref (ad 10 0), .ref (ad 11 0), .ref (ad 12 0), .ref (ad 13 0), .int v_76525, .ref (ad 14 0)])) := p_ad_0_0
          refine pg_get S Y ok_X12 0 (by decide) kf12_7 (v := .ref (ad 1 0)) p_ad_0_0 rfl dX12_saw_37 ?_
          refine lv_bipush (v := 7) hx hb dX12_saw_40 (by decide) ?_
          obtain ⟨g_76527, p_ad_1_0, o_76528⟩ := I.opi (k := 1) (j := 0) (by decide) rfl
          have p_ad_1_0 : pt L f (ad 1 0) (.inl (G.2 0, 10568, .inl g_76527)) := p_ad_1_0
          obtain ⟨v_76529, ev_76529⟩ : ∃ z, z = g_76527 (7 : Int32).toNatClampNeg := ⟨_, rfl⟩
          refine pg_iald S Y (v := v_76529) p_ad_1_0 (by unfold vp_in; decide) ev_76529.symm dX12_saw_42 ?_
          have bv_76529 : bn 0 8 v_76529 := bn_eq ev_76529 (IA_7 o_76528)
          refine lv_bipush (v := 8) hx hb dX12_saw_43 (by decide) ?_
          refine lv_icmp_ne (tgt := 51) hx hb dX12_saw_45 (by decide) (fun c_76530 => ?_) (fun c_76530 => ?_)
          · have B_76531 : bn 0 7 v_76529 := bn_w (bn_neu c_76530 bv_76529 (show bn 8 8 (8 : Int32) from bn_k (by decide))) (by decide)
            refine lv_aload_n hx hb dX12_saw_51 rfl (lv_at hl 0 rfl) ?_
            refine pg_get S Y ok_X12 0 (by decide) kf12_7 (v := .ref (ad 1 0)) p_ad_0_0 rfl dX12_saw_52 ?_
            refine lv_sipush (v := 176) hx hb dX12_saw_55 (by decide) ?_
            refine lv_iconst (v := 2) hx hb dX12_saw_58 (by decide) ?_
            refine lv_aload_n hx hb dX12_saw_59 rfl (lv_at hl 0 rfl) ?_
            refine pg_get S Y ok_X12 0 (by decide) kf12_7 (v := .ref (ad 1 0)) p_ad_0_0 rfl dX12_saw_60 ?_
            refine lv_bipush (v := 7) hx hb dX12_saw_63 (by decide) ?_
            refine pg_iald S Y (v := v_76529) p_ad_1_0 (by unfold vp_in; decide) ev_76529.symm dX12_saw_65 ?_
            refine lv_imul hx hb dX12_saw_66 ?_
            refine lv_topi (fun x_76533 ex_76533 => ?_)
            refine lv_iadd hx hb dX12_saw_67 ?_
            refine lv_topi (fun x_76534 ex_76534 => ?_)
            refine lv_iload_n hx hb dX12_saw_68 rfl (lv_at hl 1 rfl) ?_
            refine pg_iast S Y p_ad_1_0 (vp_bn (bn_eq ex_76534 (bn_add (show bn 176 176 (176 : Int32) from bn_k (by decide)) (bn_eq ex_76533 (bn_mul (show bn 2 2 (2 : Int32) from bn_k (by decide)) B_76531 (by decide))) (by decide))) (by decide)) dX12_saw_69 (fun f_76536 H locs ef_76536 Y => ?_)
            obtain ⟨g_76535, eg_76535⟩ : ∃ z, z = upd (g_76527) (x_76534 : Int32).toNatClampNeg i1 := ⟨_, rfl⟩
            rw [← eg_76535] at ef_76536
            have p_ad_0_0 := p_ad_0_0.up ef_76536 (I.ne (k := 0) (j := 0) (k' := 1) (j' := 0) (by decide) (by decide) (Or.inl (by decide)))
            have p_ad_1_0 := p_ad_1_0.me ef_76536
            have o_76537 : (IA 0 0 14 9999 w) g_76535 := (by rw [eg_76535]; exact (IA_free o_76528 (fr_of (bn_eq ex_76534 (bn_add (show bn 176 176 (176 : Int32) from bn_k (by decide)) (bn_eq ex_76533 (bn_mul (show bn 2 2 (2 : Int32) from bn_k (by decide)) B_76531 (by decide))) (by decide))) (by decide))))
            have I := I.up (k := 1) (j := 0) (by decide) ef_76536 (okE_a (g := g_76535) o_76537)
            have q_76538 : g_76535 (7 : Int32).toNatClampNeg = v_76529 := by rw [eg_76535]; exact (pk_un (nq_of (bn_eq ex_76534 (bn_add (show bn 176 176 (176 : Int32) from bn_k (by decide)) (bn_eq ex_76533 (bn_mul (show bn 2 2 (2 : Int32) from bn_k (by decide)) B_76531 (by decide))) (by decide))) (by decide))).trans ev_76529.symm
            refine lv_aload_n hx hb dX12_saw_70 rfl (lv_at hl 0 rfl) ?_
            refine pg_get S Y ok_X12 0 (by decide) kf12_7 (v := .ref (ad 1 0)) p_ad_0_0 rfl dX12_saw_71 ?_
            refine lv_sipush (v := 176) hx hb dX12_saw_74 (by decide) ?_
            refine lv_iconst (v := 2) hx hb dX12_saw_77 (by decide) ?_
            refine lv_aload_n hx hb dX12_saw_78 rfl (lv_at hl 0 rfl) ?_
            refine pg_get S Y ok_X12 0 (by decide) kf12_7 (v := .ref (ad 1 0)) p_ad_0_0 rfl dX12_saw_79 ?_
            refine lv_bipush (v := 7) hx hb dX12_saw_82 (by decide) ?_
            refine pg_iald S Y (v := v_76529) p_ad_1_0 (by unfold vp_in; decide) q_76538 dX12_saw_84 ?_
            refine lv_imul hx hb dX12_saw_85 ?_
            refine lv_topi (fun x_76539 ex_76539 => ?_)
            refine lv_iadd hx hb dX12_saw_86 ?_
            refine lv_topi (fun x_76540 ex_76540 => ?_)
            refine lv_iconst (v := 1) hx hb dX12_saw_87 (by decide) ?_
            refine lv_iadd hx hb dX12_saw_88 ?_
            refine lv_topi (fun x_76541 ex_76541 => ?_)
            have B_76542 : bn 177 191 x_76541 := bn_w (bn_eq ex_76541 (bn_add (bn_eq ex_76540 (bn_add (show bn 176 176 (176 : Int32) from bn_k (by decide)) (bn_eq ex_76539 (bn_mul (show bn 2 2 (2 : Int32) from bn_k (by decide)) B_76531 (by decide))) (by decide))) (show bn 1 1 (1 : Int32) from bn_k (by decide)) (by decide))) (by decide)
            refine lv_iload_n hx hb dX12_saw_89 rfl (lv_at hl 2 rfl) ?_
            refine pg_iast S Y p_ad_1_0 (vp_bn B_76542 (by decide)) dX12_saw_90 (fun f_76544 H locs ef_76544 Y => ?_)
            obtain ⟨g_76543, eg_76543⟩ : ∃ z, z = upd (g_76535) (x_76541 : Int32).toNatClampNeg i2 := ⟨_, rfl⟩
            rw [← eg_76543] at ef_76544
            have p_ad_0_0 := p_ad_0_0.up ef_76544 (I.ne (k := 0) (j := 0) (k' := 1) (j' := 0) (by decide) (by decide) (Or.inl (by decide)))
            have p_ad_1_0 := p_ad_1_0.me ef_76544
            have o_76545 : (IA 0 0 14 9999 w) g_76543 := (by rw [eg_76543]; exact (IA_free o_76537 (fr_of B_76542 (by decide))))
            have I := I.up (k := 1) (j := 0) (by decide) ef_76544 (okE_a (g := g_76543) o_76545)
            have q_76546 : g_76543 (7 : Int32).toNatClampNeg = v_76529 := by rw [eg_76543]; exact (pk_un (nq_of B_76542 (by decide))).trans q_76538
            refine lv_aload_n hx hb dX12_saw_91 rfl (lv_at hl 0 rfl) ?_
            refine pg_get S Y ok_X12 0 (by decide) kf12_7 (v := .ref (ad 1 0)) p_ad_0_0 rfl dX12_saw_92 ?_
            refine lv_bipush (v := 7) hx hb dX12_saw_95 (by decide) ?_
            refine lv_dup2_11 hx hb dX12_saw_97 rfl rfl ?_
            refine pg_iald S Y (v := v_76529) p_ad_1_0 (by unfold vp_in; decide) q_76546 dX12_saw_98 ?_
            refine lv_iconst (v := 1) hx hb dX12_saw_99 (by decide) ?_
            refine lv_iadd hx hb dX12_saw_100 ?_
            refine lv_topi (fun x_76547 ex_76547 => ?_)
            refine pg_iast S Y p_ad_1_0 (by unfold vp_in; decide) dX12_saw_101 (fun f_76549 H locs ef_76549 Y => ?_)
            obtain ⟨g_76548, eg_76548⟩ : ∃ z, z = upd (g_76543) (7 : Int32).toNatClampNeg x_76547 := ⟨_, rfl⟩
            rw [← eg_76548] at ef_76549
            have p_ad_0_0 := p_ad_0_0.up ef_76549 (I.ne (k := 0) (j := 0) (k' := 1) (j' := 0) (by decide) (by decide) (Or.inl (by decide)))
            have p_ad_1_0 := p_ad_1_0.me ef_76549
            have o_76550 : (IA 0 0 14 9999 w) g_76548 := (by rw [eg_76548]; exact (IA_s7 o_76545 (bn_w (bn_eq ex_76547 (bn_add B_76531 (show bn 1 1 (1 : Int32) from bn_k (by decide)) (by decide))) (by decide))))
            have I := I.up (k := 1) (j := 0) (by decide) ef_76549 (okE_a (g := g_76548) o_76550)
            have q_76551 : g_76548 (7 : Int32).toNatClampNeg = x_76547 := by rw [eg_76548]; exact pk_us
            refine lv_aload_n hx hb dX12_saw_102 rfl (lv_at hl 0 rfl) ?_
            refine pg_get S Y ok_X12 0 (by decide) kf12_7 (v := .ref (ad 1 0)) p_ad_0_0 rfl dX12_saw_103 ?_
            refine lv_bipush (v := 7) hx hb dX12_saw_106 (by decide) ?_
            refine pg_iald S Y (v := x_76547) p_ad_1_0 (by unfold vp_in; decide) q_76551 dX12_saw_108 ?_
            exact prI (post := fun r L1 f1 => SH (spM (IA 0 0 14 9999 w) pi (EQ g0) LDa) nnM G ad L1 f1) S Y rfl (by decide) (by decide) hA1 I dX12_saw_109
          · have B_76532 : bn 8 8 v_76529 := bn_w (bn_eq c_76530 (show bn 8 8 (8 : Int32) from bn_k (by decide))) (by decide)
            refine lv_bipush (v := (-2)) hx hb dX12_saw_48 (by decide) ?_
            exact prI (post := fun r L1 f1 => SH (spM (IA 0 0 14 9999 w) pi (EQ g0) LDa) nnM G ad L1 f1) S Y rfl (by decide) (by decide) hA1 I dX12_saw_50
  · have B_76480 : bn (-1) (-1) i1 := bn_w (bn_eq c_76479 (show bn (-1) (-1) ((-1) : Int32) from bn_k (by decide))) (by decide)
    refine lv_aload_n hx hb dX12_saw_5 rfl (lv_at hl 0 rfl) ?_
    obtain ⟨v_76552, v_76554, v_76556, v_76558, v_76560, v_76562, v_76564, v_76566, v_76567, v_76569, v_76571, v_76573, v_76575, v_76577, v_76579, v_76581, v_76583, v_76585, p_ad_0_0, b_76553, b_76555, b_76557, b_76559, b_76561, b_76563, b_76565, b_76568, b_76570, b_76572, b_76574, b_76576, b_76578, b_76580, b_76582, b_76584, b_76586⟩ := opnM_0 (j := 0) I (by decide)
    have p_ad_0_0 : pt L f (ad 0 0) (.inr (12, [.ref (ad 1 0), .ref (ad 2 0), .ref (ad 3 0), .ref (ad 4 0), .int v_76552, .int v_76554, .int v_76556, .int v_76558, .int v_76560, .int v_76562, .int v_76564, .long v_76566, .int v_76567, .int v_76569, .int v_76571, .ref (ad 5 0), .ref (ad 6 0), .int v_76573, .int v_76575, .int v_76577, .int v_76579, .int v_76581, .ref (ad 7 0), .ref (ad 8 0), .ref (ad 9 0), .int v_76583, .ref (ad 10 0), .ref (ad 11 0), .ref (ad 12 0), .ref (ad 13 0), .int v_76585, .ref (ad 14 0)])) := p_ad_0_0
    refine pg_get S Y ok_X12 0 (by decide) kf12_7 (v := .ref (ad 1 0)) p_ad_0_0 rfl dX12_saw_6 ?_
    refine lv_bipush (v := 7) hx hb dX12_saw_9 (by decide) ?_
    refine lv_iconst (v := 0) hx hb dX12_saw_11 (by decide) ?_
    obtain ⟨g_76587, p_ad_1_0, o_76588⟩ := I.opi (k := 1) (j := 0) (by decide) rfl
    have p_ad_1_0 : pt L f (ad 1 0) (.inl (G.2 0, 10568, .inl g_76587)) := p_ad_1_0
    refine pg_iast S Y p_ad_1_0 (by unfold vp_in; decide) dX12_saw_12 (fun f_76590 H locs ef_76590 Y => ?_)
    obtain ⟨g_76589, eg_76589⟩ : ∃ z, z = upd (g_76587) (7 : Int32).toNatClampNeg 0 := ⟨_, rfl⟩
    rw [← eg_76589] at ef_76590
    have p_ad_0_0 := p_ad_0_0.up ef_76590 (I.ne (k := 0) (j := 0) (k' := 1) (j' := 0) (by decide) (by decide) (Or.inl (by decide)))
    have p_ad_1_0 := p_ad_1_0.me ef_76590
    have o_76591 : (IA 0 0 14 9999 w) g_76589 := (by rw [eg_76589]; exact (IA_s7 o_76588 (bn_w (show bn 0 0 (0 : Int32) from bn_k (by decide)) (by decide))))
    have I := I.up (k := 1) (j := 0) (by decide) ef_76590 (okE_a (g := g_76589) o_76591)
    have q_76592 : g_76589 (7 : Int32).toNatClampNeg = 0 := by rw [eg_76589]; exact pk_us
    refine lv_iconst (v := 0) hx hb dX12_saw_13 (by decide) ?_
    exact prI (post := fun r L1 f1 => SH (spM (IA 0 0 14 9999 w) pi (EQ g0) LDa) nnM G ad L1 f1) S Y rfl (by decide) (by decide) hA1 I dX12_saw_14
set_option maxHeartbeats 4000000 in
set_option maxRecDepth 100000 in
theorem x_X12_known {l : Launch} {G : GG}  {L : List Nat} {f : HF} {ad : Nat → Nat → Nat} {w : WW} {pi : PIT} {g0 : Nat → Int32} {i1 : Int32} (I : SH (spM (IA 0 0 14 9999 w) pi (EQ g0) LDa) nnM G ad L f) (hB : BBp 0 0 14 9999 w) (hX : TX g0) : PMp l yX12_known cX12_known 2 .int 4 0 0 G [.ref (ad 0 0), .int i1] L f (fun r => True) := by
  refine PMi.of (post := fun r L1 f1 => (True) ∧ L1 = L ∧ f1 = f) (own := RX12) (by decide) rfl (Nat.le_of_ble_eq_true rfl) (fun sz p e s m args below meth c A ls hA1 hname S Y hl => ?_)
  have hx := S.hx
  have hb := S.hb
  have hl : lv_has ls 2 [(0, .ref (ad 0 0)), (1, .int i1)] := hl
  refine lv_aload_n hx hb dX12_known_0 rfl (lv_at hl 0 rfl) ?_
  refine lv_iload_n hx hb dX12_known_1 rfl (lv_at hl 1 rfl) ?_
  refine cVp (As := [.int i1]) (rest := []) S Y (x_X12_isOne (l := l) I hB) cw_X12_isOne km12_323 (I.opo (k := 0) (j := 0) (by decide) rfl).choose_spec.1 ok_X12.1 rfl rfl ⟨Nat.le_of_ble_eq_true rfl, Nat.le_of_ble_eq_true rfl⟩ hl.1 rfl (Nat.le_of_ble_eq_true rfl) ⟨Nat.le_of_ble_eq_true rfl, Nat.le_of_ble_eq_true rfl⟩ dX12_known_2 (fun r_76605 H locs er_76605 Y => ?_)
  refine lv_if_eq (tgt := 16) hx hb dX12_known_5 (by decide) (fun c_76606 => ?_) (fun c_76606 => ?_)
  · have B_76607 : bn 0 0 r_76605 := bn_w (bn_eq c_76606 (show bn 0 0 (0 : Int32) from bn_k (by decide))) (by decide)
    refine lv_iconst (v := (-1)) hx hb dX12_known_16 (by decide) ?_
    exact prI (post := fun r L1 f1 => (True) ∧ L1 = L ∧ f1 = f) S Y rfl (by decide) (by decide) hA1 ⟨trivial, rfl, rfl⟩ dX12_known_17
  · have B_76608 : bn 0 5 i1 := bn_w (bn_i (bn_any i1) (er_76605.2 c_76606)) (by decide)
    have B_76609 : bn 1 1 r_76605 := bn_w (bn_nel c_76606 er_76605.1 (show bn 0 0 (0 : Int32) from bn_k (by decide))) (by decide)
    refine lv_aload_n hx hb dX12_known_8 rfl (lv_at hl 0 rfl) ?_
    refine lv_iload_n hx hb dX12_known_9 rfl (lv_at hl 1 rfl) ?_
    refine cVp (As := [.int i1]) (rest := []) S Y (x_X12_knownBy (l := l) I hB) cw_X12_knownBy km12_437 (I.opo (k := 0) (j := 0) (by decide) rfl).choose_spec.1 ok_X12.1 rfl rfl ⟨Nat.le_of_ble_eq_true rfl, Nat.le_of_ble_eq_true rfl⟩ hl.1 rfl (Nat.le_of_ble_eq_true rfl) ⟨Nat.le_of_ble_eq_true rfl, Nat.le_of_ble_eq_true rfl⟩ dX12_known_10 (fun r_76610 H locs er_76610 Y => ?_)
    refine lv_goto (tgt := 17) hx hb dX12_known_13 (by decide) ?_
    exact prI (post := fun r L1 f1 => (True) ∧ L1 = L ∧ f1 = f) S Y rfl (by decide) (by decide) hA1 ⟨trivial, rfl, rfl⟩ dX12_known_17
set_option maxHeartbeats 4000000 in
set_option maxRecDepth 100000 in
theorem x_X12_fewest {l : Launch} {G : GG}  {L : List Nat} {f : HF} {ad : Nat → Nat → Nat} {w : WW} {pi : PIT} {g0 : Nat → Int32} (I : SH (spM (IA 0 0 14 9999 w) pi (EQ g0) LDa) nnM G ad L f) (hB : BBp 0 0 14 9999 w) (hX : TX g0) : PMp l yX12_fewest cX12_fewest 5 .int 3 0 0 G [.ref (ad 0 0)] L f (fun r => True) := by
  refine PMi.of (post := fun r L1 f1 => (True) ∧ L1 = L ∧ f1 = f) (own := RX12) (by decide) rfl (Nat.le_of_ble_eq_true rfl) (fun sz p e s m args below meth c A ls hA1 hname S Y hl => ?_)
  have hx := S.hx
  have hb := S.hb
  have hl : lv_has ls 5 [(0, .ref (ad 0 0))] := hl
  have J_13 : ∀ (n13 : Nat) (y13_1 y13_2 : Int32) (H : Heap) (locs : List Loc) (ls : Array Slot), (bn 0 63 y13_1) → (bn (-1) 63 y13_2) → ((y13_2.toInt - ((-1) : Int)).toNat = n13) → (DY G A s [] L f H locs) → (lv_has ls 5 [(0, .ref (ad 0 0)), (1, .int y13_1), (2, .int y13_2)]) → W p l e (rmD 3 0 0) s m args below meth c H locs (0) (0) (MQ below (va_Qi (fun r (u : List Nat × HF) => (fun r L1 f1 => (True) ∧ L1 = L ∧ f1 = f) r u.1 u.2) (fun u t => pOut G (va_A (va_pl L f) sz) u.1 u.2 t) (va_A (va_pl L f) sz)) args s 0 0 A) (F0 m 13 ls []) := by
    intro n13
    induction n13 using Nat.strongRecOn with
    | _ n13 ih13 =>
      intro y13_1 y13_2 H locs ls b_y13_1 b_y13_2 hm13 Y hl
      have J_22 : ∀ (n22 : Nat) (y22_3 y22_4 : Int32) (H : Heap) (locs : List Loc) (ls : Array Slot), (bn 0 6 y22_4) → (bn 0 63 y13_2) → (((6 : Int) - y22_4.toInt).toNat = n22) → (DY G A s [] L f H locs) → (lv_has ls 5 [(0, .ref (ad 0 0)), (1, .int y13_1), (2, .int y13_2), (3, .int y22_3), (4, .int y22_4)]) → W p l e (rmD 3 0 0) s m args below meth c H locs (0) (0) (MQ below (va_Qi (fun r (u : List Nat × HF) => (fun r L1 f1 => (True) ∧ L1 = L ∧ f1 = f) r u.1 u.2) (fun u t => pOut G (va_A (va_pl L f) sz) u.1 u.2 t) (va_A (va_pl L f) sz)) args s 0 0 A) (F0 m 22 ls []) := by
        intro n22
        induction n22 using Nat.strongRecOn with
        | _ n22 ih22 =>
          intro y22_3 y22_4 H locs ls b_y22_4 b22_y13_2 hm22 Y hl
          refine lv_iload hx hb dX12_fewest_22 (lv_at hl 4 rfl) ?_
          refine lv_aload_n hx hb dX12_fewest_24 rfl (lv_at hl 0 rfl) ?_
          obtain ⟨v_77200, v_77202, v_77204, v_77206, v_77208, v_77210, v_77212, v_77214, v_77215, v_77217, v_77219, v_77221, v_77223, v_77225, v_77227, v_77229, v_77231, v_77233, p_ad_0_0, b_77201, b_77203, b_77205, b_77207, b_77209, b_77211, b_77213, b_77216, b_77218, b_77220, b_77222, b_77224, b_77226, b_77228, b_77230, b_77232, b_77234⟩ := opnM_0 (j := 0) I (by decide)
          have p_ad_0_0 : pt L f (ad 0 0) (.inr (12, [.ref (ad 1 0), .ref (ad 2 0), .ref (ad 3 0), .ref (ad 4 0), .int v_77200, .int v_77202, .int v_77204, .int v_77206, .int v_77208, .int v_77210, .int v_77212, .long v_77214, .int v_77215, .int v_77217, .int v_77219, .ref (ad 5 0), .ref (ad 6 0), .int v_77221, .int v_77223, .int v_77225, .int v_77227, .int v_77229, .ref (ad 7 0), .ref (ad 8 0), .ref (ad 9 0), .int v_77231, .ref (ad 10 0), .ref (ad 11 0), .ref (ad 12 0), .ref (ad 13 0), .int v_77233, .ref (ad 14 0)])) := p_ad_0_0
          refine pg_get S Y ok_X12 0 (by decide) kf12_7 (v := .ref (ad 1 0)) p_ad_0_0 rfl dX12_fewest_25 ?_
          refine lv_iconst (v := 0) hx hb dX12_fewest_28 (by decide) ?_
          obtain ⟨g_77235, p_ad_1_0, o_77236⟩ := I.opi (k := 1) (j := 0) (by decide) rfl
          have p_ad_1_0 : pt L f (ad 1 0) (.inl (G.2 0, 10568, .inl g_77235)) := p_ad_1_0
          obtain ⟨v_77237, ev_77237⟩ : ∃ z, z = g_77235 (0 : Int32).toNatClampNeg := ⟨_, rfl⟩
          refine pg_iald S Y (v := v_77237) p_ad_1_0 (by unfold vp_in; decide) ev_77237.symm dX12_fewest_29 ?_
          have bv_77237 : bn 0 6 v_77237 := bn_eq ev_77237 (IA_0 o_77236)
          refine lv_icmp_ge (tgt := 62) hx hb dX12_fewest_30 (by decide) (fun c_77238 => ?_) (fun c_77238 => ?_)
          · refine lv_iload_n hx hb dX12_fewest_62 rfl (lv_at hl 3 rfl) ?_
            refine lv_aload_n hx hb dX12_fewest_63 rfl (lv_at hl 0 rfl) ?_
            refine cVp (As := []) (rest := [.int y22_3]) S Y (x_X12_legible (l := l) I hB) cw_X12_legible km12_440 p_ad_0_0 ok_X12.1 rfl rfl ⟨Nat.le_of_ble_eq_true rfl, Nat.le_of_ble_eq_true rfl⟩ hl.1 rfl (Nat.le_of_ble_eq_true rfl) ⟨Nat.le_of_ble_eq_true rfl, Nat.le_of_ble_eq_true rfl⟩ dX12_fewest_64 (fun r_77241 H locs er_77241 Y => ?_)
            refine lv_icmp_ne (tgt := 83) hx hb dX12_fewest_67 (by decide) (fun c_77242 => ?_) (fun c_77242 => ?_)
            · obtain ⟨x_77244, ex_77244⟩ : ∃ z : Int32, z = y13_2 + (-1) := ⟨_, rfl⟩
              refine lv_iinc (v := x_77244) (lv' := [(2, .int x_77244), (0, .ref (ad 0 0)), (1, .int y13_1), (3, .int y22_3), (4, .int y22_4)]) hx hb dX12_fewest_83 hl (k := 2) rfl (by rw [ex_77244]; rfl) (by decide) rfl (fun ls hl => ?_)
              refine lv_goto (tgt := 13) hx hb dX12_fewest_86 (by decide) ?_
              exact ih13 _ (by rw [← hm13]; exact ms_dn (m := (-1)) ex_77244 (show bn (-1) (-1) ((-1) : Int32) from bn_k (by decide)) b22_y13_2 (bn_w (bn_eq ex_77244 (bn_add b22_y13_2 (show bn (-1) (-1) ((-1) : Int32) from bn_k (by decide)) (by decide))) (by decide) : bn (-1) 63 x_77244) (by decide)) y13_1 x_77244  _ _ _  (bn_w b_y13_1 (by decide)) (bn_w (bn_eq ex_77244 (bn_add b22_y13_2 (show bn (-1) (-1) ((-1) : Int32) from bn_k (by decide)) (by decide))) (by decide)) rfl Y (lv_sub hl [1, 2, 0] rfl)
            · have B_77243 : bn 0 16383 y22_3 := bn_w (bn_eq c_77242 er_77241) (by decide)
              refine lv_iload_n hx hb dX12_fewest_70 rfl (lv_at hl 2 rfl) ?_
              refine cSp (As := [.int y13_2]) (rest := []) S Y (x_X12_bits (l := l) ) cw_X12_bits km12_268 rfl ⟨Nat.le_of_ble_eq_true rfl, Nat.le_of_ble_eq_true rfl⟩ hl.1 rfl (Nat.le_of_ble_eq_true rfl) ⟨Nat.le_of_ble_eq_true rfl, Nat.le_of_ble_eq_true rfl⟩ dX12_fewest_71 (fun r_77245 H locs er_77245 Y => ?_)
              refine lv_iload_n hx hb dX12_fewest_74 rfl (lv_at hl 1 rfl) ?_
              refine cSp (As := [.int y13_1]) (rest := [.int r_77245]) S Y (x_X12_bits (l := l) ) cw_X12_bits km12_268 rfl ⟨Nat.le_of_ble_eq_true rfl, Nat.le_of_ble_eq_true rfl⟩ hl.1 rfl (Nat.le_of_ble_eq_true rfl) ⟨Nat.le_of_ble_eq_true rfl, Nat.le_of_ble_eq_true rfl⟩ dX12_fewest_75 (fun r_77246 H locs er_77246 Y => ?_)
              refine lv_icmp_gt (tgt := 83) hx hb dX12_fewest_78 (by decide) (fun c_77247 => ?_) (fun c_77247 => ?_)
              · have B_77248 : bn (-2147483648) 2147483646 r_77246 := bn_w (bn_ltl c_77247 (bn_any r_77246) (bn_any r_77245)) (by decide)
                have B_77249 : bn (-2147483647) 2147483647 r_77245 := bn_w (bn_ltr c_77247 (bn_any r_77246) (bn_any r_77245)) (by decide)
                obtain ⟨x_77250, ex_77250⟩ : ∃ z : Int32, z = y13_2 + (-1) := ⟨_, rfl⟩
                refine lv_iinc (v := x_77250) (lv' := [(2, .int x_77250), (0, .ref (ad 0 0)), (1, .int y13_1), (3, .int y22_3), (4, .int y22_4)]) hx hb dX12_fewest_83 hl (k := 2) rfl (by rw [ex_77250]; rfl) (by decide) rfl (fun ls hl => ?_)
                refine lv_goto (tgt := 13) hx hb dX12_fewest_86 (by decide) ?_
                exact ih13 _ (by rw [← hm13]; exact ms_dn (m := (-1)) ex_77250 (show bn (-1) (-1) ((-1) : Int32) from bn_k (by decide)) b22_y13_2 (bn_w (bn_eq ex_77250 (bn_add b22_y13_2 (show bn (-1) (-1) ((-1) : Int32) from bn_k (by decide)) (by decide))) (by decide) : bn (-1) 63 x_77250) (by decide)) y13_1 x_77250  _ _ _  (bn_w b_y13_1 (by decide)) (bn_w (bn_eq ex_77250 (bn_add b22_y13_2 (show bn (-1) (-1) ((-1) : Int32) from bn_k (by decide)) (by decide))) (by decide)) rfl Y (lv_sub hl [1, 2, 0] rfl)
              · refine lv_iload_n hx hb dX12_fewest_81 rfl (lv_at hl 2 rfl) ?_
                refine lv_istore_n (lv' := [(1, .int y13_2), (0, .ref (ad 0 0)), (2, .int y13_2), (3, .int y22_3), (4, .int y22_4)]) hx hb dX12_fewest_82 rfl hl (by decide) rfl (fun ls hl => ?_)
                obtain ⟨x_77251, ex_77251⟩ : ∃ z : Int32, z = y13_2 + (-1) := ⟨_, rfl⟩
                refine lv_iinc (v := x_77251) (lv' := [(2, .int x_77251), (1, .int y13_2), (0, .ref (ad 0 0)), (3, .int y22_3), (4, .int y22_4)]) hx hb dX12_fewest_83 hl (k := 2) rfl (by rw [ex_77251]; rfl) (by decide) rfl (fun ls hl => ?_)
                refine lv_goto (tgt := 13) hx hb dX12_fewest_86 (by decide) ?_
                exact ih13 _ (by rw [← hm13]; exact ms_dn (m := (-1)) ex_77251 (show bn (-1) (-1) ((-1) : Int32) from bn_k (by decide)) b22_y13_2 (bn_w (bn_eq ex_77251 (bn_add b22_y13_2 (show bn (-1) (-1) ((-1) : Int32) from bn_k (by decide)) (by decide))) (by decide) : bn (-1) 63 x_77251) (by decide)) y13_2 x_77251  _ _ _  (bn_w b22_y13_2 (by decide)) (bn_w (bn_eq ex_77251 (bn_add b22_y13_2 (show bn (-1) (-1) ((-1) : Int32) from bn_k (by decide)) (by decide))) (by decide)) rfl Y (lv_sub hl [2, 1, 0] rfl)
          · have B_77239 : bn 1 6 v_77237 := bn_w (bn_gtl c_77238 bv_77237 b_y22_4) (by decide)
            have B_77240 : bn 0 5 y22_4 := bn_w (bn_gtr c_77238 bv_77237 b_y22_4) (by decide)
            refine lv_iload_n hx hb dX12_fewest_33 rfl (lv_at hl 3 rfl) ?_
            refine lv_iload_n hx hb dX12_fewest_34 rfl (lv_at hl 2 rfl) ?_
            refine lv_iload hx hb dX12_fewest_35 (lv_at hl 4 rfl) ?_
            refine cSp (As := [.int y13_2, .int y22_4]) (rest := [.int y22_3]) S Y (x_X12_has (l := l) ) cw_X12_has km12_244 rfl ⟨Nat.le_of_ble_eq_true rfl, Nat.le_of_ble_eq_true rfl⟩ hl.1 rfl (Nat.le_of_ble_eq_true rfl) ⟨Nat.le_of_ble_eq_true rfl, Nat.le_of_ble_eq_true rfl⟩ dX12_fewest_37 (fun r_77252 H locs er_77252 Y => ?_)
            refine lv_if_eq (tgt := 53) hx hb dX12_fewest_40 (by decide) (fun c_77253 => ?_) (fun c_77253 => ?_)
            · have B_77254 : bn 0 0 r_77252 := bn_w (bn_eq c_77253 (show bn 0 0 (0 : Int32) from bn_k (by decide))) (by decide)
              refine lv_iconst (v := 0) hx hb dX12_fewest_53 (by decide) ?_
              refine lv_ior hx hb dX12_fewest_54 ?_
              refine lv_topi (fun x_77256 ex_77256 => ?_)
              refine lv_istore_n (lv' := [(3, .int x_77256), (0, .ref (ad 0 0)), (1, .int y13_1), (2, .int y13_2), (4, .int y22_4)]) hx hb dX12_fewest_55 rfl hl (by decide) rfl (fun ls hl => ?_)
              obtain ⟨x_77257, ex_77257⟩ : ∃ z : Int32, z = y22_4 + 1 := ⟨_, rfl⟩
              refine lv_iinc (v := x_77257) (lv' := [(4, .int x_77257), (3, .int x_77256), (0, .ref (ad 0 0)), (1, .int y13_1), (2, .int y13_2)]) hx hb dX12_fewest_56 hl (k := 4) rfl (by rw [ex_77257]; rfl) (by decide) rfl (fun ls hl => ?_)
              refine lv_goto (tgt := 22) hx hb dX12_fewest_59 (by decide) ?_
              exact ih22 _ (by rw [← hm22]; exact ms_up (m := 1) ex_77257 (show bn 1 1 (1 : Int32) from bn_k (by decide)) B_77240 (bn_w (bn_eq ex_77257 (bn_add B_77240 (show bn 1 1 (1 : Int32) from bn_k (by decide)) (by decide))) (by decide) : bn 0 6 x_77257) (by decide)) x_77256 x_77257  _ _ _  (bn_w (bn_eq ex_77257 (bn_add B_77240 (show bn 1 1 (1 : Int32) from bn_k (by decide)) (by decide))) (by decide)) (bn_w b22_y13_2 (by decide)) rfl Y (lv_sub hl [2, 3, 4, 1, 0] rfl)
            · have B_77255 : bn 1 1 r_77252 := bn_w (bn_nel c_77253 er_77252 (show bn 0 0 (0 : Int32) from bn_k (by decide))) (by decide)
              refine lv_aload_n hx hb dX12_fewest_43 rfl (lv_at hl 0 rfl) ?_
              refine pg_get S Y ok_X12 31 (by decide) kf12_62 (v := .ref (ad 14 0)) p_ad_0_0 rfl dX12_fewest_44 ?_
              refine lv_iload hx hb dX12_fewest_47 (lv_at hl 4 rfl) ?_
              obtain ⟨g_77258, p_ad_14_0, o_77259⟩ := I.opi (k := 14) (j := 0) (by decide) rfl
              have p_ad_14_0 : pt L f (ad 14 0) (.inl (G.2 0, 6, .inl g_77258)) := p_ad_14_0
              obtain ⟨v_77260, ev_77260⟩ : ∃ z, z = g_77258 (y22_4 : Int32).toNatClampNeg := ⟨_, rfl⟩
              refine pg_iald S Y (v := v_77260) p_ad_14_0 (vp_bn B_77240 (by decide)) ev_77260.symm dX12_fewest_49 ?_
              refine lv_goto (tgt := 54) hx hb dX12_fewest_50 (by decide) ?_
              refine lv_ior hx hb dX12_fewest_54 ?_
              refine lv_topi (fun x_77261 ex_77261 => ?_)
              refine lv_istore_n (lv' := [(3, .int x_77261), (0, .ref (ad 0 0)), (1, .int y13_1), (2, .int y13_2), (4, .int y22_4)]) hx hb dX12_fewest_55 rfl hl (by decide) rfl (fun ls hl => ?_)
              obtain ⟨x_77262, ex_77262⟩ : ∃ z : Int32, z = y22_4 + 1 := ⟨_, rfl⟩
              refine lv_iinc (v := x_77262) (lv' := [(4, .int x_77262), (3, .int x_77261), (0, .ref (ad 0 0)), (1, .int y13_1), (2, .int y13_2)]) hx hb dX12_fewest_56 hl (k := 4) rfl (by rw [ex_77262]; rfl) (by decide) rfl (fun ls hl => ?_)
              refine lv_goto (tgt := 22) hx hb dX12_fewest_59 (by decide) ?_
              exact ih22 _ (by rw [← hm22]; exact ms_up (m := 1) ex_77262 (show bn 1 1 (1 : Int32) from bn_k (by decide)) B_77240 (bn_w (bn_eq ex_77262 (bn_add B_77240 (show bn 1 1 (1 : Int32) from bn_k (by decide)) (by decide))) (by decide) : bn 0 6 x_77262) (by decide)) x_77261 x_77262  _ _ _  (bn_w (bn_eq ex_77262 (bn_add B_77240 (show bn 1 1 (1 : Int32) from bn_k (by decide)) (by decide))) (by decide)) (bn_w b22_y13_2 (by decide)) rfl Y (lv_sub hl [2, 3, 4, 1, 0] rfl)
      refine lv_iload_n hx hb dX12_fewest_13 rfl (lv_at hl 2 rfl) ?_
      refine lv_if_lt (tgt := 89) hx hb dX12_fewest_14 (by decide) (fun c_77263 => ?_) (fun c_77263 => ?_)
      · have B_77264 : bn (-1) (-1) y13_2 := bn_w (bn_ltl c_77263 b_y13_2 (show bn 0 0 (0 : Int32) from bn_k (by decide))) (by decide)
        refine lv_iload_n hx hb dX12_fewest_89 rfl (lv_at hl 1 rfl) ?_
        exact prI (post := fun r L1 f1 => (True) ∧ L1 = L ∧ f1 = f) S Y rfl (by decide) (by decide) hA1 ⟨trivial, rfl, rfl⟩ dX12_fewest_90
      · have B_77265 : bn 0 63 y13_2 := bn_w (bn_gel c_77263 b_y13_2 (show bn 0 0 (0 : Int32) from bn_k (by decide))) (by decide)
        refine lv_iconst (v := 0) hx hb dX12_fewest_17 (by decide) ?_
        refine lv_istore_n (lv' := [(3, .int 0), (0, .ref (ad 0 0)), (1, .int y13_1), (2, .int y13_2)]) hx hb dX12_fewest_18 rfl hl (by decide) rfl (fun ls hl => ?_)
        refine lv_iconst (v := 0) hx hb dX12_fewest_19 (by decide) ?_
        refine lv_istore (lv' := [(4, .int 0), (3, .int 0), (0, .ref (ad 0 0)), (1, .int y13_1), (2, .int y13_2)]) hx hb dX12_fewest_20 hl (by decide) rfl (fun ls hl => ?_)
        exact J_22 _ 0 0  _ _ _  (bn_w (show bn 0 0 (0 : Int32) from bn_k (by decide)) (by decide)) (bn_w B_77265 (by decide)) rfl Y (lv_sub hl [2, 3, 4, 1, 0] rfl)
  refine lv_iconst (v := 1) hx hb dX12_fewest_0 (by decide) ?_
  refine lv_aload_n hx hb dX12_fewest_1 rfl (lv_at hl 0 rfl) ?_
  obtain ⟨v_77266, v_77268, v_77270, v_77272, v_77274, v_77276, v_77278, v_77280, v_77281, v_77283, v_77285, v_77287, v_77289, v_77291, v_77293, v_77295, v_77297, v_77299, p_ad_0_0, b_77267, b_77269, b_77271, b_77273, b_77275, b_77277, b_77279, b_77282, b_77284, b_77286, b_77288, b_77290, b_77292, b_77294, b_77296, b_77298, b_77300⟩ := opnM_0 (j := 0) I (by decide)
  have p_ad_0_0 : pt L f (ad 0 0) (.inr (12, [.ref (ad 1 0), .ref (ad 2 0), .ref (ad 3 0), .ref (ad 4 0), .int v_77266, .int v_77268, .int v_77270, .int v_77272, .int v_77274, .int v_77276, .int v_77278, .long v_77280, .int v_77281, .int v_77283, .int v_77285, .ref (ad 5 0), .ref (ad 6 0), .int v_77287, .int v_77289, .int v_77291, .int v_77293, .int v_77295, .ref (ad 7 0), .ref (ad 8 0), .ref (ad 9 0), .int v_77297, .ref (ad 10 0), .ref (ad 11 0), .ref (ad 12 0), .ref (ad 13 0), .int v_77299, .ref (ad 14 0)])) := p_ad_0_0
  refine pg_get S Y ok_X12 0 (by decide) kf12_7 (v := .ref (ad 1 0)) p_ad_0_0 rfl dX12_fewest_2 ?_
  refine lv_iconst (v := 0) hx hb dX12_fewest_5 (by decide) ?_
  obtain ⟨g_77301, p_ad_1_0, o_77302⟩ := I.opi (k := 1) (j := 0) (by decide) rfl
  have p_ad_1_0 : pt L f (ad 1 0) (.inl (G.2 0, 10568, .inl g_77301)) := p_ad_1_0
  obtain ⟨v_77303, ev_77303⟩ : ∃ z, z = g_77301 (0 : Int32).toNatClampNeg := ⟨_, rfl⟩
  refine pg_iald S Y (v := v_77303) p_ad_1_0 (by unfold vp_in; decide) ev_77303.symm dX12_fewest_6 ?_
  have bv_77303 : bn 0 6 v_77303 := bn_eq ev_77303 (IA_0 o_77302)
  refine lv_ishl hx hb dX12_fewest_7 ?_
  refine lv_topi (fun x_77304 ex_77304 => ?_)
  refine lv_iconst (v := 1) hx hb dX12_fewest_8 (by decide) ?_
  refine lv_isub hx hb dX12_fewest_9 ?_
  refine lv_topi (fun x_77305 ex_77305 => ?_)
  refine lv_istore_n (lv' := [(1, .int x_77305), (0, .ref (ad 0 0))]) hx hb dX12_fewest_10 rfl hl (by decide) rfl (fun ls hl => ?_)
  refine lv_iload_n hx hb dX12_fewest_11 rfl (lv_at hl 0 rfl) ?_
  refine lv_istore_n (lv' := [(2, .int x_77305), (1, .int x_77305), (0, .ref (ad 0 0))]) hx hb dX12_fewest_12 rfl hl (by decide) rfl (fun ls hl => ?_)
  exact J_13 _ x_77305 x_77305  _ _ _  (bn_w (bn_eq ex_77305 (bn_sub (bn_eq ex_77304 (bn_shl (n := 6) (bn_w bv_77303 (by decide) : bn 0 6 v_77303) (by decide) (by decide))) (show bn 1 1 (1 : Int32) from bn_k (by decide)) (by decide))) (by decide)) (bn_w (bn_eq ex_77305 (bn_sub (bn_eq ex_77304 (bn_shl (n := 6) (bn_w bv_77303 (by decide) : bn 0 6 v_77303) (by decide) (by decide))) (show bn 1 1 (1 : Int32) from bn_k (by decide)) (by decide))) (by decide)) rfl Y (lv_sub hl [2, 1, 0] rfl)
set_option maxHeartbeats 4000000 in
set_option maxRecDepth 100000 in
theorem x_X12_allSeen {l : Launch} {G : GG}  {L : List Nat} {f : HF} {ad : Nat → Nat → Nat} {w : WW} {pi : PIT} {g0 : Nat → Int32} (I : SH (spM (IA 0 0 14 9999 w) pi (EQ g0) LDa) nnM G ad L f) (hB : BBp 0 0 14 9999 w) (hX : TX g0) : PMi l yX12_allSeen cX12_allSeen 2 .int 4 0 0 G [.ref (ad 0 0)] L f (fun r L1 f1 => SH (spM (IA 0 0 14 9999 w) pi (EQ g0) LDa) nnM G ad L1 f1) := by
  refine PMi.of (post := fun r L1 f1 => SH (spM (IA 0 0 14 9999 w) pi (EQ g0) LDa) nnM G ad L1 f1) (own := RX12) (by decide) rfl (Nat.le_of_ble_eq_true rfl) (fun sz p e s m args below meth c A ls hA1 hname S Y hl => ?_)
  have hx := S.hx
  have hb := S.hb
  have hl : lv_has ls 2 [(0, .ref (ad 0 0))] := hl
  have J_2 : ∀ (n2 : Nat) (y2_1 : Int32) (L_2 : List Nat) (f_2 : HF) (H : Heap) (locs : List Loc) (ls : Array Slot), (SH (spM (IA 0 0 14 9999 w) pi (EQ g0) LDa) nnM G ad L_2 f_2) → (bn 0 6 y2_1) → (((6 : Int) - y2_1.toInt).toNat = n2) → (DY G A s [] L_2 f_2 H locs) → (lv_has ls 2 [(0, .ref (ad 0 0)), (1, .int y2_1)]) → W p l e (rmD 4 0 0) s m args below meth c H locs (0) (0) (MQ below (va_Qi (fun r (u : List Nat × HF) => (fun r L1 f1 => SH (spM (IA 0 0 14 9999 w) pi (EQ g0) LDa) nnM G ad L1 f1) r u.1 u.2) (fun u t => pOut G (va_A (va_pl L f) sz) u.1 u.2 t) (va_A (va_pl L f) sz)) args s 0 0 A) (F0 m 2 ls []) := by
    intro n2
    induction n2 using Nat.strongRecOn with
    | _ n2 ih2 =>
      intro y2_1 L_2 f_2 H locs ls I b_y2_1 hm2 Y hl
      refine lv_iload_n hx hb dX12_allSeen_2 rfl (lv_at hl 1 rfl) ?_
      refine lv_aload_n hx hb dX12_allSeen_3 rfl (lv_at hl 0 rfl) ?_
      obtain ⟨v_77698, v_77700, v_77702, v_77704, v_77706, v_77708, v_77710, v_77712, v_77713, v_77715, v_77717, v_77719, v_77721, v_77723, v_77725, v_77727, v_77729, v_77731, p_ad_0_0, b_77699, b_77701, b_77703, b_77705, b_77707, b_77709, b_77711, b_77714, b_77716, b_77718, b_77720, b_77722, b_77724, b_77726, b_77728, b_77730, b_77732⟩ := opnM_0 (j := 0) I (by decide)
      have p_ad_0_0 : pt L_2 f_2 (ad 0 0) (.inr (12, [.ref (ad 1 0), .ref (ad 2 0), .ref (ad 3 0), .ref (ad 4 0), .int v_77698, .int v_77700, .int v_77702, .int v_77704, .int v_77706, .int v_77708, .int v_77710, .long v_77712, .int v_77713, .int v_77715, .int v_77717, .ref (ad 5 0), .ref (ad 6 0), .int v_77719, .int v_77721, .int v_77723, .int v_77725, .int v_77727, .ref (ad 7 0), .ref (ad 8 0), .ref (ad 9 0), .int v_77729, .ref (ad 10 0), .ref (ad 11 0), .ref (ad 12 0), .ref (ad 13 0), .int v_77731, .ref (ad 14 0)])) := p_ad_0_0
      refine pg_get S Y ok_X12 0 (by decide) kf12_7 (v := .ref (ad 1 0)) p_ad_0_0 rfl dX12_allSeen_4 ?_
      refine lv_iconst (v := 0) hx hb dX12_allSeen_7 (by decide) ?_
      obtain ⟨g_77733, p_ad_1_0, o_77734⟩ := I.opi (k := 1) (j := 0) (by decide) rfl
      have p_ad_1_0 : pt L_2 f_2 (ad 1 0) (.inl (G.2 0, 10568, .inl g_77733)) := p_ad_1_0
      obtain ⟨v_77735, ev_77735⟩ : ∃ z, z = g_77733 (0 : Int32).toNatClampNeg := ⟨_, rfl⟩
      refine pg_iald S Y (v := v_77735) p_ad_1_0 (by unfold vp_in; decide) ev_77735.symm dX12_allSeen_8 ?_
      have bv_77735 : bn 0 6 v_77735 := bn_eq ev_77735 (IA_0 o_77734)
      refine lv_icmp_ge (tgt := 29) hx hb dX12_allSeen_9 (by decide) (fun c_77736 => ?_) (fun c_77736 => ?_)
      · refine lv_aload_n hx hb dX12_allSeen_29 rfl (lv_at hl 0 rfl) ?_
        refine cVp (As := []) (rest := []) S Y (x_X12_fewest (l := l) I hB hX) cw_X12_fewest km12_443 p_ad_0_0 ok_X12.1 rfl rfl ⟨Nat.le_of_ble_eq_true rfl, Nat.le_of_ble_eq_true rfl⟩ hl.1 rfl (Nat.le_of_ble_eq_true rfl) ⟨Nat.le_of_ble_eq_true rfl, Nat.le_of_ble_eq_true rfl⟩ dX12_allSeen_30 (fun r_77739 H locs er_77739 Y => ?_)
        exact prI (post := fun r L1 f1 => SH (spM (IA 0 0 14 9999 w) pi (EQ g0) LDa) nnM G ad L1 f1) S Y rfl (by decide) (by decide) hA1 I dX12_allSeen_33
      · have B_77737 : bn 1 6 v_77735 := bn_w (bn_gtl c_77736 bv_77735 b_y2_1) (by decide)
        have B_77738 : bn 0 5 y2_1 := bn_w (bn_gtr c_77736 bv_77735 b_y2_1) (by decide)
        refine lv_aload_n hx hb dX12_allSeen_12 rfl (lv_at hl 0 rfl) ?_
        refine pg_get S Y ok_X12 31 (by decide) kf12_62 (v := .ref (ad 14 0)) p_ad_0_0 rfl dX12_allSeen_13 ?_
        refine lv_iload_n hx hb dX12_allSeen_16 rfl (lv_at hl 1 rfl) ?_
        refine lv_aload_n hx hb dX12_allSeen_17 rfl (lv_at hl 0 rfl) ?_
        refine lv_iload_n hx hb dX12_allSeen_18 rfl (lv_at hl 1 rfl) ?_
        refine cVp (As := [.int y2_1]) (rest := [.int y2_1, .ref (ad 14 0)]) S Y (x_X12_ownOf (l := l) I hB) cw_X12_ownOf km12_434 p_ad_0_0 ok_X12.1 rfl rfl ⟨Nat.le_of_ble_eq_true rfl, Nat.le_of_ble_eq_true rfl⟩ hl.1 rfl (Nat.le_of_ble_eq_true rfl) ⟨Nat.le_of_ble_eq_true rfl, Nat.le_of_ble_eq_true rfl⟩ dX12_allSeen_19 (fun r_77740 H locs er_77740 Y => ?_)
        obtain ⟨g_77741, p_ad_14_0, o_77742⟩ := I.opi (k := 14) (j := 0) (by decide) rfl
        have p_ad_14_0 : pt L_2 f_2 (ad 14 0) (.inl (G.2 0, 6, .inl g_77741)) := p_ad_14_0
        refine pg_iast S Y p_ad_14_0 (vp_bn B_77738 (by decide)) dX12_allSeen_22 (fun f_77744 H locs ef_77744 Y => ?_)
        obtain ⟨g_77743, eg_77743⟩ : ∃ z, z = upd (g_77741) (y2_1 : Int32).toNatClampNeg r_77740 := ⟨_, rfl⟩
        rw [← eg_77743] at ef_77744
        have p_ad_0_0 := p_ad_0_0.up ef_77744 (I.ne (k := 0) (j := 0) (k' := 14) (j' := 0) (by decide) (by decide) (Or.inl (by decide)))
        have p_ad_1_0 := p_ad_1_0.up ef_77744 (I.ne (k := 1) (j := 0) (k' := 14) (j' := 0) (by decide) (by decide) (Or.inl (by decide)))
        have p_ad_14_0 := p_ad_14_0.me ef_77744
        have o_77745 : True := trivial
        have I := I.up (k := 14) (j := 0) (by decide) ef_77744 (okE_a (g := g_77743) o_77745)
        obtain ⟨x_77746, ex_77746⟩ : ∃ z : Int32, z = y2_1 + 1 := ⟨_, rfl⟩
        refine lv_iinc (v := x_77746) (lv' := [(1, .int x_77746), (0, .ref (ad 0 0))]) hx hb dX12_allSeen_23 hl (k := 1) rfl (by rw [ex_77746]; rfl) (by decide) rfl (fun ls hl => ?_)
        refine lv_goto (tgt := 2) hx hb dX12_allSeen_26 (by decide) ?_
        exact ih2 _ (by rw [← hm2]; exact ms_up (m := 1) ex_77746 (show bn 1 1 (1 : Int32) from bn_k (by decide)) B_77738 (bn_w (bn_eq ex_77746 (bn_add B_77738 (show bn 1 1 (1 : Int32) from bn_k (by decide)) (by decide))) (by decide) : bn 0 6 x_77746) (by decide)) x_77746 _ _  _ _ _ I (bn_w (bn_eq ex_77746 (bn_add B_77738 (show bn 1 1 (1 : Int32) from bn_k (by decide)) (by decide))) (by decide)) rfl Y (lv_sub hl [1, 0] rfl)
  refine lv_iconst (v := 0) hx hb dX12_allSeen_0 (by decide) ?_
  refine lv_istore_n (lv' := [(1, .int 0), (0, .ref (ad 0 0))]) hx hb dX12_allSeen_1 rfl hl (by decide) rfl (fun ls hl => ?_)
  exact J_2 _ 0 _ _  _ _ _ I (bn_w (show bn 0 0 (0 : Int32) from bn_k (by decide)) (by decide)) rfl Y (lv_sub hl [1, 0] rfl)
set_option maxHeartbeats 4000000 in
set_option maxRecDepth 100000 in
theorem x_X12_together {l : Launch} {G : GG}  {L : List Nat} {f : HF} {ad : Nat → Nat → Nat} {w : WW} {pi : PIT} {g0 : Nat → Int32} (I : SH (spM (IA 0 0 14 9999 w) pi (EQ g0) LDa) nnM G ad L f) (hB : BBp 0 0 14 9999 w) (hX : TX g0) : PMi l yX12_together cX12_together 2 .int 4 0 0 G [.ref (ad 0 0)] L f (fun r L1 f1 => SH (spM (IA 0 0 14 9999 w) pi (EQ g0) LDa) nnM G ad L1 f1) := by
  refine PMi.of (post := fun r L1 f1 => SH (spM (IA 0 0 14 9999 w) pi (EQ g0) LDa) nnM G ad L1 f1) (own := RX12) (by decide) rfl (Nat.le_of_ble_eq_true rfl) (fun sz p e s m args below meth c A ls hA1 hname S Y hl => ?_)
  have hx := S.hx
  have hb := S.hb
  have hl : lv_has ls 2 [(0, .ref (ad 0 0))] := hl
  have J_2 : ∀ (n2 : Nat) (y2_1 : Int32) (L_2 : List Nat) (f_2 : HF) (H : Heap) (locs : List Loc) (ls : Array Slot), (SH (spM (IA 0 0 14 9999 w) pi (EQ g0) LDa) nnM G ad L_2 f_2) → (bn 0 6 y2_1) → (((6 : Int) - y2_1.toInt).toNat = n2) → (DY G A s [] L_2 f_2 H locs) → (lv_has ls 2 [(0, .ref (ad 0 0)), (1, .int y2_1)]) → W p l e (rmD 4 0 0) s m args below meth c H locs (0) (0) (MQ below (va_Qi (fun r (u : List Nat × HF) => (fun r L1 f1 => SH (spM (IA 0 0 14 9999 w) pi (EQ g0) LDa) nnM G ad L1 f1) r u.1 u.2) (fun u t => pOut G (va_A (va_pl L f) sz) u.1 u.2 t) (va_A (va_pl L f) sz)) args s 0 0 A) (F0 m 2 ls []) := by
    intro n2
    induction n2 using Nat.strongRecOn with
    | _ n2 ih2 =>
      intro y2_1 L_2 f_2 H locs ls I b_y2_1 hm2 Y hl
      refine lv_iload_n hx hb dX12_together_2 rfl (lv_at hl 1 rfl) ?_
      refine lv_aload_n hx hb dX12_together_3 rfl (lv_at hl 0 rfl) ?_
      obtain ⟨v_78139, v_78141, v_78143, v_78145, v_78147, v_78149, v_78151, v_78153, v_78154, v_78156, v_78158, v_78160, v_78162, v_78164, v_78166, v_78168, v_78170, v_78172, p_ad_0_0, b_78140, b_78142, b_78144, b_78146, b_78148, b_78150, b_78152, b_78155, b_78157, b_78159, b_78161, b_78163, b_78165, b_78167, b_78169, b_78171, b_78173⟩ := opnM_0 (j := 0) I (by decide)
      have p_ad_0_0 : pt L_2 f_2 (ad 0 0) (.inr (12, [.ref (ad 1 0), .ref (ad 2 0), .ref (ad 3 0), .ref (ad 4 0), .int v_78139, .int v_78141, .int v_78143, .int v_78145, .int v_78147, .int v_78149, .int v_78151, .long v_78153, .int v_78154, .int v_78156, .int v_78158, .ref (ad 5 0), .ref (ad 6 0), .int v_78160, .int v_78162, .int v_78164, .int v_78166, .int v_78168, .ref (ad 7 0), .ref (ad 8 0), .ref (ad 9 0), .int v_78170, .ref (ad 10 0), .ref (ad 11 0), .ref (ad 12 0), .ref (ad 13 0), .int v_78172, .ref (ad 14 0)])) := p_ad_0_0
      refine pg_get S Y ok_X12 0 (by decide) kf12_7 (v := .ref (ad 1 0)) p_ad_0_0 rfl dX12_together_4 ?_
      refine lv_iconst (v := 0) hx hb dX12_together_7 (by decide) ?_
      obtain ⟨g_78174, p_ad_1_0, o_78175⟩ := I.opi (k := 1) (j := 0) (by decide) rfl
      have p_ad_1_0 : pt L_2 f_2 (ad 1 0) (.inl (G.2 0, 10568, .inl g_78174)) := p_ad_1_0
      obtain ⟨v_78176, ev_78176⟩ : ∃ z, z = g_78174 (0 : Int32).toNatClampNeg := ⟨_, rfl⟩
      refine pg_iald S Y (v := v_78176) p_ad_1_0 (by unfold vp_in; decide) ev_78176.symm dX12_together_8 ?_
      have bv_78176 : bn 0 6 v_78176 := bn_eq ev_78176 (IA_0 o_78175)
      refine lv_icmp_ge (tgt := 29) hx hb dX12_together_9 (by decide) (fun c_78177 => ?_) (fun c_78177 => ?_)
      · refine lv_aload_n hx hb dX12_together_29 rfl (lv_at hl 0 rfl) ?_
        refine cVp (As := []) (rest := []) S Y (x_X12_fewest (l := l) I hB hX) cw_X12_fewest km12_443 p_ad_0_0 ok_X12.1 rfl rfl ⟨Nat.le_of_ble_eq_true rfl, Nat.le_of_ble_eq_true rfl⟩ hl.1 rfl (Nat.le_of_ble_eq_true rfl) ⟨Nat.le_of_ble_eq_true rfl, Nat.le_of_ble_eq_true rfl⟩ dX12_together_30 (fun r_78180 H locs er_78180 Y => ?_)
        exact prI (post := fun r L1 f1 => SH (spM (IA 0 0 14 9999 w) pi (EQ g0) LDa) nnM G ad L1 f1) S Y rfl (by decide) (by decide) hA1 I dX12_together_33
      · have B_78178 : bn 1 6 v_78176 := bn_w (bn_gtl c_78177 bv_78176 b_y2_1) (by decide)
        have B_78179 : bn 0 5 y2_1 := bn_w (bn_gtr c_78177 bv_78176 b_y2_1) (by decide)
        refine lv_aload_n hx hb dX12_together_12 rfl (lv_at hl 0 rfl) ?_
        refine pg_get S Y ok_X12 31 (by decide) kf12_62 (v := .ref (ad 14 0)) p_ad_0_0 rfl dX12_together_13 ?_
        refine lv_iload_n hx hb dX12_together_16 rfl (lv_at hl 1 rfl) ?_
        refine lv_aload_n hx hb dX12_together_17 rfl (lv_at hl 0 rfl) ?_
        refine lv_iload_n hx hb dX12_together_18 rfl (lv_at hl 1 rfl) ?_
        refine cVp (As := [.int y2_1]) (rest := [.int y2_1, .ref (ad 14 0)]) S Y (x_X12_knownBy (l := l) I hB) cw_X12_knownBy km12_437 p_ad_0_0 ok_X12.1 rfl rfl ⟨Nat.le_of_ble_eq_true rfl, Nat.le_of_ble_eq_true rfl⟩ hl.1 rfl (Nat.le_of_ble_eq_true rfl) ⟨Nat.le_of_ble_eq_true rfl, Nat.le_of_ble_eq_true rfl⟩ dX12_together_19 (fun r_78181 H locs er_78181 Y => ?_)
        obtain ⟨g_78182, p_ad_14_0, o_78183⟩ := I.opi (k := 14) (j := 0) (by decide) rfl
        have p_ad_14_0 : pt L_2 f_2 (ad 14 0) (.inl (G.2 0, 6, .inl g_78182)) := p_ad_14_0
        refine pg_iast S Y p_ad_14_0 (vp_bn B_78179 (by decide)) dX12_together_22 (fun f_78185 H locs ef_78185 Y => ?_)
        obtain ⟨g_78184, eg_78184⟩ : ∃ z, z = upd (g_78182) (y2_1 : Int32).toNatClampNeg r_78181 := ⟨_, rfl⟩
        rw [← eg_78184] at ef_78185
        have p_ad_0_0 := p_ad_0_0.up ef_78185 (I.ne (k := 0) (j := 0) (k' := 14) (j' := 0) (by decide) (by decide) (Or.inl (by decide)))
        have p_ad_1_0 := p_ad_1_0.up ef_78185 (I.ne (k := 1) (j := 0) (k' := 14) (j' := 0) (by decide) (by decide) (Or.inl (by decide)))
        have p_ad_14_0 := p_ad_14_0.me ef_78185
        have o_78186 : True := trivial
        have I := I.up (k := 14) (j := 0) (by decide) ef_78185 (okE_a (g := g_78184) o_78186)
        obtain ⟨x_78187, ex_78187⟩ : ∃ z : Int32, z = y2_1 + 1 := ⟨_, rfl⟩
        refine lv_iinc (v := x_78187) (lv' := [(1, .int x_78187), (0, .ref (ad 0 0))]) hx hb dX12_together_23 hl (k := 1) rfl (by rw [ex_78187]; rfl) (by decide) rfl (fun ls hl => ?_)
        refine lv_goto (tgt := 2) hx hb dX12_together_26 (by decide) ?_
        exact ih2 _ (by rw [← hm2]; exact ms_up (m := 1) ex_78187 (show bn 1 1 (1 : Int32) from bn_k (by decide)) B_78179 (bn_w (bn_eq ex_78187 (bn_add B_78179 (show bn 1 1 (1 : Int32) from bn_k (by decide)) (by decide))) (by decide) : bn 0 6 x_78187) (by decide)) x_78187 _ _  _ _ _ I (bn_w (bn_eq ex_78187 (bn_add B_78179 (show bn 1 1 (1 : Int32) from bn_k (by decide)) (by decide))) (by decide)) rfl Y (lv_sub hl [1, 0] rfl)
  refine lv_iconst (v := 0) hx hb dX12_together_0 (by decide) ?_
  refine lv_istore_n (lv' := [(1, .int 0), (0, .ref (ad 0 0))]) hx hb dX12_together_1 rfl hl (by decide) rfl (fun ls hl => ?_)
  exact J_2 _ 0 _ _  _ _ _ I (bn_w (show bn 0 0 (0 : Int32) from bn_k (by decide)) (by decide)) rfl Y (lv_sub hl [1, 0] rfl)
set_option maxHeartbeats 4000000 in
set_option maxRecDepth 100000 in
theorem x_X12_worn {l : Launch} {G : GG}  {L : List Nat} {f : HF} {ad : Nat → Nat → Nat} {w : WW} {pi : PIT} {g0 : Nat → Int32} {i1 i2 : Int32} (I : SH (spM (IA 0 0 14 9999 w) pi (EQ g0) LDa) nnM G ad L f) (hB : BBp 0 0 14 9999 w) (hX : TX g0) : PMi l yX12_worn cX12_worn 3 .int 2 0 0 G [.ref (ad 0 0), .int i1, .int i2] L f (fun r L1 f1 => SH (spM (IA 0 0 14 9999 w) pi (EQ g0) LDa) nnM G ad L1 f1) := by
  refine PMi.of (post := fun r L1 f1 => SH (spM (IA 0 0 14 9999 w) pi (EQ g0) LDa) nnM G ad L1 f1) (own := RX12) (by decide) rfl (Nat.le_of_ble_eq_true rfl) (fun sz p e s m args below meth c A ls hA1 hname S Y hl => ?_)
  have hx := S.hx
  have hb := S.hb
  have hl : lv_has ls 3 [(0, .ref (ad 0 0)), (1, .int i1), (2, .int i2)] := hl
  refine lv_iload_n hx hb dX12_worn_0 rfl (lv_at hl 1 rfl) ?_
  refine lv_iconst (v := (-1)) hx hb dX12_worn_1 (by decide) ?_
  refine lv_icmp_ne (tgt := 15) hx hb dX12_worn_2 (by decide) (fun c_78414 => ?_) (fun c_78414 => ?_)
  · refine lv_aload_n hx hb dX12_worn_15 rfl (lv_at hl 0 rfl) ?_
    refine lv_iload_n hx hb dX12_worn_16 rfl (lv_at hl 1 rfl) ?_
    refine cVp (As := [.int i1]) (rest := []) S Y (x_X12_isOath (l := l) I hB) cw_X12_isOath km12_339 (I.opo (k := 0) (j := 0) (by decide) rfl).choose_spec.1 ok_X12.1 rfl rfl ⟨Nat.le_of_ble_eq_true rfl, Nat.le_of_ble_eq_true rfl⟩ hl.1 rfl (Nat.le_of_ble_eq_true rfl) ⟨Nat.le_of_ble_eq_true rfl, Nat.le_of_ble_eq_true rfl⟩ dX12_worn_17 (fun r_78416 H locs er_78416 Y => ?_)
    refine lv_if_eq (tgt := 45) hx hb dX12_worn_20 (by decide) (fun c_78417 => ?_) (fun c_78417 => ?_)
    · have B_78418 : bn 0 0 r_78416 := bn_w (bn_eq c_78417 (show bn 0 0 (0 : Int32) from bn_k (by decide))) (by decide)
      refine lv_bipush (v := (-2)) hx hb dX12_worn_45 (by decide) ?_
      exact prI (post := fun r L1 f1 => SH (spM (IA 0 0 14 9999 w) pi (EQ g0) LDa) nnM G ad L1 f1) S Y rfl (by decide) (by decide) hA1 I dX12_worn_47
    · have B_78419 : bn 0 13 i1 := bn_w (bn_i (bn_any i1) (er_78416.2 c_78417)) (by decide)
      have B_78420 : bn 1 1 r_78416 := bn_w (bn_nel c_78417 er_78416.1 (show bn 0 0 (0 : Int32) from bn_k (by decide))) (by decide)
      refine lv_iload_n hx hb dX12_worn_23 rfl (lv_at hl 2 rfl) ?_
      refine lv_iconst (v := 0) hx hb dX12_worn_24 (by decide) ?_
      refine lv_bipush (v := 99) hx hb dX12_worn_25 (by decide) ?_
      refine cSp (As := [.int i2, .int 0, .int 99]) (rest := []) S Y (x_X12_isIn (l := l) ) cw_X12_isIn km12_69 rfl ⟨Nat.le_of_ble_eq_true rfl, Nat.le_of_ble_eq_true rfl⟩ hl.1 rfl (Nat.le_of_ble_eq_true rfl) ⟨Nat.le_of_ble_eq_true rfl, Nat.le_of_ble_eq_true rfl⟩ dX12_worn_27 (fun r_78421 H locs er_78421 Y => ?_)
      refine lv_if_eq (tgt := 45) hx hb dX12_worn_30 (by decide) (fun c_78422 => ?_) (fun c_78422 => ?_)
      · have B_78423 : bn 0 0 r_78421 := bn_w (bn_eq c_78422 (show bn 0 0 (0 : Int32) from bn_k (by decide))) (by decide)
        refine lv_bipush (v := (-2)) hx hb dX12_worn_45 (by decide) ?_
        exact prI (post := fun r L1 f1 => SH (spM (IA 0 0 14 9999 w) pi (EQ g0) LDa) nnM G ad L1 f1) S Y rfl (by decide) (by decide) hA1 I dX12_worn_47
      · have B_78424 : bn 0 99 i2 := bn_w (bn_i (bn_any i2) (bn_btw (er_78421.2 c_78422).1 (er_78421.2 c_78422).2 (show bn 0 0 (0 : Int32) from bn_k (by decide)) (show bn 99 99 (99 : Int32) from bn_k (by decide)))) (by decide)
        have B_78425 : bn 1 1 r_78421 := bn_w (bn_nel c_78422 er_78421.1 (show bn 0 0 (0 : Int32) from bn_k (by decide))) (by decide)
        refine lv_aload_n hx hb dX12_worn_33 rfl (lv_at hl 0 rfl) ?_
        obtain ⟨v_78426, v_78428, v_78430, v_78432, v_78434, v_78436, v_78438, v_78440, v_78441, v_78443, v_78445, v_78447, v_78449, v_78451, v_78453, v_78455, v_78457, v_78459, p_ad_0_0, b_78427, b_78429, b_78431, b_78433, b_78435, b_78437, b_78439, b_78442, b_78444, b_78446, b_78448, b_78450, b_78452, b_78454, b_78456, b_78458, b_78460⟩ := opnM_0 (j := 0) I (by decide)
        have p_ad_0_0 : pt L f (ad 0 0) (.inr (12, [.ref (ad 1 0), .ref (ad 2 0), .ref (ad 3 0), .ref (ad 4 0), .int v_78426, .int v_78428, .int v_78430, .int v_78432, .int v_78434, .int v_78436, .int v_78438, .long v_78440, .int v_78441, .int v_78443, .int v_78445, .ref (ad 5 0), .ref (ad 6 0), .int v_78447, .int v_78449, .int v_78451, .int v_78453, .int v_78455, .ref (ad 7 0), .ref (ad 8 0), .ref (ad 9 0), .int v_78457, .ref (ad 10 0), .ref (ad 11 0), .ref (ad 12 0), .ref (ad 13 0), .int v_78459, .ref (ad 14 0)])) := p_ad_0_0
        refine pg_get S Y ok_X12 0 (by decide) kf12_7 (v := .ref (ad 1 0)) p_ad_0_0 rfl dX12_worn_34 ?_
        refine lv_bipush (v := 8) hx hb dX12_worn_37 (by decide) ?_
        obtain ⟨g_78461, p_ad_1_0, o_78462⟩ := I.opi (k := 1) (j := 0) (by decide) rfl
        have p_ad_1_0 : pt L f (ad 1 0) (.inl (G.2 0, 10568, .inl g_78461)) := p_ad_1_0
        obtain ⟨v_78463, ev_78463⟩ : ∃ z, z = g_78461 (8 : Int32).toNatClampNeg := ⟨_, rfl⟩
        refine pg_iald S Y (v := v_78463) p_ad_1_0 (by unfold vp_in; decide) ev_78463.symm dX12_worn_39 ?_
        have bv_78463 : bn 0 8 v_78463 := bn_eq ev_78463 (IA_8 o_78462)
        refine lv_bipush (v := 8) hx hb dX12_worn_40 (by decide) ?_
        refine lv_icmp_ne (tgt := 48) hx hb dX12_worn_42 (by decide) (fun c_78464 => ?_) (fun c_78464 => ?_)
        · have B_78465 : bn 0 7 v_78463 := bn_w (bn_neu c_78464 bv_78463 (show bn 8 8 (8 : Int32) from bn_k (by decide))) (by decide)
          refine lv_aload_n hx hb dX12_worn_48 rfl (lv_at hl 0 rfl) ?_
          refine pg_get S Y ok_X12 0 (by decide) kf12_7 (v := .ref (ad 1 0)) p_ad_0_0 rfl dX12_worn_49 ?_
          refine lv_sipush (v := 192) hx hb dX12_worn_52 (by decide) ?_
          refine lv_iconst (v := 2) hx hb dX12_worn_55 (by decide) ?_
          refine lv_aload_n hx hb dX12_worn_56 rfl (lv_at hl 0 rfl) ?_
          refine pg_get S Y ok_X12 0 (by decide) kf12_7 (v := .ref (ad 1 0)) p_ad_0_0 rfl dX12_worn_57 ?_
          refine lv_bipush (v := 8) hx hb dX12_worn_60 (by decide) ?_
          refine pg_iald S Y (v := v_78463) p_ad_1_0 (by unfold vp_in; decide) ev_78463.symm dX12_worn_62 ?_
          refine lv_imul hx hb dX12_worn_63 ?_
          refine lv_topi (fun x_78467 ex_78467 => ?_)
          refine lv_iadd hx hb dX12_worn_64 ?_
          refine lv_topi (fun x_78468 ex_78468 => ?_)
          refine lv_iload_n hx hb dX12_worn_65 rfl (lv_at hl 1 rfl) ?_
          refine pg_iast S Y p_ad_1_0 (vp_bn (bn_eq ex_78468 (bn_add (show bn 192 192 (192 : Int32) from bn_k (by decide)) (bn_eq ex_78467 (bn_mul (show bn 2 2 (2 : Int32) from bn_k (by decide)) B_78465 (by decide))) (by decide))) (by decide)) dX12_worn_66 (fun f_78470 H locs ef_78470 Y => ?_)
          obtain ⟨g_78469, eg_78469⟩ : ∃ z, z = upd (g_78461) (x_78468 : Int32).toNatClampNeg i1 := ⟨_, rfl⟩
          rw [← eg_78469] at ef_78470
          have p_ad_0_0 := p_ad_0_0.up ef_78470 (I.ne (k := 0) (j := 0) (k' := 1) (j' := 0) (by decide) (by decide) (Or.inl (by decide)))
          have p_ad_1_0 := p_ad_1_0.me ef_78470
          have o_78471 : (IA 0 0 14 9999 w) g_78469 := (by rw [eg_78469]; exact (IA_free o_78462 (fr_of (bn_eq ex_78468 (bn_add (show bn 192 192 (192 : Int32) from bn_k (by decide)) (bn_eq ex_78467 (bn_mul (show bn 2 2 (2 : Int32) from bn_k (by decide)) B_78465 (by decide))) (by decide))) (by decide))))
          have I := I.up (k := 1) (j := 0) (by decide) ef_78470 (okE_a (g := g_78469) o_78471)
          have q_78472 : g_78469 (8 : Int32).toNatClampNeg = v_78463 := by rw [eg_78469]; exact (pk_un (nq_of (bn_eq ex_78468 (bn_add (show bn 192 192 (192 : Int32) from bn_k (by decide)) (bn_eq ex_78467 (bn_mul (show bn 2 2 (2 : Int32) from bn_k (by decide)) B_78465 (by decide))) (by decide))) (by decide))).trans ev_78463.symm
          refine lv_aload_n hx hb dX12_worn_67 rfl (lv_at hl 0 rfl) ?_
          refine pg_get S Y ok_X12 0 (by decide) kf12_7 (v := .ref (ad 1 0)) p_ad_0_0 rfl dX12_worn_68 ?_
          refine lv_sipush (v := 192) hx hb dX12_worn_71 (by decide) ?_
          refine lv_iconst (v := 2) hx hb dX12_worn_74 (by decide) ?_
          refine lv_aload_n hx hb dX12_worn_75 rfl (lv_at hl 0 rfl) ?_
          refine pg_get S Y ok_X12 0 (by decide) kf12_7 (v := .ref (ad 1 0)) p_ad_0_0 rfl dX12_worn_76 ?_
          refine lv_bipush (v := 8) hx hb dX12_worn_79 (by decide) ?_
          refine pg_iald S Y (v := v_78463) p_ad_1_0 (by unfold vp_in; decide) q_78472 dX12_worn_81 ?_
          refine lv_imul hx hb dX12_worn_82 ?_
          refine lv_topi (fun x_78473 ex_78473 => ?_)
          refine lv_iadd hx hb dX12_worn_83 ?_
          refine lv_topi (fun x_78474 ex_78474 => ?_)
          refine lv_iconst (v := 1) hx hb dX12_worn_84 (by decide) ?_
          refine lv_iadd hx hb dX12_worn_85 ?_
          refine lv_topi (fun x_78475 ex_78475 => ?_)
          have B_78476 : bn 193 207 x_78475 := bn_w (bn_eq ex_78475 (bn_add (bn_eq ex_78474 (bn_add (show bn 192 192 (192 : Int32) from bn_k (by decide)) (bn_eq ex_78473 (bn_mul (show bn 2 2 (2 : Int32) from bn_k (by decide)) B_78465 (by decide))) (by decide))) (show bn 1 1 (1 : Int32) from bn_k (by decide)) (by decide))) (by decide)
          refine lv_iload_n hx hb dX12_worn_86 rfl (lv_at hl 2 rfl) ?_
          refine pg_iast S Y p_ad_1_0 (vp_bn B_78476 (by decide)) dX12_worn_87 (fun f_78478 H locs ef_78478 Y => ?_)
          obtain ⟨g_78477, eg_78477⟩ : ∃ z, z = upd (g_78469) (x_78475 : Int32).toNatClampNeg i2 := ⟨_, rfl⟩
          rw [← eg_78477] at ef_78478
          have p_ad_0_0 := p_ad_0_0.up ef_78478 (I.ne (k := 0) (j := 0) (k' := 1) (j' := 0) (by decide) (by decide) (Or.inl (by decide)))
          have p_ad_1_0 := p_ad_1_0.me ef_78478
          have o_78479 : (IA 0 0 14 9999 w) g_78477 := (by rw [eg_78477]; exact (IA_free o_78471 (fr_of B_78476 (by decide))))
          have I := I.up (k := 1) (j := 0) (by decide) ef_78478 (okE_a (g := g_78477) o_78479)
          have q_78480 : g_78477 (8 : Int32).toNatClampNeg = v_78463 := by rw [eg_78477]; exact (pk_un (nq_of B_78476 (by decide))).trans q_78472
          refine lv_aload_n hx hb dX12_worn_88 rfl (lv_at hl 0 rfl) ?_
          refine pg_get S Y ok_X12 0 (by decide) kf12_7 (v := .ref (ad 1 0)) p_ad_0_0 rfl dX12_worn_89 ?_
          refine lv_bipush (v := 8) hx hb dX12_worn_92 (by decide) ?_
          refine lv_dup2_11 hx hb dX12_worn_94 rfl rfl ?_
          refine pg_iald S Y (v := v_78463) p_ad_1_0 (by unfold vp_in; decide) q_78480 dX12_worn_95 ?_
          refine lv_iconst (v := 1) hx hb dX12_worn_96 (by decide) ?_
          refine lv_iadd hx hb dX12_worn_97 ?_
          refine lv_topi (fun x_78481 ex_78481 => ?_)
          refine pg_iast S Y p_ad_1_0 (by unfold vp_in; decide) dX12_worn_98 (fun f_78483 H locs ef_78483 Y => ?_)
          obtain ⟨g_78482, eg_78482⟩ : ∃ z, z = upd (g_78477) (8 : Int32).toNatClampNeg x_78481 := ⟨_, rfl⟩
          rw [← eg_78482] at ef_78483
          have p_ad_0_0 := p_ad_0_0.up ef_78483 (I.ne (k := 0) (j := 0) (k' := 1) (j' := 0) (by decide) (by decide) (Or.inl (by decide)))
          have p_ad_1_0 := p_ad_1_0.me ef_78483
          have o_78484 : (IA 0 0 14 9999 w) g_78482 := (by rw [eg_78482]; exact (IA_s8 o_78479 (bn_w (bn_eq ex_78481 (bn_add B_78465 (show bn 1 1 (1 : Int32) from bn_k (by decide)) (by decide))) (by decide))))
          have I := I.up (k := 1) (j := 0) (by decide) ef_78483 (okE_a (g := g_78482) o_78484)
          have q_78485 : g_78482 (8 : Int32).toNatClampNeg = x_78481 := by rw [eg_78482]; exact pk_us
          refine lv_aload_n hx hb dX12_worn_99 rfl (lv_at hl 0 rfl) ?_
          refine pg_get S Y ok_X12 0 (by decide) kf12_7 (v := .ref (ad 1 0)) p_ad_0_0 rfl dX12_worn_100 ?_
          refine lv_bipush (v := 8) hx hb dX12_worn_103 (by decide) ?_
          refine pg_iald S Y (v := x_78481) p_ad_1_0 (by unfold vp_in; decide) q_78485 dX12_worn_105 ?_
          exact prI (post := fun r L1 f1 => SH (spM (IA 0 0 14 9999 w) pi (EQ g0) LDa) nnM G ad L1 f1) S Y rfl (by decide) (by decide) hA1 I dX12_worn_106
        · have B_78466 : bn 8 8 v_78463 := bn_w (bn_eq c_78464 (show bn 8 8 (8 : Int32) from bn_k (by decide))) (by decide)
          refine lv_bipush (v := (-2)) hx hb dX12_worn_45 (by decide) ?_
          exact prI (post := fun r L1 f1 => SH (spM (IA 0 0 14 9999 w) pi (EQ g0) LDa) nnM G ad L1 f1) S Y rfl (by decide) (by decide) hA1 I dX12_worn_47
  · have B_78415 : bn (-1) (-1) i1 := bn_w (bn_eq c_78414 (show bn (-1) (-1) ((-1) : Int32) from bn_k (by decide))) (by decide)
    refine lv_aload_n hx hb dX12_worn_5 rfl (lv_at hl 0 rfl) ?_
    obtain ⟨v_78486, v_78488, v_78490, v_78492, v_78494, v_78496, v_78498, v_78500, v_78501, v_78503, v_78505, v_78507, v_78509, v_78511, v_78513, v_78515, v_78517, v_78519, p_ad_0_0, b_78487, b_78489, b_78491, b_78493, b_78495, b_78497, b_78499, b_78502, b_78504, b_78506, b_78508, b_78510, b_78512, b_78514, b_78516, b_78518, b_78520⟩ := opnM_0 (j := 0) I (by decide)
    have p_ad_0_0 : pt L f (ad 0 0) (.inr (12, [.ref (ad 1 0), .ref (ad 2 0), .ref (ad 3 0), .ref (ad 4 0), .int v_78486, .int v_78488, .int v_78490, .int v_78492, .int v_78494, .int v_78496, .int v_78498, .long v_78500, .int v_78501, .int v_78503, .int v_78505, .ref (ad 5 0), .ref (ad 6 0), .int v_78507, .int v_78509, .int v_78511, .int v_78513, .int v_78515, .ref (ad 7 0), .ref (ad 8 0), .ref (ad 9 0), .int v_78517, .ref (ad 10 0), .ref (ad 11 0), .ref (ad 12 0), .ref (ad 13 0), .int v_78519, .ref (ad 14 0)])) := p_ad_0_0
    refine pg_get S Y ok_X12 0 (by decide) kf12_7 (v := .ref (ad 1 0)) p_ad_0_0 rfl dX12_worn_6 ?_
    refine lv_bipush (v := 8) hx hb dX12_worn_9 (by decide) ?_
    refine lv_iconst (v := 0) hx hb dX12_worn_11 (by decide) ?_
    obtain ⟨g_78521, p_ad_1_0, o_78522⟩ := I.opi (k := 1) (j := 0) (by decide) rfl
    have p_ad_1_0 : pt L f (ad 1 0) (.inl (G.2 0, 10568, .inl g_78521)) := p_ad_1_0
    refine pg_iast S Y p_ad_1_0 (by unfold vp_in; decide) dX12_worn_12 (fun f_78524 H locs ef_78524 Y => ?_)
    obtain ⟨g_78523, eg_78523⟩ : ∃ z, z = upd (g_78521) (8 : Int32).toNatClampNeg 0 := ⟨_, rfl⟩
    rw [← eg_78523] at ef_78524
    have p_ad_0_0 := p_ad_0_0.up ef_78524 (I.ne (k := 0) (j := 0) (k' := 1) (j' := 0) (by decide) (by decide) (Or.inl (by decide)))
    have p_ad_1_0 := p_ad_1_0.me ef_78524
    have o_78525 : (IA 0 0 14 9999 w) g_78523 := (by rw [eg_78523]; exact (IA_s8 o_78522 (bn_w (show bn 0 0 (0 : Int32) from bn_k (by decide)) (by decide))))
    have I := I.up (k := 1) (j := 0) (by decide) ef_78524 (okE_a (g := g_78523) o_78525)
    have q_78526 : g_78523 (8 : Int32).toNatClampNeg = 0 := by rw [eg_78523]; exact pk_us
    refine lv_iconst (v := 0) hx hb dX12_worn_13 (by decide) ?_
    exact prI (post := fun r L1 f1 => SH (spM (IA 0 0 14 9999 w) pi (EQ g0) LDa) nnM G ad L1 f1) S Y rfl (by decide) (by decide) hA1 I dX12_worn_14
set_option maxHeartbeats 4000000 in
set_option maxRecDepth 100000 in
theorem x_X12_whose {l : Launch} {G : GG}  {L : List Nat} {f : HF} {ad : Nat → Nat → Nat} {w : WW} {pi : PIT} {g0 : Nat → Int32} (I : SH (spM (IA 0 0 14 9999 w) pi (EQ g0) LDa) nnM G ad L f) (hB : BBp 0 0 14 9999 w) (hX : TX g0) : PMi l yX12_whose cX12_whose 5 .int 7 0 0 G [.ref (ad 0 0)] L f (fun r L1 f1 => SH (spM (IA 0 0 14 9999 w) pi (EQ g0) LDa) nnM G ad L1 f1) := by
  refine PMi.of (post := fun r L1 f1 => SH (spM (IA 0 0 14 9999 w) pi (EQ g0) LDa) nnM G ad L1 f1) (own := RX12) (by decide) rfl (Nat.le_of_ble_eq_true rfl) (fun sz p e s m args below meth c A ls hA1 hname S Y hl => ?_)
  have hx := S.hx
  have hb := S.hb
  have hl : lv_has ls 5 [(0, .ref (ad 0 0))] := hl
  have J_4 : ∀ (n4 : Nat) (y4_1 y4_2 : Int32) (L_4 : List Nat) (f_4 : HF) (H : Heap) (locs : List Loc) (ls : Array Slot), (SH (spM (IA 0 0 14 9999 w) pi (EQ g0) LDa) nnM G ad L_4 f_4) → (bn 0 15 y4_1) → (bn 0 4 y4_2) → (((4 : Int) - y4_2.toInt).toNat = n4) → (DY G A s [] L_4 f_4 H locs) → (lv_has ls 5 [(0, .ref (ad 0 0)), (1, .int y4_1), (2, .int y4_2)]) → W p l e (rmD 7 0 0) s m args below meth c H locs (0) (0) (MQ below (va_Qi (fun r (u : List Nat × HF) => (fun r L1 f1 => SH (spM (IA 0 0 14 9999 w) pi (EQ g0) LDa) nnM G ad L1 f1) r u.1 u.2) (fun u t => pOut G (va_A (va_pl L f) sz) u.1 u.2 t) (va_A (va_pl L f) sz)) args s 0 0 A) (F0 m 4 ls []) := by
    intro n4
    induction n4 using Nat.strongRecOn with
    | _ n4 ih4 =>
      intro y4_1 y4_2 L_4 f_4 H locs ls I b_y4_1 b_y4_2 hm4 Y hl
      have J_19 : ∀ (n19 : Nat) (y19_3 y19_4 : Int32) (L_19 : List Nat) (f_19 : HF) (H : Heap) (locs : List Loc) (ls : Array Slot), (SH (spM (IA 0 0 14 9999 w) pi (EQ g0) LDa) nnM G ad L_19 f_19) → (bn 0 1 y19_3) → (bn 0 8 y19_4) → (bn 0 3 y4_2) → (((8 : Int) - y19_4.toInt).toNat = n19) → (DY G A s [] L_19 f_19 H locs) → (lv_has ls 5 [(0, .ref (ad 0 0)), (1, .int y4_1), (2, .int y4_2), (3, .int y19_3), (4, .int y19_4)]) → W p l e (rmD 7 0 0) s m args below meth c H locs (0) (0) (MQ below (va_Qi (fun r (u : List Nat × HF) => (fun r L1 f1 => SH (spM (IA 0 0 14 9999 w) pi (EQ g0) LDa) nnM G ad L1 f1) r u.1 u.2) (fun u t => pOut G (va_A (va_pl L f) sz) u.1 u.2 t) (va_A (va_pl L f) sz)) args s 0 0 A) (F0 m 19 ls []) := by
        intro n19
        induction n19 using Nat.strongRecOn with
        | _ n19 ih19 =>
          intro y19_3 y19_4 L_19 f_19 H locs ls I b_y19_3 b_y19_4 b19_y4_2 hm19 Y hl
          refine lv_iload hx hb dX12_whose_19 (lv_at hl 4 rfl) ?_
          refine lv_aload_n hx hb dX12_whose_21 rfl (lv_at hl 0 rfl) ?_
          obtain ⟨v_79884, v_79886, v_79888, v_79890, v_79892, v_79894, v_79896, v_79898, v_79899, v_79901, v_79903, v_79905, v_79907, v_79909, v_79911, v_79913, v_79915, v_79917, p_ad_0_0, b_79885, b_79887, b_79889, b_79891, b_79893, b_79895, b_79897, b_79900, b_79902, b_79904, b_79906, b_79908, b_79910, b_79912, b_79914, b_79916, b_79918⟩ := opnM_0 (j := 0) I (by decide)
          have p_ad_0_0 : pt L_19 f_19 (ad 0 0) (.inr (12, [.ref (ad 1 0), .ref (ad 2 0), .ref (ad 3 0), .ref (ad 4 0), .int v_79884, .int v_79886, .int v_79888, .int v_79890, .int v_79892, .int v_79894, .int v_79896, .long v_79898, .int v_79899, .int v_79901, .int v_79903, .ref (ad 5 0), .ref (ad 6 0), .int v_79905, .int v_79907, .int v_79909, .int v_79911, .int v_79913, .ref (ad 7 0), .ref (ad 8 0), .ref (ad 9 0), .int v_79915, .ref (ad 10 0), .ref (ad 11 0), .ref (ad 12 0), .ref (ad 13 0), .int v_79917, .ref (ad 14 0)])) := p_ad_0_0
          refine pg_get S Y ok_X12 0 (by decide) kf12_7 (v := .ref (ad 1 0)) p_ad_0_0 rfl dX12_whose_22 ?_
          refine lv_bipush (v := 8) hx hb dX12_whose_25 (by decide) ?_
          obtain ⟨g_79919, p_ad_1_0, o_79920⟩ := I.opi (k := 1) (j := 0) (by decide) rfl
          have p_ad_1_0 : pt L_19 f_19 (ad 1 0) (.inl (G.2 0, 10568, .inl g_79919)) := p_ad_1_0
          obtain ⟨v_79921, ev_79921⟩ : ∃ z, z = g_79919 (8 : Int32).toNatClampNeg := ⟨_, rfl⟩
          refine pg_iald S Y (v := v_79921) p_ad_1_0 (by unfold vp_in; decide) ev_79921.symm dX12_whose_27 ?_
          have bv_79921 : bn 0 8 v_79921 := bn_eq ev_79921 (IA_8 o_79920)
          refine lv_icmp_ge (tgt := 103) hx hb dX12_whose_28 (by decide) (fun c_79922 => ?_) (fun c_79922 => ?_)
          · refine lv_iload_n hx hb dX12_whose_103 rfl (lv_at hl 1 rfl) ?_
            refine lv_iload_n hx hb dX12_whose_104 rfl (lv_at hl 3 rfl) ?_
            refine lv_if_eq (tgt := 114) hx hb dX12_whose_105 (by decide) (fun c_79925 => ?_) (fun c_79925 => ?_)
            · have B_79926 : bn 0 0 y19_3 := bn_w (bn_eq c_79925 (show bn 0 0 (0 : Int32) from bn_k (by decide))) (by decide)
              refine lv_iconst (v := 0) hx hb dX12_whose_114 (by decide) ?_
              refine lv_ior hx hb dX12_whose_115 ?_
              refine lv_topi (fun x_79928 ex_79928 => ?_)
              refine lv_istore_n (lv' := [(1, .int x_79928), (0, .ref (ad 0 0)), (2, .int y4_2), (3, .int y19_3), (4, .int y19_4)]) hx hb dX12_whose_116 rfl hl (by decide) rfl (fun ls hl => ?_)
              obtain ⟨x_79929, ex_79929⟩ : ∃ z : Int32, z = y4_2 + 1 := ⟨_, rfl⟩
              refine lv_iinc (v := x_79929) (lv' := [(2, .int x_79929), (1, .int x_79928), (0, .ref (ad 0 0)), (3, .int y19_3), (4, .int y19_4)]) hx hb dX12_whose_117 hl (k := 2) rfl (by rw [ex_79929]; rfl) (by decide) rfl (fun ls hl => ?_)
              refine lv_goto (tgt := 4) hx hb dX12_whose_120 (by decide) ?_
              exact ih4 _ (by rw [← hm4]; exact ms_up (m := 1) ex_79929 (show bn 1 1 (1 : Int32) from bn_k (by decide)) b19_y4_2 (bn_w (bn_eq ex_79929 (bn_add b19_y4_2 (show bn 1 1 (1 : Int32) from bn_k (by decide)) (by decide))) (by decide) : bn 0 4 x_79929) (by decide)) x_79928 x_79929 _ _  _ _ _ I (bn_w (bn_eq ex_79928 (bn_or (n := 4) (bn_w b_y4_1 (by decide) : bn 0 15 y4_1) (bn_w (show bn 0 0 (0 : Int32) from bn_k (by decide)) (by decide) : bn 0 0 0) (by decide) (by decide))) (by decide)) (bn_w (bn_eq ex_79929 (bn_add b19_y4_2 (show bn 1 1 (1 : Int32) from bn_k (by decide)) (by decide))) (by decide)) rfl Y (lv_sub hl [2, 1, 0] rfl)
            · have B_79927 : bn 1 1 y19_3 := bn_w (bn_nel c_79925 b_y19_3 (show bn 0 0 (0 : Int32) from bn_k (by decide))) (by decide)
              refine lv_iconst (v := 1) hx hb dX12_whose_108 (by decide) ?_
              refine lv_iload_n hx hb dX12_whose_109 rfl (lv_at hl 2 rfl) ?_
              refine lv_ishl hx hb dX12_whose_110 ?_
              refine lv_topi (fun x_79930 ex_79930 => ?_)
              refine lv_goto (tgt := 115) hx hb dX12_whose_111 (by decide) ?_
              refine lv_ior hx hb dX12_whose_115 ?_
              refine lv_topi (fun x_79931 ex_79931 => ?_)
              refine lv_istore_n (lv' := [(1, .int x_79931), (0, .ref (ad 0 0)), (2, .int y4_2), (3, .int y19_3), (4, .int y19_4)]) hx hb dX12_whose_116 rfl hl (by decide) rfl (fun ls hl => ?_)
              obtain ⟨x_79932, ex_79932⟩ : ∃ z : Int32, z = y4_2 + 1 := ⟨_, rfl⟩
              refine lv_iinc (v := x_79932) (lv' := [(2, .int x_79932), (1, .int x_79931), (0, .ref (ad 0 0)), (3, .int y19_3), (4, .int y19_4)]) hx hb dX12_whose_117 hl (k := 2) rfl (by rw [ex_79932]; rfl) (by decide) rfl (fun ls hl => ?_)
              refine lv_goto (tgt := 4) hx hb dX12_whose_120 (by decide) ?_
              exact ih4 _ (by rw [← hm4]; exact ms_up (m := 1) ex_79932 (show bn 1 1 (1 : Int32) from bn_k (by decide)) b19_y4_2 (bn_w (bn_eq ex_79932 (bn_add b19_y4_2 (show bn 1 1 (1 : Int32) from bn_k (by decide)) (by decide))) (by decide) : bn 0 4 x_79932) (by decide)) x_79931 x_79932 _ _  _ _ _ I (bn_w (bn_eq ex_79931 (bn_or (n := 4) (bn_w b_y4_1 (by decide) : bn 0 15 y4_1) (bn_w (bn_eq ex_79930 (bn_shl (n := 3) (bn_w b19_y4_2 (by decide) : bn 0 3 y4_2) (by decide) (by decide))) (by decide) : bn 0 8 x_79930) (by decide) (by decide))) (by decide)) (bn_w (bn_eq ex_79932 (bn_add b19_y4_2 (show bn 1 1 (1 : Int32) from bn_k (by decide)) (by decide))) (by decide)) rfl Y (lv_sub hl [2, 1, 0] rfl)
          · have B_79923 : bn 1 8 v_79921 := bn_w (bn_gtl c_79922 bv_79921 b_y19_4) (by decide)
            have B_79924 : bn 0 7 y19_4 := bn_w (bn_gtr c_79922 bv_79921 b_y19_4) (by decide)
            refine lv_iload_n hx hb dX12_whose_31 rfl (lv_at hl 3 rfl) ?_
            refine lv_if_eq (tgt := 95) hx hb dX12_whose_32 (by decide) (fun c_79933 => ?_) (fun c_79933 => ?_)
            · have B_79934 : bn 0 0 y19_3 := bn_w (bn_eq c_79933 (show bn 0 0 (0 : Int32) from bn_k (by decide))) (by decide)
              refine lv_iconst (v := 0) hx hb dX12_whose_95 (by decide) ?_
              refine lv_istore_n (lv' := [(3, .int 0), (0, .ref (ad 0 0)), (1, .int y4_1), (2, .int y4_2), (4, .int y19_4)]) hx hb dX12_whose_96 rfl hl (by decide) rfl (fun ls hl => ?_)
              obtain ⟨x_79936, ex_79936⟩ : ∃ z : Int32, z = y19_4 + 1 := ⟨_, rfl⟩
              refine lv_iinc (v := x_79936) (lv' := [(4, .int x_79936), (3, .int 0), (0, .ref (ad 0 0)), (1, .int y4_1), (2, .int y4_2)]) hx hb dX12_whose_97 hl (k := 4) rfl (by rw [ex_79936]; rfl) (by decide) rfl (fun ls hl => ?_)
              refine lv_goto (tgt := 19) hx hb dX12_whose_100 (by decide) ?_
              exact ih19 _ (by rw [← hm19]; exact ms_up (m := 1) ex_79936 (show bn 1 1 (1 : Int32) from bn_k (by decide)) B_79924 (bn_w (bn_eq ex_79936 (bn_add B_79924 (show bn 1 1 (1 : Int32) from bn_k (by decide)) (by decide))) (by decide) : bn 0 8 x_79936) (by decide)) 0 x_79936 _ _  _ _ _ I (bn_w (show bn 0 0 (0 : Int32) from bn_k (by decide)) (by decide)) (bn_w (bn_eq ex_79936 (bn_add B_79924 (show bn 1 1 (1 : Int32) from bn_k (by decide)) (by decide))) (by decide)) (bn_w b19_y4_2 (by decide)) rfl Y (lv_sub hl [2, 3, 4, 1, 0] rfl)
            · have B_79935 : bn 1 1 y19_3 := bn_w (bn_nel c_79933 b_y19_3 (show bn 0 0 (0 : Int32) from bn_k (by decide))) (by decide)
              refine lv_aload_n hx hb dX12_whose_35 rfl (lv_at hl 0 rfl) ?_
              refine lv_aload_n hx hb dX12_whose_36 rfl (lv_at hl 0 rfl) ?_
              refine pg_get S Y ok_X12 0 (by decide) kf12_7 (v := .ref (ad 1 0)) p_ad_0_0 rfl dX12_whose_37 ?_
              refine lv_sipush (v := 192) hx hb dX12_whose_40 (by decide) ?_
              refine lv_iconst (v := 2) hx hb dX12_whose_43 (by decide) ?_
              refine lv_iload hx hb dX12_whose_44 (lv_at hl 4 rfl) ?_
              refine lv_imul hx hb dX12_whose_46 ?_
              refine lv_topi (fun x_79937 ex_79937 => ?_)
              refine lv_iadd hx hb dX12_whose_47 ?_
              refine lv_topi (fun x_79938 ex_79938 => ?_)
              obtain ⟨v_79939, ev_79939⟩ : ∃ z, z = g_79919 (x_79938 : Int32).toNatClampNeg := ⟨_, rfl⟩
              refine pg_iald S Y (v := v_79939) p_ad_1_0 (vp_bn (bn_eq ex_79938 (bn_add (show bn 192 192 (192 : Int32) from bn_k (by decide)) (bn_eq ex_79937 (bn_mul (show bn 2 2 (2 : Int32) from bn_k (by decide)) B_79924 (by decide))) (by decide))) (by decide)) ev_79939.symm dX12_whose_48 ?_
              refine cVp (As := [.int v_79939]) (rest := []) S Y (x_X12_isOath (l := l) I hB) cw_X12_isOath km12_339 p_ad_0_0 ok_X12.1 rfl rfl ⟨Nat.le_of_ble_eq_true rfl, Nat.le_of_ble_eq_true rfl⟩ hl.1 rfl (Nat.le_of_ble_eq_true rfl) ⟨Nat.le_of_ble_eq_true rfl, Nat.le_of_ble_eq_true rfl⟩ dX12_whose_49 (fun r_79940 H locs er_79940 Y => ?_)
              refine lv_if_eq (tgt := 91) hx hb dX12_whose_52 (by decide) (fun c_79941 => ?_) (fun c_79941 => ?_)
              · have B_79942 : bn 0 0 r_79940 := bn_w (bn_eq c_79941 (show bn 0 0 (0 : Int32) from bn_k (by decide))) (by decide)
                refine lv_iconst (v := 1) hx hb dX12_whose_91 (by decide) ?_
                refine lv_goto (tgt := 96) hx hb dX12_whose_92 (by decide) ?_
                refine lv_istore_n (lv' := [(3, .int 1), (0, .ref (ad 0 0)), (1, .int y4_1), (2, .int y4_2), (4, .int y19_4)]) hx hb dX12_whose_96 rfl hl (by decide) rfl (fun ls hl => ?_)
                obtain ⟨x_79945, ex_79945⟩ : ∃ z : Int32, z = y19_4 + 1 := ⟨_, rfl⟩
                refine lv_iinc (v := x_79945) (lv' := [(4, .int x_79945), (3, .int 1), (0, .ref (ad 0 0)), (1, .int y4_1), (2, .int y4_2)]) hx hb dX12_whose_97 hl (k := 4) rfl (by rw [ex_79945]; rfl) (by decide) rfl (fun ls hl => ?_)
                refine lv_goto (tgt := 19) hx hb dX12_whose_100 (by decide) ?_
                exact ih19 _ (by rw [← hm19]; exact ms_up (m := 1) ex_79945 (show bn 1 1 (1 : Int32) from bn_k (by decide)) B_79924 (bn_w (bn_eq ex_79945 (bn_add B_79924 (show bn 1 1 (1 : Int32) from bn_k (by decide)) (by decide))) (by decide) : bn 0 8 x_79945) (by decide)) 1 x_79945 _ _  _ _ _ I (bn_w (show bn 1 1 (1 : Int32) from bn_k (by decide)) (by decide)) (bn_w (bn_eq ex_79945 (bn_add B_79924 (show bn 1 1 (1 : Int32) from bn_k (by decide)) (by decide))) (by decide)) (bn_w b19_y4_2 (by decide)) rfl Y (lv_sub hl [2, 3, 4, 1, 0] rfl)
              · have B_79943 : bn 0 13 v_79939 := bn_w (bn_i (bn_any v_79939) (er_79940.2 c_79941)) (by decide)
                have B_79944 : bn 1 1 r_79940 := bn_w (bn_nel c_79941 er_79940.1 (show bn 0 0 (0 : Int32) from bn_k (by decide))) (by decide)
                refine lv_aload_n hx hb dX12_whose_55 rfl (lv_at hl 0 rfl) ?_
                refine lv_iload_n hx hb dX12_whose_56 rfl (lv_at hl 2 rfl) ?_
                refine lv_aload_n hx hb dX12_whose_57 rfl (lv_at hl 0 rfl) ?_
                refine pg_get S Y ok_X12 0 (by decide) kf12_7 (v := .ref (ad 1 0)) p_ad_0_0 rfl dX12_whose_58 ?_
                refine lv_sipush (v := 192) hx hb dX12_whose_61 (by decide) ?_
                refine lv_iconst (v := 2) hx hb dX12_whose_64 (by decide) ?_
                refine lv_iload hx hb dX12_whose_65 (lv_at hl 4 rfl) ?_
                refine lv_imul hx hb dX12_whose_67 ?_
                refine lv_topi (fun x_79946 ex_79946 => ?_)
                refine lv_iadd hx hb dX12_whose_68 ?_
                refine lv_topi (fun x_79947 ex_79947 => ?_)
                refine pg_iald S Y (v := v_79939) p_ad_1_0 (vp_bn (bn_eq ex_79947 (bn_add (show bn 192 192 (192 : Int32) from bn_k (by decide)) (bn_eq ex_79946 (bn_mul (show bn 2 2 (2 : Int32) from bn_k (by decide)) B_79924 (by decide))) (by decide))) (by decide)) (show g_79919 (x_79947 : Int32).toNatClampNeg = v_79939 from by rw [show x_79947 = x_79938 from by rw [ex_79947, ex_79946, ex_79938, ex_79937]]; exact ev_79939.symm) dX12_whose_69 ?_
                refine cVi (As := [.int y4_2, .int v_79939]) (rest := []) S Y (x_X12_wearsOf (l := l) I hB hX (bn_w b19_y4_2 (by decide)) (bn_w B_79943 (by decide))) cw_X12_wearsOf km12_342 p_ad_0_0 ok_X12.1 rfl rfl ⟨Nat.le_of_ble_eq_true rfl, Nat.le_of_ble_eq_true rfl⟩ hl.1 rfl (Nat.le_of_ble_eq_true rfl) ⟨Nat.le_of_ble_eq_true rfl, Nat.le_of_ble_eq_true rfl⟩ dX12_whose_70 (fun r_79950 L_79948 f_79949 H locs I Y => ?_)
                refine lv_aload_n hx hb dX12_whose_73 rfl (lv_at hl 0 rfl) ?_
                obtain ⟨v_79951, v_79953, v_79955, v_79957, v_79959, v_79961, v_79963, v_79965, v_79966, v_79968, v_79970, v_79972, v_79974, v_79976, v_79978, v_79980, v_79982, v_79984, p_ad_0_0, b_79952, b_79954, b_79956, b_79958, b_79960, b_79962, b_79964, b_79967, b_79969, b_79971, b_79973, b_79975, b_79977, b_79979, b_79981, b_79983, b_79985⟩ := opnM_0 (j := 0) I (by decide)
                have p_ad_0_0 : pt L_79948 f_79949 (ad 0 0) (.inr (12, [.ref (ad 1 0), .ref (ad 2 0), .ref (ad 3 0), .ref (ad 4 0), .int v_79951, .int v_79953, .int v_79955, .int v_79957, .int v_79959, .int v_79961, .int v_79963, .long v_79965, .int v_79966, .int v_79968, .int v_79970, .ref (ad 5 0), .ref (ad 6 0), .int v_79972, .int v_79974, .int v_79976, .int v_79978, .int v_79980, .ref (ad 7 0), .ref (ad 8 0), .ref (ad 9 0), .int v_79982, .ref (ad 10 0), .ref (ad 11 0), .ref (ad 12 0), .ref (ad 13 0), .int v_79984, .ref (ad 14 0)])) := p_ad_0_0
                refine pg_get S Y ok_X12 0 (by decide) kf12_7 (v := .ref (ad 1 0)) p_ad_0_0 rfl dX12_whose_74 ?_
                refine lv_sipush (v := 192) hx hb dX12_whose_77 (by decide) ?_
                refine lv_iconst (v := 2) hx hb dX12_whose_80 (by decide) ?_
                refine lv_iload hx hb dX12_whose_81 (lv_at hl 4 rfl) ?_
                refine lv_imul hx hb dX12_whose_83 ?_
                refine lv_topi (fun x_79986 ex_79986 => ?_)
                refine lv_iadd hx hb dX12_whose_84 ?_
                refine lv_topi (fun x_79987 ex_79987 => ?_)
                refine lv_iconst (v := 1) hx hb dX12_whose_85 (by decide) ?_
                refine lv_iadd hx hb dX12_whose_86 ?_
                refine lv_topi (fun x_79988 ex_79988 => ?_)
                have B_79989 : bn 193 207 x_79988 := bn_w (bn_eq ex_79988 (bn_add (bn_eq ex_79987 (bn_add (show bn 192 192 (192 : Int32) from bn_k (by decide)) (bn_eq ex_79986 (bn_mul (show bn 2 2 (2 : Int32) from bn_k (by decide)) B_79924 (by decide))) (by decide))) (show bn 1 1 (1 : Int32) from bn_k (by decide)) (by decide))) (by decide)
                obtain ⟨g_79990, p_ad_1_0, o_79991⟩ := I.opi (k := 1) (j := 0) (by decide) rfl
                have p_ad_1_0 : pt L_79948 f_79949 (ad 1 0) (.inl (G.2 0, 10568, .inl g_79990)) := p_ad_1_0
                obtain ⟨v_79992, ev_79992⟩ : ∃ z, z = g_79990 (x_79988 : Int32).toNatClampNeg := ⟨_, rfl⟩
                refine pg_iald S Y (v := v_79992) p_ad_1_0 (vp_bn B_79989 (by decide)) ev_79992.symm dX12_whose_87 ?_
                refine lv_icmp_ne (tgt := 95) hx hb dX12_whose_88 (by decide) (fun c_79993 => ?_) (fun c_79993 => ?_)
                · refine lv_iconst (v := 0) hx hb dX12_whose_95 (by decide) ?_
                  refine lv_istore_n (lv' := [(3, .int 0), (0, .ref (ad 0 0)), (1, .int y4_1), (2, .int y4_2), (4, .int y19_4)]) hx hb dX12_whose_96 rfl hl (by decide) rfl (fun ls hl => ?_)
                  obtain ⟨x_79994, ex_79994⟩ : ∃ z : Int32, z = y19_4 + 1 := ⟨_, rfl⟩
                  refine lv_iinc (v := x_79994) (lv' := [(4, .int x_79994), (3, .int 0), (0, .ref (ad 0 0)), (1, .int y4_1), (2, .int y4_2)]) hx hb dX12_whose_97 hl (k := 4) rfl (by rw [ex_79994]; rfl) (by decide) rfl (fun ls hl => ?_)
                  refine lv_goto (tgt := 19) hx hb dX12_whose_100 (by decide) ?_
                  exact ih19 _ (by rw [← hm19]; exact ms_up (m := 1) ex_79994 (show bn 1 1 (1 : Int32) from bn_k (by decide)) B_79924 (bn_w (bn_eq ex_79994 (bn_add B_79924 (show bn 1 1 (1 : Int32) from bn_k (by decide)) (by decide))) (by decide) : bn 0 8 x_79994) (by decide)) 0 x_79994 _ _  _ _ _ I (bn_w (show bn 0 0 (0 : Int32) from bn_k (by decide)) (by decide)) (bn_w (bn_eq ex_79994 (bn_add B_79924 (show bn 1 1 (1 : Int32) from bn_k (by decide)) (by decide))) (by decide)) (bn_w b19_y4_2 (by decide)) rfl Y (lv_sub hl [2, 3, 4, 1, 0] rfl)
                · refine lv_iconst (v := 1) hx hb dX12_whose_91 (by decide) ?_
                  refine lv_goto (tgt := 96) hx hb dX12_whose_92 (by decide) ?_
                  refine lv_istore_n (lv' := [(3, .int 1), (0, .ref (ad 0 0)), (1, .int y4_1), (2, .int y4_2), (4, .int y19_4)]) hx hb dX12_whose_96 rfl hl (by decide) rfl (fun ls hl => ?_)
                  obtain ⟨x_79995, ex_79995⟩ : ∃ z : Int32, z = y19_4 + 1 := ⟨_, rfl⟩
                  refine lv_iinc (v := x_79995) (lv' := [(4, .int x_79995), (3, .int 1), (0, .ref (ad 0 0)), (1, .int y4_1), (2, .int y4_2)]) hx hb dX12_whose_97 hl (k := 4) rfl (by rw [ex_79995]; rfl) (by decide) rfl (fun ls hl => ?_)
                  refine lv_goto (tgt := 19) hx hb dX12_whose_100 (by decide) ?_
                  exact ih19 _ (by rw [← hm19]; exact ms_up (m := 1) ex_79995 (show bn 1 1 (1 : Int32) from bn_k (by decide)) B_79924 (bn_w (bn_eq ex_79995 (bn_add B_79924 (show bn 1 1 (1 : Int32) from bn_k (by decide)) (by decide))) (by decide) : bn 0 8 x_79995) (by decide)) 1 x_79995 _ _  _ _ _ I (bn_w (show bn 1 1 (1 : Int32) from bn_k (by decide)) (by decide)) (bn_w (bn_eq ex_79995 (bn_add B_79924 (show bn 1 1 (1 : Int32) from bn_k (by decide)) (by decide))) (by decide)) (bn_w b19_y4_2 (by decide)) rfl Y (lv_sub hl [2, 3, 4, 1, 0] rfl)
      refine lv_iload_n hx hb dX12_whose_4 rfl (lv_at hl 2 rfl) ?_
      refine lv_aload_n hx hb dX12_whose_5 rfl (lv_at hl 0 rfl) ?_
      obtain ⟨v_79996, v_79998, v_80000, v_80002, v_80004, v_80006, v_80008, v_80010, v_80011, v_80013, v_80015, v_80017, v_80019, v_80021, v_80023, v_80025, v_80027, v_80029, p_ad_0_0, b_79997, b_79999, b_80001, b_80003, b_80005, b_80007, b_80009, b_80012, b_80014, b_80016, b_80018, b_80020, b_80022, b_80024, b_80026, b_80028, b_80030⟩ := opnM_0 (j := 0) I (by decide)
      have p_ad_0_0 : pt L_4 f_4 (ad 0 0) (.inr (12, [.ref (ad 1 0), .ref (ad 2 0), .ref (ad 3 0), .ref (ad 4 0), .int v_79996, .int v_79998, .int v_80000, .int v_80002, .int v_80004, .int v_80006, .int v_80008, .long v_80010, .int v_80011, .int v_80013, .int v_80015, .ref (ad 5 0), .ref (ad 6 0), .int v_80017, .int v_80019, .int v_80021, .int v_80023, .int v_80025, .ref (ad 7 0), .ref (ad 8 0), .ref (ad 9 0), .int v_80027, .ref (ad 10 0), .ref (ad 11 0), .ref (ad 12 0), .ref (ad 13 0), .int v_80029, .ref (ad 14 0)])) := p_ad_0_0
      refine pg_get S Y ok_X12 0 (by decide) kf12_7 (v := .ref (ad 1 0)) p_ad_0_0 rfl dX12_whose_6 ?_
      refine lv_iconst (v := 1) hx hb dX12_whose_9 (by decide) ?_
      obtain ⟨g_80031, p_ad_1_0, o_80032⟩ := I.opi (k := 1) (j := 0) (by decide) rfl
      have p_ad_1_0 : pt L_4 f_4 (ad 1 0) (.inl (G.2 0, 10568, .inl g_80031)) := p_ad_1_0
      obtain ⟨v_80033, ev_80033⟩ : ∃ z, z = g_80031 (1 : Int32).toNatClampNeg := ⟨_, rfl⟩
      refine pg_iald S Y (v := v_80033) p_ad_1_0 (by unfold vp_in; decide) ev_80033.symm dX12_whose_10 ?_
      have bv_80033 : bn 0 4 v_80033 := bn_eq ev_80033 (IA_1 o_80032)
      refine lv_icmp_ge (tgt := 123) hx hb dX12_whose_11 (by decide) (fun c_80034 => ?_) (fun c_80034 => ?_)
      · refine lv_iload_n hx hb dX12_whose_123 rfl (lv_at hl 1 rfl) ?_
        exact prI (post := fun r L1 f1 => SH (spM (IA 0 0 14 9999 w) pi (EQ g0) LDa) nnM G ad L1 f1) S Y rfl (by decide) (by decide) hA1 I dX12_whose_124
      · have B_80035 : bn 1 4 v_80033 := bn_w (bn_gtl c_80034 bv_80033 b_y4_2) (by decide)
        have B_80036 : bn 0 3 y4_2 := bn_w (bn_gtr c_80034 bv_80033 b_y4_2) (by decide)
        refine lv_iconst (v := 1) hx hb dX12_whose_14 (by decide) ?_
        refine lv_istore_n (lv' := [(3, .int 1), (0, .ref (ad 0 0)), (1, .int y4_1), (2, .int y4_2)]) hx hb dX12_whose_15 rfl hl (by decide) rfl (fun ls hl => ?_)
        refine lv_iconst (v := 0) hx hb dX12_whose_16 (by decide) ?_
        refine lv_istore (lv' := [(4, .int 0), (3, .int 1), (0, .ref (ad 0 0)), (1, .int y4_1), (2, .int y4_2)]) hx hb dX12_whose_17 hl (by decide) rfl (fun ls hl => ?_)
        exact J_19 _ 1 0 _ _  _ _ _ I (bn_w (show bn 1 1 (1 : Int32) from bn_k (by decide)) (by decide)) (bn_w (show bn 0 0 (0 : Int32) from bn_k (by decide)) (by decide)) (bn_w B_80036 (by decide)) rfl Y (lv_sub hl [2, 3, 4, 1, 0] rfl)
  refine lv_iconst (v := 0) hx hb dX12_whose_0 (by decide) ?_
  refine lv_istore_n (lv' := [(1, .int 0), (0, .ref (ad 0 0))]) hx hb dX12_whose_1 rfl hl (by decide) rfl (fun ls hl => ?_)
  refine lv_iconst (v := 0) hx hb dX12_whose_2 (by decide) ?_
  refine lv_istore_n (lv' := [(2, .int 0), (1, .int 0), (0, .ref (ad 0 0))]) hx hb dX12_whose_3 rfl hl (by decide) rfl (fun ls hl => ?_)
  exact J_4 _ 0 0 _ _  _ _ _ I (bn_w (show bn 0 0 (0 : Int32) from bn_k (by decide)) (by decide)) (bn_w (show bn 0 0 (0 : Int32) from bn_k (by decide)) (by decide)) rfl Y (lv_sub hl [2, 1, 0] rfl)
set_option maxHeartbeats 4000000 in
set_option maxRecDepth 100000 in
theorem x_X12_fault {l : Launch} {G : GG}  {L : List Nat} {f : HF} {ad : Nat → Nat → Nat} {w : WW} {pi : PIT} {g0 : Nat → Int32} {i1 : Int32} (I : SH (spM (IA 0 0 14 9999 w) pi (EQ g0) LDa) nnM G ad L f) (hB : BBp 0 0 14 9999 w) (hX : TX g0) : PMp l yX12_fault cX12_fault 2 .int 0 0 0 G [.ref (ad 0 0), .int i1] L f (fun r => True) := by
  refine PMi.of (post := fun r L1 f1 => (True) ∧ L1 = L ∧ f1 = f) (own := RX12) (by decide) rfl (Nat.le_of_ble_eq_true rfl) (fun sz p e s m args below meth c A ls hA1 hname S Y hl => ?_)
  have hx := S.hx
  have hb := S.hb
  have hl : lv_has ls 2 [(0, .ref (ad 0 0)), (1, .int i1)] := hl
  refine lv_iload_n hx hb dX12_fault_0 rfl (lv_at hl 1 rfl) ?_
  refine lv_if_ne (tgt := 11) hx hb dX12_fault_1 (by decide) (fun c_80185 => ?_) (fun c_80185 => ?_)
  · refine lv_iload_n hx hb dX12_fault_11 rfl (lv_at hl 1 rfl) ?_
    refine lv_iconst (v := 1) hx hb dX12_fault_12 (by decide) ?_
    refine lv_icmp_ne (tgt := 23) hx hb dX12_fault_13 (by decide) (fun c_80187 => ?_) (fun c_80187 => ?_)
    · refine lv_iconst (v := (-1)) hx hb dX12_fault_23 (by decide) ?_
      exact prI (post := fun r L1 f1 => (True) ∧ L1 = L ∧ f1 = f) S Y rfl (by decide) (by decide) hA1 ⟨trivial, rfl, rfl⟩ dX12_fault_24
    · have B_80188 : bn 1 1 i1 := bn_w (bn_eq c_80187 (show bn 1 1 (1 : Int32) from bn_k (by decide))) (by decide)
      refine lv_aload_n hx hb dX12_fault_16 rfl (lv_at hl 0 rfl) ?_
      obtain ⟨v_80189, v_80191, v_80193, v_80195, v_80197, v_80199, v_80201, v_80203, v_80204, v_80206, v_80208, v_80210, v_80212, v_80214, v_80216, v_80218, v_80220, v_80222, p_ad_0_0, b_80190, b_80192, b_80194, b_80196, b_80198, b_80200, b_80202, b_80205, b_80207, b_80209, b_80211, b_80213, b_80215, b_80217, b_80219, b_80221, b_80223⟩ := opnM_0 (j := 0) I (by decide)
      have p_ad_0_0 : pt L f (ad 0 0) (.inr (12, [.ref (ad 1 0), .ref (ad 2 0), .ref (ad 3 0), .ref (ad 4 0), .int v_80189, .int v_80191, .int v_80193, .int v_80195, .int v_80197, .int v_80199, .int v_80201, .long v_80203, .int v_80204, .int v_80206, .int v_80208, .ref (ad 5 0), .ref (ad 6 0), .int v_80210, .int v_80212, .int v_80214, .int v_80216, .int v_80218, .ref (ad 7 0), .ref (ad 8 0), .ref (ad 9 0), .int v_80220, .ref (ad 10 0), .ref (ad 11 0), .ref (ad 12 0), .ref (ad 13 0), .int v_80222, .ref (ad 14 0)])) := p_ad_0_0
      refine pg_get S Y ok_X12 6 (by decide) kf12_26 (v := .int v_80193) p_ad_0_0 rfl dX12_fault_17 ?_
      refine lv_goto (tgt := 24) hx hb dX12_fault_20 (by decide) ?_
      exact prI (post := fun r L1 f1 => (True) ∧ L1 = L ∧ f1 = f) S Y rfl (by decide) (by decide) hA1 ⟨trivial, rfl, rfl⟩ dX12_fault_24
  · have B_80186 : bn 0 0 i1 := bn_w (bn_eq c_80185 (show bn 0 0 (0 : Int32) from bn_k (by decide))) (by decide)
    refine lv_aload_n hx hb dX12_fault_4 rfl (lv_at hl 0 rfl) ?_
    obtain ⟨v_80224, v_80226, v_80228, v_80230, v_80232, v_80234, v_80236, v_80238, v_80239, v_80241, v_80243, v_80245, v_80247, v_80249, v_80251, v_80253, v_80255, v_80257, p_ad_0_0, b_80225, b_80227, b_80229, b_80231, b_80233, b_80235, b_80237, b_80240, b_80242, b_80244, b_80246, b_80248, b_80250, b_80252, b_80254, b_80256, b_80258⟩ := opnM_0 (j := 0) I (by decide)
    have p_ad_0_0 : pt L f (ad 0 0) (.inr (12, [.ref (ad 1 0), .ref (ad 2 0), .ref (ad 3 0), .ref (ad 4 0), .int v_80224, .int v_80226, .int v_80228, .int v_80230, .int v_80232, .int v_80234, .int v_80236, .long v_80238, .int v_80239, .int v_80241, .int v_80243, .ref (ad 5 0), .ref (ad 6 0), .int v_80245, .int v_80247, .int v_80249, .int v_80251, .int v_80253, .ref (ad 7 0), .ref (ad 8 0), .ref (ad 9 0), .int v_80255, .ref (ad 10 0), .ref (ad 11 0), .ref (ad 12 0), .ref (ad 13 0), .int v_80257, .ref (ad 14 0)])) := p_ad_0_0
    refine pg_get S Y ok_X12 5 (by decide) kf12_22 (v := .int v_80226) p_ad_0_0 rfl dX12_fault_5 ?_
    refine lv_goto (tgt := 24) hx hb dX12_fault_8 (by decide) ?_
    exact prI (post := fun r L1 f1 => (True) ∧ L1 = L ∧ f1 = f) S Y rfl (by decide) (by decide) hA1 ⟨trivial, rfl, rfl⟩ dX12_fault_24
set_option maxHeartbeats 4000000 in
set_option maxRecDepth 100000 in
theorem x_X12_by {l : Launch} {G : GG}  {L : List Nat} {f : HF} {ad : Nat → Nat → Nat} {w : WW} {pi : PIT} {g0 : Nat → Int32} {i1 : Int32} (I : SH (spM (IA 0 0 14 9999 w) pi (EQ g0) LDa) nnM G ad L f) (hB : BBp 0 0 14 9999 w) (hX : TX g0) : PMi l yX12_by cX12_by 2 .boolean 1 0 0 G [.ref (ad 0 0), .int i1] L f (fun r L1 f1 => bn 0 1 r ∧ SH (spM (IA 0 0 14 9999 w) pi (EQ g0) LDa) nnM G ad L1 f1) := by
  refine PMi.of (post := fun r L1 f1 => bn 0 1 r ∧ SH (spM (IA 0 0 14 9999 w) pi (EQ g0) LDa) nnM G ad L1 f1) (own := RX12) (by decide) rfl (Nat.le_of_ble_eq_true rfl) (fun sz p e s m args below meth c A ls hA1 hname S Y hl => ?_)
  have hx := S.hx
  have hb := S.hb
  have hl : lv_has ls 2 [(0, .ref (ad 0 0)), (1, .int i1)] := hl
  refine lv_iload_n hx hb dX12_by_0 rfl (lv_at hl 1 rfl) ?_
  refine lv_iconst (v := (-1)) hx hb dX12_by_1 (by decide) ?_
  refine lv_aload_n hx hb dX12_by_2 rfl (lv_at hl 0 rfl) ?_
  obtain ⟨v_80357, v_80359, v_80361, v_80363, v_80365, v_80367, v_80369, v_80371, v_80372, v_80374, v_80376, v_80378, v_80380, v_80382, v_80384, v_80386, v_80388, v_80390, p_ad_0_0, b_80358, b_80360, b_80362, b_80364, b_80366, b_80368, b_80370, b_80373, b_80375, b_80377, b_80379, b_80381, b_80383, b_80385, b_80387, b_80389, b_80391⟩ := opnM_0 (j := 0) I (by decide)
  have p_ad_0_0 : pt L f (ad 0 0) (.inr (12, [.ref (ad 1 0), .ref (ad 2 0), .ref (ad 3 0), .ref (ad 4 0), .int v_80357, .int v_80359, .int v_80361, .int v_80363, .int v_80365, .int v_80367, .int v_80369, .long v_80371, .int v_80372, .int v_80374, .int v_80376, .ref (ad 5 0), .ref (ad 6 0), .int v_80378, .int v_80380, .int v_80382, .int v_80384, .int v_80386, .ref (ad 7 0), .ref (ad 8 0), .ref (ad 9 0), .int v_80388, .ref (ad 10 0), .ref (ad 11 0), .ref (ad 12 0), .ref (ad 13 0), .int v_80390, .ref (ad 14 0)])) := p_ad_0_0
  refine pg_get S Y ok_X12 0 (by decide) kf12_7 (v := .ref (ad 1 0)) p_ad_0_0 rfl dX12_by_3 ?_
  refine lv_iconst (v := 1) hx hb dX12_by_6 (by decide) ?_
  obtain ⟨g_80392, p_ad_1_0, o_80393⟩ := I.opi (k := 1) (j := 0) (by decide) rfl
  have p_ad_1_0 : pt L f (ad 1 0) (.inl (G.2 0, 10568, .inl g_80392)) := p_ad_1_0
  obtain ⟨v_80394, ev_80394⟩ : ∃ z, z = g_80392 (1 : Int32).toNatClampNeg := ⟨_, rfl⟩
  refine pg_iald S Y (v := v_80394) p_ad_1_0 (by unfold vp_in; decide) ev_80394.symm dX12_by_7 ?_
  have bv_80394 : bn 0 4 v_80394 := bn_eq ev_80394 (IA_1 o_80393)
  refine lv_iconst (v := 1) hx hb dX12_by_8 (by decide) ?_
  refine lv_isub hx hb dX12_by_9 ?_
  refine lv_topi (fun x_80395 ex_80395 => ?_)
  refine cSp (As := [.int i1, .int (-1), .int x_80395]) (rest := []) S Y (x_X12_isIn (l := l) ) cw_X12_isIn km12_69 rfl ⟨Nat.le_of_ble_eq_true rfl, Nat.le_of_ble_eq_true rfl⟩ hl.1 rfl (Nat.le_of_ble_eq_true rfl) ⟨Nat.le_of_ble_eq_true rfl, Nat.le_of_ble_eq_true rfl⟩ dX12_by_10 (fun r_80396 H locs er_80396 Y => ?_)
  refine lv_if_ne (tgt := 18) hx hb dX12_by_13 (by decide) (fun c_80397 => ?_) (fun c_80397 => ?_)
  · have B_80398 : bn (-1) 3 i1 := bn_w (bn_i (bn_any i1) (bn_btw (er_80396.2 c_80397).1 (er_80396.2 c_80397).2 (show bn (-1) (-1) ((-1) : Int32) from bn_k (by decide)) (bn_eq ex_80395 (bn_sub bv_80394 (show bn 1 1 (1 : Int32) from bn_k (by decide)) (by decide))))) (by decide)
    have B_80399 : bn 1 1 r_80396 := bn_w (bn_nel c_80397 er_80396.1 (show bn 0 0 (0 : Int32) from bn_k (by decide))) (by decide)
    refine lv_aload_n hx hb dX12_by_18 rfl (lv_at hl 0 rfl) ?_
    refine pg_get S Y ok_X12 0 (by decide) kf12_7 (v := .ref (ad 1 0)) p_ad_0_0 rfl dX12_by_19 ?_
    refine lv_iconst (v := 2) hx hb dX12_by_22 (by decide) ?_
    refine lv_iload_n hx hb dX12_by_23 rfl (lv_at hl 1 rfl) ?_
    refine pg_iast S Y p_ad_1_0 (by unfold vp_in; decide) dX12_by_24 (fun f_80402 H locs ef_80402 Y => ?_)
    obtain ⟨g_80401, eg_80401⟩ : ∃ z, z = upd (g_80392) (2 : Int32).toNatClampNeg i1 := ⟨_, rfl⟩
    rw [← eg_80401] at ef_80402
    have p_ad_0_0 := p_ad_0_0.up ef_80402 (I.ne (k := 0) (j := 0) (k' := 1) (j' := 0) (by decide) (by decide) (Or.inl (by decide)))
    have p_ad_1_0 := p_ad_1_0.me ef_80402
    have o_80403 : (IA 0 0 14 9999 w) g_80401 := (by rw [eg_80401]; exact (IA_s2 o_80393 (bn_w B_80398 (by decide))))
    have I := I.up (k := 1) (j := 0) (by decide) ef_80402 (okE_a (g := g_80401) o_80403)
    have q_80404 : g_80401 (1 : Int32).toNatClampNeg = v_80394 := by rw [eg_80401]; exact (pk_un (by decide)).trans ev_80394.symm
    have q_80405 : g_80401 (2 : Int32).toNatClampNeg = i1 := by rw [eg_80401]; exact pk_us
    refine lv_iconst (v := 1) hx hb dX12_by_25 (by decide) ?_
    exact prI (post := fun r L1 f1 => bn 0 1 r ∧ SH (spM (IA 0 0 14 9999 w) pi (EQ g0) LDa) nnM G ad L1 f1) S Y rfl (by decide) (by decide) hA1 ⟨bn_w (show bn 1 1 (1 : Int32) from bn_k (by decide)) (by decide), I⟩ dX12_by_26
  · have B_80400 : bn 0 0 r_80396 := bn_w (bn_eq c_80397 (show bn 0 0 (0 : Int32) from bn_k (by decide))) (by decide)
    refine lv_iconst (v := 0) hx hb dX12_by_16 (by decide) ?_
    exact prI (post := fun r L1 f1 => bn 0 1 r ∧ SH (spM (IA 0 0 14 9999 w) pi (EQ g0) LDa) nnM G ad L1 f1) S Y rfl (by decide) (by decide) hA1 ⟨bn_w (show bn 0 0 (0 : Int32) from bn_k (by decide)) (by decide), I⟩ dX12_by_17
set_option maxHeartbeats 4000000 in
set_option maxRecDepth 100000 in
theorem x_X12_about {l : Launch} {G : GG}  {L : List Nat} {f : HF} {ad : Nat → Nat → Nat} {w : WW} {pi : PIT} {g0 : Nat → Int32} {i1 : Int32} (I : SH (spM (IA 0 0 14 9999 w) pi (EQ g0) LDa) nnM G ad L f) (hB : BBp 0 0 14 9999 w) (hX : TX g0) : PMp l yX12_about cX12_about 2 .int 1 0 0 G [.ref (ad 0 0), .int i1] L f (fun r => True) := by
  refine PMi.of (post := fun r L1 f1 => (True) ∧ L1 = L ∧ f1 = f) (own := RX12) (by decide) rfl (Nat.le_of_ble_eq_true rfl) (fun sz p e s m args below meth c A ls hA1 hname S Y hl => ?_)
  have hx := S.hx
  have hb := S.hb
  have hl : lv_has ls 2 [(0, .ref (ad 0 0)), (1, .int i1)] := hl
  refine lv_iload_n hx hb dX12_about_0 rfl (lv_at hl 1 rfl) ?_
  refine lv_iconst (v := 0) hx hb dX12_about_1 (by decide) ?_
  refine lv_bipush (v := 8) hx hb dX12_about_2 (by decide) ?_
  refine cSp (As := [.int i1, .int 0, .int 8]) (rest := []) S Y (x_X12_isIn (l := l) ) cw_X12_isIn km12_69 rfl ⟨Nat.le_of_ble_eq_true rfl, Nat.le_of_ble_eq_true rfl⟩ hl.1 rfl (Nat.le_of_ble_eq_true rfl) ⟨Nat.le_of_ble_eq_true rfl, Nat.le_of_ble_eq_true rfl⟩ dX12_about_4 (fun r_80566 H locs er_80566 Y => ?_)
  refine lv_if_eq (tgt := 19) hx hb dX12_about_7 (by decide) (fun c_80567 => ?_) (fun c_80567 => ?_)
  · have B_80568 : bn 0 0 r_80566 := bn_w (bn_eq c_80567 (show bn 0 0 (0 : Int32) from bn_k (by decide))) (by decide)
    refine lv_iload_n hx hb dX12_about_19 rfl (lv_at hl 1 rfl) ?_
    refine lv_bipush (v := 9) hx hb dX12_about_20 (by decide) ?_
    refine lv_icmp_ne (tgt := 32) hx hb dX12_about_22 (by decide) (fun c_80571 => ?_) (fun c_80571 => ?_)
    · refine lv_bipush (v := (-2)) hx hb dX12_about_32 (by decide) ?_
      exact prI (post := fun r L1 f1 => (True) ∧ L1 = L ∧ f1 = f) S Y rfl (by decide) (by decide) hA1 ⟨trivial, rfl, rfl⟩ dX12_about_34
    · have B_80572 : bn 9 9 i1 := bn_w (bn_eq c_80571 (show bn 9 9 (9 : Int32) from bn_k (by decide))) (by decide)
      refine lv_aload_n hx hb dX12_about_25 rfl (lv_at hl 0 rfl) ?_
      obtain ⟨v_80573, v_80575, v_80577, v_80579, v_80581, v_80583, v_80585, v_80587, v_80588, v_80590, v_80592, v_80594, v_80596, v_80598, v_80600, v_80602, v_80604, v_80606, p_ad_0_0, b_80574, b_80576, b_80578, b_80580, b_80582, b_80584, b_80586, b_80589, b_80591, b_80593, b_80595, b_80597, b_80599, b_80601, b_80603, b_80605, b_80607⟩ := opnM_0 (j := 0) I (by decide)
      have p_ad_0_0 : pt L f (ad 0 0) (.inr (12, [.ref (ad 1 0), .ref (ad 2 0), .ref (ad 3 0), .ref (ad 4 0), .int v_80573, .int v_80575, .int v_80577, .int v_80579, .int v_80581, .int v_80583, .int v_80585, .long v_80587, .int v_80588, .int v_80590, .int v_80592, .ref (ad 5 0), .ref (ad 6 0), .int v_80594, .int v_80596, .int v_80598, .int v_80600, .int v_80602, .ref (ad 7 0), .ref (ad 8 0), .ref (ad 9 0), .int v_80604, .ref (ad 10 0), .ref (ad 11 0), .ref (ad 12 0), .ref (ad 13 0), .int v_80606, .ref (ad 14 0)])) := p_ad_0_0
      refine pg_get S Y ok_X12 4 (by decide) kf12_81 (v := .int v_80573) p_ad_0_0 rfl dX12_about_26 ?_
      refine lv_goto (tgt := 34) hx hb dX12_about_29 (by decide) ?_
      exact prI (post := fun r L1 f1 => (True) ∧ L1 = L ∧ f1 = f) S Y rfl (by decide) (by decide) hA1 ⟨trivial, rfl, rfl⟩ dX12_about_34
  · have B_80569 : bn 0 8 i1 := bn_w (bn_i (bn_any i1) (bn_btw (er_80566.2 c_80567).1 (er_80566.2 c_80567).2 (show bn 0 0 (0 : Int32) from bn_k (by decide)) (show bn 8 8 (8 : Int32) from bn_k (by decide)))) (by decide)
    have B_80570 : bn 1 1 r_80566 := bn_w (bn_nel c_80567 er_80566.1 (show bn 0 0 (0 : Int32) from bn_k (by decide))) (by decide)
    refine lv_aload_n hx hb dX12_about_10 rfl (lv_at hl 0 rfl) ?_
    obtain ⟨v_80608, v_80610, v_80612, v_80614, v_80616, v_80618, v_80620, v_80622, v_80623, v_80625, v_80627, v_80629, v_80631, v_80633, v_80635, v_80637, v_80639, v_80641, p_ad_0_0, b_80609, b_80611, b_80613, b_80615, b_80617, b_80619, b_80621, b_80624, b_80626, b_80628, b_80630, b_80632, b_80634, b_80636, b_80638, b_80640, b_80642⟩ := opnM_0 (j := 0) I (by decide)
    have p_ad_0_0 : pt L f (ad 0 0) (.inr (12, [.ref (ad 1 0), .ref (ad 2 0), .ref (ad 3 0), .ref (ad 4 0), .int v_80608, .int v_80610, .int v_80612, .int v_80614, .int v_80616, .int v_80618, .int v_80620, .long v_80622, .int v_80623, .int v_80625, .int v_80627, .ref (ad 5 0), .ref (ad 6 0), .int v_80629, .int v_80631, .int v_80633, .int v_80635, .int v_80637, .ref (ad 7 0), .ref (ad 8 0), .ref (ad 9 0), .int v_80639, .ref (ad 10 0), .ref (ad 11 0), .ref (ad 12 0), .ref (ad 13 0), .int v_80641, .ref (ad 14 0)])) := p_ad_0_0
    refine pg_get S Y ok_X12 0 (by decide) kf12_7 (v := .ref (ad 1 0)) p_ad_0_0 rfl dX12_about_11 ?_
    refine lv_iload_n hx hb dX12_about_14 rfl (lv_at hl 1 rfl) ?_
    obtain ⟨g_80643, p_ad_1_0, o_80644⟩ := I.opi (k := 1) (j := 0) (by decide) rfl
    have p_ad_1_0 : pt L f (ad 1 0) (.inl (G.2 0, 10568, .inl g_80643)) := p_ad_1_0
    obtain ⟨v_80645, ev_80645⟩ : ∃ z, z = g_80643 (i1 : Int32).toNatClampNeg := ⟨_, rfl⟩
    refine pg_iald S Y (v := v_80645) p_ad_1_0 (vp_bn B_80569 (by decide)) ev_80645.symm dX12_about_15 ?_
    refine lv_goto (tgt := 34) hx hb dX12_about_16 (by decide) ?_
    exact prI (post := fun r L1 f1 => (True) ∧ L1 = L ∧ f1 = f) S Y rfl (by decide) (by decide) hA1 ⟨trivial, rfl, rfl⟩ dX12_about_34
