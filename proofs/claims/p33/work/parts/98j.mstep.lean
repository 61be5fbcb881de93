theorem dX12_betweenOf_0 : decode cX12_betweenOf 0 = .ok (.aload_n 0, 1) := by decide +kernel
theorem dX12_betweenOf_1 : decode cX12_betweenOf 1 = .ok (.getfield 142, 3) := by decide +kernel
theorem dX12_betweenOf_4 : decode cX12_betweenOf 4 = .ok (.ifCond .le 23, 3) := by decide +kernel
theorem dX12_betweenOf_27 : decode cX12_betweenOf 27 = .ok (.iconst 0, 1) := by decide +kernel
theorem dX12_betweenOf_28 : decode cX12_betweenOf 28 = .ok (.istore_n 1, 1) := by decide +kernel
theorem dX12_betweenOf_29 : decode cX12_betweenOf 29 = .ok (.iload_n 1, 1) := by decide +kernel
theorem dX12_betweenOf_30 : decode cX12_betweenOf 30 = .ok (.ifCond .ne 15, 3) := by decide +kernel
theorem dX12_betweenOf_33 : decode cX12_betweenOf 33 = .ok (.aload_n 0, 1) := by decide +kernel
theorem dX12_betweenOf_34 : decode cX12_betweenOf 34 = .ok (.getfield 98, 3) := by decide +kernel
theorem dX12_betweenOf_37 : decode cX12_betweenOf 37 = .ok (.bipush 43, 2) := by decide +kernel
theorem dX12_betweenOf_39 : decode cX12_betweenOf 39 = .ok (.if_icmp .ne 6, 3) := by decide +kernel
theorem dX12_betweenOf_45 : decode cX12_betweenOf 45 = .ok (.iload_n 1, 1) := by decide +kernel
theorem dX12_betweenOf_46 : decode cX12_betweenOf 46 = .ok (.ifCond .ne 15, 3) := by decide +kernel
theorem dX12_betweenOf_49 : decode cX12_betweenOf 49 = .ok (.aload_n 0, 1) := by decide +kernel
theorem dX12_betweenOf_50 : decode cX12_betweenOf 50 = .ok (.getfield 98, 3) := by decide +kernel
theorem dX12_betweenOf_53 : decode cX12_betweenOf 53 = .ok (.bipush 45, 2) := by decide +kernel
theorem dX12_betweenOf_55 : decode cX12_betweenOf 55 = .ok (.if_icmp .ne 6, 3) := by decide +kernel
theorem dX12_betweenOf_61 : decode cX12_betweenOf 61 = .ok (.iload_n 1, 1) := by decide +kernel
theorem dX12_betweenOf_62 : decode cX12_betweenOf 62 = .ok (.ifCond .ne 15, 3) := by decide +kernel
theorem dX12_betweenOf_65 : decode cX12_betweenOf 65 = .ok (.aload_n 0, 1) := by decide +kernel
theorem dX12_betweenOf_66 : decode cX12_betweenOf 66 = .ok (.getfield 98, 3) := by decide +kernel
theorem dX12_betweenOf_69 : decode cX12_betweenOf 69 = .ok (.bipush 42, 2) := by decide +kernel
theorem dX12_betweenOf_71 : decode cX12_betweenOf 71 = .ok (.if_icmp .ne 6, 3) := by decide +kernel
theorem dX12_betweenOf_77 : decode cX12_betweenOf 77 = .ok (.iload_n 1, 1) := by decide +kernel
theorem dX12_betweenOf_78 : decode cX12_betweenOf 78 = .ok (.ifCond .ne 15, 3) := by decide +kernel
theorem dX12_betweenOf_81 : decode cX12_betweenOf 81 = .ok (.aload_n 0, 1) := by decide +kernel
theorem dX12_betweenOf_82 : decode cX12_betweenOf 82 = .ok (.getfield 98, 3) := by decide +kernel
theorem dX12_betweenOf_85 : decode cX12_betweenOf 85 = .ok (.bipush 47, 2) := by decide +kernel
theorem dX12_betweenOf_87 : decode cX12_betweenOf 87 = .ok (.if_icmp .ne 6, 3) := by decide +kernel
theorem dX12_betweenOf_93 : decode cX12_betweenOf 93 = .ok (.aload_n 0, 1) := by decide +kernel
theorem dX12_betweenOf_94 : decode cX12_betweenOf 94 = .ok (.invokevirtual 162, 3) := by decide +kernel
theorem dX12_betweenOf_97 : decode cX12_betweenOf 97 = .ok (.ifCond .ne 5, 3) := by decide +kernel
theorem dX12_betweenOf_102 : decode cX12_betweenOf 102 = .ok (.aload_n 0, 1) := by decide +kernel
theorem dX12_betweenOf_103 : decode cX12_betweenOf 103 = .ok (.invokevirtual 194, 3) := by decide +kernel
theorem cw_X12_isCompared : CWv yX12_isCompared cX12_isCompared 2 (some .boolean) 0 := ⟨⟨⟨List.mem_of_getElem? (i := 137) (by decide +kernel), by decide +kernel⟩, ⟨List.mem_of_getElem? (i := 1725) (by decide +kernel), by decide +kernel⟩, by decide +kernel⟩, ⟨List.mem_of_getElem? (i := 1724) (by decide +kernel), by decide +kernel⟩, ⟨List.mem_of_getElem? (i := 68) (by decide +kernel), by decide +kernel⟩⟩
theorem km12_194 : inW (Cond.methodLink RX12 194 yX12_isCompared) := ⟨List.mem_of_getElem? (i := 1722) (by decide +kernel), by decide +kernel⟩
theorem dX12_betweenOf_106 : decode cX12_betweenOf 106 = .ok (.ifCond .ne 8, 3) := by decide +kernel
theorem dX12_betweenOf_114 : decode cX12_betweenOf 114 = .ok (.aload_n 0, 1) := by decide +kernel
theorem dX12_betweenOf_115 : decode cX12_betweenOf 115 = .ok (.bipush 97, 2) := by decide +kernel
theorem dX12_betweenOf_117 : decode cX12_betweenOf 117 = .ok (.bipush 110, 2) := by decide +kernel
theorem dX12_betweenOf_119 : decode cX12_betweenOf 119 = .ok (.bipush 100, 2) := by decide +kernel
theorem dX12_betweenOf_121 : decode cX12_betweenOf 121 = .ok (.invokestatic 124, 3) := by decide +kernel
theorem dX12_betweenOf_124 : decode cX12_betweenOf 124 = .ok (.invokevirtual 187, 3) := by decide +kernel
theorem cw_X12_isWord : CWv yX12_isWord cX12_isWord 3 (some .boolean) 1 := ⟨⟨⟨List.mem_of_getElem? (i := 137) (by decide +kernel), by decide +kernel⟩, ⟨List.mem_of_getElem? (i := 1666) (by decide +kernel), by decide +kernel⟩, by decide +kernel⟩, ⟨List.mem_of_getElem? (i := 1665) (by decide +kernel), by decide +kernel⟩, ⟨List.mem_of_getElem? (i := 54) (by decide +kernel), by decide +kernel⟩⟩
theorem km12_187 : inW (Cond.methodLink RX12 187 yX12_isWord) := ⟨List.mem_of_getElem? (i := 1663) (by decide +kernel), by decide +kernel⟩
theorem dX12_betweenOf_127 : decode cX12_betweenOf 127 = .ok (.ifCond .eq 8, 3) := by decide +kernel
theorem dX12_betweenOf_135 : decode cX12_betweenOf 135 = .ok (.aload_n 0, 1) := by decide +kernel
theorem dX12_betweenOf_136 : decode cX12_betweenOf 136 = .ok (.bipush 111, 2) := by decide +kernel
theorem dX12_betweenOf_138 : decode cX12_betweenOf 138 = .ok (.bipush 114, 2) := by decide +kernel
theorem dX12_betweenOf_140 : decode cX12_betweenOf 140 = .ok (.invokestatic 120, 3) := by decide +kernel
theorem dX12_betweenOf_143 : decode cX12_betweenOf 143 = .ok (.invokevirtual 187, 3) := by decide +kernel
theorem dX12_betweenOf_146 : decode cX12_betweenOf 146 = .ok (.ifCond .eq 8, 3) := by decide +kernel
theorem dX12_betweenOf_154 : decode cX12_betweenOf 154 = .ok (.iconst (-1), 1) := by decide +kernel
theorem dX12_betweenOf_155 : decode cX12_betweenOf 155 = .ok (.ireturn, 1) := by decide +kernel
theorem dX12_betweenOf_149 : decode cX12_betweenOf 149 = .ok (.bipush 22, 2) := by decide +kernel
theorem dX12_betweenOf_151 : decode cX12_betweenOf 151 = .ok (.goto 4, 3) := by decide +kernel
theorem dX12_betweenOf_130 : decode cX12_betweenOf 130 = .ok (.bipush 21, 2) := by decide +kernel
theorem dX12_betweenOf_132 : decode cX12_betweenOf 132 = .ok (.goto 23, 3) := by decide +kernel
theorem dX12_betweenOf_109 : decode cX12_betweenOf 109 = .ok (.aload_n 0, 1) := by decide +kernel
theorem dX12_betweenOf_110 : decode cX12_betweenOf 110 = .ok (.invokevirtual 197, 3) := by decide +kernel
theorem cw_X12_compareOf : CWv yX12_compareOf cX12_compareOf 1 (some .int) 0 := ⟨⟨⟨List.mem_of_getElem? (i := 137) (by decide +kernel), by decide +kernel⟩, ⟨List.mem_of_getElem? (i := 1732) (by decide +kernel), by decide +kernel⟩, by decide +kernel⟩, ⟨List.mem_of_getElem? (i := 1731) (by decide +kernel), by decide +kernel⟩, ⟨List.mem_of_getElem? (i := 69) (by decide +kernel), by decide +kernel⟩⟩
theorem km12_197 : inW (Cond.methodLink RX12 197 yX12_compareOf) := ⟨List.mem_of_getElem? (i := 1729) (by decide +kernel), by decide +kernel⟩
theorem dX12_betweenOf_113 : decode cX12_betweenOf 113 = .ok (.ireturn, 1) := by decide +kernel
theorem dX12_betweenOf_100 : decode cX12_betweenOf 100 = .ok (.iconst (-1), 1) := by decide +kernel
theorem dX12_betweenOf_101 : decode cX12_betweenOf 101 = .ok (.ireturn, 1) := by decide +kernel
theorem dX12_betweenOf_90 : decode cX12_betweenOf 90 = .ok (.bipush 9, 2) := by decide +kernel
theorem dX12_betweenOf_92 : decode cX12_betweenOf 92 = .ok (.ireturn, 1) := by decide +kernel
theorem dX12_betweenOf_74 : decode cX12_betweenOf 74 = .ok (.bipush 8, 2) := by decide +kernel
theorem dX12_betweenOf_76 : decode cX12_betweenOf 76 = .ok (.ireturn, 1) := by decide +kernel
theorem dX12_betweenOf_58 : decode cX12_betweenOf 58 = .ok (.bipush 7, 2) := by decide +kernel
theorem dX12_betweenOf_60 : decode cX12_betweenOf 60 = .ok (.ireturn, 1) := by decide +kernel
theorem dX12_betweenOf_42 : decode cX12_betweenOf 42 = .ok (.bipush 6, 2) := by decide +kernel
theorem dX12_betweenOf_44 : decode cX12_betweenOf 44 = .ok (.ireturn, 1) := by decide +kernel
theorem dX12_betweenOf_7 : decode cX12_betweenOf 7 = .ok (.aload_n 0, 1) := by decide +kernel
theorem dX12_betweenOf_8 : decode cX12_betweenOf 8 = .ok (.getfield 29, 3) := by decide +kernel
theorem dX12_betweenOf_11 : decode cX12_betweenOf 11 = .ok (.aload_n 0, 1) := by decide +kernel
theorem dX12_betweenOf_12 : decode cX12_betweenOf 12 = .ok (.getfield 142, 3) := by decide +kernel
theorem dX12_betweenOf_15 : decode cX12_betweenOf 15 = .ok (.iconst 1, 1) := by decide +kernel
theorem dX12_betweenOf_16 : decode cX12_betweenOf 16 = .ok (.isub, 1) := by decide +kernel
theorem dX12_betweenOf_17 : decode cX12_betweenOf 17 = .ok (.iaload, 1) := by decide +kernel
theorem dX12_betweenOf_18 : decode cX12_betweenOf 18 = .ok (.bipush 16, 2) := by decide +kernel
theorem dX12_betweenOf_20 : decode cX12_betweenOf 20 = .ok (.if_icmp .ne 7, 3) := by decide +kernel
theorem dX12_betweenOf_23 : decode cX12_betweenOf 23 = .ok (.iconst 1, 1) := by decide +kernel
theorem dX12_betweenOf_24 : decode cX12_betweenOf 24 = .ok (.goto 4, 3) := by decide +kernel
theorem dX12_partOf_0 : decode cX12_partOf 0 = .ok (.iload_n 1, 1) := by decide +kernel
theorem dX12_partOf_1 : decode cX12_partOf 1 = .ok (.tableswitch 169 40 44 #[35, 50, 82, 107, 129], 35) := by decide +kernel
theorem swM_40_44 (x : Int32) : x = 40 ∨ x = 41 ∨ x = 42 ∨ x = 43 ∨ x = 44 ∨ (x.toInt < 40 ∨ 44 < x.toInt) := by
  have key : ∀ k : Int32, x.toInt = k.toInt → x = k := fun k h => Int32.toInt_inj.mp h
  by_cases h1 : x.toInt < 40
  · simp [h1]
  by_cases h2 : 44 < x.toInt
  · simp [h2]
  have h3 : x.toInt = 40 ∨ x.toInt = 41 ∨ x.toInt = 42 ∨ x.toInt = 43 ∨ x.toInt = 44 := by omega
  rcases h3 with h | h | h | h | h
  · rw [key 40 (h.trans (by decide))]; decide
  · rw [key 41 (h.trans (by decide))]; decide
  · rw [key 42 (h.trans (by decide))]; decide
  · rw [key 43 (h.trans (by decide))]; decide
  · rw [key 44 (h.trans (by decide))]; decide
theorem dX12_partOf_36 : decode cX12_partOf 36 = .ok (.aload_n 0, 1) := by decide +kernel
theorem dX12_partOf_37 : decode cX12_partOf 37 = .ok (.getfield 98, 3) := by decide +kernel
theorem dX12_partOf_40 : decode cX12_partOf 40 = .ok (.bipush 41, 2) := by decide +kernel
theorem dX12_partOf_42 : decode cX12_partOf 42 = .ok (.if_icmp .ne 7, 3) := by decide +kernel
theorem dX12_partOf_49 : decode cX12_partOf 49 = .ok (.iconst (-1), 1) := by decide +kernel
theorem dX12_partOf_50 : decode cX12_partOf 50 = .ok (.ireturn, 1) := by decide +kernel
theorem dX12_partOf_45 : decode cX12_partOf 45 = .ok (.iconst 0, 1) := by decide +kernel
theorem dX12_partOf_46 : decode cX12_partOf 46 = .ok (.goto 4, 3) := by decide +kernel
theorem dX12_partOf_51 : decode cX12_partOf 51 = .ok (.aload_n 0, 1) := by decide +kernel
theorem dX12_partOf_52 : decode cX12_partOf 52 = .ok (.bipush 116, 2) := by decide +kernel
theorem dX12_partOf_54 : decode cX12_partOf 54 = .ok (.bipush 104, 2) := by decide +kernel
theorem dX12_partOf_56 : decode cX12_partOf 56 = .ok (.bipush 101, 2) := by decide +kernel
theorem dX12_partOf_58 : decode cX12_partOf 58 = .ok (.bipush 110, 2) := by decide +kernel
theorem dX12_partOf_60 : decode cX12_partOf 60 = .ok (.invokestatic 128, 3) := by decide +kernel
theorem dX12_partOf_63 : decode cX12_partOf 63 = .ok (.invokevirtual 187, 3) := by decide +kernel
theorem dX12_partOf_66 : decode cX12_partOf 66 = .ok (.ifCond .eq 15, 3) := by decide +kernel
theorem dX12_partOf_81 : decode cX12_partOf 81 = .ok (.iconst (-1), 1) := by decide +kernel
theorem dX12_partOf_82 : decode cX12_partOf 82 = .ok (.ireturn, 1) := by decide +kernel
theorem dX12_partOf_69 : decode cX12_partOf 69 = .ok (.aload_n 0, 1) := by decide +kernel
theorem dX12_partOf_70 : decode cX12_partOf 70 = .ok (.invokevirtual 194, 3) := by decide +kernel
theorem dX12_partOf_73 : decode cX12_partOf 73 = .ok (.ifCond .eq 8, 3) := by decide +kernel
theorem dX12_partOf_76 : decode cX12_partOf 76 = .ok (.bipush 42, 2) := by decide +kernel
theorem dX12_partOf_78 : decode cX12_partOf 78 = .ok (.goto 4, 3) := by decide +kernel
theorem dX12_partOf_83 : decode cX12_partOf 83 = .ok (.aload_n 0, 1) := by decide +kernel
theorem dX12_partOf_84 : decode cX12_partOf 84 = .ok (.bipush 101, 2) := by decide +kernel
theorem dX12_partOf_86 : decode cX12_partOf 86 = .ok (.bipush 108, 2) := by decide +kernel
theorem dX12_partOf_88 : decode cX12_partOf 88 = .ok (.bipush 115, 2) := by decide +kernel
theorem dX12_partOf_90 : decode cX12_partOf 90 = .ok (.bipush 101, 2) := by decide +kernel
theorem dX12_partOf_92 : decode cX12_partOf 92 = .ok (.invokestatic 128, 3) := by decide +kernel
theorem dX12_partOf_95 : decode cX12_partOf 95 = .ok (.invokevirtual 187, 3) := by decide +kernel
theorem dX12_partOf_98 : decode cX12_partOf 98 = .ok (.ifCond .eq 8, 3) := by decide +kernel
theorem dX12_partOf_106 : decode cX12_partOf 106 = .ok (.iconst (-1), 1) := by decide +kernel
theorem dX12_partOf_107 : decode cX12_partOf 107 = .ok (.ireturn, 1) := by decide +kernel
theorem dX12_partOf_101 : decode cX12_partOf 101 = .ok (.bipush 43, 2) := by decide +kernel
theorem dX12_partOf_103 : decode cX12_partOf 103 = .ok (.goto 4, 3) := by decide +kernel
theorem dX12_partOf_108 : decode cX12_partOf 108 = .ok (.aload_n 0, 1) := by decide +kernel
theorem dX12_partOf_109 : decode cX12_partOf 109 = .ok (.bipush 101, 2) := by decide +kernel
theorem dX12_partOf_111 : decode cX12_partOf 111 = .ok (.bipush 110, 2) := by decide +kernel
theorem dX12_partOf_113 : decode cX12_partOf 113 = .ok (.bipush 100, 2) := by decide +kernel
theorem dX12_partOf_115 : decode cX12_partOf 115 = .ok (.invokestatic 124, 3) := by decide +kernel
theorem dX12_partOf_118 : decode cX12_partOf 118 = .ok (.invokevirtual 187, 3) := by decide +kernel
theorem dX12_partOf_121 : decode cX12_partOf 121 = .ok (.ifCond .eq 7, 3) := by decide +kernel
theorem dX12_partOf_128 : decode cX12_partOf 128 = .ok (.iconst (-1), 1) := by decide +kernel
theorem dX12_partOf_129 : decode cX12_partOf 129 = .ok (.ireturn, 1) := by decide +kernel
theorem dX12_partOf_124 : decode cX12_partOf 124 = .ok (.iconst 0, 1) := by decide +kernel
theorem dX12_partOf_125 : decode cX12_partOf 125 = .ok (.goto 4, 3) := by decide +kernel
theorem dX12_partOf_130 : decode cX12_partOf 130 = .ok (.aload_n 0, 1) := by decide +kernel
theorem dX12_partOf_131 : decode cX12_partOf 131 = .ok (.invokevirtual 194, 3) := by decide +kernel
theorem dX12_partOf_134 : decode cX12_partOf 134 = .ok (.ifCond .ne 7, 3) := by decide +kernel
theorem dX12_partOf_141 : decode cX12_partOf 141 = .ok (.aload_n 0, 1) := by decide +kernel
theorem dX12_partOf_142 : decode cX12_partOf 142 = .ok (.getfield 98, 3) := by decide +kernel
theorem dX12_partOf_145 : decode cX12_partOf 145 = .ok (.bipush 44, 2) := by decide +kernel
theorem dX12_partOf_147 : decode cX12_partOf 147 = .ok (.if_icmp .ne 8, 3) := by decide +kernel
theorem dX12_partOf_155 : decode cX12_partOf 155 = .ok (.aload_n 0, 1) := by decide +kernel
theorem dX12_partOf_156 : decode cX12_partOf 156 = .ok (.getfield 98, 3) := by decide +kernel
theorem dX12_partOf_159 : decode cX12_partOf 159 = .ok (.bipush 41, 2) := by decide +kernel
theorem dX12_partOf_161 : decode cX12_partOf 161 = .ok (.if_icmp .ne 7, 3) := by decide +kernel
theorem dX12_partOf_168 : decode cX12_partOf 168 = .ok (.iconst (-1), 1) := by decide +kernel
theorem dX12_partOf_169 : decode cX12_partOf 169 = .ok (.ireturn, 1) := by decide +kernel
theorem dX12_partOf_164 : decode cX12_partOf 164 = .ok (.iconst 0, 1) := by decide +kernel
theorem dX12_partOf_165 : decode cX12_partOf 165 = .ok (.goto 4, 3) := by decide +kernel
theorem dX12_partOf_150 : decode cX12_partOf 150 = .ok (.bipush 44, 2) := by decide +kernel
theorem dX12_partOf_152 : decode cX12_partOf 152 = .ok (.goto 17, 3) := by decide +kernel
theorem dX12_partOf_137 : decode cX12_partOf 137 = .ok (.iconst (-1), 1) := by decide +kernel
theorem dX12_partOf_138 : decode cX12_partOf 138 = .ok (.goto 31, 3) := by decide +kernel
theorem dX12_partOf_170 : decode cX12_partOf 170 = .ok (.iconst (-1), 1) := by decide +kernel
theorem dX12_partOf_171 : decode cX12_partOf 171 = .ok (.ireturn, 1) := by decide +kernel
theorem dX12_opened_0 : decode cX12_opened 0 = .ok (.aload_n 0, 1) := by decide +kernel
theorem dX12_opened_1 : decode cX12_opened 1 = .ok (.getfield 152, 3) := by decide +kernel
theorem dX12_opened_4 : decode cX12_opened 4 = .ok (.bipush 8, 2) := by decide +kernel
theorem dX12_opened_6 : decode cX12_opened 6 = .ok (.if_icmp .ne 5, 3) := by decide +kernel
theorem dX12_opened_11 : decode cX12_opened 11 = .ok (.aload_n 0, 1) := by decide +kernel
theorem dX12_opened_12 : decode cX12_opened 12 = .ok (.dup, 1) := by decide +kernel
theorem dX12_opened_13 : decode cX12_opened 13 = .ok (.getfield 152, 3) := by decide +kernel
theorem dX12_opened_16 : decode cX12_opened 16 = .ok (.iconst 1, 1) := by decide +kernel
theorem dX12_opened_17 : decode cX12_opened 17 = .ok (.iadd, 1) := by decide +kernel
theorem dX12_opened_18 : decode cX12_opened 18 = .ok (.putfield 152, 3) := by decide +kernel
theorem dX12_opened_21 : decode cX12_opened 21 = .ok (.aload_n 0, 1) := by decide +kernel
theorem dX12_opened_22 : decode cX12_opened 22 = .ok (.getfield 29, 3) := by decide +kernel
theorem dX12_opened_25 : decode cX12_opened 25 = .ok (.aload_n 0, 1) := by decide +kernel
theorem dX12_opened_26 : decode cX12_opened 26 = .ok (.getfield 142, 3) := by decide +kernel
theorem dX12_opened_29 : decode cX12_opened 29 = .ok (.iload_n 1, 1) := by decide +kernel
theorem dX12_opened_30 : decode cX12_opened 30 = .ok (.iastore, 1) := by decide +kernel
theorem dX12_opened_31 : decode cX12_opened 31 = .ok (.aload_n 0, 1) := by decide +kernel
theorem dX12_opened_32 : decode cX12_opened 32 = .ok (.dup, 1) := by decide +kernel
theorem dX12_opened_33 : decode cX12_opened 33 = .ok (.getfield 142, 3) := by decide +kernel
theorem dX12_opened_36 : decode cX12_opened 36 = .ok (.iconst 1, 1) := by decide +kernel
theorem dX12_opened_37 : decode cX12_opened 37 = .ok (.iadd, 1) := by decide +kernel
theorem dX12_opened_38 : decode cX12_opened 38 = .ok (.putfield 142, 3) := by decide +kernel
theorem dX12_opened_41 : decode cX12_opened 41 = .ok (.aload_n 0, 1) := by decide +kernel
theorem dX12_opened_42 : decode cX12_opened 42 = .ok (.invokevirtual 166, 3) := by decide +kernel
theorem cw_X12_nextToken : CWv yX12_nextToken cX12_nextToken 2 none 0 := ⟨⟨⟨List.mem_of_getElem? (i := 137) (by decide +kernel), by decide +kernel⟩, ⟨List.mem_of_getElem? (i := 1627) (by decide +kernel), by decide +kernel⟩, by decide +kernel⟩, ⟨List.mem_of_getElem? (i := 1626) (by decide +kernel), by decide +kernel⟩, ⟨List.mem_of_getElem? (i := 50) (by decide +kernel), by decide +kernel⟩⟩
theorem km12_166 : inW (Cond.methodLink RX12 166 yX12_nextToken) := ⟨List.mem_of_getElem? (i := 1624) (by decide +kernel), by decide +kernel⟩
theorem dX12_opened_45 : decode cX12_opened 45 = .ok (.iload_n 1, 1) := by decide +kernel
theorem dX12_opened_46 : decode cX12_opened 46 = .ok (.bipush 44, 2) := by decide +kernel
theorem dX12_opened_48 : decode cX12_opened 48 = .ok (.if_icmp .eq 5, 3) := by decide +kernel
theorem dX12_opened_53 : decode cX12_opened 53 = .ok (.aload_n 0, 1) := by decide +kernel
theorem dX12_opened_54 : decode cX12_opened 54 = .ok (.getfield 98, 3) := by decide +kernel
theorem dX12_opened_57 : decode cX12_opened 57 = .ok (.bipush 40, 2) := by decide +kernel
theorem dX12_opened_59 : decode cX12_opened 59 = .ok (.if_icmp .eq 5, 3) := by decide +kernel
theorem dX12_opened_64 : decode cX12_opened 64 = .ok (.aload_n 0, 1) := by decide +kernel
theorem dX12_opened_65 : decode cX12_opened 65 = .ok (.getfield 32, 3) := by decide +kernel
theorem kf12_32 : inW (Cond.fieldLink RX12 32 "KneeOathsModel" "counts" "[I") := ⟨List.mem_of_getElem? (i := 1514) (by decide +kernel), by decide +kernel⟩
theorem dX12_opened_68 : decode cX12_opened 68 = .ok (.aload_n 0, 1) := by decide +kernel
theorem dX12_opened_69 : decode cX12_opened 69 = .ok (.getfield 169, 3) := by decide +kernel
theorem kf12_169 : inW (Cond.fieldLink RX12 169 "KneeOathsModel" "counting" "I") := ⟨List.mem_of_getElem? (i := 1517) (by decide +kernel), by decide +kernel⟩
theorem dX12_opened_72 : decode cX12_opened 72 = .ok (.iconst 1, 1) := by decide +kernel
theorem dX12_opened_73 : decode cX12_opened 73 = .ok (.iastore, 1) := by decide +kernel
theorem dX12_opened_74 : decode cX12_opened 74 = .ok (.aload_n 0, 1) := by decide +kernel
theorem dX12_opened_75 : decode cX12_opened 75 = .ok (.dup, 1) := by decide +kernel
theorem dX12_opened_76 : decode cX12_opened 76 = .ok (.getfield 169, 3) := by decide +kernel
theorem dX12_opened_79 : decode cX12_opened 79 = .ok (.iconst 1, 1) := by decide +kernel
theorem dX12_opened_80 : decode cX12_opened 80 = .ok (.iadd, 1) := by decide +kernel
theorem dX12_opened_81 : decode cX12_opened 81 = .ok (.putfield 169, 3) := by decide +kernel
theorem dX12_opened_84 : decode cX12_opened 84 = .ok (.aload_n 0, 1) := by decide +kernel
theorem dX12_opened_85 : decode cX12_opened 85 = .ok (.invokevirtual 166, 3) := by decide +kernel
theorem dX12_opened_88 : decode cX12_opened 88 = .ok (.iconst 0, 1) := by decide +kernel
theorem dX12_opened_89 : decode cX12_opened 89 = .ok (.ireturn, 1) := by decide +kernel
theorem dX12_opened_62 : decode cX12_opened 62 = .ok (.iconst 1, 1) := by decide +kernel
theorem dX12_opened_63 : decode cX12_opened 63 = .ok (.ireturn, 1) := by decide +kernel
theorem dX12_opened_51 : decode cX12_opened 51 = .ok (.iconst 0, 1) := by decide +kernel
theorem dX12_opened_52 : decode cX12_opened 52 = .ok (.ireturn, 1) := by decide +kernel
theorem dX12_opened_9 : decode cX12_opened 9 = .ok (.iconst 3, 1) := by decide +kernel
theorem dX12_opened_10 : decode cX12_opened 10 = .ok (.ireturn, 1) := by decide +kernel
theorem dX12_shut_0 : decode cX12_shut 0 = .ok (.aload_n 0, 1) := by decide +kernel
theorem dX12_shut_1 : decode cX12_shut 1 = .ok (.dup, 1) := by decide +kernel
theorem dX12_shut_2 : decode cX12_shut 2 = .ok (.getfield 152, 3) := by decide +kernel
theorem dX12_shut_5 : decode cX12_shut 5 = .ok (.iconst 1, 1) := by decide +kernel
theorem dX12_shut_6 : decode cX12_shut 6 = .ok (.isub, 1) := by decide +kernel
theorem dX12_shut_7 : decode cX12_shut 7 = .ok (.putfield 152, 3) := by decide +kernel
theorem dX12_shut_10 : decode cX12_shut 10 = .ok (.iload_n 1, 1) := by decide +kernel
theorem dX12_shut_11 : decode cX12_shut 11 = .ok (.bipush 44, 2) := by decide +kernel
theorem dX12_shut_13 : decode cX12_shut 13 = .ok (.if_icmp .ne 45, 3) := by decide +kernel
theorem dX12_shut_58 : decode cX12_shut 58 = .ok (.aload_n 0, 1) := by decide +kernel
theorem dX12_shut_59 : decode cX12_shut 59 = .ok (.dup, 1) := by decide +kernel
theorem dX12_shut_60 : decode cX12_shut 60 = .ok (.getfield 142, 3) := by decide +kernel
theorem dX12_shut_63 : decode cX12_shut 63 = .ok (.iconst 1, 1) := by decide +kernel
theorem dX12_shut_64 : decode cX12_shut 64 = .ok (.isub, 1) := by decide +kernel
theorem dX12_shut_65 : decode cX12_shut 65 = .ok (.putfield 142, 3) := by decide +kernel
theorem dX12_shut_68 : decode cX12_shut 68 = .ok (.iload_n 1, 1) := by decide +kernel
theorem dX12_shut_69 : decode cX12_shut 69 = .ok (.bipush 43, 2) := by decide +kernel
theorem dX12_shut_71 : decode cX12_shut 71 = .ok (.if_icmp .ne 9, 3) := by decide +kernel
theorem dX12_shut_80 : decode cX12_shut 80 = .ok (.aload_n 0, 1) := by decide +kernel
theorem dX12_shut_81 : decode cX12_shut 81 = .ok (.invokevirtual 166, 3) := by decide +kernel
theorem dX12_shut_84 : decode cX12_shut 84 = .ok (.aload_n 0, 1) := by decide +kernel
theorem dX12_shut_85 : decode cX12_shut 85 = .ok (.bipush 7, 2) := by decide +kernel
theorem dX12_shut_87 : decode cX12_shut 87 = .ok (.invokevirtual 181, 3) := by decide +kernel
theorem cw_X12_settle : CWv yX12_settle cX12_settle 2 none 1 := ⟨⟨⟨List.mem_of_getElem? (i := 137) (by decide +kernel), by decide +kernel⟩, ⟨List.mem_of_getElem? (i := 1736) (by decide +kernel), by decide +kernel⟩, by decide +kernel⟩, ⟨List.mem_of_getElem? (i := 1735) (by decide +kernel), by decide +kernel⟩, ⟨List.mem_of_getElem? (i := 70) (by decide +kernel), by decide +kernel⟩⟩
theorem km12_181 : inW (Cond.methodLink RX12 181 yX12_settle) := ⟨List.mem_of_getElem? (i := 1733) (by decide +kernel), by decide +kernel⟩
theorem dX12_shut_90 : decode cX12_shut 90 = .ok (.return_, 1) := by decide +kernel
theorem dX12_shut_74 : decode cX12_shut 74 = .ok (.aload_n 0, 1) := by decide +kernel
theorem dX12_shut_75 : decode cX12_shut 75 = .ok (.iconst 3, 1) := by decide +kernel
theorem dX12_shut_76 : decode cX12_shut 76 = .ok (.iconst 0, 1) := by decide +kernel
theorem dX12_shut_77 : decode cX12_shut 77 = .ok (.invokevirtual 148, 3) := by decide +kernel
theorem dX12_shut_16 : decode cX12_shut 16 = .ok (.aload_n 0, 1) := by decide +kernel
theorem dX12_shut_17 : decode cX12_shut 17 = .ok (.dup, 1) := by decide +kernel
theorem dX12_shut_18 : decode cX12_shut 18 = .ok (.getfield 169, 3) := by decide +kernel
theorem dX12_shut_21 : decode cX12_shut 21 = .ok (.iconst 1, 1) := by decide +kernel
theorem dX12_shut_22 : decode cX12_shut 22 = .ok (.isub, 1) := by decide +kernel
theorem dX12_shut_23 : decode cX12_shut 23 = .ok (.putfield 169, 3) := by decide +kernel
theorem dX12_shut_26 : decode cX12_shut 26 = .ok (.aload_n 0, 1) := by decide +kernel
theorem dX12_shut_27 : decode cX12_shut 27 = .ok (.iconst 4, 1) := by decide +kernel
theorem dX12_shut_28 : decode cX12_shut 28 = .ok (.aload_n 0, 1) := by decide +kernel
theorem dX12_shut_29 : decode cX12_shut 29 = .ok (.getfield 32, 3) := by decide +kernel
theorem dX12_shut_32 : decode cX12_shut 32 = .ok (.aload_n 0, 1) := by decide +kernel
theorem dX12_shut_33 : decode cX12_shut 33 = .ok (.getfield 169, 3) := by decide +kernel
theorem dX12_shut_36 : decode cX12_shut 36 = .ok (.iaload, 1) := by decide +kernel
theorem dX12_shut_37 : decode cX12_shut 37 = .ok (.invokevirtual 148, 3) := by decide +kernel
theorem dX12_shut_40 : decode cX12_shut 40 = .ok (.aload_n 0, 1) := by decide +kernel
theorem dX12_shut_41 : decode cX12_shut 41 = .ok (.getfield 29, 3) := by decide +kernel
theorem dX12_shut_44 : decode cX12_shut 44 = .ok (.aload_n 0, 1) := by decide +kernel
theorem dX12_shut_45 : decode cX12_shut 45 = .ok (.getfield 142, 3) := by decide +kernel
theorem dX12_shut_48 : decode cX12_shut 48 = .ok (.iconst 1, 1) := by decide +kernel
theorem dX12_shut_49 : decode cX12_shut 49 = .ok (.isub, 1) := by decide +kernel
theorem dX12_shut_50 : decode cX12_shut 50 = .ok (.bipush 16, 2) := by decide +kernel
theorem dX12_shut_52 : decode cX12_shut 52 = .ok (.iastore, 1) := by decide +kernel
theorem dX12_shut_53 : decode cX12_shut 53 = .ok (.aload_n 0, 1) := by decide +kernel
theorem dX12_shut_54 : decode cX12_shut 54 = .ok (.invokevirtual 166, 3) := by decide +kernel
theorem dX12_shut_57 : decode cX12_shut 57 = .ok (.return_, 1) := by decide +kernel
theorem askd_t {r : Int32} {q : Prop} (e : r = 1 ∧ q ∨ r = 0 ∧ ¬ q) (h : ¬ r = 0) : q := by
  rcases e with e | e
  · exact e.2
  · exact absurd e.1 h
theorem cmk_t {r : Int32} {q : Bool} (e : r = if q = true then 1 else 0) (h : ¬ r = 0) : q = true := by
  cases q with
  | true => rfl
  | false => exact absurd e h
theorem cmk_f {r : Int32} {q : Bool} (e : r = if q = true then 1 else 0) (h : r = 0) : q = false := by
  cases q with
  | false => rfl
  | true => rw [h] at e; exact absurd e (by decide)
set_option maxHeartbeats 4000000 in
set_option maxRecDepth 100000 in
theorem x_X12_betweenOf {l : Launch} {G : GG}  {L : List Nat} {f : HF} {ad : Nat → Nat → Nat} {pa : (Nat → Int32) → Prop} {PA : (Nat → Int32) → Prop} {PI : (Nat → Int32) → Prop} {PX : (Nat → Int32) → Prop} {td fa fp at9 ps9 tk nu t0 wr so pd op9 cg iw on9 is9 se : Int32} {wd : Int64} {gp : Nat → Int32} (I : SH (spM PA PI PX pa) nnM G ad L f) (p_ad_0_0 : pt L f (ad 0 0) (.inr (12, [.ref (ad 1 0), .ref (ad 2 0), .ref (ad 3 0), .ref (ad 4 0), .int td, .int fa, .int fp, .int at9, .int ps9, .int tk, .int nu, .long wd, .int t0, .int wr, .int so, .ref (ad 5 0), .ref (ad 6 0), .int pd, .int op9, .int cg, .int iw, .int on9, .ref (ad 7 0), .ref (ad 8 0), .ref (ad 9 0), .int is9, .ref (ad 10 0), .ref (ad 11 0), .ref (ad 12 0), .ref (ad 13 0), .int se, .ref (ad 14 0)]))) (p_ad_5_0 : pt L f (ad 5 0) (.inl (G.2 0, 160, .inl gp))) : PMp l yX12_betweenOf cX12_betweenOf 2 .int 3 0 0 G [.ref (ad 0 0)] L f (fun r => (bn (-1) 22 r ∧ BTW gp pd tk r)) := by
  refine PMi.of (post := fun r L1 f1 => ((bn (-1) 22 r ∧ BTW gp pd tk r)) ∧ L1 = L ∧ f1 = f) (own := RX12) (by decide) rfl (Nat.le_of_ble_eq_true rfl) (fun sz p e s m args below meth c A ls hA1 hname S Y hl => ?_)
  have hx := S.hx
  have hb := S.hb
  have hl : lv_has ls 2 [(0, .ref (ad 0 0))] := hl
  obtain ⟨bfe_4, bfe_7, bfe_8, bfe_12, bfe_13, bfe_17, bfe_18, bfe_19, bfe_20, bfe_25⟩ := obM I p_ad_0_0
  refine lv_aload_n hx hb dX12_betweenOf_0 rfl (lv_at hl 0 rfl) ?_
  refine pg_get S Y ok_X12 17 (by decide) kf12_142 (v := .int pd) p_ad_0_0 rfl dX12_betweenOf_1 ?_
  refine lv_if_le (tgt := 27) hx hb dX12_betweenOf_4 (by decide) (fun c_85706 => ?_) (fun c_85706 => ?_)
  · have B_85707 : bn 0 0 pd := bn_w (bn_lel c_85706 bfe_17 (show bn 0 0 (0 : Int32) from bn_k (by decide))) (by decide)
    refine lv_iconst (v := 0) hx hb dX12_betweenOf_27 (by decide) ?_
    refine lv_istore_n (lv' := [(1, .int 0), (0, .ref (ad 0 0))]) hx hb dX12_betweenOf_28 rfl hl (by decide) rfl (fun ls hl => ?_)
    refine lv_iload_n hx hb dX12_betweenOf_29 rfl (lv_at hl 0 rfl) ?_
    refine lv_if_ne (tgt := 45) hx hb dX12_betweenOf_30 (by decide) (fun h => absurd (by decide) h) (fun _ => ?_)
    refine lv_aload_n hx hb dX12_betweenOf_33 rfl (lv_at hl 1 rfl) ?_
    refine pg_get S Y ok_X12 9 (by decide) kf12_98 (v := .int tk) p_ad_0_0 rfl dX12_betweenOf_34 ?_
    refine lv_bipush (v := 43) hx hb dX12_betweenOf_37 (by decide) ?_
    refine lv_icmp_ne (tgt := 45) hx hb dX12_betweenOf_39 (by decide) (fun c_85709 => ?_) (fun c_85709 => ?_)
    · refine lv_iload_n hx hb dX12_betweenOf_45 rfl (lv_at hl 0 rfl) ?_
      refine lv_if_ne (tgt := 61) hx hb dX12_betweenOf_46 (by decide) (fun h => absurd (by decide) h) (fun _ => ?_)
      refine lv_aload_n hx hb dX12_betweenOf_49 rfl (lv_at hl 1 rfl) ?_
      refine pg_get S Y ok_X12 9 (by decide) kf12_98 (v := .int tk) p_ad_0_0 rfl dX12_betweenOf_50 ?_
      refine lv_bipush (v := 45) hx hb dX12_betweenOf_53 (by decide) ?_
      refine lv_icmp_ne (tgt := 61) hx hb dX12_betweenOf_55 (by decide) (fun c_85711 => ?_) (fun c_85711 => ?_)
      · refine lv_iload_n hx hb dX12_betweenOf_61 rfl (lv_at hl 0 rfl) ?_
        refine lv_if_ne (tgt := 77) hx hb dX12_betweenOf_62 (by decide) (fun h => absurd (by decide) h) (fun _ => ?_)
        refine lv_aload_n hx hb dX12_betweenOf_65 rfl (lv_at hl 1 rfl) ?_
        refine pg_get S Y ok_X12 9 (by decide) kf12_98 (v := .int tk) p_ad_0_0 rfl dX12_betweenOf_66 ?_
        refine lv_bipush (v := 42) hx hb dX12_betweenOf_69 (by decide) ?_
        refine lv_icmp_ne (tgt := 77) hx hb dX12_betweenOf_71 (by decide) (fun c_85713 => ?_) (fun c_85713 => ?_)
        · refine lv_iload_n hx hb dX12_betweenOf_77 rfl (lv_at hl 0 rfl) ?_
          refine lv_if_ne (tgt := 93) hx hb dX12_betweenOf_78 (by decide) (fun h => absurd (by decide) h) (fun _ => ?_)
          refine lv_aload_n hx hb dX12_betweenOf_81 rfl (lv_at hl 1 rfl) ?_
          refine pg_get S Y ok_X12 9 (by decide) kf12_98 (v := .int tk) p_ad_0_0 rfl dX12_betweenOf_82 ?_
          refine lv_bipush (v := 47) hx hb dX12_betweenOf_85 (by decide) ?_
          refine lv_icmp_ne (tgt := 93) hx hb dX12_betweenOf_87 (by decide) (fun c_85715 => ?_) (fun c_85715 => ?_)
          · refine lv_aload_n hx hb dX12_betweenOf_93 rfl (lv_at hl 1 rfl) ?_
            refine cVp (As := []) (rest := []) S Y (x_X12_isAskHere (l := l) I p_ad_0_0 p_ad_5_0) cw_X12_isAskHere km12_162 p_ad_0_0 ok_X12.1 rfl rfl ⟨Nat.le_of_ble_eq_true rfl, Nat.le_of_ble_eq_true rfl⟩ hl.1 rfl (Nat.le_of_ble_eq_true rfl) ⟨Nat.le_of_ble_eq_true rfl, Nat.le_of_ble_eq_true rfl⟩ dX12_betweenOf_94 (fun r_85717 H locs er_85717 Y => ?_)
            refine lv_if_ne (tgt := 102) hx hb dX12_betweenOf_97 (by decide) (fun c_85718 => ?_) (fun c_85718 => ?_)
            · have B_85719 : bn 1 160 pd := bn_w (ask_pd er_85717.2 c_85718 (bn_w B_85707 (by decide))) (by decide)
              have B_85720 : bn 1 1 r_85717 := bn_w (bn_nel c_85718 er_85717.1 (show bn 0 0 (0 : Int32) from bn_k (by decide))) (by decide)
              refine lv_aload_n hx hb dX12_betweenOf_102 rfl (lv_at hl 1 rfl) ?_
              refine cVp (As := []) (rest := []) S Y (x_X12_isCompared (l := l) I p_ad_0_0 p_ad_5_0) cw_X12_isCompared km12_194 p_ad_0_0 ok_X12.1 rfl rfl ⟨Nat.le_of_ble_eq_true rfl, Nat.le_of_ble_eq_true rfl⟩ hl.1 rfl (Nat.le_of_ble_eq_true rfl) ⟨Nat.le_of_ble_eq_true rfl, Nat.le_of_ble_eq_true rfl⟩ dX12_betweenOf_103 (fun r_85722 H locs er_85722 Y => ?_)
              refine lv_if_ne (tgt := 114) hx hb dX12_betweenOf_106 (by decide) (fun c_85723 => ?_) (fun c_85723 => ?_)
              · have B_85724 : bn 1 1 r_85722 := bn_w (bn_nel c_85723 er_85722.1 (show bn 0 0 (0 : Int32) from bn_k (by decide))) (by decide)
                refine lv_aload_n hx hb dX12_betweenOf_114 rfl (lv_at hl 1 rfl) ?_
                refine lv_bipush (v := 97) hx hb dX12_betweenOf_115 (by decide) ?_
                refine lv_bipush (v := 110) hx hb dX12_betweenOf_117 (by decide) ?_
                refine lv_bipush (v := 100) hx hb dX12_betweenOf_119 (by decide) ?_
                refine cSlp (As := [.int 97, .int 110, .int 100]) (rest := [.ref (ad 0 0)]) S Y (x_X12_w3 (l := l) ) cw_X12_w3 km12_124 rfl ⟨Nat.le_of_ble_eq_true rfl, Nat.le_of_ble_eq_true rfl⟩ hl.1 rfl (Nat.le_of_ble_eq_true rfl) ⟨Nat.le_of_ble_eq_true rfl, Nat.le_of_ble_eq_true rfl⟩ dX12_betweenOf_121 (fun r_85726 H locs er_85726 Y => ?_)
                refine cVp (As := [.long r_85726]) (rest := []) S Y (x_X12_isWord (l := l) I p_ad_0_0) cw_X12_isWord km12_187 p_ad_0_0 ok_X12.1 rfl rfl ⟨Nat.le_of_ble_eq_true rfl, Nat.le_of_ble_eq_true rfl⟩ hl.1 rfl (Nat.le_of_ble_eq_true rfl) ⟨Nat.le_of_ble_eq_true rfl, Nat.le_of_ble_eq_true rfl⟩ dX12_betweenOf_124 (fun r_85727 H locs er_85727 Y => ?_)
                refine lv_if_eq (tgt := 135) hx hb dX12_betweenOf_127 (by decide) (fun c_85728 => ?_) (fun c_85728 => ?_)
                · have B_85729 : bn 0 0 r_85727 := bn_w (bn_eq c_85728 (show bn 0 0 (0 : Int32) from bn_k (by decide))) (by decide)
                  refine lv_aload_n hx hb dX12_betweenOf_135 rfl (lv_at hl 1 rfl) ?_
                  refine lv_bipush (v := 111) hx hb dX12_betweenOf_136 (by decide) ?_
                  refine lv_bipush (v := 114) hx hb dX12_betweenOf_138 (by decide) ?_
                  refine cSlp (As := [.int 111, .int 114]) (rest := [.ref (ad 0 0)]) S Y (x_X12_w2 (l := l) ) cw_X12_w2 km12_120 rfl ⟨Nat.le_of_ble_eq_true rfl, Nat.le_of_ble_eq_true rfl⟩ hl.1 rfl (Nat.le_of_ble_eq_true rfl) ⟨Nat.le_of_ble_eq_true rfl, Nat.le_of_ble_eq_true rfl⟩ dX12_betweenOf_140 (fun r_85731 H locs er_85731 Y => ?_)
                  refine cVp (As := [.long r_85731]) (rest := []) S Y (x_X12_isWord (l := l) I p_ad_0_0) cw_X12_isWord km12_187 p_ad_0_0 ok_X12.1 rfl rfl ⟨Nat.le_of_ble_eq_true rfl, Nat.le_of_ble_eq_true rfl⟩ hl.1 rfl (Nat.le_of_ble_eq_true rfl) ⟨Nat.le_of_ble_eq_true rfl, Nat.le_of_ble_eq_true rfl⟩ dX12_betweenOf_143 (fun r_85732 H locs er_85732 Y => ?_)
                  refine lv_if_eq (tgt := 154) hx hb dX12_betweenOf_146 (by decide) (fun c_85733 => ?_) (fun c_85733 => ?_)
                  · have B_85734 : bn 0 0 r_85732 := bn_w (bn_eq c_85733 (show bn 0 0 (0 : Int32) from bn_k (by decide))) (by decide)
                    refine lv_iconst (v := (-1)) hx hb dX12_betweenOf_154 (by decide) ?_
                    exact prI (post := fun r L1 f1 => ((bn (-1) 22 r ∧ BTW gp pd tk r)) ∧ L1 = L ∧ f1 = f) S Y rfl (by decide) (by decide) hA1 ⟨⟨bn_k (by decide), Or.inl rfl⟩, rfl, rfl⟩ dX12_betweenOf_155
                  · have B_85735 : bn 1 1 r_85732 := bn_w (bn_nel c_85733 er_85732.1 (show bn 0 0 (0 : Int32) from bn_k (by decide))) (by decide)
                    refine lv_bipush (v := 22) hx hb dX12_betweenOf_149 (by decide) ?_
                    refine lv_goto (tgt := 155) hx hb dX12_betweenOf_151 (by decide) ?_
                    exact prI (post := fun r L1 f1 => ((bn (-1) 22 r ∧ BTW gp pd tk r)) ∧ L1 = L ∧ f1 = f) S Y rfl (by decide) (by decide) hA1 ⟨⟨bn_k (by decide), Or.inr ⟨(show ¬ tk = 0 from by rw [er_85732.2 c_85733]; decide), Or.inr (Or.inr ⟨Or.inr rfl, (askd_t er_85717.2 c_85718), (cmk_t er_85722.2 c_85723)⟩)⟩⟩, rfl, rfl⟩ dX12_betweenOf_155
                · have B_85730 : bn 1 1 r_85727 := bn_w (bn_nel c_85728 er_85727.1 (show bn 0 0 (0 : Int32) from bn_k (by decide))) (by decide)
                  refine lv_bipush (v := 21) hx hb dX12_betweenOf_130 (by decide) ?_
                  refine lv_goto (tgt := 155) hx hb dX12_betweenOf_132 (by decide) ?_
                  exact prI (post := fun r L1 f1 => ((bn (-1) 22 r ∧ BTW gp pd tk r)) ∧ L1 = L ∧ f1 = f) S Y rfl (by decide) (by decide) hA1 ⟨⟨bn_k (by decide), Or.inr ⟨(show ¬ tk = 0 from by rw [er_85727.2 c_85728]; decide), Or.inr (Or.inr ⟨Or.inl rfl, (askd_t er_85717.2 c_85718), (cmk_t er_85722.2 c_85723)⟩)⟩⟩, rfl, rfl⟩ dX12_betweenOf_155
              · have B_85725 : bn 0 0 r_85722 := bn_w (bn_eq c_85723 (show bn 0 0 (0 : Int32) from bn_k (by decide))) (by decide)
                refine lv_aload_n hx hb dX12_betweenOf_109 rfl (lv_at hl 1 rfl) ?_
                refine cVp (As := []) (rest := []) S Y (x_X12_compareOf (l := l) I p_ad_0_0) cw_X12_compareOf km12_197 p_ad_0_0 ok_X12.1 rfl rfl ⟨Nat.le_of_ble_eq_true rfl, Nat.le_of_ble_eq_true rfl⟩ hl.1 rfl (Nat.le_of_ble_eq_true rfl) ⟨Nat.le_of_ble_eq_true rfl, Nat.le_of_ble_eq_true rfl⟩ dX12_betweenOf_110 (fun r_85736 H locs er_85736 Y => ?_)
                exact prI (post := fun r L1 f1 => ((bn (-1) 22 r ∧ BTW gp pd tk r)) ∧ L1 = L ∧ f1 = f) S Y rfl (by decide) (by decide) hA1 ⟨⟨bn_w er_85736.1 (by decide), (by by_cases z : r_85736 = -1; exact Or.inl z; exact Or.inr ⟨(er_85736.2 z).1, Or.inr (Or.inl ⟨(er_85736.2 z).2, (askd_t er_85717.2 c_85718), (cmk_f er_85722.2 c_85723)⟩)⟩)⟩, rfl, rfl⟩ dX12_betweenOf_113
            · have B_85721 : bn 0 0 r_85717 := bn_w (bn_eq c_85718 (show bn 0 0 (0 : Int32) from bn_k (by decide))) (by decide)
              refine lv_iconst (v := (-1)) hx hb dX12_betweenOf_100 (by decide) ?_
              exact prI (post := fun r L1 f1 => ((bn (-1) 22 r ∧ BTW gp pd tk r)) ∧ L1 = L ∧ f1 = f) S Y rfl (by decide) (by decide) hA1 ⟨⟨bn_k (by decide), Or.inl rfl⟩, rfl, rfl⟩ dX12_betweenOf_101
          · have B_85716 : bn 47 47 tk := bn_w (bn_eq c_85715 (show bn 47 47 (47 : Int32) from bn_k (by decide))) (by decide)
            refine lv_bipush (v := 9) hx hb dX12_betweenOf_90 (by decide) ?_
            exact prI (post := fun r L1 f1 => ((bn (-1) 22 r ∧ BTW gp pd tk r)) ∧ L1 = L ∧ f1 = f) S Y rfl (by decide) (by decide) hA1 ⟨⟨bn_k (by decide), Or.inr ⟨(show ¬ tk = 0 from by rw [c_85715]; decide), Or.inl ⟨bn_k (by decide), (Or.inl (by have z9 := c_85706; rw [Int32.le_iff_toInt_le] at z9; have z8 : (0 : Int32).toInt = 0 := rfl; omega))⟩⟩⟩, rfl, rfl⟩ dX12_betweenOf_92
        · have B_85714 : bn 42 42 tk := bn_w (bn_eq c_85713 (show bn 42 42 (42 : Int32) from bn_k (by decide))) (by decide)
          refine lv_bipush (v := 8) hx hb dX12_betweenOf_74 (by decide) ?_
          exact prI (post := fun r L1 f1 => ((bn (-1) 22 r ∧ BTW gp pd tk r)) ∧ L1 = L ∧ f1 = f) S Y rfl (by decide) (by decide) hA1 ⟨⟨bn_k (by decide), Or.inr ⟨(show ¬ tk = 0 from by rw [c_85713]; decide), Or.inl ⟨bn_k (by decide), (Or.inl (by have z9 := c_85706; rw [Int32.le_iff_toInt_le] at z9; have z8 : (0 : Int32).toInt = 0 := rfl; omega))⟩⟩⟩, rfl, rfl⟩ dX12_betweenOf_76
      · have B_85712 : bn 45 45 tk := bn_w (bn_eq c_85711 (show bn 45 45 (45 : Int32) from bn_k (by decide))) (by decide)
        refine lv_bipush (v := 7) hx hb dX12_betweenOf_58 (by decide) ?_
        exact prI (post := fun r L1 f1 => ((bn (-1) 22 r ∧ BTW gp pd tk r)) ∧ L1 = L ∧ f1 = f) S Y rfl (by decide) (by decide) hA1 ⟨⟨bn_k (by decide), Or.inr ⟨(show ¬ tk = 0 from by rw [c_85711]; decide), Or.inl ⟨bn_k (by decide), (Or.inl (by have z9 := c_85706; rw [Int32.le_iff_toInt_le] at z9; have z8 : (0 : Int32).toInt = 0 := rfl; omega))⟩⟩⟩, rfl, rfl⟩ dX12_betweenOf_60
    · have B_85710 : bn 43 43 tk := bn_w (bn_eq c_85709 (show bn 43 43 (43 : Int32) from bn_k (by decide))) (by decide)
      refine lv_bipush (v := 6) hx hb dX12_betweenOf_42 (by decide) ?_
      exact prI (post := fun r L1 f1 => ((bn (-1) 22 r ∧ BTW gp pd tk r)) ∧ L1 = L ∧ f1 = f) S Y rfl (by decide) (by decide) hA1 ⟨⟨bn_k (by decide), Or.inr ⟨(show ¬ tk = 0 from by rw [c_85709]; decide), Or.inl ⟨bn_k (by decide), (Or.inl (by have z9 := c_85706; rw [Int32.le_iff_toInt_le] at z9; have z8 : (0 : Int32).toInt = 0 := rfl; omega))⟩⟩⟩, rfl, rfl⟩ dX12_betweenOf_44
  · have B_85708 : bn 1 160 pd := bn_w (bn_gtl c_85706 bfe_17 (show bn 0 0 (0 : Int32) from bn_k (by decide))) (by decide)
    refine lv_aload_n hx hb dX12_betweenOf_7 rfl (lv_at hl 0 rfl) ?_
    refine pg_get S Y ok_X12 15 (by decide) kf12_29 (v := .ref (ad 5 0)) p_ad_0_0 rfl dX12_betweenOf_8 ?_
    refine lv_aload_n hx hb dX12_betweenOf_11 rfl (lv_at hl 0 rfl) ?_
    refine pg_get S Y ok_X12 17 (by decide) kf12_142 (v := .int pd) p_ad_0_0 rfl dX12_betweenOf_12 ?_
    refine lv_iconst (v := 1) hx hb dX12_betweenOf_15 (by decide) ?_
    refine lv_isub hx hb dX12_betweenOf_16 ?_
    refine lv_topi (fun x_85737 ex_85737 => ?_)
    obtain ⟨v_85738, ev_85738⟩ : ∃ z, z = gp (x_85737 : Int32).toNatClampNeg := ⟨_, rfl⟩
    refine pg_iald S Y (v := v_85738) p_ad_5_0 (vp_bn (bn_eq ex_85737 (bn_sub B_85708 (show bn 1 1 (1 : Int32) from bn_k (by decide)) (by decide))) (by decide)) ev_85738.symm dX12_betweenOf_17 ?_
    refine lv_bipush (v := 16) hx hb dX12_betweenOf_18 (by decide) ?_
    refine lv_icmp_ne (tgt := 27) hx hb dX12_betweenOf_20 (by decide) (fun c_85739 => ?_) (fun c_85739 => ?_)
    · refine lv_iconst (v := 0) hx hb dX12_betweenOf_27 (by decide) ?_
      refine lv_istore_n (lv' := [(1, .int 0), (0, .ref (ad 0 0))]) hx hb dX12_betweenOf_28 rfl hl (by decide) rfl (fun ls hl => ?_)
      refine lv_iload_n hx hb dX12_betweenOf_29 rfl (lv_at hl 0 rfl) ?_
      refine lv_if_ne (tgt := 45) hx hb dX12_betweenOf_30 (by decide) (fun h => absurd (by decide) h) (fun _ => ?_)
      refine lv_aload_n hx hb dX12_betweenOf_33 rfl (lv_at hl 1 rfl) ?_
      refine pg_get S Y ok_X12 9 (by decide) kf12_98 (v := .int tk) p_ad_0_0 rfl dX12_betweenOf_34 ?_
      refine lv_bipush (v := 43) hx hb dX12_betweenOf_37 (by decide) ?_
      refine lv_icmp_ne (tgt := 45) hx hb dX12_betweenOf_39 (by decide) (fun c_85741 => ?_) (fun c_85741 => ?_)
      · refine lv_iload_n hx hb dX12_betweenOf_45 rfl (lv_at hl 0 rfl) ?_
        refine lv_if_ne (tgt := 61) hx hb dX12_betweenOf_46 (by decide) (fun h => absurd (by decide) h) (fun _ => ?_)
        refine lv_aload_n hx hb dX12_betweenOf_49 rfl (lv_at hl 1 rfl) ?_
        refine pg_get S Y ok_X12 9 (by decide) kf12_98 (v := .int tk) p_ad_0_0 rfl dX12_betweenOf_50 ?_
        refine lv_bipush (v := 45) hx hb dX12_betweenOf_53 (by decide) ?_
        refine lv_icmp_ne (tgt := 61) hx hb dX12_betweenOf_55 (by decide) (fun c_85743 => ?_) (fun c_85743 => ?_)
        · refine lv_iload_n hx hb dX12_betweenOf_61 rfl (lv_at hl 0 rfl) ?_
          refine lv_if_ne (tgt := 77) hx hb dX12_betweenOf_62 (by decide) (fun h => absurd (by decide) h) (fun _ => ?_)
          refine lv_aload_n hx hb dX12_betweenOf_65 rfl (lv_at hl 1 rfl) ?_
          refine pg_get S Y ok_X12 9 (by decide) kf12_98 (v := .int tk) p_ad_0_0 rfl dX12_betweenOf_66 ?_
          refine lv_bipush (v := 42) hx hb dX12_betweenOf_69 (by decide) ?_
          refine lv_icmp_ne (tgt := 77) hx hb dX12_betweenOf_71 (by decide) (fun c_85745 => ?_) (fun c_85745 => ?_)
          · refine lv_iload_n hx hb dX12_betweenOf_77 rfl (lv_at hl 0 rfl) ?_
            refine lv_if_ne (tgt := 93) hx hb dX12_betweenOf_78 (by decide) (fun h => absurd (by decide) h) (fun _ => ?_)
            refine lv_aload_n hx hb dX12_betweenOf_81 rfl (lv_at hl 1 rfl) ?_
            refine pg_get S Y ok_X12 9 (by decide) kf12_98 (v := .int tk) p_ad_0_0 rfl dX12_betweenOf_82 ?_
            refine lv_bipush (v := 47) hx hb dX12_betweenOf_85 (by decide) ?_
            refine lv_icmp_ne (tgt := 93) hx hb dX12_betweenOf_87 (by decide) (fun c_85747 => ?_) (fun c_85747 => ?_)
            · refine lv_aload_n hx hb dX12_betweenOf_93 rfl (lv_at hl 1 rfl) ?_
              refine cVp (As := []) (rest := []) S Y (x_X12_isAskHere (l := l) I p_ad_0_0 p_ad_5_0) cw_X12_isAskHere km12_162 p_ad_0_0 ok_X12.1 rfl rfl ⟨Nat.le_of_ble_eq_true rfl, Nat.le_of_ble_eq_true rfl⟩ hl.1 rfl (Nat.le_of_ble_eq_true rfl) ⟨Nat.le_of_ble_eq_true rfl, Nat.le_of_ble_eq_true rfl⟩ dX12_betweenOf_94 (fun r_85749 H locs er_85749 Y => ?_)
              refine lv_if_ne (tgt := 102) hx hb dX12_betweenOf_97 (by decide) (fun c_85750 => ?_) (fun c_85750 => ?_)
              · have B_85751 : bn 1 1 r_85749 := bn_w (bn_nel c_85750 er_85749.1 (show bn 0 0 (0 : Int32) from bn_k (by decide))) (by decide)
                refine lv_aload_n hx hb dX12_betweenOf_102 rfl (lv_at hl 1 rfl) ?_
                refine cVp (As := []) (rest := []) S Y (x_X12_isCompared (l := l) I p_ad_0_0 p_ad_5_0) cw_X12_isCompared km12_194 p_ad_0_0 ok_X12.1 rfl rfl ⟨Nat.le_of_ble_eq_true rfl, Nat.le_of_ble_eq_true rfl⟩ hl.1 rfl (Nat.le_of_ble_eq_true rfl) ⟨Nat.le_of_ble_eq_true rfl, Nat.le_of_ble_eq_true rfl⟩ dX12_betweenOf_103 (fun r_85753 H locs er_85753 Y => ?_)
                refine lv_if_ne (tgt := 114) hx hb dX12_betweenOf_106 (by decide) (fun c_85754 => ?_) (fun c_85754 => ?_)
                · have B_85755 : bn 1 1 r_85753 := bn_w (bn_nel c_85754 er_85753.1 (show bn 0 0 (0 : Int32) from bn_k (by decide))) (by decide)
                  refine lv_aload_n hx hb dX12_betweenOf_114 rfl (lv_at hl 1 rfl) ?_
                  refine lv_bipush (v := 97) hx hb dX12_betweenOf_115 (by decide) ?_
                  refine lv_bipush (v := 110) hx hb dX12_betweenOf_117 (by decide) ?_
                  refine lv_bipush (v := 100) hx hb dX12_betweenOf_119 (by decide) ?_
                  refine cSlp (As := [.int 97, .int 110, .int 100]) (rest := [.ref (ad 0 0)]) S Y (x_X12_w3 (l := l) ) cw_X12_w3 km12_124 rfl ⟨Nat.le_of_ble_eq_true rfl, Nat.le_of_ble_eq_true rfl⟩ hl.1 rfl (Nat.le_of_ble_eq_true rfl) ⟨Nat.le_of_ble_eq_true rfl, Nat.le_of_ble_eq_true rfl⟩ dX12_betweenOf_121 (fun r_85757 H locs er_85757 Y => ?_)
                  refine cVp (As := [.long r_85757]) (rest := []) S Y (x_X12_isWord (l := l) I p_ad_0_0) cw_X12_isWord km12_187 p_ad_0_0 ok_X12.1 rfl rfl ⟨Nat.le_of_ble_eq_true rfl, Nat.le_of_ble_eq_true rfl⟩ hl.1 rfl (Nat.le_of_ble_eq_true rfl) ⟨Nat.le_of_ble_eq_true rfl, Nat.le_of_ble_eq_true rfl⟩ dX12_betweenOf_124 (fun r_85758 H locs er_85758 Y => ?_)
                  refine lv_if_eq (tgt := 135) hx hb dX12_betweenOf_127 (by decide) (fun c_85759 => ?_) (fun c_85759 => ?_)
                  · have B_85760 : bn 0 0 r_85758 := bn_w (bn_eq c_85759 (show bn 0 0 (0 : Int32) from bn_k (by decide))) (by decide)
                    refine lv_aload_n hx hb dX12_betweenOf_135 rfl (lv_at hl 1 rfl) ?_
                    refine lv_bipush (v := 111) hx hb dX12_betweenOf_136 (by decide) ?_
                    refine lv_bipush (v := 114) hx hb dX12_betweenOf_138 (by decide) ?_
                    refine cSlp (As := [.int 111, .int 114]) (rest := [.ref (ad 0 0)]) S Y (x_X12_w2 (l := l) ) cw_X12_w2 km12_120 rfl ⟨Nat.le_of_ble_eq_true rfl, Nat.le_of_ble_eq_true rfl⟩ hl.1 rfl (Nat.le_of_ble_eq_true rfl) ⟨Nat.le_of_ble_eq_true rfl, Nat.le_of_ble_eq_true rfl⟩ dX12_betweenOf_140 (fun r_85762 H locs er_85762 Y => ?_)
                    refine cVp (As := [.long r_85762]) (rest := []) S Y (x_X12_isWord (l := l) I p_ad_0_0) cw_X12_isWord km12_187 p_ad_0_0 ok_X12.1 rfl rfl ⟨Nat.le_of_ble_eq_true rfl, Nat.le_of_ble_eq_true rfl⟩ hl.1 rfl (Nat.le_of_ble_eq_true rfl) ⟨Nat.le_of_ble_eq_true rfl, Nat.le_of_ble_eq_true rfl⟩ dX12_betweenOf_143 (fun r_85763 H locs er_85763 Y => ?_)
                    refine lv_if_eq (tgt := 154) hx hb dX12_betweenOf_146 (by decide) (fun c_85764 => ?_) (fun c_85764 => ?_)
                    · have B_85765 : bn 0 0 r_85763 := bn_w (bn_eq c_85764 (show bn 0 0 (0 : Int32) from bn_k (by decide))) (by decide)
                      refine lv_iconst (v := (-1)) hx hb dX12_betweenOf_154 (by decide) ?_
                      exact prI (post := fun r L1 f1 => ((bn (-1) 22 r ∧ BTW gp pd tk r)) ∧ L1 = L ∧ f1 = f) S Y rfl (by decide) (by decide) hA1 ⟨⟨bn_k (by decide), Or.inl rfl⟩, rfl, rfl⟩ dX12_betweenOf_155
                    · have B_85766 : bn 1 1 r_85763 := bn_w (bn_nel c_85764 er_85763.1 (show bn 0 0 (0 : Int32) from bn_k (by decide))) (by decide)
                      refine lv_bipush (v := 22) hx hb dX12_betweenOf_149 (by decide) ?_
                      refine lv_goto (tgt := 155) hx hb dX12_betweenOf_151 (by decide) ?_
                      exact prI (post := fun r L1 f1 => ((bn (-1) 22 r ∧ BTW gp pd tk r)) ∧ L1 = L ∧ f1 = f) S Y rfl (by decide) (by decide) hA1 ⟨⟨bn_k (by decide), Or.inr ⟨(show ¬ tk = 0 from by rw [er_85763.2 c_85764]; decide), Or.inr (Or.inr ⟨Or.inr rfl, (askd_t er_85749.2 c_85750), (cmk_t er_85753.2 c_85754)⟩)⟩⟩, rfl, rfl⟩ dX12_betweenOf_155
                  · have B_85761 : bn 1 1 r_85758 := bn_w (bn_nel c_85759 er_85758.1 (show bn 0 0 (0 : Int32) from bn_k (by decide))) (by decide)
                    refine lv_bipush (v := 21) hx hb dX12_betweenOf_130 (by decide) ?_
                    refine lv_goto (tgt := 155) hx hb dX12_betweenOf_132 (by decide) ?_
                    exact prI (post := fun r L1 f1 => ((bn (-1) 22 r ∧ BTW gp pd tk r)) ∧ L1 = L ∧ f1 = f) S Y rfl (by decide) (by decide) hA1 ⟨⟨bn_k (by decide), Or.inr ⟨(show ¬ tk = 0 from by rw [er_85758.2 c_85759]; decide), Or.inr (Or.inr ⟨Or.inl rfl, (askd_t er_85749.2 c_85750), (cmk_t er_85753.2 c_85754)⟩)⟩⟩, rfl, rfl⟩ dX12_betweenOf_155
                · have B_85756 : bn 0 0 r_85753 := bn_w (bn_eq c_85754 (show bn 0 0 (0 : Int32) from bn_k (by decide))) (by decide)
                  refine lv_aload_n hx hb dX12_betweenOf_109 rfl (lv_at hl 1 rfl) ?_
                  refine cVp (As := []) (rest := []) S Y (x_X12_compareOf (l := l) I p_ad_0_0) cw_X12_compareOf km12_197 p_ad_0_0 ok_X12.1 rfl rfl ⟨Nat.le_of_ble_eq_true rfl, Nat.le_of_ble_eq_true rfl⟩ hl.1 rfl (Nat.le_of_ble_eq_true rfl) ⟨Nat.le_of_ble_eq_true rfl, Nat.le_of_ble_eq_true rfl⟩ dX12_betweenOf_110 (fun r_85767 H locs er_85767 Y => ?_)
                  exact prI (post := fun r L1 f1 => ((bn (-1) 22 r ∧ BTW gp pd tk r)) ∧ L1 = L ∧ f1 = f) S Y rfl (by decide) (by decide) hA1 ⟨⟨bn_w er_85767.1 (by decide), (by by_cases z : r_85767 = -1; exact Or.inl z; exact Or.inr ⟨(er_85767.2 z).1, Or.inr (Or.inl ⟨(er_85767.2 z).2, (askd_t er_85749.2 c_85750), (cmk_f er_85753.2 c_85754)⟩)⟩)⟩, rfl, rfl⟩ dX12_betweenOf_113
              · have B_85752 : bn 0 0 r_85749 := bn_w (bn_eq c_85750 (show bn 0 0 (0 : Int32) from bn_k (by decide))) (by decide)
                refine lv_iconst (v := (-1)) hx hb dX12_betweenOf_100 (by decide) ?_
                exact prI (post := fun r L1 f1 => ((bn (-1) 22 r ∧ BTW gp pd tk r)) ∧ L1 = L ∧ f1 = f) S Y rfl (by decide) (by decide) hA1 ⟨⟨bn_k (by decide), Or.inl rfl⟩, rfl, rfl⟩ dX12_betweenOf_101
            · have B_85748 : bn 47 47 tk := bn_w (bn_eq c_85747 (show bn 47 47 (47 : Int32) from bn_k (by decide))) (by decide)
              refine lv_bipush (v := 9) hx hb dX12_betweenOf_90 (by decide) ?_
              exact prI (post := fun r L1 f1 => ((bn (-1) 22 r ∧ BTW gp pd tk r)) ∧ L1 = L ∧ f1 = f) S Y rfl (by decide) (by decide) hA1 ⟨⟨bn_k (by decide), Or.inr ⟨(show ¬ tk = 0 from by rw [c_85747]; decide), Or.inl ⟨bn_k (by decide), (Or.inr (fun z9 => c_85739 (Int32.toInt_inj.mp ((show v_85738.toInt = (gp (pd.toInt.toNat - 1)).toInt from by rw [ev_85738, show (x_85737 : Int32).toNatClampNeg = pd.toInt.toNat - 1 from (by have z8 := (la_sub ex_85737 (rfl : pd.toInt = pd.toInt) (show (1 : Int32).toInt = 1 from rfl) B_85708 (show bn 1 1 (1 : Int32) from bn_k (by decide)) (by decide)); have z7 := (B_85708).1; rw [tnc]; omega)]).trans z9))))⟩⟩⟩, rfl, rfl⟩ dX12_betweenOf_92
          · have B_85746 : bn 42 42 tk := bn_w (bn_eq c_85745 (show bn 42 42 (42 : Int32) from bn_k (by decide))) (by decide)
            refine lv_bipush (v := 8) hx hb dX12_betweenOf_74 (by decide) ?_
            exact prI (post := fun r L1 f1 => ((bn (-1) 22 r ∧ BTW gp pd tk r)) ∧ L1 = L ∧ f1 = f) S Y rfl (by decide) (by decide) hA1 ⟨⟨bn_k (by decide), Or.inr ⟨(show ¬ tk = 0 from by rw [c_85745]; decide), Or.inl ⟨bn_k (by decide), (Or.inr (fun z9 => c_85739 (Int32.toInt_inj.mp ((show v_85738.toInt = (gp (pd.toInt.toNat - 1)).toInt from by rw [ev_85738, show (x_85737 : Int32).toNatClampNeg = pd.toInt.toNat - 1 from (by have z8 := (la_sub ex_85737 (rfl : pd.toInt = pd.toInt) (show (1 : Int32).toInt = 1 from rfl) B_85708 (show bn 1 1 (1 : Int32) from bn_k (by decide)) (by decide)); have z7 := (B_85708).1; rw [tnc]; omega)]).trans z9))))⟩⟩⟩, rfl, rfl⟩ dX12_betweenOf_76
        · have B_85744 : bn 45 45 tk := bn_w (bn_eq c_85743 (show bn 45 45 (45 : Int32) from bn_k (by decide))) (by decide)
          refine lv_bipush (v := 7) hx hb dX12_betweenOf_58 (by decide) ?_
          exact prI (post := fun r L1 f1 => ((bn (-1) 22 r ∧ BTW gp pd tk r)) ∧ L1 = L ∧ f1 = f) S Y rfl (by decide) (by decide) hA1 ⟨⟨bn_k (by decide), Or.inr ⟨(show ¬ tk = 0 from by rw [c_85743]; decide), Or.inl ⟨bn_k (by decide), (Or.inr (fun z9 => c_85739 (Int32.toInt_inj.mp ((show v_85738.toInt = (gp (pd.toInt.toNat - 1)).toInt from by rw [ev_85738, show (x_85737 : Int32).toNatClampNeg = pd.toInt.toNat - 1 from (by have z8 := (la_sub ex_85737 (rfl : pd.toInt = pd.toInt) (show (1 : Int32).toInt = 1 from rfl) B_85708 (show bn 1 1 (1 : Int32) from bn_k (by decide)) (by decide)); have z7 := (B_85708).1; rw [tnc]; omega)]).trans z9))))⟩⟩⟩, rfl, rfl⟩ dX12_betweenOf_60
      · have B_85742 : bn 43 43 tk := bn_w (bn_eq c_85741 (show bn 43 43 (43 : Int32) from bn_k (by decide))) (by decide)
        refine lv_bipush (v := 6) hx hb dX12_betweenOf_42 (by decide) ?_
        exact prI (post := fun r L1 f1 => ((bn (-1) 22 r ∧ BTW gp pd tk r)) ∧ L1 = L ∧ f1 = f) S Y rfl (by decide) (by decide) hA1 ⟨⟨bn_k (by decide), Or.inr ⟨(show ¬ tk = 0 from by rw [c_85741]; decide), Or.inl ⟨bn_k (by decide), (Or.inr (fun z9 => c_85739 (Int32.toInt_inj.mp ((show v_85738.toInt = (gp (pd.toInt.toNat - 1)).toInt from by rw [ev_85738, show (x_85737 : Int32).toNatClampNeg = pd.toInt.toNat - 1 from (by have z8 := (la_sub ex_85737 (rfl : pd.toInt = pd.toInt) (show (1 : Int32).toInt = 1 from rfl) B_85708 (show bn 1 1 (1 : Int32) from bn_k (by decide)) (by decide)); have z7 := (B_85708).1; rw [tnc]; omega)]).trans z9))))⟩⟩⟩, rfl, rfl⟩ dX12_betweenOf_44
    · have B_85740 : bn 16 16 v_85738 := bn_w (bn_eq c_85739 (show bn 16 16 (16 : Int32) from bn_k (by decide))) (by decide)
      refine lv_iconst (v := 1) hx hb dX12_betweenOf_23 (by decide) ?_
      refine lv_goto (tgt := 28) hx hb dX12_betweenOf_24 (by decide) ?_
      refine lv_istore_n (lv' := [(1, .int 1), (0, .ref (ad 0 0))]) hx hb dX12_betweenOf_28 rfl hl (by decide) rfl (fun ls hl => ?_)
      refine lv_iload_n hx hb dX12_betweenOf_29 rfl (lv_at hl 0 rfl) ?_
      refine lv_if_ne (tgt := 45) hx hb dX12_betweenOf_30 (by decide) (fun _ => ?_) (fun h => absurd h (by decide))
      refine lv_iload_n hx hb dX12_betweenOf_45 rfl (lv_at hl 0 rfl) ?_
      refine lv_if_ne (tgt := 61) hx hb dX12_betweenOf_46 (by decide) (fun _ => ?_) (fun h => absurd h (by decide))
      refine lv_iload_n hx hb dX12_betweenOf_61 rfl (lv_at hl 0 rfl) ?_
      refine lv_if_ne (tgt := 77) hx hb dX12_betweenOf_62 (by decide) (fun _ => ?_) (fun h => absurd h (by decide))
      refine lv_iload_n hx hb dX12_betweenOf_77 rfl (lv_at hl 0 rfl) ?_
      refine lv_if_ne (tgt := 93) hx hb dX12_betweenOf_78 (by decide) (fun _ => ?_) (fun h => absurd h (by decide))
      refine lv_aload_n hx hb dX12_betweenOf_93 rfl (lv_at hl 1 rfl) ?_
      refine cVp (As := []) (rest := []) S Y (x_X12_isAskHere (l := l) I p_ad_0_0 p_ad_5_0) cw_X12_isAskHere km12_162 p_ad_0_0 ok_X12.1 rfl rfl ⟨Nat.le_of_ble_eq_true rfl, Nat.le_of_ble_eq_true rfl⟩ hl.1 rfl (Nat.le_of_ble_eq_true rfl) ⟨Nat.le_of_ble_eq_true rfl, Nat.le_of_ble_eq_true rfl⟩ dX12_betweenOf_94 (fun r_85768 H locs er_85768 Y => ?_)
      refine lv_if_ne (tgt := 102) hx hb dX12_betweenOf_97 (by decide) (fun c_85769 => ?_) (fun c_85769 => ?_)
      · have B_85770 : bn 1 1 r_85768 := bn_w (bn_nel c_85769 er_85768.1 (show bn 0 0 (0 : Int32) from bn_k (by decide))) (by decide)
        refine lv_aload_n hx hb dX12_betweenOf_102 rfl (lv_at hl 1 rfl) ?_
        refine cVp (As := []) (rest := []) S Y (x_X12_isCompared (l := l) I p_ad_0_0 p_ad_5_0) cw_X12_isCompared km12_194 p_ad_0_0 ok_X12.1 rfl rfl ⟨Nat.le_of_ble_eq_true rfl, Nat.le_of_ble_eq_true rfl⟩ hl.1 rfl (Nat.le_of_ble_eq_true rfl) ⟨Nat.le_of_ble_eq_true rfl, Nat.le_of_ble_eq_true rfl⟩ dX12_betweenOf_103 (fun r_85772 H locs er_85772 Y => ?_)
        refine lv_if_ne (tgt := 114) hx hb dX12_betweenOf_106 (by decide) (fun c_85773 => ?_) (fun c_85773 => ?_)
        · have B_85774 : bn 1 1 r_85772 := bn_w (bn_nel c_85773 er_85772.1 (show bn 0 0 (0 : Int32) from bn_k (by decide))) (by decide)
          refine lv_aload_n hx hb dX12_betweenOf_114 rfl (lv_at hl 1 rfl) ?_
          refine lv_bipush (v := 97) hx hb dX12_betweenOf_115 (by decide) ?_
          refine lv_bipush (v := 110) hx hb dX12_betweenOf_117 (by decide) ?_
          refine lv_bipush (v := 100) hx hb dX12_betweenOf_119 (by decide) ?_
          refine cSlp (As := [.int 97, .int 110, .int 100]) (rest := [.ref (ad 0 0)]) S Y (x_X12_w3 (l := l) ) cw_X12_w3 km12_124 rfl ⟨Nat.le_of_ble_eq_true rfl, Nat.le_of_ble_eq_true rfl⟩ hl.1 rfl (Nat.le_of_ble_eq_true rfl) ⟨Nat.le_of_ble_eq_true rfl, Nat.le_of_ble_eq_true rfl⟩ dX12_betweenOf_121 (fun r_85776 H locs er_85776 Y => ?_)
          refine cVp (As := [.long r_85776]) (rest := []) S Y (x_X12_isWord (l := l) I p_ad_0_0) cw_X12_isWord km12_187 p_ad_0_0 ok_X12.1 rfl rfl ⟨Nat.le_of_ble_eq_true rfl, Nat.le_of_ble_eq_true rfl⟩ hl.1 rfl (Nat.le_of_ble_eq_true rfl) ⟨Nat.le_of_ble_eq_true rfl, Nat.le_of_ble_eq_true rfl⟩ dX12_betweenOf_124 (fun r_85777 H locs er_85777 Y => ?_)
          refine lv_if_eq (tgt := 135) hx hb dX12_betweenOf_127 (by decide) (fun c_85778 => ?_) (fun c_85778 => ?_)
          · have B_85779 : bn 0 0 r_85777 := bn_w (bn_eq c_85778 (show bn 0 0 (0 : Int32) from bn_k (by decide))) (by decide)
            refine lv_aload_n hx hb dX12_betweenOf_135 rfl (lv_at hl 1 rfl) ?_
            refine lv_bipush (v := 111) hx hb dX12_betweenOf_136 (by decide) ?_
            refine lv_bipush (v := 114) hx hb dX12_betweenOf_138 (by decide) ?_
            refine cSlp (As := [.int 111, .int 114]) (rest := [.ref (ad 0 0)]) S Y (x_X12_w2 (l := l) ) cw_X12_w2 km12_120 rfl ⟨Nat.le_of_ble_eq_true rfl, Nat.le_of_ble_eq_true rfl⟩ hl.1 rfl (Nat.le_of_ble_eq_true rfl) ⟨Nat.le_of_ble_eq_true rfl, Nat.le_of_ble_eq_true rfl⟩ dX12_betweenOf_140 (fun r_85781 H locs er_85781 Y => ?_)
            refine cVp (As := [.long r_85781]) (rest := []) S Y (x_X12_isWord (l := l) I p_ad_0_0) cw_X12_isWord km12_187 p_ad_0_0 ok_X12.1 rfl rfl ⟨Nat.le_of_ble_eq_true rfl, Nat.le_of_ble_eq_true rfl⟩ hl.1 rfl (Nat.le_of_ble_eq_true rfl) ⟨Nat.le_of_ble_eq_true rfl, Nat.le_of_ble_eq_true rfl⟩ dX12_betweenOf_143 (fun r_85782 H locs er_85782 Y => ?_)
            refine lv_if_eq (tgt := 154) hx hb dX12_betweenOf_146 (by decide) (fun c_85783 => ?_) (fun c_85783 => ?_)
            · have B_85784 : bn 0 0 r_85782 := bn_w (bn_eq c_85783 (show bn 0 0 (0 : Int32) from bn_k (by decide))) (by decide)
              refine lv_iconst (v := (-1)) hx hb dX12_betweenOf_154 (by decide) ?_
              exact prI (post := fun r L1 f1 => ((bn (-1) 22 r ∧ BTW gp pd tk r)) ∧ L1 = L ∧ f1 = f) S Y rfl (by decide) (by decide) hA1 ⟨⟨bn_k (by decide), Or.inl rfl⟩, rfl, rfl⟩ dX12_betweenOf_155
            · have B_85785 : bn 1 1 r_85782 := bn_w (bn_nel c_85783 er_85782.1 (show bn 0 0 (0 : Int32) from bn_k (by decide))) (by decide)
              refine lv_bipush (v := 22) hx hb dX12_betweenOf_149 (by decide) ?_
              refine lv_goto (tgt := 155) hx hb dX12_betweenOf_151 (by decide) ?_
              exact prI (post := fun r L1 f1 => ((bn (-1) 22 r ∧ BTW gp pd tk r)) ∧ L1 = L ∧ f1 = f) S Y rfl (by decide) (by decide) hA1 ⟨⟨bn_k (by decide), Or.inr ⟨(show ¬ tk = 0 from by rw [er_85782.2 c_85783]; decide), Or.inr (Or.inr ⟨Or.inr rfl, (askd_t er_85768.2 c_85769), (cmk_t er_85772.2 c_85773)⟩)⟩⟩, rfl, rfl⟩ dX12_betweenOf_155
          · have B_85780 : bn 1 1 r_85777 := bn_w (bn_nel c_85778 er_85777.1 (show bn 0 0 (0 : Int32) from bn_k (by decide))) (by decide)
            refine lv_bipush (v := 21) hx hb dX12_betweenOf_130 (by decide) ?_
            refine lv_goto (tgt := 155) hx hb dX12_betweenOf_132 (by decide) ?_
            exact prI (post := fun r L1 f1 => ((bn (-1) 22 r ∧ BTW gp pd tk r)) ∧ L1 = L ∧ f1 = f) S Y rfl (by decide) (by decide) hA1 ⟨⟨bn_k (by decide), Or.inr ⟨(show ¬ tk = 0 from by rw [er_85777.2 c_85778]; decide), Or.inr (Or.inr ⟨Or.inl rfl, (askd_t er_85768.2 c_85769), (cmk_t er_85772.2 c_85773)⟩)⟩⟩, rfl, rfl⟩ dX12_betweenOf_155
        · have B_85775 : bn 0 0 r_85772 := bn_w (bn_eq c_85773 (show bn 0 0 (0 : Int32) from bn_k (by decide))) (by decide)
          refine lv_aload_n hx hb dX12_betweenOf_109 rfl (lv_at hl 1 rfl) ?_
          refine cVp (As := []) (rest := []) S Y (x_X12_compareOf (l := l) I p_ad_0_0) cw_X12_compareOf km12_197 p_ad_0_0 ok_X12.1 rfl rfl ⟨Nat.le_of_ble_eq_true rfl, Nat.le_of_ble_eq_true rfl⟩ hl.1 rfl (Nat.le_of_ble_eq_true rfl) ⟨Nat.le_of_ble_eq_true rfl, Nat.le_of_ble_eq_true rfl⟩ dX12_betweenOf_110 (fun r_85786 H locs er_85786 Y => ?_)
          exact prI (post := fun r L1 f1 => ((bn (-1) 22 r ∧ BTW gp pd tk r)) ∧ L1 = L ∧ f1 = f) S Y rfl (by decide) (by decide) hA1 ⟨⟨bn_w er_85786.1 (by decide), (by by_cases z : r_85786 = -1; exact Or.inl z; exact Or.inr ⟨(er_85786.2 z).1, Or.inr (Or.inl ⟨(er_85786.2 z).2, (askd_t er_85768.2 c_85769), (cmk_f er_85772.2 c_85773)⟩)⟩)⟩, rfl, rfl⟩ dX12_betweenOf_113
      · have B_85771 : bn 0 0 r_85768 := bn_w (bn_eq c_85769 (show bn 0 0 (0 : Int32) from bn_k (by decide))) (by decide)
        refine lv_iconst (v := (-1)) hx hb dX12_betweenOf_100 (by decide) ?_
        exact prI (post := fun r L1 f1 => ((bn (-1) 22 r ∧ BTW gp pd tk r)) ∧ L1 = L ∧ f1 = f) S Y rfl (by decide) (by decide) hA1 ⟨⟨bn_k (by decide), Or.inl rfl⟩, rfl, rfl⟩ dX12_betweenOf_101
set_option maxHeartbeats 4000000 in
set_option maxRecDepth 100000 in
theorem x_X12_partOf {l : Launch} {G : GG}  {L : List Nat} {f : HF} {ad : Nat → Nat → Nat} {pa : (Nat → Int32) → Prop} {PA : (Nat → Int32) → Prop} {PI : (Nat → Int32) → Prop} {PX : (Nat → Int32) → Prop} {i1 : Int32} {td fa fp at9 ps9 tk nu t0 wr so pd op9 cg iw on9 is9 se : Int32} {wd : Int64} {gp : Nat → Int32} (I : SH (spM PA PI PX pa) nnM G ad L f) (p_ad_0_0 : pt L f (ad 0 0) (.inr (12, [.ref (ad 1 0), .ref (ad 2 0), .ref (ad 3 0), .ref (ad 4 0), .int td, .int fa, .int fp, .int at9, .int ps9, .int tk, .int nu, .long wd, .int t0, .int wr, .int so, .ref (ad 5 0), .ref (ad 6 0), .int pd, .int op9, .int cg, .int iw, .int on9, .ref (ad 7 0), .ref (ad 8 0), .ref (ad 9 0), .int is9, .ref (ad 10 0), .ref (ad 11 0), .ref (ad 12 0), .ref (ad 13 0), .int se, .ref (ad 14 0)]))) (p_ad_5_0 : pt L f (ad 5 0) (.inl (G.2 0, 160, .inl gp))) : PMp l yX12_partOf cX12_partOf 2 .int 3 0 0 G [.ref (ad 0 0), .int i1] L f (fun r => (bn (-1) 44 r ∧ PRT gp pd tk i1 r)) := by
  refine PMi.of (post := fun r L1 f1 => ((bn (-1) 44 r ∧ PRT gp pd tk i1 r)) ∧ L1 = L ∧ f1 = f) (own := RX12) (by decide) rfl (Nat.le_of_ble_eq_true rfl) (fun sz p e s m args below meth c A ls hA1 hname S Y hl => ?_)
  have hx := S.hx
  have hb := S.hb
  have hl : lv_has ls 2 [(0, .ref (ad 0 0)), (1, .int i1)] := hl
  obtain ⟨bfe_4, bfe_7, bfe_8, bfe_12, bfe_13, bfe_17, bfe_18, bfe_19, bfe_20, bfe_25⟩ := obM I p_ad_0_0
  refine lv_iload_n hx hb dX12_partOf_0 rfl (lv_at hl 1 rfl) ?_
  rcases swM_40_44 i1 with h_85847 | h_85847 | h_85847 | h_85847 | h_85847 | h_85847
  · refine lv_fold (z := 40) h_85847 ?_
    refine lv_tableIn (off := 35) (tgt := 36) hx hb dX12_partOf_1 (by decide) (by decide) (by decide) (by decide) ?_
    refine lv_aload_n hx hb dX12_partOf_36 rfl (lv_at hl 0 rfl) ?_
    refine pg_get S Y ok_X12 9 (by decide) kf12_98 (v := .int tk) p_ad_0_0 rfl dX12_partOf_37 ?_
    refine lv_bipush (v := 41) hx hb dX12_partOf_40 (by decide) ?_
    refine lv_icmp_ne (tgt := 49) hx hb dX12_partOf_42 (by decide) (fun c_85848 => ?_) (fun c_85848 => ?_)
    · refine lv_iconst (v := (-1)) hx hb dX12_partOf_49 (by decide) ?_
      exact prI (post := fun r L1 f1 => ((bn (-1) 44 r ∧ PRT gp pd tk i1 r)) ∧ L1 = L ∧ f1 = f) S Y rfl (by decide) (by decide) hA1 ⟨⟨bn_k (by decide), Or.inl rfl⟩, rfl, rfl⟩ dX12_partOf_50
    · have B_85849 : bn 41 41 tk := bn_w (bn_eq c_85848 (show bn 41 41 (41 : Int32) from bn_k (by decide))) (by decide)
      refine lv_iconst (v := 0) hx hb dX12_partOf_45 (by decide) ?_
      refine lv_goto (tgt := 50) hx hb dX12_partOf_46 (by decide) ?_
      exact prI (post := fun r L1 f1 => ((bn (-1) 44 r ∧ PRT gp pd tk i1 r)) ∧ L1 = L ∧ f1 = f) S Y rfl (by decide) (by decide) hA1 ⟨⟨bn_k (by decide), Or.inr ⟨(show ¬ tk = 0 from by rw [c_85848]; decide), Or.inl ⟨rfl, Or.inl h_85847⟩⟩⟩, rfl, rfl⟩ dX12_partOf_50
  · refine lv_fold (z := 41) h_85847 ?_
    refine lv_tableIn (off := 50) (tgt := 51) hx hb dX12_partOf_1 (by decide) (by decide) (by decide) (by decide) ?_
    refine lv_aload_n hx hb dX12_partOf_51 rfl (lv_at hl 0 rfl) ?_
    refine lv_bipush (v := 116) hx hb dX12_partOf_52 (by decide) ?_
    refine lv_bipush (v := 104) hx hb dX12_partOf_54 (by decide) ?_
    refine lv_bipush (v := 101) hx hb dX12_partOf_56 (by decide) ?_
    refine lv_bipush (v := 110) hx hb dX12_partOf_58 (by decide) ?_
    refine cSlp (As := [.int 116, .int 104, .int 101, .int 110]) (rest := [.ref (ad 0 0)]) S Y (x_X12_w4 (l := l) ) cw_X12_w4 km12_128 rfl ⟨Nat.le_of_ble_eq_true rfl, Nat.le_of_ble_eq_true rfl⟩ hl.1 rfl (Nat.le_of_ble_eq_true rfl) ⟨Nat.le_of_ble_eq_true rfl, Nat.le_of_ble_eq_true rfl⟩ dX12_partOf_60 (fun r_85850 H locs er_85850 Y => ?_)
    refine cVp (As := [.long r_85850]) (rest := []) S Y (x_X12_isWord (l := l) I p_ad_0_0) cw_X12_isWord km12_187 p_ad_0_0 ok_X12.1 rfl rfl ⟨Nat.le_of_ble_eq_true rfl, Nat.le_of_ble_eq_true rfl⟩ hl.1 rfl (Nat.le_of_ble_eq_true rfl) ⟨Nat.le_of_ble_eq_true rfl, Nat.le_of_ble_eq_true rfl⟩ dX12_partOf_63 (fun r_85851 H locs er_85851 Y => ?_)
    refine lv_if_eq (tgt := 81) hx hb dX12_partOf_66 (by decide) (fun c_85852 => ?_) (fun c_85852 => ?_)
    · have B_85853 : bn 0 0 r_85851 := bn_w (bn_eq c_85852 (show bn 0 0 (0 : Int32) from bn_k (by decide))) (by decide)
      refine lv_iconst (v := (-1)) hx hb dX12_partOf_81 (by decide) ?_
      exact prI (post := fun r L1 f1 => ((bn (-1) 44 r ∧ PRT gp pd tk i1 r)) ∧ L1 = L ∧ f1 = f) S Y rfl (by decide) (by decide) hA1 ⟨⟨bn_k (by decide), Or.inl rfl⟩, rfl, rfl⟩ dX12_partOf_82
    · have B_85854 : bn 1 1 r_85851 := bn_w (bn_nel c_85852 er_85851.1 (show bn 0 0 (0 : Int32) from bn_k (by decide))) (by decide)
      refine lv_aload_n hx hb dX12_partOf_69 rfl (lv_at hl 0 rfl) ?_
      refine cVp (As := []) (rest := []) S Y (x_X12_isCompared (l := l) I p_ad_0_0 p_ad_5_0) cw_X12_isCompared km12_194 p_ad_0_0 ok_X12.1 rfl rfl ⟨Nat.le_of_ble_eq_true rfl, Nat.le_of_ble_eq_true rfl⟩ hl.1 rfl (Nat.le_of_ble_eq_true rfl) ⟨Nat.le_of_ble_eq_true rfl, Nat.le_of_ble_eq_true rfl⟩ dX12_partOf_70 (fun r_85855 H locs er_85855 Y => ?_)
      refine lv_if_eq (tgt := 81) hx hb dX12_partOf_73 (by decide) (fun c_85856 => ?_) (fun c_85856 => ?_)
      · have B_85857 : bn 0 0 r_85855 := bn_w (bn_eq c_85856 (show bn 0 0 (0 : Int32) from bn_k (by decide))) (by decide)
        refine lv_iconst (v := (-1)) hx hb dX12_partOf_81 (by decide) ?_
        exact prI (post := fun r L1 f1 => ((bn (-1) 44 r ∧ PRT gp pd tk i1 r)) ∧ L1 = L ∧ f1 = f) S Y rfl (by decide) (by decide) hA1 ⟨⟨bn_k (by decide), Or.inl rfl⟩, rfl, rfl⟩ dX12_partOf_82
      · have B_85858 : bn 1 1 r_85855 := bn_w (bn_nel c_85856 er_85855.1 (show bn 0 0 (0 : Int32) from bn_k (by decide))) (by decide)
        refine lv_bipush (v := 42) hx hb dX12_partOf_76 (by decide) ?_
        refine lv_goto (tgt := 82) hx hb dX12_partOf_78 (by decide) ?_
        exact prI (post := fun r L1 f1 => ((bn (-1) 44 r ∧ PRT gp pd tk i1 r)) ∧ L1 = L ∧ f1 = f) S Y rfl (by decide) (by decide) hA1 ⟨⟨bn_k (by decide), Or.inr ⟨(show ¬ tk = 0 from by rw [er_85851.2 c_85852]; decide), Or.inr (Or.inl ⟨rfl, h_85847, (cmk_t er_85855.2 c_85856)⟩)⟩⟩, rfl, rfl⟩ dX12_partOf_82
  · refine lv_fold (z := 42) h_85847 ?_
    refine lv_tableIn (off := 82) (tgt := 83) hx hb dX12_partOf_1 (by decide) (by decide) (by decide) (by decide) ?_
    refine lv_aload_n hx hb dX12_partOf_83 rfl (lv_at hl 0 rfl) ?_
    refine lv_bipush (v := 101) hx hb dX12_partOf_84 (by decide) ?_
    refine lv_bipush (v := 108) hx hb dX12_partOf_86 (by decide) ?_
    refine lv_bipush (v := 115) hx hb dX12_partOf_88 (by decide) ?_
    refine lv_bipush (v := 101) hx hb dX12_partOf_90 (by decide) ?_
    refine cSlp (As := [.int 101, .int 108, .int 115, .int 101]) (rest := [.ref (ad 0 0)]) S Y (x_X12_w4 (l := l) ) cw_X12_w4 km12_128 rfl ⟨Nat.le_of_ble_eq_true rfl, Nat.le_of_ble_eq_true rfl⟩ hl.1 rfl (Nat.le_of_ble_eq_true rfl) ⟨Nat.le_of_ble_eq_true rfl, Nat.le_of_ble_eq_true rfl⟩ dX12_partOf_92 (fun r_85859 H locs er_85859 Y => ?_)
    refine cVp (As := [.long r_85859]) (rest := []) S Y (x_X12_isWord (l := l) I p_ad_0_0) cw_X12_isWord km12_187 p_ad_0_0 ok_X12.1 rfl rfl ⟨Nat.le_of_ble_eq_true rfl, Nat.le_of_ble_eq_true rfl⟩ hl.1 rfl (Nat.le_of_ble_eq_true rfl) ⟨Nat.le_of_ble_eq_true rfl, Nat.le_of_ble_eq_true rfl⟩ dX12_partOf_95 (fun r_85860 H locs er_85860 Y => ?_)
    refine lv_if_eq (tgt := 106) hx hb dX12_partOf_98 (by decide) (fun c_85861 => ?_) (fun c_85861 => ?_)
    · have B_85862 : bn 0 0 r_85860 := bn_w (bn_eq c_85861 (show bn 0 0 (0 : Int32) from bn_k (by decide))) (by decide)
      refine lv_iconst (v := (-1)) hx hb dX12_partOf_106 (by decide) ?_
      exact prI (post := fun r L1 f1 => ((bn (-1) 44 r ∧ PRT gp pd tk i1 r)) ∧ L1 = L ∧ f1 = f) S Y rfl (by decide) (by decide) hA1 ⟨⟨bn_k (by decide), Or.inl rfl⟩, rfl, rfl⟩ dX12_partOf_107
    · have B_85863 : bn 1 1 r_85860 := bn_w (bn_nel c_85861 er_85860.1 (show bn 0 0 (0 : Int32) from bn_k (by decide))) (by decide)
      refine lv_bipush (v := 43) hx hb dX12_partOf_101 (by decide) ?_
      refine lv_goto (tgt := 107) hx hb dX12_partOf_103 (by decide) ?_
      exact prI (post := fun r L1 f1 => ((bn (-1) 44 r ∧ PRT gp pd tk i1 r)) ∧ L1 = L ∧ f1 = f) S Y rfl (by decide) (by decide) hA1 ⟨⟨bn_k (by decide), Or.inr ⟨(show ¬ tk = 0 from by rw [er_85860.2 c_85861]; decide), Or.inr (Or.inr (Or.inl ⟨rfl, h_85847⟩))⟩⟩, rfl, rfl⟩ dX12_partOf_107
  · refine lv_fold (z := 43) h_85847 ?_
    refine lv_tableIn (off := 107) (tgt := 108) hx hb dX12_partOf_1 (by decide) (by decide) (by decide) (by decide) ?_
    refine lv_aload_n hx hb dX12_partOf_108 rfl (lv_at hl 0 rfl) ?_
    refine lv_bipush (v := 101) hx hb dX12_partOf_109 (by decide) ?_
    refine lv_bipush (v := 110) hx hb dX12_partOf_111 (by decide) ?_
    refine lv_bipush (v := 100) hx hb dX12_partOf_113 (by decide) ?_
    refine cSlp (As := [.int 101, .int 110, .int 100]) (rest := [.ref (ad 0 0)]) S Y (x_X12_w3 (l := l) ) cw_X12_w3 km12_124 rfl ⟨Nat.le_of_ble_eq_true rfl, Nat.le_of_ble_eq_true rfl⟩ hl.1 rfl (Nat.le_of_ble_eq_true rfl) ⟨Nat.le_of_ble_eq_true rfl, Nat.le_of_ble_eq_true rfl⟩ dX12_partOf_115 (fun r_85864 H locs er_85864 Y => ?_)
    refine cVp (As := [.long r_85864]) (rest := []) S Y (x_X12_isWord (l := l) I p_ad_0_0) cw_X12_isWord km12_187 p_ad_0_0 ok_X12.1 rfl rfl ⟨Nat.le_of_ble_eq_true rfl, Nat.le_of_ble_eq_true rfl⟩ hl.1 rfl (Nat.le_of_ble_eq_true rfl) ⟨Nat.le_of_ble_eq_true rfl, Nat.le_of_ble_eq_true rfl⟩ dX12_partOf_118 (fun r_85865 H locs er_85865 Y => ?_)
    refine lv_if_eq (tgt := 128) hx hb dX12_partOf_121 (by decide) (fun c_85866 => ?_) (fun c_85866 => ?_)
    · have B_85867 : bn 0 0 r_85865 := bn_w (bn_eq c_85866 (show bn 0 0 (0 : Int32) from bn_k (by decide))) (by decide)
      refine lv_iconst (v := (-1)) hx hb dX12_partOf_128 (by decide) ?_
      exact prI (post := fun r L1 f1 => ((bn (-1) 44 r ∧ PRT gp pd tk i1 r)) ∧ L1 = L ∧ f1 = f) S Y rfl (by decide) (by decide) hA1 ⟨⟨bn_k (by decide), Or.inl rfl⟩, rfl, rfl⟩ dX12_partOf_129
    · have B_85868 : bn 1 1 r_85865 := bn_w (bn_nel c_85866 er_85865.1 (show bn 0 0 (0 : Int32) from bn_k (by decide))) (by decide)
      refine lv_iconst (v := 0) hx hb dX12_partOf_124 (by decide) ?_
      refine lv_goto (tgt := 129) hx hb dX12_partOf_125 (by decide) ?_
      exact prI (post := fun r L1 f1 => ((bn (-1) 44 r ∧ PRT gp pd tk i1 r)) ∧ L1 = L ∧ f1 = f) S Y rfl (by decide) (by decide) hA1 ⟨⟨bn_k (by decide), Or.inr ⟨(show ¬ tk = 0 from by rw [er_85865.2 c_85866]; decide), Or.inl ⟨rfl, Or.inr (Or.inl h_85847)⟩⟩⟩, rfl, rfl⟩ dX12_partOf_129
  · refine lv_fold (z := 44) h_85847 ?_
    refine lv_tableIn (off := 129) (tgt := 130) hx hb dX12_partOf_1 (by decide) (by decide) (by decide) (by decide) ?_
    refine lv_aload_n hx hb dX12_partOf_130 rfl (lv_at hl 0 rfl) ?_
    refine cVp (As := []) (rest := []) S Y (x_X12_isCompared (l := l) I p_ad_0_0 p_ad_5_0) cw_X12_isCompared km12_194 p_ad_0_0 ok_X12.1 rfl rfl ⟨Nat.le_of_ble_eq_true rfl, Nat.le_of_ble_eq_true rfl⟩ hl.1 rfl (Nat.le_of_ble_eq_true rfl) ⟨Nat.le_of_ble_eq_true rfl, Nat.le_of_ble_eq_true rfl⟩ dX12_partOf_131 (fun r_85869 H locs er_85869 Y => ?_)
    refine lv_if_ne (tgt := 141) hx hb dX12_partOf_134 (by decide) (fun c_85870 => ?_) (fun c_85870 => ?_)
    · have B_85871 : bn 1 1 r_85869 := bn_w (bn_nel c_85870 er_85869.1 (show bn 0 0 (0 : Int32) from bn_k (by decide))) (by decide)
      refine lv_aload_n hx hb dX12_partOf_141 rfl (lv_at hl 0 rfl) ?_
      refine pg_get S Y ok_X12 9 (by decide) kf12_98 (v := .int tk) p_ad_0_0 rfl dX12_partOf_142 ?_
      refine lv_bipush (v := 44) hx hb dX12_partOf_145 (by decide) ?_
      refine lv_icmp_ne (tgt := 155) hx hb dX12_partOf_147 (by decide) (fun c_85873 => ?_) (fun c_85873 => ?_)
      · refine lv_aload_n hx hb dX12_partOf_155 rfl (lv_at hl 0 rfl) ?_
        refine pg_get S Y ok_X12 9 (by decide) kf12_98 (v := .int tk) p_ad_0_0 rfl dX12_partOf_156 ?_
        refine lv_bipush (v := 41) hx hb dX12_partOf_159 (by decide) ?_
        refine lv_icmp_ne (tgt := 168) hx hb dX12_partOf_161 (by decide) (fun c_85875 => ?_) (fun c_85875 => ?_)
        · refine lv_iconst (v := (-1)) hx hb dX12_partOf_168 (by decide) ?_
          exact prI (post := fun r L1 f1 => ((bn (-1) 44 r ∧ PRT gp pd tk i1 r)) ∧ L1 = L ∧ f1 = f) S Y rfl (by decide) (by decide) hA1 ⟨⟨bn_k (by decide), Or.inl rfl⟩, rfl, rfl⟩ dX12_partOf_169
        · have B_85876 : bn 41 41 tk := bn_w (bn_eq c_85875 (show bn 41 41 (41 : Int32) from bn_k (by decide))) (by decide)
          refine lv_iconst (v := 0) hx hb dX12_partOf_164 (by decide) ?_
          refine lv_goto (tgt := 169) hx hb dX12_partOf_165 (by decide) ?_
          exact prI (post := fun r L1 f1 => ((bn (-1) 44 r ∧ PRT gp pd tk i1 r)) ∧ L1 = L ∧ f1 = f) S Y rfl (by decide) (by decide) hA1 ⟨⟨bn_k (by decide), Or.inr ⟨(show ¬ tk = 0 from by rw [c_85875]; decide), Or.inl ⟨rfl, Or.inr (Or.inr ⟨h_85847, (cmk_t er_85869.2 c_85870)⟩)⟩⟩⟩, rfl, rfl⟩ dX12_partOf_169
      · have B_85874 : bn 44 44 tk := bn_w (bn_eq c_85873 (show bn 44 44 (44 : Int32) from bn_k (by decide))) (by decide)
        refine lv_bipush (v := 44) hx hb dX12_partOf_150 (by decide) ?_
        refine lv_goto (tgt := 169) hx hb dX12_partOf_152 (by decide) ?_
        exact prI (post := fun r L1 f1 => ((bn (-1) 44 r ∧ PRT gp pd tk i1 r)) ∧ L1 = L ∧ f1 = f) S Y rfl (by decide) (by decide) hA1 ⟨⟨bn_k (by decide), Or.inr ⟨(show ¬ tk = 0 from by rw [c_85873]; decide), Or.inr (Or.inr (Or.inr ⟨rfl, h_85847, (cmk_t er_85869.2 c_85870)⟩))⟩⟩, rfl, rfl⟩ dX12_partOf_169
    · have B_85872 : bn 0 0 r_85869 := bn_w (bn_eq c_85870 (show bn 0 0 (0 : Int32) from bn_k (by decide))) (by decide)
      refine lv_iconst (v := (-1)) hx hb dX12_partOf_137 (by decide) ?_
      refine lv_goto (tgt := 169) hx hb dX12_partOf_138 (by decide) ?_
      exact prI (post := fun r L1 f1 => ((bn (-1) 44 r ∧ PRT gp pd tk i1 r)) ∧ L1 = L ∧ f1 = f) S Y rfl (by decide) (by decide) hA1 ⟨⟨bn_k (by decide), Or.inl rfl⟩, rfl, rfl⟩ dX12_partOf_169
  · refine lv_tableOut (tgt := 170) hx hb dX12_partOf_1 h_85847 (by decide) ?_
    refine lv_iconst (v := (-1)) hx hb dX12_partOf_170 (by decide) ?_
    exact prI (post := fun r L1 f1 => ((bn (-1) 44 r ∧ PRT gp pd tk i1 r)) ∧ L1 = L ∧ f1 = f) S Y rfl (by decide) (by decide) hA1 ⟨⟨bn_k (by decide), Or.inl rfl⟩, rfl, rfl⟩ dX12_partOf_171
set_option maxHeartbeats 4000000 in
set_option maxRecDepth 100000 in
theorem x_X12_opened {l : Launch} {G : GG}  {L : List Nat} {f : HF} {ad : Nat → Nat → Nat} {pa : (Nat → Int32) → Prop} {PA : (Nat → Int32) → Prop} {PI : (Nat → Int32) → Prop} {i1 : Int32} {td fa fp at9 ps9 tk nu t0 wr so pd op9 cg iw on9 is9 se : Int32} {wd : Int64} {gp gc : Nat → Int32} {gB : Nat → Int32} {fr : Nat} {opn : Int} {cmp : Bool} (I : SH (spM PA PI (XV gB fr gp gc opn cmp t0 wr pd op9 cg false) pa) nnM G ad L f) (p_ad_0_0 : pt L f (ad 0 0) (.inr (12, [.ref (ad 1 0), .ref (ad 2 0), .ref (ad 3 0), .ref (ad 4 0), .int td, .int fa, .int fp, .int at9, .int ps9, .int tk, .int nu, .long wd, .int t0, .int wr, .int so, .ref (ad 5 0), .ref (ad 6 0), .int pd, .int op9, .int cg, .int iw, .int on9, .ref (ad 7 0), .ref (ad 8 0), .ref (ad 9 0), .int is9, .ref (ad 10 0), .ref (ad 11 0), .ref (ad 12 0), .ref (ad 13 0), .int se, .ref (ad 14 0)]))) (p_ad_5_0 : pt L f (ad 5 0) (.inl (G.2 0, 160, .inl gp))) (p_ad_6_0 : pt L f (ad 6 0) (.inl (G.2 0, 9, .inl gc))) (ho : OPH i1 opn gp pd) (hiw : iw = 0) (hroom : wr.toInt + pd.toInt ≤ ps9.toInt) (hT : TK at9 ps9 tk) (htk : ¬ tk = 0) : PMi l yX12_opened cX12_opened 2 .int 2 0 0 G [.ref (ad 0 0), .int i1] L f (fun r L1 f1 => ∃ at92 : Int32, ∃ ps92 : Int32, ∃ tk2 : Int32, ∃ nu2 : Int32, ∃ wd2 : Int64, ∃ pd2 : Int32, ∃ op92 : Int32, ∃ cg2 : Int32, ∃ gp2 : Nat → Int32, ∃ gc2 : Nat → Int32, bn 0 3 r ∧ SH (spM PA PI (XR r gB fr gp2 gc2 t0 wr pd2 op92 cg2 iw) pa) nnM G ad L1 f1 ∧ pt L1 f1 (ad 0 0) (.inr (12, [.ref (ad 1 0), .ref (ad 2 0), .ref (ad 3 0), .ref (ad 4 0), .int td, .int fa, .int fp, .int at92, .int ps92, .int tk2, .int nu2, .long wd2, .int t0, .int wr, .int so, .ref (ad 5 0), .ref (ad 6 0), .int pd2, .int op92, .int cg2, .int iw, .int on9, .ref (ad 7 0), .ref (ad 8 0), .ref (ad 9 0), .int is9, .ref (ad 10 0), .ref (ad 11 0), .ref (ad 12 0), .ref (ad 13 0), .int se, .ref (ad 14 0)])) ∧ pt L1 f1 (ad 5 0) (.inl (G.2 0, 160, .inl gp2)) ∧ pt L1 f1 (ad 6 0) (.inl (G.2 0, 9, .inl gc2)) ∧ TK at92 ps92 tk2 ∧ (r.toInt = 0 → ps9.toInt + 1 ≤ ps92.toInt) ∧ (r.toInt ≤ 0 → wr.toInt + pd2.toInt ≤ ps92.toInt)) := by
  refine PMi.of (post := fun r L1 f1 => ∃ at92 : Int32, ∃ ps92 : Int32, ∃ tk2 : Int32, ∃ nu2 : Int32, ∃ wd2 : Int64, ∃ pd2 : Int32, ∃ op92 : Int32, ∃ cg2 : Int32, ∃ gp2 : Nat → Int32, ∃ gc2 : Nat → Int32, bn 0 3 r ∧ SH (spM PA PI (XR r gB fr gp2 gc2 t0 wr pd2 op92 cg2 iw) pa) nnM G ad L1 f1 ∧ pt L1 f1 (ad 0 0) (.inr (12, [.ref (ad 1 0), .ref (ad 2 0), .ref (ad 3 0), .ref (ad 4 0), .int td, .int fa, .int fp, .int at92, .int ps92, .int tk2, .int nu2, .long wd2, .int t0, .int wr, .int so, .ref (ad 5 0), .ref (ad 6 0), .int pd2, .int op92, .int cg2, .int iw, .int on9, .ref (ad 7 0), .ref (ad 8 0), .ref (ad 9 0), .int is9, .ref (ad 10 0), .ref (ad 11 0), .ref (ad 12 0), .ref (ad 13 0), .int se, .ref (ad 14 0)])) ∧ pt L1 f1 (ad 5 0) (.inl (G.2 0, 160, .inl gp2)) ∧ pt L1 f1 (ad 6 0) (.inl (G.2 0, 9, .inl gc2)) ∧ TK at92 ps92 tk2 ∧ (r.toInt = 0 → ps9.toInt + 1 ≤ ps92.toInt) ∧ (r.toInt ≤ 0 → wr.toInt + pd2.toInt ≤ ps92.toInt)) (own := RX12) (by decide) rfl (Nat.le_of_ble_eq_true rfl) (fun sz p e s m args below meth c A ls hA1 hname S Y hl => ?_)
  have hx := S.hx
  have hb := S.hb
  have hl : lv_has ls 2 [(0, .ref (ad 0 0)), (1, .int i1)] := hl
  obtain ⟨bfe_4, bfe_7, bfe_8, bfe_12, bfe_13, bfe_17, bfe_18, bfe_19, bfe_20, bfe_25⟩ := obM I p_ad_0_0
  obtain ⟨g_85991, p_ad_3_0, o_85992⟩ := I.opi (k := 3) (j := 0) (by decide) rfl
  have p_ad_3_0 : pt L f (ad 3 0) (.inl (G.2 0, 2916, .inl g_85991)) := p_ad_3_0
  have hI := XV_info o_85992 bfe_18 bfe_19 bfe_17
  have B_85993 : bn 0 53 pd := ⟨bfe_17.1, by have z9 := hI.2.2.1; have z8 := bfe_18.2; omega⟩
  refine lv_aload_n hx hb dX12_opened_0 rfl (lv_at hl 0 rfl) ?_
  refine pg_get S Y ok_X12 18 (by decide) kf12_152 (v := .int op9) p_ad_0_0 rfl dX12_opened_1 ?_
  refine lv_bipush (v := 8) hx hb dX12_opened_4 (by decide) ?_
  refine lv_icmp_ne (tgt := 11) hx hb dX12_opened_6 (by decide) (fun c_85994 => ?_) (fun c_85994 => ?_)
  · have B_85995 : bn 0 7 op9 := bn_w (bn_neu c_85994 bfe_18 (show bn 8 8 (8 : Int32) from bn_k (by decide))) (by decide)
    refine lv_aload_n hx hb dX12_opened_11 rfl (lv_at hl 0 rfl) ?_
    refine lv_dup hx hb dX12_opened_12 rfl ?_
    refine pg_get S Y ok_X12 18 (by decide) kf12_152 (v := .int op9) p_ad_0_0 rfl dX12_opened_13 ?_
    refine lv_iconst (v := 1) hx hb dX12_opened_16 (by decide) ?_
    refine lv_iadd hx hb dX12_opened_17 ?_
    refine lv_topi (fun x_85997 ex_85997 => ?_)
    refine pg_put S Y ok_X12 18 (by decide) kf12_152 rfl (fs' := [.ref (ad 1 0), .ref (ad 2 0), .ref (ad 3 0), .ref (ad 4 0), .int td, .int fa, .int fp, .int at9, .int ps9, .int tk, .int nu, .long wd, .int t0, .int wr, .int so, .ref (ad 5 0), .ref (ad 6 0), .int pd, .int x_85997, .int cg, .int iw, .int on9, .ref (ad 7 0), .ref (ad 8 0), .ref (ad 9 0), .int is9, .ref (ad 10 0), .ref (ad 11 0), .ref (ad 12 0), .ref (ad 13 0), .int se, .ref (ad 14 0)]) (v := .int x_85997) p_ad_0_0 rfl rfl rfl (Nat.le_of_ble_eq_true rfl) dX12_opened_18 (fun f_85998 H locs ef_85998 Y => ?_)
    have p_ad_5_0 := p_ad_5_0.up ef_85998 (I.ne (k := 5) (j := 0) (k' := 0) (j' := 0) (by decide) (by decide) (Or.inl (by decide)))
    have p_ad_6_0 := p_ad_6_0.up ef_85998 (I.ne (k := 6) (j := 0) (k' := 0) (j' := 0) (by decide) (by decide) (Or.inl (by decide)))
    have p_ad_3_0 := p_ad_3_0.up ef_85998 (I.ne (k := 3) (j := 0) (k' := 0) (j' := 0) (by decide) (by decide) (Or.inl (by decide)))
    have p_ad_0_0 := p_ad_0_0.me ef_85998
    have I := I.up (k := 0) (j := 0) (by decide) ef_85998 (okE_o (okFs_c okV_r (okFs_c okV_r (okFs_c okV_r (okFs_c okV_r (okFs_c (okV_i bfe_4) (okFs_c (okV_i (bn_any _)) (okFs_c (okV_i (bn_any _)) (okFs_c (okV_i bfe_7) (okFs_c (okV_i bfe_8) (okFs_c (okV_i (bn_any _)) (okFs_c (okV_i (bn_any _)) (okFs_c okV_l (okFs_c (okV_i bfe_12) (okFs_c (okV_i bfe_13) (okFs_c (okV_i (bn_any _)) (okFs_c okV_r (okFs_c okV_r (okFs_c (okV_i bfe_17) (okFs_c (okV_i (bn_w (bn_eq ex_85997 (bn_add B_85995 (show bn 1 1 (1 : Int32) from bn_k (by decide)) (by decide))) (by decide))) (okFs_c (okV_i bfe_19) (okFs_c (okV_i bfe_20) (okFs_c (okV_i (bn_any _)) (okFs_c okV_r (okFs_c okV_r (okFs_c okV_r (okFs_c (okV_i bfe_25) (okFs_c okV_r (okFs_c okV_r (okFs_c okV_r (okFs_c okV_r (okFs_c (okV_i (bn_any _)) (okFs_c okV_r okFs_n)))))))))))))))))))))))))))))))))
    refine lv_aload_n hx hb dX12_opened_21 rfl (lv_at hl 0 rfl) ?_
    refine pg_get S Y ok_X12 15 (by decide) kf12_29 (v := .ref (ad 5 0)) p_ad_0_0 rfl dX12_opened_22 ?_
    refine lv_aload_n hx hb dX12_opened_25 rfl (lv_at hl 0 rfl) ?_
    refine pg_get S Y ok_X12 17 (by decide) kf12_142 (v := .int pd) p_ad_0_0 rfl dX12_opened_26 ?_
    refine lv_iload_n hx hb dX12_opened_29 rfl (lv_at hl 1 rfl) ?_
    refine pg_iast S Y p_ad_5_0 (vp_bn B_85993 (by decide)) dX12_opened_30 (fun f_86000 H locs ef_86000 Y => ?_)
    obtain ⟨g_85999, eg_85999⟩ : ∃ z, z = upd (gp) (pd : Int32).toNatClampNeg i1 := ⟨_, rfl⟩
    rw [← eg_85999] at ef_86000
    have p_ad_0_0 := p_ad_0_0.up ef_86000 (I.ne (k := 0) (j := 0) (k' := 5) (j' := 0) (by decide) (by decide) (Or.inl (by decide)))
    have p_ad_6_0 := p_ad_6_0.up ef_86000 (I.ne (k := 6) (j := 0) (k' := 5) (j' := 0) (by decide) (by decide) (Or.inl (by decide)))
    have p_ad_3_0 := p_ad_3_0.up ef_86000 (I.ne (k := 3) (j := 0) (k' := 5) (j' := 0) (by decide) (by decide) (Or.inl (by decide)))
    have p_ad_5_0 := p_ad_5_0.me ef_86000
    have o_86001 : True := trivial
    have I := I.up (k := 5) (j := 0) (by decide) ef_86000 (okE_a (g := g_85999) o_86001)
    have B_86002 : bn 0 7 cg := ⟨bfe_19.1, by have z9 := hI.2.2.2.1; have z8 := ((bn_eq ex_85997 (bn_add B_85995 (show bn 1 1 (1 : Int32) from bn_k (by decide)) (by decide)))).2; have z7 := (la_add ex_85997 (rfl : op9.toInt = op9.toInt) (show (1 : Int32).toInt = 1 from rfl) B_85995 (show bn 1 1 (1 : Int32) from bn_k (by decide)) (by decide)); omega⟩
    refine lv_aload_n hx hb dX12_opened_31 rfl (lv_at hl 0 rfl) ?_
    refine lv_dup hx hb dX12_opened_32 rfl ?_
    refine pg_get S Y ok_X12 17 (by decide) kf12_142 (v := .int pd) p_ad_0_0 rfl dX12_opened_33 ?_
    refine lv_iconst (v := 1) hx hb dX12_opened_36 (by decide) ?_
    refine lv_iadd hx hb dX12_opened_37 ?_
    refine lv_topi (fun x_86003 ex_86003 => ?_)
    refine pg_put S Y ok_X12 17 (by decide) kf12_142 rfl (fs' := [.ref (ad 1 0), .ref (ad 2 0), .ref (ad 3 0), .ref (ad 4 0), .int td, .int fa, .int fp, .int at9, .int ps9, .int tk, .int nu, .long wd, .int t0, .int wr, .int so, .ref (ad 5 0), .ref (ad 6 0), .int x_86003, .int x_85997, .int cg, .int iw, .int on9, .ref (ad 7 0), .ref (ad 8 0), .ref (ad 9 0), .int is9, .ref (ad 10 0), .ref (ad 11 0), .ref (ad 12 0), .ref (ad 13 0), .int se, .ref (ad 14 0)]) (v := .int x_86003) p_ad_0_0 rfl rfl rfl (Nat.le_of_ble_eq_true rfl) dX12_opened_38 (fun f_86004 H locs ef_86004 Y => ?_)
    have p_ad_5_0 := p_ad_5_0.up ef_86004 (I.ne (k := 5) (j := 0) (k' := 0) (j' := 0) (by decide) (by decide) (Or.inl (by decide)))
    have p_ad_6_0 := p_ad_6_0.up ef_86004 (I.ne (k := 6) (j := 0) (k' := 0) (j' := 0) (by decide) (by decide) (Or.inl (by decide)))
    have p_ad_3_0 := p_ad_3_0.up ef_86004 (I.ne (k := 3) (j := 0) (k' := 0) (j' := 0) (by decide) (by decide) (Or.inl (by decide)))
    have p_ad_0_0 := p_ad_0_0.me ef_86004
    have I := I.up (k := 0) (j := 0) (by decide) ef_86004 (okE_o (okFs_c okV_r (okFs_c okV_r (okFs_c okV_r (okFs_c okV_r (okFs_c (okV_i bfe_4) (okFs_c (okV_i (bn_any _)) (okFs_c (okV_i (bn_any _)) (okFs_c (okV_i bfe_7) (okFs_c (okV_i bfe_8) (okFs_c (okV_i (bn_any _)) (okFs_c (okV_i (bn_any _)) (okFs_c okV_l (okFs_c (okV_i bfe_12) (okFs_c (okV_i bfe_13) (okFs_c (okV_i (bn_any _)) (okFs_c okV_r (okFs_c okV_r (okFs_c (okV_i (bn_w (bn_eq ex_86003 (bn_add B_85993 (show bn 1 1 (1 : Int32) from bn_k (by decide)) (by decide))) (by decide))) (okFs_c (okV_i (bn_w (bn_eq ex_85997 (bn_add B_85995 (show bn 1 1 (1 : Int32) from bn_k (by decide)) (by decide))) (by decide))) (okFs_c (okV_i bfe_19) (okFs_c (okV_i bfe_20) (okFs_c (okV_i (bn_any _)) (okFs_c okV_r (okFs_c okV_r (okFs_c okV_r (okFs_c (okV_i bfe_25) (okFs_c okV_r (okFs_c okV_r (okFs_c okV_r (okFs_c okV_r (okFs_c (okV_i (bn_any _)) (okFs_c okV_r okFs_n)))))))))))))))))))))))))))))))))
    refine lv_aload_n hx hb dX12_opened_41 rfl (lv_at hl 0 rfl) ?_
    obtain ⟨g_86005, p_ad_4_0, o_86006⟩ := I.opi (k := 4) (j := 0) (by decide) rfl
    have p_ad_4_0 : pt L f_86004 (ad 4 0) (.inl (G.2 0, 300, .inl g_86005)) := p_ad_4_0
    refine cVv (As := []) (rest := []) S Y (x_X12_nextToken (l := l) I p_ad_0_0 p_ad_4_0 p_ad_5_0 p_ad_6_0) cw_X12_nextToken km12_166 p_ad_0_0 ok_X12.1 rfl rfl ⟨Nat.le_of_ble_eq_true rfl, Nat.le_of_ble_eq_true rfl⟩ hl.1 rfl (Nat.le_of_ble_eq_true rfl) ⟨Nat.le_of_ble_eq_true rfl, Nat.le_of_ble_eq_true rfl⟩ dX12_opened_42 (fun L_86007 f_86008 H locs hr_86009 Y => ?_)
    obtain ⟨v_86010, v_86011, v_86012, v_86013, v_86014, I, p_ad_0_0, p_ad_4_0, p_ad_5_0, p_ad_6_0, eT_86015, eP_86016⟩ := hr_86009
    obtain ⟨bfc86016_4, bfc86016_7, bfc86016_8, bfc86016_12, bfc86016_13, bfc86016_17, bfc86016_18, bfc86016_19, bfc86016_20, bfc86016_25⟩ := obM I p_ad_0_0
    refine lv_iload_n hx hb dX12_opened_45 rfl (lv_at hl 1 rfl) ?_
    refine lv_bipush (v := 44) hx hb dX12_opened_46 (by decide) ?_
    refine lv_icmp_eq (tgt := 53) hx hb dX12_opened_48 (by decide) (fun c_86018 => ?_) (fun c_86018 => ?_)
    · have B_86019 : bn 44 44 i1 := bn_w (bn_eq c_86018 (show bn 44 44 (44 : Int32) from bn_k (by decide))) (by decide)
      refine lv_aload_n hx hb dX12_opened_53 rfl (lv_at hl 0 rfl) ?_
      refine pg_get S Y ok_X12 9 (by decide) kf12_98 (v := .int v_86012) p_ad_0_0 rfl dX12_opened_54 ?_
      refine lv_bipush (v := 40) hx hb dX12_opened_57 (by decide) ?_
      refine lv_icmp_eq (tgt := 64) hx hb dX12_opened_59 (by decide) (fun c_86020 => ?_) (fun c_86020 => ?_)
      · have B_86021 : bn 40 40 v_86012 := bn_w (bn_eq c_86020 (show bn 40 40 (40 : Int32) from bn_k (by decide))) (by decide)
        refine lv_aload_n hx hb dX12_opened_64 rfl (lv_at hl 0 rfl) ?_
        refine pg_get S Y ok_X12 16 (by decide) kf12_32 (v := .ref (ad 6 0)) p_ad_0_0 rfl dX12_opened_65 ?_
        refine lv_aload_n hx hb dX12_opened_68 rfl (lv_at hl 0 rfl) ?_
        refine pg_get S Y ok_X12 19 (by decide) kf12_169 (v := .int cg) p_ad_0_0 rfl dX12_opened_69 ?_
        refine lv_iconst (v := 1) hx hb dX12_opened_72 (by decide) ?_
        refine pg_iast S Y p_ad_6_0 (vp_bn B_86002 (by decide)) dX12_opened_73 (fun f_86023 H locs ef_86023 Y => ?_)
        obtain ⟨g_86022, eg_86022⟩ : ∃ z, z = upd (gc) (cg : Int32).toNatClampNeg 1 := ⟨_, rfl⟩
        rw [← eg_86022] at ef_86023
        have p_ad_0_0 := p_ad_0_0.up ef_86023 (I.ne (k := 0) (j := 0) (k' := 6) (j' := 0) (by decide) (by decide) (Or.inl (by decide)))
        have p_ad_4_0 := p_ad_4_0.up ef_86023 (I.ne (k := 4) (j := 0) (k' := 6) (j' := 0) (by decide) (by decide) (Or.inl (by decide)))
        have p_ad_5_0 := p_ad_5_0.up ef_86023 (I.ne (k := 5) (j := 0) (k' := 6) (j' := 0) (by decide) (by decide) (Or.inl (by decide)))
        have p_ad_6_0 := p_ad_6_0.me ef_86023
        have o_86024 : True := trivial
        have I := I.up (k := 6) (j := 0) (by decide) ef_86023 (okE_a (g := g_86022) o_86024)
        refine lv_aload_n hx hb dX12_opened_74 rfl (lv_at hl 0 rfl) ?_
        refine lv_dup hx hb dX12_opened_75 rfl ?_
        refine pg_get S Y ok_X12 19 (by decide) kf12_169 (v := .int cg) p_ad_0_0 rfl dX12_opened_76 ?_
        refine lv_iconst (v := 1) hx hb dX12_opened_79 (by decide) ?_
        refine lv_iadd hx hb dX12_opened_80 ?_
        refine lv_topi (fun x_86025 ex_86025 => ?_)
        refine pg_put S Y ok_X12 19 (by decide) kf12_169 rfl (fs' := [.ref (ad 1 0), .ref (ad 2 0), .ref (ad 3 0), .ref (ad 4 0), .int td, .int fa, .int fp, .int v_86010, .int v_86011, .int v_86012, .int v_86013, .long v_86014, .int t0, .int wr, .int so, .ref (ad 5 0), .ref (ad 6 0), .int x_86003, .int x_85997, .int x_86025, .int iw, .int on9, .ref (ad 7 0), .ref (ad 8 0), .ref (ad 9 0), .int is9, .ref (ad 10 0), .ref (ad 11 0), .ref (ad 12 0), .ref (ad 13 0), .int se, .ref (ad 14 0)]) (v := .int x_86025) p_ad_0_0 rfl rfl rfl (Nat.le_of_ble_eq_true rfl) dX12_opened_81 (fun f_86026 H locs ef_86026 Y => ?_)
        have p_ad_4_0 := p_ad_4_0.up ef_86026 (I.ne (k := 4) (j := 0) (k' := 0) (j' := 0) (by decide) (by decide) (Or.inl (by decide)))
        have p_ad_5_0 := p_ad_5_0.up ef_86026 (I.ne (k := 5) (j := 0) (k' := 0) (j' := 0) (by decide) (by decide) (Or.inl (by decide)))
        have p_ad_6_0 := p_ad_6_0.up ef_86026 (I.ne (k := 6) (j := 0) (k' := 0) (j' := 0) (by decide) (by decide) (Or.inl (by decide)))
        have p_ad_0_0 := p_ad_0_0.me ef_86026
        have I := I.up (k := 0) (j := 0) (by decide) ef_86026 (okE_o (okFs_c okV_r (okFs_c okV_r (okFs_c okV_r (okFs_c okV_r (okFs_c (okV_i bfc86016_4) (okFs_c (okV_i (bn_any _)) (okFs_c (okV_i (bn_any _)) (okFs_c (okV_i bfc86016_7) (okFs_c (okV_i bfc86016_8) (okFs_c (okV_i (bn_any _)) (okFs_c (okV_i (bn_any _)) (okFs_c okV_l (okFs_c (okV_i bfc86016_12) (okFs_c (okV_i bfc86016_13) (okFs_c (okV_i (bn_any _)) (okFs_c okV_r (okFs_c okV_r (okFs_c (okV_i bfc86016_17) (okFs_c (okV_i bfc86016_18) (okFs_c (okV_i (bn_w (bn_eq ex_86025 (bn_add B_86002 (show bn 1 1 (1 : Int32) from bn_k (by decide)) (by decide))) (by decide))) (okFs_c (okV_i bfc86016_20) (okFs_c (okV_i (bn_any _)) (okFs_c okV_r (okFs_c okV_r (okFs_c okV_r (okFs_c (okV_i bfc86016_25) (okFs_c okV_r (okFs_c okV_r (okFs_c okV_r (okFs_c okV_r (okFs_c (okV_i (bn_any _)) (okFs_c okV_r okFs_n)))))))))))))))))))))))))))))))))
        refine lv_aload_n hx hb dX12_opened_84 rfl (lv_at hl 0 rfl) ?_
        refine cVv (As := []) (rest := []) S Y (x_X12_nextToken (l := l) I p_ad_0_0 p_ad_4_0 p_ad_5_0 p_ad_6_0) cw_X12_nextToken km12_166 p_ad_0_0 ok_X12.1 rfl rfl ⟨Nat.le_of_ble_eq_true rfl, Nat.le_of_ble_eq_true rfl⟩ hl.1 rfl (Nat.le_of_ble_eq_true rfl) ⟨Nat.le_of_ble_eq_true rfl, Nat.le_of_ble_eq_true rfl⟩ dX12_opened_85 (fun L_86027 f_86028 H locs hr_86029 Y => ?_)
        obtain ⟨v_86030, v_86031, v_86032, v_86033, v_86034, I, p_ad_0_0, p_ad_4_0, p_ad_5_0, p_ad_6_0, eT_86035, eP_86036⟩ := hr_86029
        obtain ⟨bfc86036_4, bfc86036_7, bfc86036_8, bfc86036_12, bfc86036_13, bfc86036_17, bfc86036_18, bfc86036_19, bfc86036_20, bfc86036_25⟩ := obM I p_ad_0_0
        obtain ⟨g_86038, p_ad_3_0, o_86039⟩ := I.opi (k := 3) (j := 0) (by decide) rfl
        have p_ad_3_0 : pt L_86027 f_86028 (ad 3 0) (.inl (G.2 0, 2916, .inl g_86038)) := p_ad_3_0
        have o_86040 : (XR 0 gB fr g_85999 g_86022 t0 wr x_86003 x_85997 x_86025 iw) g_86038 := (by rw [hiw]; exact XR_f (XV_jus o_86039 ho c_86018 eg_85999 (by have z9 := (la_add ex_86003 (rfl : pd.toInt = pd.toInt) (show (1 : Int32).toInt = 1 from rfl) B_85993 (show bn 1 1 (1 : Int32) from bn_k (by decide)) (by decide)); omega) (by have z9 := (la_add ex_85997 (rfl : op9.toInt = op9.toInt) (show (1 : Int32).toInt = 1 from rfl) B_85995 (show bn 1 1 (1 : Int32) from bn_k (by decide)) (by decide)); omega) eg_86022 (by have z9 := (la_add ex_86025 (rfl : cg.toInt = cg.toInt) (show (1 : Int32).toInt = 1 from rfl) B_86002 (show bn 1 1 (1 : Int32) from bn_k (by decide)) (by decide)); omega) bfe_18 bfe_19 bfe_17))
        have I := I.castS (sp' := spM PA PI (XR 0 gB fr g_85999 g_86022 t0 wr x_86003 x_85997 x_86025 iw) pa) (k := 3) (j := 0) (by decide) p_ad_3_0 (okE_a (g := g_86038) o_86040) pXC
        refine lv_iconst (v := 0) hx hb dX12_opened_88 (by decide) ?_
        exact prI (post := fun r L1 f1 => ∃ at92 : Int32, ∃ ps92 : Int32, ∃ tk2 : Int32, ∃ nu2 : Int32, ∃ wd2 : Int64, ∃ pd2 : Int32, ∃ op92 : Int32, ∃ cg2 : Int32, ∃ gp2 : Nat → Int32, ∃ gc2 : Nat → Int32, bn 0 3 r ∧ SH (spM PA PI (XR r gB fr gp2 gc2 t0 wr pd2 op92 cg2 iw) pa) nnM G ad L1 f1 ∧ pt L1 f1 (ad 0 0) (.inr (12, [.ref (ad 1 0), .ref (ad 2 0), .ref (ad 3 0), .ref (ad 4 0), .int td, .int fa, .int fp, .int at92, .int ps92, .int tk2, .int nu2, .long wd2, .int t0, .int wr, .int so, .ref (ad 5 0), .ref (ad 6 0), .int pd2, .int op92, .int cg2, .int iw, .int on9, .ref (ad 7 0), .ref (ad 8 0), .ref (ad 9 0), .int is9, .ref (ad 10 0), .ref (ad 11 0), .ref (ad 12 0), .ref (ad 13 0), .int se, .ref (ad 14 0)])) ∧ pt L1 f1 (ad 5 0) (.inl (G.2 0, 160, .inl gp2)) ∧ pt L1 f1 (ad 6 0) (.inl (G.2 0, 9, .inl gc2)) ∧ TK at92 ps92 tk2 ∧ (r.toInt = 0 → ps9.toInt + 1 ≤ ps92.toInt) ∧ (r.toInt ≤ 0 → wr.toInt + pd2.toInt ≤ ps92.toInt)) S Y rfl (by decide) (by decide) hA1 ⟨v_86030, v_86031, v_86032, v_86033, v_86034, x_86003, x_85997, x_86025, g_85999, g_86022, bn_w (show bn 0 0 (0 : Int32) from bn_k (by decide)) (by decide), I, p_ad_0_0, p_ad_5_0, p_ad_6_0, eT_86035, (fun _ => (by have c0 := eT_86015.1; have c1 := eP_86016; have c2 := eT_86035.1; have c3 := eP_86036; have c4 := hroom; have c5 := (hT.2 htk); have c6 := (la_add ex_86003 (rfl : pd.toInt = pd.toInt) (show (1 : Int32).toInt = 1 from rfl) B_85993 (show bn 1 1 (1 : Int32) from bn_k (by decide)) (by decide)); omega)), (fun _ => (by have c0 := eT_86015.1; have c1 := eP_86016; have c2 := eT_86035.1; have c3 := eP_86036; have c4 := hroom; have c5 := (hT.2 htk); have c6 := (la_add ex_86003 (rfl : pd.toInt = pd.toInt) (show (1 : Int32).toInt = 1 from rfl) B_85993 (show bn 1 1 (1 : Int32) from bn_k (by decide)) (by decide)); omega))⟩ dX12_opened_89
      · obtain ⟨g_86041, p_ad_3_0, o_86042⟩ := I.opi (k := 3) (j := 0) (by decide) rfl
        have p_ad_3_0 : pt L_86007 f_86008 (ad 3 0) (.inl (G.2 0, 2916, .inl g_86041)) := p_ad_3_0
        have o_86043 : (XR 1 gB fr g_85999 gc t0 wr x_86003 x_85997 cg iw) g_86041 := (XR_no o_86042.1 (by decide))
        have I := I.castS (sp' := spM PA PI (XR 1 gB fr g_85999 gc t0 wr x_86003 x_85997 cg iw) pa) (k := 3) (j := 0) (by decide) p_ad_3_0 (okE_a (g := g_86041) o_86043) pXC
        refine lv_iconst (v := 1) hx hb dX12_opened_62 (by decide) ?_
        exact prI (post := fun r L1 f1 => ∃ at92 : Int32, ∃ ps92 : Int32, ∃ tk2 : Int32, ∃ nu2 : Int32, ∃ wd2 : Int64, ∃ pd2 : Int32, ∃ op92 : Int32, ∃ cg2 : Int32, ∃ gp2 : Nat → Int32, ∃ gc2 : Nat → Int32, bn 0 3 r ∧ SH (spM PA PI (XR r gB fr gp2 gc2 t0 wr pd2 op92 cg2 iw) pa) nnM G ad L1 f1 ∧ pt L1 f1 (ad 0 0) (.inr (12, [.ref (ad 1 0), .ref (ad 2 0), .ref (ad 3 0), .ref (ad 4 0), .int td, .int fa, .int fp, .int at92, .int ps92, .int tk2, .int nu2, .long wd2, .int t0, .int wr, .int so, .ref (ad 5 0), .ref (ad 6 0), .int pd2, .int op92, .int cg2, .int iw, .int on9, .ref (ad 7 0), .ref (ad 8 0), .ref (ad 9 0), .int is9, .ref (ad 10 0), .ref (ad 11 0), .ref (ad 12 0), .ref (ad 13 0), .int se, .ref (ad 14 0)])) ∧ pt L1 f1 (ad 5 0) (.inl (G.2 0, 160, .inl gp2)) ∧ pt L1 f1 (ad 6 0) (.inl (G.2 0, 9, .inl gc2)) ∧ TK at92 ps92 tk2 ∧ (r.toInt = 0 → ps9.toInt + 1 ≤ ps92.toInt) ∧ (r.toInt ≤ 0 → wr.toInt + pd2.toInt ≤ ps92.toInt)) S Y rfl (by decide) (by decide) hA1 ⟨v_86010, v_86011, v_86012, v_86013, v_86014, x_86003, x_85997, cg, g_85999, gc, bn_w (show bn 1 1 (1 : Int32) from bn_k (by decide)) (by decide), I, p_ad_0_0, p_ad_5_0, p_ad_6_0, eT_86015, (fun h => absurd h (by decide)), (fun h => absurd h (by decide))⟩ dX12_opened_63
    · obtain ⟨g_86044, p_ad_3_0, o_86045⟩ := I.opi (k := 3) (j := 0) (by decide) rfl
      have p_ad_3_0 : pt L_86007 f_86008 (ad 3 0) (.inl (G.2 0, 2916, .inl g_86044)) := p_ad_3_0
      have o_86046 : (XR 0 gB fr g_85999 gc t0 wr x_86003 x_85997 cg iw) g_86044 := (by rw [hiw]; exact XR_f (XV_opd o_86045 ho c_86018 eg_85999 (by have z9 := (la_add ex_86003 (rfl : pd.toInt = pd.toInt) (show (1 : Int32).toInt = 1 from rfl) B_85993 (show bn 1 1 (1 : Int32) from bn_k (by decide)) (by decide)); omega) (by have z9 := (la_add ex_85997 (rfl : op9.toInt = op9.toInt) (show (1 : Int32).toInt = 1 from rfl) B_85995 (show bn 1 1 (1 : Int32) from bn_k (by decide)) (by decide)); omega) bfe_18 bfe_17))
      have I := I.castS (sp' := spM PA PI (XR 0 gB fr g_85999 gc t0 wr x_86003 x_85997 cg iw) pa) (k := 3) (j := 0) (by decide) p_ad_3_0 (okE_a (g := g_86044) o_86046) pXC
      refine lv_iconst (v := 0) hx hb dX12_opened_51 (by decide) ?_
      exact prI (post := fun r L1 f1 => ∃ at92 : Int32, ∃ ps92 : Int32, ∃ tk2 : Int32, ∃ nu2 : Int32, ∃ wd2 : Int64, ∃ pd2 : Int32, ∃ op92 : Int32, ∃ cg2 : Int32, ∃ gp2 : Nat → Int32, ∃ gc2 : Nat → Int32, bn 0 3 r ∧ SH (spM PA PI (XR r gB fr gp2 gc2 t0 wr pd2 op92 cg2 iw) pa) nnM G ad L1 f1 ∧ pt L1 f1 (ad 0 0) (.inr (12, [.ref (ad 1 0), .ref (ad 2 0), .ref (ad 3 0), .ref (ad 4 0), .int td, .int fa, .int fp, .int at92, .int ps92, .int tk2, .int nu2, .long wd2, .int t0, .int wr, .int so, .ref (ad 5 0), .ref (ad 6 0), .int pd2, .int op92, .int cg2, .int iw, .int on9, .ref (ad 7 0), .ref (ad 8 0), .ref (ad 9 0), .int is9, .ref (ad 10 0), .ref (ad 11 0), .ref (ad 12 0), .ref (ad 13 0), .int se, .ref (ad 14 0)])) ∧ pt L1 f1 (ad 5 0) (.inl (G.2 0, 160, .inl gp2)) ∧ pt L1 f1 (ad 6 0) (.inl (G.2 0, 9, .inl gc2)) ∧ TK at92 ps92 tk2 ∧ (r.toInt = 0 → ps9.toInt + 1 ≤ ps92.toInt) ∧ (r.toInt ≤ 0 → wr.toInt + pd2.toInt ≤ ps92.toInt)) S Y rfl (by decide) (by decide) hA1 ⟨v_86010, v_86011, v_86012, v_86013, v_86014, x_86003, x_85997, cg, g_85999, gc, bn_w (show bn 0 0 (0 : Int32) from bn_k (by decide)) (by decide), I, p_ad_0_0, p_ad_5_0, p_ad_6_0, eT_86015, (fun _ => (by have c0 := eT_86015.1; have c1 := eP_86016; have c2 := hroom; have c3 := (hT.2 htk); have c4 := (la_add ex_86003 (rfl : pd.toInt = pd.toInt) (show (1 : Int32).toInt = 1 from rfl) B_85993 (show bn 1 1 (1 : Int32) from bn_k (by decide)) (by decide)); omega)), (fun _ => (by have c0 := eT_86015.1; have c1 := eP_86016; have c2 := hroom; have c3 := (hT.2 htk); have c4 := (la_add ex_86003 (rfl : pd.toInt = pd.toInt) (show (1 : Int32).toInt = 1 from rfl) B_85993 (show bn 1 1 (1 : Int32) from bn_k (by decide)) (by decide)); omega))⟩ dX12_opened_52
  · have B_85996 : bn 8 8 op9 := bn_w (bn_eq c_85994 (show bn 8 8 (8 : Int32) from bn_k (by decide))) (by decide)
    have o_86047 : (XR 3 gB fr gp gc t0 wr pd op9 cg iw) g_85991 := (XR_no o_85992.1 (by decide))
    have I := I.castS (sp' := spM PA PI (XR 3 gB fr gp gc t0 wr pd op9 cg iw) pa) (k := 3) (j := 0) (by decide) p_ad_3_0 (okE_a (g := g_85991) o_86047) pXC
    refine lv_iconst (v := 3) hx hb dX12_opened_9 (by decide) ?_
    exact prI (post := fun r L1 f1 => ∃ at92 : Int32, ∃ ps92 : Int32, ∃ tk2 : Int32, ∃ nu2 : Int32, ∃ wd2 : Int64, ∃ pd2 : Int32, ∃ op92 : Int32, ∃ cg2 : Int32, ∃ gp2 : Nat → Int32, ∃ gc2 : Nat → Int32, bn 0 3 r ∧ SH (spM PA PI (XR r gB fr gp2 gc2 t0 wr pd2 op92 cg2 iw) pa) nnM G ad L1 f1 ∧ pt L1 f1 (ad 0 0) (.inr (12, [.ref (ad 1 0), .ref (ad 2 0), .ref (ad 3 0), .ref (ad 4 0), .int td, .int fa, .int fp, .int at92, .int ps92, .int tk2, .int nu2, .long wd2, .int t0, .int wr, .int so, .ref (ad 5 0), .ref (ad 6 0), .int pd2, .int op92, .int cg2, .int iw, .int on9, .ref (ad 7 0), .ref (ad 8 0), .ref (ad 9 0), .int is9, .ref (ad 10 0), .ref (ad 11 0), .ref (ad 12 0), .ref (ad 13 0), .int se, .ref (ad 14 0)])) ∧ pt L1 f1 (ad 5 0) (.inl (G.2 0, 160, .inl gp2)) ∧ pt L1 f1 (ad 6 0) (.inl (G.2 0, 9, .inl gc2)) ∧ TK at92 ps92 tk2 ∧ (r.toInt = 0 → ps9.toInt + 1 ≤ ps92.toInt) ∧ (r.toInt ≤ 0 → wr.toInt + pd2.toInt ≤ ps92.toInt)) S Y rfl (by decide) (by decide) hA1 ⟨at9, ps9, tk, nu, wd, pd, op9, cg, gp, gc, bn_w (show bn 3 3 (3 : Int32) from bn_k (by decide)) (by decide), I, p_ad_0_0, p_ad_5_0, p_ad_6_0, hT, (fun h => absurd h (by decide)), (fun h => absurd h (by decide))⟩ dX12_opened_10
set_option maxHeartbeats 4000000 in
set_option maxRecDepth 100000 in
theorem x_X12_shut {l : Launch} {G : GG}  {L : List Nat} {f : HF} {ad : Nat → Nat → Nat} {pa : (Nat → Int32) → Prop} {PA : (Nat → Int32) → Prop} {PI : (Nat → Int32) → Prop} {i1 : Int32} {td fa fp at9 ps9 tk nu t0 wr so pd op9 cg iw on9 is9 se : Int32} {wd : Int64} {gp gc : Nat → Int32} {gB : Nat → Int32} {fr : Nat} {opn : Int} {cur0 cmp0 : Bool} (I : SH (spM PA PI (XS gB fr gp gc 1 opn cur0 cmp0 t0 wr pd op9 cg) pa) nnM G ad L f) (p_ad_0_0 : pt L f (ad 0 0) (.inr (12, [.ref (ad 1 0), .ref (ad 2 0), .ref (ad 3 0), .ref (ad 4 0), .int td, .int fa, .int fp, .int at9, .int ps9, .int tk, .int nu, .long wd, .int t0, .int wr, .int so, .ref (ad 5 0), .ref (ad 6 0), .int pd, .int op9, .int cg, .int iw, .int on9, .ref (ad 7 0), .ref (ad 8 0), .ref (ad 9 0), .int is9, .ref (ad 10 0), .ref (ad 11 0), .ref (ad 12 0), .ref (ad 13 0), .int se, .ref (ad 14 0)]))) (p_ad_5_0 : pt L f (ad 5 0) (.inl (G.2 0, 160, .inl gp))) (p_ad_6_0 : pt L f (ad 6 0) (.inl (G.2 0, 9, .inl gc))) (hc : cur0 = false → cmp0 = true) (hq : cmp0 = true → askd opn) (hxt : xtp gp pd 1) (ho : i1.toInt = opn) (h4 : opn = 40 ∨ opn = 43 ∨ (opn = 44 ∧ cmp0 = true)) (hroom : wr.toInt + pd.toInt ≤ ps9.toInt) (hT : TK at9 ps9 tk) (htk : ¬ tk = 0) : PMv l yX12_shut cX12_shut 2 2 0 0 G [.ref (ad 0 0), .int i1] L f (fun L1 f1 => ∃ at92 : Int32, ∃ ps92 : Int32, ∃ tk2 : Int32, ∃ nu2 : Int32, ∃ wd2 : Int64, ∃ wr2 : Int32, ∃ pd2 : Int32, ∃ op92 : Int32, ∃ cg2 : Int32, ∃ gp2 : Nat → Int32, SH (spM PA PI (XW gB fr gp2 gc t0 wr2 pd2 op92 cg2 true) pa) nnM G ad L1 f1 ∧ pt L1 f1 (ad 0 0) (.inr (12, [.ref (ad 1 0), .ref (ad 2 0), .ref (ad 3 0), .ref (ad 4 0), .int td, .int fa, .int fp, .int at92, .int ps92, .int tk2, .int nu2, .long wd2, .int t0, .int wr2, .int so, .ref (ad 5 0), .ref (ad 6 0), .int pd2, .int op92, .int cg2, .int iw, .int on9, .ref (ad 7 0), .ref (ad 8 0), .ref (ad 9 0), .int is9, .ref (ad 10 0), .ref (ad 11 0), .ref (ad 12 0), .ref (ad 13 0), .int se, .ref (ad 14 0)])) ∧ pt L1 f1 (ad 5 0) (.inl (G.2 0, 160, .inl gp2)) ∧ pt L1 f1 (ad 6 0) (.inl (G.2 0, 9, .inl gc)) ∧ TK at92 ps92 tk2 ∧ ps9.toInt + 1 ≤ ps92.toInt ∧ wr2.toInt + pd2.toInt ≤ ps92.toInt) := by
  refine PMv.of (post := fun L1 f1 => ∃ at92 : Int32, ∃ ps92 : Int32, ∃ tk2 : Int32, ∃ nu2 : Int32, ∃ wd2 : Int64, ∃ wr2 : Int32, ∃ pd2 : Int32, ∃ op92 : Int32, ∃ cg2 : Int32, ∃ gp2 : Nat → Int32, SH (spM PA PI (XW gB fr gp2 gc t0 wr2 pd2 op92 cg2 true) pa) nnM G ad L1 f1 ∧ pt L1 f1 (ad 0 0) (.inr (12, [.ref (ad 1 0), .ref (ad 2 0), .ref (ad 3 0), .ref (ad 4 0), .int td, .int fa, .int fp, .int at92, .int ps92, .int tk2, .int nu2, .long wd2, .int t0, .int wr2, .int so, .ref (ad 5 0), .ref (ad 6 0), .int pd2, .int op92, .int cg2, .int iw, .int on9, .ref (ad 7 0), .ref (ad 8 0), .ref (ad 9 0), .int is9, .ref (ad 10 0), .ref (ad 11 0), .ref (ad 12 0), .ref (ad 13 0), .int se, .ref (ad 14 0)])) ∧ pt L1 f1 (ad 5 0) (.inl (G.2 0, 160, .inl gp2)) ∧ pt L1 f1 (ad 6 0) (.inl (G.2 0, 9, .inl gc)) ∧ TK at92 ps92 tk2 ∧ ps9.toInt + 1 ≤ ps92.toInt ∧ wr2.toInt + pd2.toInt ≤ ps92.toInt) (own := RX12) (by decide) rfl (Nat.le_of_ble_eq_true rfl) (fun sz p e s m args below meth c A ls hA1 hname S Y hl => ?_)
  have hx := S.hx
  have hb := S.hb
  have hl : lv_has ls 2 [(0, .ref (ad 0 0)), (1, .int i1)] := hl
  obtain ⟨bfe_4, bfe_7, bfe_8, bfe_12, bfe_13, bfe_17, bfe_18, bfe_19, bfe_20, bfe_25⟩ := obM I p_ad_0_0
  obtain ⟨g_86262, p_ad_3_0, o_86263⟩ := I.opi (k := 3) (j := 0) (by decide) rfl
  have p_ad_3_0 : pt L f (ad 3 0) (.inl (G.2 0, 2916, .inl g_86262)) := p_ad_3_0
  have hS := XS_top o_86263 hc hxt (by rcases h4 with h | h | h <;> omega) (by rcases h4 with h | h | h <;> omega)
  have B_86264 : bn 1 160 pd := ⟨hS.1, bfe_17.2⟩
  have B_86265 : bn 1 8 op9 := ⟨hS.2.1, bfe_18.2⟩
  have B_86266 : bn 0 299 wr := ⟨bfe_13.1, by have z9 := hT.2 htk; have z8 := bfe_7.2; have z7 := bfe_17.1; omega⟩
  refine lv_aload_n hx hb dX12_shut_0 rfl (lv_at hl 0 rfl) ?_
  refine lv_dup hx hb dX12_shut_1 rfl ?_
  refine pg_get S Y ok_X12 18 (by decide) kf12_152 (v := .int op9) p_ad_0_0 rfl dX12_shut_2 ?_
  refine lv_iconst (v := 1) hx hb dX12_shut_5 (by decide) ?_
  refine lv_isub hx hb dX12_shut_6 ?_
  refine lv_topi (fun x_86267 ex_86267 => ?_)
  refine pg_put S Y ok_X12 18 (by decide) kf12_152 rfl (fs' := [.ref (ad 1 0), .ref (ad 2 0), .ref (ad 3 0), .ref (ad 4 0), .int td, .int fa, .int fp, .int at9, .int ps9, .int tk, .int nu, .long wd, .int t0, .int wr, .int so, .ref (ad 5 0), .ref (ad 6 0), .int pd, .int x_86267, .int cg, .int iw, .int on9, .ref (ad 7 0), .ref (ad 8 0), .ref (ad 9 0), .int is9, .ref (ad 10 0), .ref (ad 11 0), .ref (ad 12 0), .ref (ad 13 0), .int se, .ref (ad 14 0)]) (v := .int x_86267) p_ad_0_0 rfl rfl rfl (Nat.le_of_ble_eq_true rfl) dX12_shut_7 (fun f_86268 H locs ef_86268 Y => ?_)
  have p_ad_5_0 := p_ad_5_0.up ef_86268 (I.ne (k := 5) (j := 0) (k' := 0) (j' := 0) (by decide) (by decide) (Or.inl (by decide)))
  have p_ad_6_0 := p_ad_6_0.up ef_86268 (I.ne (k := 6) (j := 0) (k' := 0) (j' := 0) (by decide) (by decide) (Or.inl (by decide)))
  have p_ad_3_0 := p_ad_3_0.up ef_86268 (I.ne (k := 3) (j := 0) (k' := 0) (j' := 0) (by decide) (by decide) (Or.inl (by decide)))
  have p_ad_0_0 := p_ad_0_0.me ef_86268
  have I := I.up (k := 0) (j := 0) (by decide) ef_86268 (okE_o (okFs_c okV_r (okFs_c okV_r (okFs_c okV_r (okFs_c okV_r (okFs_c (okV_i bfe_4) (okFs_c (okV_i (bn_any _)) (okFs_c (okV_i (bn_any _)) (okFs_c (okV_i bfe_7) (okFs_c (okV_i bfe_8) (okFs_c (okV_i (bn_any _)) (okFs_c (okV_i (bn_any _)) (okFs_c okV_l (okFs_c (okV_i bfe_12) (okFs_c (okV_i bfe_13) (okFs_c (okV_i (bn_any _)) (okFs_c okV_r (okFs_c okV_r (okFs_c (okV_i bfe_17) (okFs_c (okV_i (bn_w (bn_eq ex_86267 (bn_sub B_86265 (show bn 1 1 (1 : Int32) from bn_k (by decide)) (by decide))) (by decide))) (okFs_c (okV_i bfe_19) (okFs_c (okV_i bfe_20) (okFs_c (okV_i (bn_any _)) (okFs_c okV_r (okFs_c okV_r (okFs_c okV_r (okFs_c (okV_i bfe_25) (okFs_c okV_r (okFs_c okV_r (okFs_c okV_r (okFs_c okV_r (okFs_c (okV_i (bn_any _)) (okFs_c okV_r okFs_n)))))))))))))))))))))))))))))))))
  refine lv_iload_n hx hb dX12_shut_10 rfl (lv_at hl 1 rfl) ?_
  refine lv_bipush (v := 44) hx hb dX12_shut_11 (by decide) ?_
  refine lv_icmp_ne (tgt := 58) hx hb dX12_shut_13 (by decide) (fun c_86269 => ?_) (fun c_86269 => ?_)
  · refine lv_aload_n hx hb dX12_shut_58 rfl (lv_at hl 0 rfl) ?_
    refine lv_dup hx hb dX12_shut_59 rfl ?_
    refine pg_get S Y ok_X12 17 (by decide) kf12_142 (v := .int pd) p_ad_0_0 rfl dX12_shut_60 ?_
    refine lv_iconst (v := 1) hx hb dX12_shut_63 (by decide) ?_
    refine lv_isub hx hb dX12_shut_64 ?_
    refine lv_topi (fun x_86271 ex_86271 => ?_)
    refine pg_put S Y ok_X12 17 (by decide) kf12_142 rfl (fs' := [.ref (ad 1 0), .ref (ad 2 0), .ref (ad 3 0), .ref (ad 4 0), .int td, .int fa, .int fp, .int at9, .int ps9, .int tk, .int nu, .long wd, .int t0, .int wr, .int so, .ref (ad 5 0), .ref (ad 6 0), .int x_86271, .int x_86267, .int cg, .int iw, .int on9, .ref (ad 7 0), .ref (ad 8 0), .ref (ad 9 0), .int is9, .ref (ad 10 0), .ref (ad 11 0), .ref (ad 12 0), .ref (ad 13 0), .int se, .ref (ad 14 0)]) (v := .int x_86271) p_ad_0_0 rfl rfl rfl (Nat.le_of_ble_eq_true rfl) dX12_shut_65 (fun f_86272 H locs ef_86272 Y => ?_)
    have p_ad_5_0 := p_ad_5_0.up ef_86272 (I.ne (k := 5) (j := 0) (k' := 0) (j' := 0) (by decide) (by decide) (Or.inl (by decide)))
    have p_ad_6_0 := p_ad_6_0.up ef_86272 (I.ne (k := 6) (j := 0) (k' := 0) (j' := 0) (by decide) (by decide) (Or.inl (by decide)))
    have p_ad_3_0 := p_ad_3_0.up ef_86272 (I.ne (k := 3) (j := 0) (k' := 0) (j' := 0) (by decide) (by decide) (Or.inl (by decide)))
    have p_ad_0_0 := p_ad_0_0.me ef_86272
    have I := I.up (k := 0) (j := 0) (by decide) ef_86272 (okE_o (okFs_c okV_r (okFs_c okV_r (okFs_c okV_r (okFs_c okV_r (okFs_c (okV_i bfe_4) (okFs_c (okV_i (bn_any _)) (okFs_c (okV_i (bn_any _)) (okFs_c (okV_i bfe_7) (okFs_c (okV_i bfe_8) (okFs_c (okV_i (bn_any _)) (okFs_c (okV_i (bn_any _)) (okFs_c okV_l (okFs_c (okV_i bfe_12) (okFs_c (okV_i bfe_13) (okFs_c (okV_i (bn_any _)) (okFs_c okV_r (okFs_c okV_r (okFs_c (okV_i (bn_w (bn_eq ex_86271 (bn_sub B_86264 (show bn 1 1 (1 : Int32) from bn_k (by decide)) (by decide))) (by decide))) (okFs_c (okV_i (bn_w (bn_eq ex_86267 (bn_sub B_86265 (show bn 1 1 (1 : Int32) from bn_k (by decide)) (by decide))) (by decide))) (okFs_c (okV_i bfe_19) (okFs_c (okV_i bfe_20) (okFs_c (okV_i (bn_any _)) (okFs_c okV_r (okFs_c okV_r (okFs_c okV_r (okFs_c (okV_i bfe_25) (okFs_c okV_r (okFs_c okV_r (okFs_c okV_r (okFs_c okV_r (okFs_c (okV_i (bn_any _)) (okFs_c okV_r okFs_n)))))))))))))))))))))))))))))))))
    refine lv_iload_n hx hb dX12_shut_68 rfl (lv_at hl 1 rfl) ?_
    refine lv_bipush (v := 43) hx hb dX12_shut_69 (by decide) ?_
    refine lv_icmp_ne (tgt := 80) hx hb dX12_shut_71 (by decide) (fun c_86273 => ?_) (fun c_86273 => ?_)
    · refine lv_aload_n hx hb dX12_shut_80 rfl (lv_at hl 0 rfl) ?_
      obtain ⟨g_86275, p_ad_4_0, o_86276⟩ := I.opi (k := 4) (j := 0) (by decide) rfl
      have p_ad_4_0 : pt L f_86272 (ad 4 0) (.inl (G.2 0, 300, .inl g_86275)) := p_ad_4_0
      refine cVv (As := []) (rest := []) S Y (x_X12_nextToken (l := l) I p_ad_0_0 p_ad_4_0 p_ad_5_0 p_ad_6_0) cw_X12_nextToken km12_166 p_ad_0_0 ok_X12.1 rfl rfl ⟨Nat.le_of_ble_eq_true rfl, Nat.le_of_ble_eq_true rfl⟩ hl.1 rfl (Nat.le_of_ble_eq_true rfl) ⟨Nat.le_of_ble_eq_true rfl, Nat.le_of_ble_eq_true rfl⟩ dX12_shut_81 (fun L_86277 f_86278 H locs hr_86279 Y => ?_)
      obtain ⟨v_86280, v_86281, v_86282, v_86283, v_86284, I, p_ad_0_0, p_ad_4_0, p_ad_5_0, p_ad_6_0, eT_86285, eP_86286⟩ := hr_86279
      obtain ⟨bfc86286_4, bfc86286_7, bfc86286_8, bfc86286_12, bfc86286_13, bfc86286_17, bfc86286_18, bfc86286_19, bfc86286_20, bfc86286_25⟩ := obM I p_ad_0_0
      refine lv_aload_n hx hb dX12_shut_84 rfl (lv_at hl 0 rfl) ?_
      refine lv_bipush (v := 7) hx hb dX12_shut_85 (by decide) ?_
      obtain ⟨g_86288, p_ad_3_0, o_86289⟩ := I.opi (k := 3) (j := 0) (by decide) rfl
      have p_ad_3_0 : pt L_86277 f_86278 (ad 3 0) (.inl (G.2 0, 2916, .inl g_86288)) := p_ad_3_0
      obtain ⟨opn2, cmp2, hz⟩ := XS_s40 o_86289 (by have z9 := (show ¬ i1.toInt = 43 from fun z => c_86273 (Int32.toInt_inj.mp (z.trans rfl))); have z8 := (show ¬ i1.toInt = 44 from fun z => c_86269 (Int32.toInt_inj.mp (z.trans rfl))); rcases h4 with h | h | h <;> omega) hc hq hxt (by have z9 := (la_sub ex_86271 (rfl : pd.toInt = pd.toInt) (show (1 : Int32).toInt = 1 from rfl) B_86264 (show bn 1 1 (1 : Int32) from bn_k (by decide)) (by decide)); omega) (by have z9 := (la_sub ex_86267 (rfl : op9.toInt = op9.toInt) (show (1 : Int32).toInt = 1 from rfl) B_86265 (show bn 1 1 (1 : Int32) from bn_k (by decide)) (by decide)); omega) hS.1
      have o_86290 : (XS gB fr gp gc (7 : Int32).toInt.toNat opn2 true cmp2 t0 wr x_86271 x_86267 cg) g_86288 := hz
      have I := I.castS (sp' := spM PA PI (XS gB fr gp gc (7 : Int32).toInt.toNat opn2 true cmp2 t0 wr x_86271 x_86267 cg) pa) (k := 3) (j := 0) (by decide) p_ad_3_0 (okE_a (g := g_86288) o_86290) pXC
      refine cVv (As := [.int 7]) (rest := []) S Y (x_X12_settle (l := l) I p_ad_0_0 p_ad_5_0 p_ad_6_0 (bn_w (show bn 7 7 (7 : Int32) from bn_k (by decide)) (by decide)) (by have c0 := eT_86285.1; have c1 := eP_86286; have c2 := hroom; have c3 := (hT.2 htk); have c4 := bfe_8.2; have c5 := bfe_7.2; have c6 := (la_sub ex_86271 (rfl : pd.toInt = pd.toInt) (show (1 : Int32).toInt = 1 from rfl) B_86264 (show bn 1 1 (1 : Int32) from bn_k (by decide)) (by decide)); omega)) cw_X12_settle km12_181 p_ad_0_0 ok_X12.1 rfl rfl ⟨Nat.le_of_ble_eq_true rfl, Nat.le_of_ble_eq_true rfl⟩ hl.1 rfl (Nat.le_of_ble_eq_true rfl) ⟨Nat.le_of_ble_eq_true rfl, Nat.le_of_ble_eq_true rfl⟩ dX12_shut_87 (fun L_86291 f_86292 H locs hr_86293 Y => ?_)
      obtain ⟨v_86294, v_86295, v_86296, I, p_ad_0_0, p_ad_5_0, p_ad_6_0, es1_86297, es2_86298, es3_86299⟩ := hr_86293
      obtain ⟨bfc86299_4, bfc86299_7, bfc86299_8, bfc86299_12, bfc86299_13, bfc86299_17, bfc86299_18, bfc86299_19, bfc86299_20, bfc86299_25⟩ := obM I p_ad_0_0
      obtain ⟨g_86301, p_ad_3_0, o_86302⟩ := I.opi (k := 3) (j := 0) (by decide) rfl
      have p_ad_3_0 : pt L_86291 f_86292 (ad 3 0) (.inl (G.2 0, 2916, .inl g_86301)) := p_ad_3_0
      have o_86303 : (XW gB fr gp gc t0 v_86294 v_86295 v_86296 cg true) g_86301 := (XS_end5 o_86302 (by decide) es2_86298)
      have I := I.castS (sp' := spM PA PI (XW gB fr gp gc t0 v_86294 v_86295 v_86296 cg true) pa) (k := 3) (j := 0) (by decide) p_ad_3_0 (okE_a (g := g_86301) o_86303) pXC
      exact prV (post := fun L1 f1 => ∃ at92 : Int32, ∃ ps92 : Int32, ∃ tk2 : Int32, ∃ nu2 : Int32, ∃ wd2 : Int64, ∃ wr2 : Int32, ∃ pd2 : Int32, ∃ op92 : Int32, ∃ cg2 : Int32, ∃ gp2 : Nat → Int32, SH (spM PA PI (XW gB fr gp2 gc t0 wr2 pd2 op92 cg2 true) pa) nnM G ad L1 f1 ∧ pt L1 f1 (ad 0 0) (.inr (12, [.ref (ad 1 0), .ref (ad 2 0), .ref (ad 3 0), .ref (ad 4 0), .int td, .int fa, .int fp, .int at92, .int ps92, .int tk2, .int nu2, .long wd2, .int t0, .int wr2, .int so, .ref (ad 5 0), .ref (ad 6 0), .int pd2, .int op92, .int cg2, .int iw, .int on9, .ref (ad 7 0), .ref (ad 8 0), .ref (ad 9 0), .int is9, .ref (ad 10 0), .ref (ad 11 0), .ref (ad 12 0), .ref (ad 13 0), .int se, .ref (ad 14 0)])) ∧ pt L1 f1 (ad 5 0) (.inl (G.2 0, 160, .inl gp2)) ∧ pt L1 f1 (ad 6 0) (.inl (G.2 0, 9, .inl gc)) ∧ TK at92 ps92 tk2 ∧ ps9.toInt + 1 ≤ ps92.toInt ∧ wr2.toInt + pd2.toInt ≤ ps92.toInt) S Y (by decide) (by decide) hA1 ⟨v_86280, v_86281, v_86282, v_86283, v_86284, v_86294, v_86295, v_86296, cg, gp, I, p_ad_0_0, p_ad_5_0, p_ad_6_0, eT_86285, (by have c0 := eT_86285.1; have c1 := eP_86286; have c2 := es1_86297; have c3 := es3_86299; have c4 := (la_sub ex_86271 (rfl : pd.toInt = pd.toInt) (show (1 : Int32).toInt = 1 from rfl) B_86264 (show bn 1 1 (1 : Int32) from bn_k (by decide)) (by decide)); have c5 := hroom; have c6 := (hT.2 htk); omega), (by have c0 := eT_86285.1; have c1 := eP_86286; have c2 := es1_86297; have c3 := es3_86299; have c4 := (la_sub ex_86271 (rfl : pd.toInt = pd.toInt) (show (1 : Int32).toInt = 1 from rfl) B_86264 (show bn 1 1 (1 : Int32) from bn_k (by decide)) (by decide)); have c5 := hroom; have c6 := (hT.2 htk); omega)⟩ dX12_shut_90
    · have B_86274 : bn 43 43 i1 := bn_w (bn_eq c_86273 (show bn 43 43 (43 : Int32) from bn_k (by decide))) (by decide)
      refine lv_aload_n hx hb dX12_shut_74 rfl (lv_at hl 0 rfl) ?_
      refine lv_iconst (v := 3) hx hb dX12_shut_75 (by decide) ?_
      refine lv_iconst (v := 0) hx hb dX12_shut_76 (by decide) ?_
      refine cVv (As := [.int 3, .int 0]) (rest := []) S Y (x_X12_emit (l := l) I p_ad_0_0 p_ad_5_0 p_ad_6_0 (bn_w B_86266 (by decide))) cw_X12_emit km12_148 p_ad_0_0 ok_X12.1 rfl rfl ⟨Nat.le_of_ble_eq_true rfl, Nat.le_of_ble_eq_true rfl⟩ hl.1 rfl (Nat.le_of_ble_eq_true rfl) ⟨Nat.le_of_ble_eq_true rfl, Nat.le_of_ble_eq_true rfl⟩ dX12_shut_77 (fun L_86304 f_86305 H locs hr_86306 Y => ?_)
      obtain ⟨v_86307, I, p_ad_0_0, p_ad_5_0, p_ad_6_0, e13_86308⟩ := hr_86306
      obtain ⟨bfc86308_4, bfc86308_7, bfc86308_8, bfc86308_12, bfc86308_13, bfc86308_17, bfc86308_18, bfc86308_19, bfc86308_20, bfc86308_25⟩ := obM I p_ad_0_0
      refine lv_aload_n hx hb dX12_shut_80 rfl (lv_at hl 0 rfl) ?_
      obtain ⟨g_86310, p_ad_4_0, o_86311⟩ := I.opi (k := 4) (j := 0) (by decide) rfl
      have p_ad_4_0 : pt L_86304 f_86305 (ad 4 0) (.inl (G.2 0, 300, .inl g_86310)) := p_ad_4_0
      refine cVv (As := []) (rest := []) S Y (x_X12_nextToken (l := l) I p_ad_0_0 p_ad_4_0 p_ad_5_0 p_ad_6_0) cw_X12_nextToken km12_166 p_ad_0_0 ok_X12.1 rfl rfl ⟨Nat.le_of_ble_eq_true rfl, Nat.le_of_ble_eq_true rfl⟩ hl.1 rfl (Nat.le_of_ble_eq_true rfl) ⟨Nat.le_of_ble_eq_true rfl, Nat.le_of_ble_eq_true rfl⟩ dX12_shut_81 (fun L_86312 f_86313 H locs hr_86314 Y => ?_)
      obtain ⟨v_86315, v_86316, v_86317, v_86318, v_86319, I, p_ad_0_0, p_ad_4_0, p_ad_5_0, p_ad_6_0, eT_86320, eP_86321⟩ := hr_86314
      obtain ⟨bfc86321_4, bfc86321_7, bfc86321_8, bfc86321_12, bfc86321_13, bfc86321_17, bfc86321_18, bfc86321_19, bfc86321_20, bfc86321_25⟩ := obM I p_ad_0_0
      refine lv_aload_n hx hb dX12_shut_84 rfl (lv_at hl 0 rfl) ?_
      refine lv_bipush (v := 7) hx hb dX12_shut_85 (by decide) ?_
      obtain ⟨g_86323, p_ad_3_0, o_86324⟩ := I.opi (k := 3) (j := 0) (by decide) rfl
      have p_ad_3_0 : pt L_86312 f_86313 (ad 3 0) (.inl (G.2 0, 2916, .inl g_86323)) := p_ad_3_0
      obtain ⟨opn2, cmp2, hz⟩ := XS_fi o_86324 rfl rfl rfl e13_86308 B_86266 (ho.symm.trans (show i1.toInt = 43 from by rw [c_86273]; rfl)) hc hq hxt (by have z9 := (la_sub ex_86271 (rfl : pd.toInt = pd.toInt) (show (1 : Int32).toInt = 1 from rfl) B_86264 (show bn 1 1 (1 : Int32) from bn_k (by decide)) (by decide)); omega) (by have z9 := (la_sub ex_86267 (rfl : op9.toInt = op9.toInt) (show (1 : Int32).toInt = 1 from rfl) B_86265 (show bn 1 1 (1 : Int32) from bn_k (by decide)) (by decide)); omega) hS.1
      have o_86325 : (XS gB fr gp gc (7 : Int32).toInt.toNat opn2 true cmp2 t0 v_86307 x_86271 x_86267 cg) g_86323 := hz
      have I := I.castS (sp' := spM PA PI (XS gB fr gp gc (7 : Int32).toInt.toNat opn2 true cmp2 t0 v_86307 x_86271 x_86267 cg) pa) (k := 3) (j := 0) (by decide) p_ad_3_0 (okE_a (g := g_86323) o_86325) pXC
      refine cVv (As := [.int 7]) (rest := []) S Y (x_X12_settle (l := l) I p_ad_0_0 p_ad_5_0 p_ad_6_0 (bn_w (show bn 7 7 (7 : Int32) from bn_k (by decide)) (by decide)) (by have c0 := e13_86308; have c1 := eT_86320.1; have c2 := eP_86321; have c3 := hroom; have c4 := (hT.2 htk); have c5 := bfe_8.2; have c6 := bfe_7.2; have c7 := (la_sub ex_86271 (rfl : pd.toInt = pd.toInt) (show (1 : Int32).toInt = 1 from rfl) B_86264 (show bn 1 1 (1 : Int32) from bn_k (by decide)) (by decide)); omega)) cw_X12_settle km12_181 p_ad_0_0 ok_X12.1 rfl rfl ⟨Nat.le_of_ble_eq_true rfl, Nat.le_of_ble_eq_true rfl⟩ hl.1 rfl (Nat.le_of_ble_eq_true rfl) ⟨Nat.le_of_ble_eq_true rfl, Nat.le_of_ble_eq_true rfl⟩ dX12_shut_87 (fun L_86326 f_86327 H locs hr_86328 Y => ?_)
      obtain ⟨v_86329, v_86330, v_86331, I, p_ad_0_0, p_ad_5_0, p_ad_6_0, es1_86332, es2_86333, es3_86334⟩ := hr_86328
      obtain ⟨bfc86334_4, bfc86334_7, bfc86334_8, bfc86334_12, bfc86334_13, bfc86334_17, bfc86334_18, bfc86334_19, bfc86334_20, bfc86334_25⟩ := obM I p_ad_0_0
      obtain ⟨g_86336, p_ad_3_0, o_86337⟩ := I.opi (k := 3) (j := 0) (by decide) rfl
      have p_ad_3_0 : pt L_86326 f_86327 (ad 3 0) (.inl (G.2 0, 2916, .inl g_86336)) := p_ad_3_0
      have o_86338 : (XW gB fr gp gc t0 v_86329 v_86330 v_86331 cg true) g_86336 := (XS_end5 o_86337 (by decide) es2_86333)
      have I := I.castS (sp' := spM PA PI (XW gB fr gp gc t0 v_86329 v_86330 v_86331 cg true) pa) (k := 3) (j := 0) (by decide) p_ad_3_0 (okE_a (g := g_86336) o_86338) pXC
      exact prV (post := fun L1 f1 => ∃ at92 : Int32, ∃ ps92 : Int32, ∃ tk2 : Int32, ∃ nu2 : Int32, ∃ wd2 : Int64, ∃ wr2 : Int32, ∃ pd2 : Int32, ∃ op92 : Int32, ∃ cg2 : Int32, ∃ gp2 : Nat → Int32, SH (spM PA PI (XW gB fr gp2 gc t0 wr2 pd2 op92 cg2 true) pa) nnM G ad L1 f1 ∧ pt L1 f1 (ad 0 0) (.inr (12, [.ref (ad 1 0), .ref (ad 2 0), .ref (ad 3 0), .ref (ad 4 0), .int td, .int fa, .int fp, .int at92, .int ps92, .int tk2, .int nu2, .long wd2, .int t0, .int wr2, .int so, .ref (ad 5 0), .ref (ad 6 0), .int pd2, .int op92, .int cg2, .int iw, .int on9, .ref (ad 7 0), .ref (ad 8 0), .ref (ad 9 0), .int is9, .ref (ad 10 0), .ref (ad 11 0), .ref (ad 12 0), .ref (ad 13 0), .int se, .ref (ad 14 0)])) ∧ pt L1 f1 (ad 5 0) (.inl (G.2 0, 160, .inl gp2)) ∧ pt L1 f1 (ad 6 0) (.inl (G.2 0, 9, .inl gc)) ∧ TK at92 ps92 tk2 ∧ ps9.toInt + 1 ≤ ps92.toInt ∧ wr2.toInt + pd2.toInt ≤ ps92.toInt) S Y (by decide) (by decide) hA1 ⟨v_86315, v_86316, v_86317, v_86318, v_86319, v_86329, v_86330, v_86331, cg, gp, I, p_ad_0_0, p_ad_5_0, p_ad_6_0, eT_86320, (by have c0 := e13_86308; have c1 := eT_86320.1; have c2 := eP_86321; have c3 := es1_86332; have c4 := es3_86334; have c5 := (la_sub ex_86271 (rfl : pd.toInt = pd.toInt) (show (1 : Int32).toInt = 1 from rfl) B_86264 (show bn 1 1 (1 : Int32) from bn_k (by decide)) (by decide)); have c6 := hroom; have c7 := (hT.2 htk); omega), (by have c0 := e13_86308; have c1 := eT_86320.1; have c2 := eP_86321; have c3 := es1_86332; have c4 := es3_86334; have c5 := (la_sub ex_86271 (rfl : pd.toInt = pd.toInt) (show (1 : Int32).toInt = 1 from rfl) B_86264 (show bn 1 1 (1 : Int32) from bn_k (by decide)) (by decide)); have c6 := hroom; have c7 := (hT.2 htk); omega)⟩ dX12_shut_90
  · have B_86270 : bn 44 44 i1 := bn_w (bn_eq c_86269 (show bn 44 44 (44 : Int32) from bn_k (by decide))) (by decide)
    have B_86339 : bn 1 8 cg := ⟨(hS.2.2.2.2 (ho.symm.trans (show i1.toInt = 44 from by rw [c_86269]; rfl))).1, bfe_19.2⟩
    refine lv_aload_n hx hb dX12_shut_16 rfl (lv_at hl 0 rfl) ?_
    refine lv_dup hx hb dX12_shut_17 rfl ?_
    refine pg_get S Y ok_X12 19 (by decide) kf12_169 (v := .int cg) p_ad_0_0 rfl dX12_shut_18 ?_
    refine lv_iconst (v := 1) hx hb dX12_shut_21 (by decide) ?_
    refine lv_isub hx hb dX12_shut_22 ?_
    refine lv_topi (fun x_86340 ex_86340 => ?_)
    refine pg_put S Y ok_X12 19 (by decide) kf12_169 rfl (fs' := [.ref (ad 1 0), .ref (ad 2 0), .ref (ad 3 0), .ref (ad 4 0), .int td, .int fa, .int fp, .int at9, .int ps9, .int tk, .int nu, .long wd, .int t0, .int wr, .int so, .ref (ad 5 0), .ref (ad 6 0), .int pd, .int x_86267, .int x_86340, .int iw, .int on9, .ref (ad 7 0), .ref (ad 8 0), .ref (ad 9 0), .int is9, .ref (ad 10 0), .ref (ad 11 0), .ref (ad 12 0), .ref (ad 13 0), .int se, .ref (ad 14 0)]) (v := .int x_86340) p_ad_0_0 rfl rfl rfl (Nat.le_of_ble_eq_true rfl) dX12_shut_23 (fun f_86341 H locs ef_86341 Y => ?_)
    have p_ad_5_0 := p_ad_5_0.up ef_86341 (I.ne (k := 5) (j := 0) (k' := 0) (j' := 0) (by decide) (by decide) (Or.inl (by decide)))
    have p_ad_6_0 := p_ad_6_0.up ef_86341 (I.ne (k := 6) (j := 0) (k' := 0) (j' := 0) (by decide) (by decide) (Or.inl (by decide)))
    have p_ad_3_0 := p_ad_3_0.up ef_86341 (I.ne (k := 3) (j := 0) (k' := 0) (j' := 0) (by decide) (by decide) (Or.inl (by decide)))
    have p_ad_0_0 := p_ad_0_0.me ef_86341
    have I := I.up (k := 0) (j := 0) (by decide) ef_86341 (okE_o (okFs_c okV_r (okFs_c okV_r (okFs_c okV_r (okFs_c okV_r (okFs_c (okV_i bfe_4) (okFs_c (okV_i (bn_any _)) (okFs_c (okV_i (bn_any _)) (okFs_c (okV_i bfe_7) (okFs_c (okV_i bfe_8) (okFs_c (okV_i (bn_any _)) (okFs_c (okV_i (bn_any _)) (okFs_c okV_l (okFs_c (okV_i bfe_12) (okFs_c (okV_i bfe_13) (okFs_c (okV_i (bn_any _)) (okFs_c okV_r (okFs_c okV_r (okFs_c (okV_i bfe_17) (okFs_c (okV_i (bn_w (bn_eq ex_86267 (bn_sub B_86265 (show bn 1 1 (1 : Int32) from bn_k (by decide)) (by decide))) (by decide))) (okFs_c (okV_i (bn_w (bn_eq ex_86340 (bn_sub B_86339 (show bn 1 1 (1 : Int32) from bn_k (by decide)) (by decide))) (by decide))) (okFs_c (okV_i bfe_20) (okFs_c (okV_i (bn_any _)) (okFs_c okV_r (okFs_c okV_r (okFs_c okV_r (okFs_c (okV_i bfe_25) (okFs_c okV_r (okFs_c okV_r (okFs_c okV_r (okFs_c okV_r (okFs_c (okV_i (bn_any _)) (okFs_c okV_r okFs_n)))))))))))))))))))))))))))))))))
    refine lv_aload_n hx hb dX12_shut_26 rfl (lv_at hl 0 rfl) ?_
    refine lv_iconst (v := 4) hx hb dX12_shut_27 (by decide) ?_
    refine lv_aload_n hx hb dX12_shut_28 rfl (lv_at hl 0 rfl) ?_
    refine pg_get S Y ok_X12 16 (by decide) kf12_32 (v := .ref (ad 6 0)) p_ad_0_0 rfl dX12_shut_29 ?_
    refine lv_aload_n hx hb dX12_shut_32 rfl (lv_at hl 0 rfl) ?_
    refine pg_get S Y ok_X12 19 (by decide) kf12_169 (v := .int x_86340) p_ad_0_0 rfl dX12_shut_33 ?_
    obtain ⟨v_86342, ev_86342⟩ : ∃ z, z = gc (x_86340 : Int32).toNatClampNeg := ⟨_, rfl⟩
    refine pg_iald S Y (v := v_86342) p_ad_6_0 (vp_bn (bn_eq ex_86340 (bn_sub B_86339 (show bn 1 1 (1 : Int32) from bn_k (by decide)) (by decide))) (by decide)) ev_86342.symm dX12_shut_36 ?_
    refine cVv (As := [.int 4, .int v_86342]) (rest := []) S Y (x_X12_emit (l := l) I p_ad_0_0 p_ad_5_0 p_ad_6_0 (bn_w B_86266 (by decide))) cw_X12_emit km12_148 p_ad_0_0 ok_X12.1 rfl rfl ⟨Nat.le_of_ble_eq_true rfl, Nat.le_of_ble_eq_true rfl⟩ hl.1 rfl (Nat.le_of_ble_eq_true rfl) ⟨Nat.le_of_ble_eq_true rfl, Nat.le_of_ble_eq_true rfl⟩ dX12_shut_37 (fun L_86343 f_86344 H locs hr_86345 Y => ?_)
    obtain ⟨v_86346, I, p_ad_0_0, p_ad_5_0, p_ad_6_0, e13_86347⟩ := hr_86345
    obtain ⟨bfc86347_4, bfc86347_7, bfc86347_8, bfc86347_12, bfc86347_13, bfc86347_17, bfc86347_18, bfc86347_19, bfc86347_20, bfc86347_25⟩ := obM I p_ad_0_0
    refine lv_aload_n hx hb dX12_shut_40 rfl (lv_at hl 0 rfl) ?_
    refine pg_get S Y ok_X12 15 (by decide) kf12_29 (v := .ref (ad 5 0)) p_ad_0_0 rfl dX12_shut_41 ?_
    refine lv_aload_n hx hb dX12_shut_44 rfl (lv_at hl 0 rfl) ?_
    refine pg_get S Y ok_X12 17 (by decide) kf12_142 (v := .int pd) p_ad_0_0 rfl dX12_shut_45 ?_
    refine lv_iconst (v := 1) hx hb dX12_shut_48 (by decide) ?_
    refine lv_isub hx hb dX12_shut_49 ?_
    refine lv_topi (fun x_86349 ex_86349 => ?_)
    refine lv_bipush (v := 16) hx hb dX12_shut_50 (by decide) ?_
    refine pg_iast S Y p_ad_5_0 (vp_bn (bn_eq ex_86349 (bn_sub B_86264 (show bn 1 1 (1 : Int32) from bn_k (by decide)) (by decide))) (by decide)) dX12_shut_52 (fun f_86351 H locs ef_86351 Y => ?_)
    obtain ⟨g_86350, eg_86350⟩ : ∃ z, z = upd (gp) (x_86349 : Int32).toNatClampNeg 16 := ⟨_, rfl⟩
    rw [← eg_86350] at ef_86351
    have p_ad_0_0 := p_ad_0_0.up ef_86351 (I.ne (k := 0) (j := 0) (k' := 5) (j' := 0) (by decide) (by decide) (Or.inl (by decide)))
    have p_ad_6_0 := p_ad_6_0.up ef_86351 (I.ne (k := 6) (j := 0) (k' := 5) (j' := 0) (by decide) (by decide) (Or.inl (by decide)))
    have p_ad_5_0 := p_ad_5_0.me ef_86351
    have o_86352 : True := trivial
    have I := I.up (k := 5) (j := 0) (by decide) ef_86351 (okE_a (g := g_86350) o_86352)
    refine lv_aload_n hx hb dX12_shut_53 rfl (lv_at hl 0 rfl) ?_
    obtain ⟨g_86353, p_ad_4_0, o_86354⟩ := I.opi (k := 4) (j := 0) (by decide) rfl
    have p_ad_4_0 : pt L_86343 f_86351 (ad 4 0) (.inl (G.2 0, 300, .inl g_86353)) := p_ad_4_0
    refine cVv (As := []) (rest := []) S Y (x_X12_nextToken (l := l) I p_ad_0_0 p_ad_4_0 p_ad_5_0 p_ad_6_0) cw_X12_nextToken km12_166 p_ad_0_0 ok_X12.1 rfl rfl ⟨Nat.le_of_ble_eq_true rfl, Nat.le_of_ble_eq_true rfl⟩ hl.1 rfl (Nat.le_of_ble_eq_true rfl) ⟨Nat.le_of_ble_eq_true rfl, Nat.le_of_ble_eq_true rfl⟩ dX12_shut_54 (fun L_86355 f_86356 H locs hr_86357 Y => ?_)
    obtain ⟨v_86358, v_86359, v_86360, v_86361, v_86362, I, p_ad_0_0, p_ad_4_0, p_ad_5_0, p_ad_6_0, eT_86363, eP_86364⟩ := hr_86357
    obtain ⟨bfc86364_4, bfc86364_7, bfc86364_8, bfc86364_12, bfc86364_13, bfc86364_17, bfc86364_18, bfc86364_19, bfc86364_20, bfc86364_25⟩ := obM I p_ad_0_0
    obtain ⟨g_86366, p_ad_3_0, o_86367⟩ := I.opi (k := 3) (j := 0) (by decide) rfl
    have p_ad_3_0 : pt L_86355 f_86356 (ad 3 0) (.inl (G.2 0, 2916, .inl g_86366)) := p_ad_3_0
    have o_86368 : (XW gB fr g_86350 gc t0 v_86346 pd x_86267 x_86340 true) g_86366 := (XS_just o_86367 rfl rfl ev_86342 e13_86347 (B_86266) (ho.symm.trans (show i1.toInt = 44 from by rw [c_86269]; rfl)) (by rcases h4 with h | h | h; have z9 := (ho.symm.trans (show i1.toInt = 44 from by rw [c_86269]; rfl)); omega; have z9 := (ho.symm.trans (show i1.toInt = 44 from by rw [c_86269]; rfl)); omega; exact h.2) hxt eg_86350 (by have z9 := (la_sub ex_86349 (rfl : pd.toInt = pd.toInt) (show (1 : Int32).toInt = 1 from rfl) B_86264 (show bn 1 1 (1 : Int32) from bn_k (by decide)) (by decide)); omega) (by have z9 := (la_sub ex_86267 (rfl : op9.toInt = op9.toInt) (show (1 : Int32).toInt = 1 from rfl) B_86265 (show bn 1 1 (1 : Int32) from bn_k (by decide)) (by decide)); omega) (by have z9 := (la_sub ex_86340 (rfl : cg.toInt = cg.toInt) (show (1 : Int32).toInt = 1 from rfl) B_86339 (show bn 1 1 (1 : Int32) from bn_k (by decide)) (by decide)); omega) hS.1)
    have I := I.castS (sp' := spM PA PI (XW gB fr g_86350 gc t0 v_86346 pd x_86267 x_86340 true) pa) (k := 3) (j := 0) (by decide) p_ad_3_0 (okE_a (g := g_86366) o_86368) pXC
    exact prV (post := fun L1 f1 => ∃ at92 : Int32, ∃ ps92 : Int32, ∃ tk2 : Int32, ∃ nu2 : Int32, ∃ wd2 : Int64, ∃ wr2 : Int32, ∃ pd2 : Int32, ∃ op92 : Int32, ∃ cg2 : Int32, ∃ gp2 : Nat → Int32, SH (spM PA PI (XW gB fr gp2 gc t0 wr2 pd2 op92 cg2 true) pa) nnM G ad L1 f1 ∧ pt L1 f1 (ad 0 0) (.inr (12, [.ref (ad 1 0), .ref (ad 2 0), .ref (ad 3 0), .ref (ad 4 0), .int td, .int fa, .int fp, .int at92, .int ps92, .int tk2, .int nu2, .long wd2, .int t0, .int wr2, .int so, .ref (ad 5 0), .ref (ad 6 0), .int pd2, .int op92, .int cg2, .int iw, .int on9, .ref (ad 7 0), .ref (ad 8 0), .ref (ad 9 0), .int is9, .ref (ad 10 0), .ref (ad 11 0), .ref (ad 12 0), .ref (ad 13 0), .int se, .ref (ad 14 0)])) ∧ pt L1 f1 (ad 5 0) (.inl (G.2 0, 160, .inl gp2)) ∧ pt L1 f1 (ad 6 0) (.inl (G.2 0, 9, .inl gc)) ∧ TK at92 ps92 tk2 ∧ ps9.toInt + 1 ≤ ps92.toInt ∧ wr2.toInt + pd2.toInt ≤ ps92.toInt) S Y (by decide) (by decide) hA1 ⟨v_86358, v_86359, v_86360, v_86361, v_86362, v_86346, pd, x_86267, x_86340, g_86350, I, p_ad_0_0, p_ad_5_0, p_ad_6_0, eT_86363, (by have c0 := e13_86347; have c1 := eT_86363.1; have c2 := eP_86364; have c3 := hroom; have c4 := (hT.2 htk); omega), (by have c0 := e13_86347; have c1 := eT_86363.1; have c2 := eP_86364; have c3 := hroom; have c4 := (hT.2 htk); omega)⟩ dX12_shut_57
