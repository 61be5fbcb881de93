theorem dX12_betweenOf_0 : decode cX12_betweenOf 0 = .ok (.aload_n 0, 1) := by decide +kernel
theorem dX12_betweenOf_1 : decode cX12_betweenOf 1 = .ok (.getfield 142, 3) := by decide +kernel
theorem dX12_betweenOf_4 : decode cX12_betweenOf 4 = .ok (.ifCond .le 23, 3) := by decide +kernel
theorem dX12_betweenOf_27 : decode cX12_betweenOf 27 = .ok (.iconst 0, 1) := by decide +kernel
theorem dX12_betweenOf_28 : decode cX12_betweenOf 28 = .ok (.istore_n 1, 1) := by decide +kernel
theorem dX12_betweenOf_29 : decode cX12_betweenOf 29 = .ok (.iload_n 1, 1) := by decide +kernel
theorem dX12_betweenOf_30 : decode cX12_betweenOf 30 = .ok (.ifCond .ne 15, 3) := by decide +kernel
theorem dX12_betweenOf_33 : decode cX12_betweenOf 33 = .ok (.aload_n 0, 1) := by decide +kernel
theorem dX12_betweenOf_34 : decode cX12_betweenOf 34 = .ok (.getfield 98, 3) := by decide +kernel
theorem dX12_betweenOf_37 : decode cX12_betweenOf 37 = .ok (.bipush 43, 2) := by decide +kernel
theorem dX12_betweenOf_39 : decode cX12_betweenOf 39 = .ok (.if_icmp .ne 6, 3) := by decide +kernel
theorem dX12_betweenOf_45 : decode cX12_betweenOf 45 = .ok (.iload_n 1, 1) := by decide +kernel
theorem dX12_betweenOf_46 : decode cX12_betweenOf 46 = .ok (.ifCond .ne 15, 3) := by decide +kernel
theorem dX12_betweenOf_49 : decode cX12_betweenOf 49 = .ok (.aload_n 0, 1) := by decide +kernel
theorem dX12_betweenOf_50 : decode cX12_betweenOf 50 = .ok (.getfield 98, 3) := by decide +kernel
theorem dX12_betweenOf_53 : decode cX12_betweenOf 53 = .ok (.bipush 45, 2) := by decide +kernel
theorem dX12_betweenOf_55 : decode cX12_betweenOf 55 = .ok (.if_icmp .ne 6, 3) := by decide +kernel
theorem dX12_betweenOf_61 : decode cX12_betweenOf 61 = .ok (.iload_n 1, 1) := by decide +kernel
theorem dX12_betweenOf_62 : decode cX12_betweenOf 62 = .ok (.ifCond .ne 15, 3) := by decide +kernel
theorem dX12_betweenOf_65 : decode cX12_betweenOf 65 = .ok (.aload_n 0, 1) := by decide +kernel
theorem dX12_betweenOf_66 : decode cX12_betweenOf 66 = .ok (.getfield 98, 3) := by decide +kernel
theorem dX12_betweenOf_69 : decode cX12_betweenOf 69 = .ok (.bipush 42, 2) := by decide +kernel
theorem dX12_betweenOf_71 : decode cX12_betweenOf 71 = .ok (.if_icmp .ne 6, 3) := by decide +kernel
theorem dX12_betweenOf_77 : decode cX12_betweenOf 77 = .ok (.iload_n 1, 1) := by decide +kernel
theorem dX12_betweenOf_78 : decode cX12_betweenOf 78 = .ok (.ifCond .ne 15, 3) := by decide +kernel
theorem dX12_betweenOf_81 : decode cX12_betweenOf 81 = .ok (.aload_n 0, 1) := by decide +kernel
theorem dX12_betweenOf_82 : decode cX12_betweenOf 82 = .ok (.getfield 98, 3) := by decide +kernel
theorem dX12_betweenOf_85 : decode cX12_betweenOf 85 = .ok (.bipush 47, 2) := by decide +kernel
theorem dX12_betweenOf_87 : decode cX12_betweenOf 87 = .ok (.if_icmp .ne 6, 3) := by decide +kernel
theorem dX12_betweenOf_93 : decode cX12_betweenOf 93 = .ok (.aload_n 0, 1) := by decide +kernel
theorem dX12_betweenOf_94 : decode cX12_betweenOf 94 = .ok (.invokevirtual 162, 3) := by decide +kernel
theorem dX12_betweenOf_97 : decode cX12_betweenOf 97 = .ok (.ifCond .ne 5, 3) := by decide +kernel
theorem dX12_betweenOf_102 : decode cX12_betweenOf 102 = .ok (.aload_n 0, 1) := by decide +kernel
theorem dX12_betweenOf_103 : decode cX12_betweenOf 103 = .ok (.invokevirtual 194, 3) := by decide +kernel
theorem cw_X12_isCompared : CWv yX12_isCompared cX12_isCompared 2 (some .boolean) 0 := ⟨⟨⟨List.mem_of_getElem? (i := 137) (by decide +kernel), by decide +kernel⟩, ⟨List.mem_of_getElem? (i := 1725) (by decide +kernel), by decide +kernel⟩, by decide +kernel⟩, ⟨List.mem_of_getElem? (i := 1724) (by decide +kernel), by decide +kernel⟩, ⟨List.mem_of_getElem? (i := 68) (by decide +kernel), by decide +kernel⟩⟩
theorem km12_194 : inW (Cond.methodLink RX12 194 yX12_isCompared) := ⟨List.mem_of_getElem? (i := 1722) (by decide +kernel), by decide +kernel⟩
theorem dX12_betweenOf_106 : decode cX12_betweenOf 106 = .ok (.ifCond .ne 8, 3) := by decide +kernel
theorem dX12_betweenOf_114 : decode cX12_betweenOf 114 = .ok (.aload_n 0, 1) := by decide +kernel
theorem dX12_betweenOf_115 : decode cX12_betweenOf 115 = .ok (.bipush 97, 2) := by decide +kernel
theorem dX12_betweenOf_117 : decode cX12_betweenOf 117 = .ok (.bipush 110, 2) := by decide +kernel
theorem dX12_betweenOf_119 : decode cX12_betweenOf 119 = .ok (.bipush 100, 2) := by decide +kernel
theorem dX12_betweenOf_121 : decode cX12_betweenOf 121 = .ok (.invokestatic 124, 3) := by decide +kernel
theorem dX12_betweenOf_124 : decode cX12_betweenOf 124 = .ok (.invokevirtual 187, 3) := by decide +kernel
theorem cw_X12_isWord : CWv yX12_isWord cX12_isWord 3 (some .boolean) 1 := ⟨⟨⟨List.mem_of_getElem? (i := 137) (by decide +kernel), by decide +kernel⟩, ⟨List.mem_of_getElem? (i := 1666) (by decide +kernel), by decide +kernel⟩, by decide +kernel⟩, ⟨List.mem_of_getElem? (i := 1665) (by decide +kernel), by decide +kernel⟩, ⟨List.mem_of_getElem? (i := 54) (by decide +kernel), by decide +kernel⟩⟩
theorem km12_187 : inW (Cond.methodLink RX12 187 yX12_isWord) := ⟨List.mem_of_getElem? (i := 1663) (by decide +kernel), by decide +kernel⟩
theorem dX12_betweenOf_127 : decode cX12_betweenOf 127 = .ok (.ifCond .eq 8, 3) := by decide +kernel
theorem dX12_betweenOf_135 : decode cX12_betweenOf 135 = .ok (.aload_n 0, 1) := by decide +kernel
theorem dX12_betweenOf_136 : decode cX12_betweenOf 136 = .ok (.bipush 111, 2) := by decide +kernel
theorem dX12_betweenOf_138 : decode cX12_betweenOf 138 = .ok (.bipush 114, 2) := by decide +kernel
theorem dX12_betweenOf_140 : decode cX12_betweenOf 140 = .ok (.invokestatic 120, 3) := by decide +kernel
theorem dX12_betweenOf_143 : decode cX12_betweenOf 143 = .ok (.invokevirtual 187, 3) := by decide +kernel
theorem dX12_betweenOf_146 : decode cX12_betweenOf 146 = .ok (.ifCond .eq 8, 3) := by decide +kernel
theorem dX12_betweenOf_154 : decode cX12_betweenOf 154 = .ok (.iconst (-1), 1) := by decide +kernel
theorem dX12_betweenOf_155 : decode cX12_betweenOf 155 = .ok (.ireturn, 1) := by decide +kernel
theorem dX12_betweenOf_149 : decode cX12_betweenOf 149 = .ok (.bipush 22, 2) := by decide +kernel
theorem dX12_betweenOf_151 : decode cX12_betweenOf 151 = .ok (.goto 4, 3) := by decide +kernel
theorem dX12_betweenOf_130 : decode cX12_betweenOf 130 = .ok (.bipush 21, 2) := by decide +kernel
theorem dX12_betweenOf_132 : decode cX12_betweenOf 132 = .ok (.goto 23, 3) := by decide +kernel
theorem dX12_betweenOf_109 : decode cX12_betweenOf 109 = .ok (.aload_n 0, 1) := by decide +kernel
theorem dX12_betweenOf_110 : decode cX12_betweenOf 110 = .ok (.invokevirtual 197, 3) := by decide +kernel
theorem cw_X12_compareOf : CWv yX12_compareOf cX12_compareOf 1 (some .int) 0 := ⟨⟨⟨List.mem_of_getElem? (i := 137) (by decide +kernel), by decide +kernel⟩, ⟨List.mem_of_getElem? (i := 1732) (by decide +kernel), by decide +kernel⟩, by decide +kernel⟩, ⟨List.mem_of_getElem? (i := 1731) (by decide +kernel), by decide +kernel⟩, ⟨List.mem_of_getElem? (i := 69) (by decide +kernel), by decide +kernel⟩⟩
theorem km12_197 : inW (Cond.methodLink RX12 197 yX12_compareOf) := ⟨List.mem_of_getElem? (i := 1729) (by decide +kernel), by decide +kernel⟩
theorem dX12_betweenOf_113 : decode cX12_betweenOf 113 = .ok (.ireturn, 1) := by decide +kernel
theorem dX12_betweenOf_100 : decode cX12_betweenOf 100 = .ok (.iconst (-1), 1) := by decide +kernel
theorem dX12_betweenOf_101 : decode cX12_betweenOf 101 = .ok (.ireturn, 1) := by decide +kernel
theorem dX12_betweenOf_90 : decode cX12_betweenOf 90 = .ok (.bipush 9, 2) := by decide +kernel
theorem dX12_betweenOf_92 : decode cX12_betweenOf 92 = .ok (.ireturn, 1) := by decide +kernel
theorem dX12_betweenOf_74 : decode cX12_betweenOf 74 = .ok (.bipush 8, 2) := by decide +kernel
theorem dX12_betweenOf_76 : decode cX12_betweenOf 76 = .ok (.ireturn, 1) := by decide +kernel
theorem dX12_betweenOf_58 : decode cX12_betweenOf 58 = .ok (.bipush 7, 2) := by decide +kernel
theorem dX12_betweenOf_60 : decode cX12_betweenOf 60 = .ok (.ireturn, 1) := by decide +kernel
theorem dX12_betweenOf_42 : decode cX12_betweenOf 42 = .ok (.bipush 6, 2) := by decide +kernel
theorem dX12_betweenOf_44 : decode cX12_betweenOf 44 = .ok (.ireturn, 1) := by decide +kernel
theorem dX12_betweenOf_7 : decode cX12_betweenOf 7 = .ok (.aload_n 0, 1) := by decide +kernel
theorem dX12_betweenOf_8 : decode cX12_betweenOf 8 = .ok (.getfield 29, 3) := by decide +kernel
theorem dX12_betweenOf_11 : decode cX12_betweenOf 11 = .ok (.aload_n 0, 1) := by decide +kernel
theorem dX12_betweenOf_12 : decode cX12_betweenOf 12 = .ok (.getfield 142, 3) := by decide +kernel
theorem dX12_betweenOf_15 : decode cX12_betweenOf 15 = .ok (.iconst 1, 1) := by decide +kernel
theorem dX12_betweenOf_16 : decode cX12_betweenOf 16 = .ok (.isub, 1) := by decide +kernel
theorem dX12_betweenOf_17 : decode cX12_betweenOf 17 = .ok (.iaload, 1) := by decide +kernel
theorem dX12_betweenOf_18 : decode cX12_betweenOf 18 = .ok (.bipush 16, 2) := by decide +kernel
theorem dX12_betweenOf_20 : decode cX12_betweenOf 20 = .ok (.if_icmp .ne 7, 3) := by decide +kernel
theorem dX12_betweenOf_23 : decode cX12_betweenOf 23 = .ok (.iconst 1, 1) := by decide +kernel
theorem dX12_betweenOf_24 : decode cX12_betweenOf 24 = .ok (.goto 4, 3) := by decide +kernel
theorem dX12_partOf_0 : decode cX12_partOf 0 = .ok (.iload_n 1, 1) := by decide +kernel
theorem dX12_partOf_1 : decode cX12_partOf 1 = .ok (.tableswitch 169 40 44 #[35, 50, 82, 107, 129], 35) := by decide +kernel
theorem swM_40_44 (x : Int32) : x = 40 ∨ x = 41 ∨ x = 42 ∨ x = 43 ∨ x = 44 ∨ (x.toInt < 40 ∨ 44 < x.toInt) := by
  have key : ∀ k : Int32, x.toInt = k.toInt → x = k := fun k h => Int32.toInt_inj.mp h
  by_cases h1 : x.toInt < 40
  · simp [h1]
  by_cases h2 : 44 < x.toInt
  · simp [h2]
  have h3 : x.toInt = 40 ∨ x.toInt = 41 ∨ x.toInt = 42 ∨ x.toInt = 43 ∨ x.toInt = 44 := by omega
  rcases h3 with h | h | h | h | h
  · rw [key 40 (h.trans (by decide))]; decide
  · rw [key 41 (h.trans (by decide))]; decide
  · rw [key 42 (h.trans (by decide))]; decide
  · rw [key 43 (h.trans (by decide))]; decide
  · rw [key 44 (h.trans (by decide))]; decide
theorem dX12_partOf_36 : decode cX12_partOf 36 = .ok (.aload_n 0, 1) := by decide +kernel
theorem dX12_partOf_37 : decode cX12_partOf 37 = .ok (.getfield 98, 3) := by decide +kernel
theorem dX12_partOf_40 : decode cX12_partOf 40 = .ok (.bipush 41, 2) := by decide +kernel
theorem dX12_partOf_42 : decode cX12_partOf 42 = .ok (.if_icmp .ne 7, 3) := by decide +kernel
theorem dX12_partOf_49 : decode cX12_partOf 49 = .ok (.iconst (-1), 1) := by decide +kernel
theorem dX12_partOf_50 : decode cX12_partOf 50 = .ok (.ireturn, 1) := by decide +kernel
theorem dX12_partOf_45 : decode cX12_partOf 45 = .ok (.iconst 0, 1) := by decide +kernel
theorem dX12_partOf_46 : decode cX12_partOf 46 = .ok (.goto 4, 3) := by decide +kernel
theorem dX12_partOf_51 : decode cX12_partOf 51 = .ok (.aload_n 0, 1) := by decide +kernel
theorem dX12_partOf_52 : decode cX12_partOf 52 = .ok (.bipush 116, 2) := by decide +kernel
theorem dX12_partOf_54 : decode cX12_partOf 54 = .ok (.bipush 104, 2) := by decide +kernel
theorem dX12_partOf_56 : decode cX12_partOf 56 = .ok (.bipush 101, 2) := by decide +kernel
theorem dX12_partOf_58 : decode cX12_partOf 58 = .ok (.bipush 110, 2) := by decide +kernel
theorem dX12_partOf_60 : decode cX12_partOf 60 = .ok (.invokestatic 128, 3) := by decide +kernel
theorem dX12_partOf_63 : decode cX12_partOf 63 = .ok (.invokevirtual 187, 3) := by decide +kernel
theorem dX12_partOf_66 : decode cX12_partOf 66 = .ok (.ifCond .eq 15, 3) := by decide +kernel
theorem dX12_partOf_81 : decode cX12_partOf 81 = .ok (.iconst (-1), 1) := by decide +kernel
theorem dX12_partOf_82 : decode cX12_partOf 82 = .ok (.ireturn, 1) := by decide +kernel
theorem dX12_partOf_69 : decode cX12_partOf 69 = .ok (.aload_n 0, 1) := by decide +kernel
theorem dX12_partOf_70 : decode cX12_partOf 70 = .ok (.invokevirtual 194, 3) := by decide +kernel
theorem dX12_partOf_73 : decode cX12_partOf 73 = .ok (.ifCond .eq 8, 3) := by decide +kernel
theorem dX12_partOf_76 : decode cX12_partOf 76 = .ok (.bipush 42, 2) := by decide +kernel
theorem dX12_partOf_78 : decode cX12_partOf 78 = .ok (.goto 4, 3) := by decide +kernel
theorem dX12_partOf_83 : decode cX12_partOf 83 = .ok (.aload_n 0, 1) := by decide +kernel
theorem dX12_partOf_84 : decode cX12_partOf 84 = .ok (.bipush 101, 2) := by decide +kernel
theorem dX12_partOf_86 : decode cX12_partOf 86 = .ok (.bipush 108, 2) := by decide +kernel
theorem dX12_partOf_88 : decode cX12_partOf 88 = .ok (.bipush 115, 2) := by decide +kernel
theorem dX12_partOf_90 : decode cX12_partOf 90 = .ok (.bipush 101, 2) := by decide +kernel
theorem dX12_partOf_92 : decode cX12_partOf 92 = .ok (.invokestatic 128, 3) := by decide +kernel
theorem dX12_partOf_95 : decode cX12_partOf 95 = .ok (.invokevirtual 187, 3) := by decide +kernel
theorem dX12_partOf_98 : decode cX12_partOf 98 = .ok (.ifCond .eq 8, 3) := by decide +kernel
theorem dX12_partOf_106 : decode cX12_partOf 106 = .ok (.iconst (-1), 1) := by decide +kernel
theorem dX12_partOf_107 : decode cX12_partOf 107 = .ok (.ireturn, 1) := by decide +kernel
theorem dX12_partOf_101 : decode cX12_partOf 101 = .ok (.bipush 43, 2) := by decide +kernel
theorem dX12_partOf_103 : decode cX12_partOf 103 = .ok (.goto 4, 3) := by decide +kernel
theorem dX12_partOf_108 : decode cX12_partOf 108 = .ok (.aload_n 0, 1) := by decide +kernel
theorem dX12_partOf_109 : decode cX12_partOf 109 = .ok (.bipush 101, 2) := by decide +kernel
theorem dX12_partOf_111 : decode cX12_partOf 111 = .ok (.bipush 110, 2) := by decide +kernel
theorem dX12_partOf_113 : decode cX12_partOf 113 = .ok (.bipush 100, 2) := by decide +kernel
theorem dX12_partOf_115 : decode cX12_partOf 115 = .ok (.invokestatic 124, 3) := by decide +kernel
theorem dX12_partOf_118 : decode cX12_partOf 118 = .ok (.invokevirtual 187, 3) := by decide +kernel
theorem dX12_partOf_121 : decode cX12_partOf 121 = .ok (.ifCond .eq 7, 3) := by decide +kernel
theorem dX12_partOf_128 : decode cX12_partOf 128 = .ok (.iconst (-1), 1) := by decide +kernel
theorem dX12_partOf_129 : decode cX12_partOf 129 = .ok (.ireturn, 1) := by decide +kernel
theorem dX12_partOf_124 : decode cX12_partOf 124 = .ok (.iconst 0, 1) := by decide +kernel
theorem dX12_partOf_125 : decode cX12_partOf 125 = .ok (.goto 4, 3) := by decide +kernel
theorem dX12_partOf_130 : decode cX12_partOf 130 = .ok (.aload_n 0, 1) := by decide +kernel
theorem dX12_partOf_131 : decode cX12_partOf 131 = .ok (.invokevirtual 194, 3) := by decide +kernel
theorem dX12_partOf_134 : decode cX12_partOf 134 = .ok (.ifCond .ne 7, 3) := by decide +kernel
theorem dX12_partOf_141 : decode cX12_partOf 141 = .ok (.aload_n 0, 1) := by decide +kernel
theorem dX12_partOf_142 : decode cX12_partOf 142 = .ok (.getfield 98, 3) := by decide +kernel
theorem dX12_partOf_145 : decode cX12_partOf 145 = .ok (.bipush 44, 2) := by decide +kernel
theorem dX12_partOf_147 : decode cX12_partOf 147 = .ok (.if_icmp .ne 8, 3) := by decide +kernel
theorem dX12_partOf_155 : decode cX12_partOf 155 = .ok (.aload_n 0, 1) := by decide +kernel
theorem dX12_partOf_156 : decode cX12_partOf 156 = .ok (.getfield 98, 3) := by decide +kernel
theorem dX12_partOf_159 : decode cX12_partOf 159 = .ok (.bipush 41, 2) := by decide +kernel
theorem dX12_partOf_161 : decode cX12_partOf 161 = .ok (.if_icmp .ne 7, 3) := by decide +kernel
theorem dX12_partOf_168 : decode cX12_partOf 168 = .ok (.iconst (-1), 1) := by decide +kernel
theorem dX12_partOf_169 : decode cX12_partOf 169 = .ok (.ireturn, 1) := by decide +kernel
theorem dX12_partOf_164 : decode cX12_partOf 164 = .ok (.iconst 0, 1) := by decide +kernel
theorem dX12_partOf_165 : decode cX12_partOf 165 = .ok (.goto 4, 3) := by decide +kernel
theorem dX12_partOf_150 : decode cX12_partOf 150 = .ok (.bipush 44, 2) := by decide +kernel
theorem dX12_partOf_152 : decode cX12_partOf 152 = .ok (.goto 17, 3) := by decide +kernel
theorem dX12_partOf_137 : decode cX12_partOf 137 = .ok (.iconst (-1), 1) := by decide +kernel
theorem dX12_partOf_138 : decode cX12_partOf 138 = .ok (.goto 31, 3) := by decide +kernel
theorem dX12_partOf_170 : decode cX12_partOf 170 = .ok (.iconst (-1), 1) := by decide +kernel
theorem dX12_partOf_171 : decode cX12_partOf 171 = .ok (.ireturn, 1) := by decide +kernel
theorem dX12_opened_0 : decode cX12_opened 0 = .ok (.aload_n 0, 1) := by decide +kernel
theorem dX12_opened_1 : decode cX12_opened 1 = .ok (.getfield 152, 3) := by decide +kernel
theorem dX12_opened_4 : decode cX12_opened 4 = .ok (.bipush 8, 2) := by decide +kernel
theorem dX12_opened_6 : decode cX12_opened 6 = .ok (.if_icmp .ne 5, 3) := by decide +kernel
theorem dX12_opened_11 : decode cX12_opened 11 = .ok (.aload_n 0, 1) := by decide +kernel
theorem dX12_opened_12 : decode cX12_opened 12 = .ok (.dup, 1) := by decide +kernel
theorem dX12_opened_13 : decode cX12_opened 13 = .ok (.getfield 152, 3) := by decide +kernel
theorem dX12_opened_16 : decode cX12_opened 16 = .ok (.iconst 1, 1) := by decide +kernel
theorem dX12_opened_17 : decode cX12_opened 17 = .ok (.iadd, 1) := by decide +kernel
theorem dX12_opened_18 : decode cX12_opened 18 = .ok (.putfield 152, 3) := by decide +kernel
theorem dX12_opened_21 : decode cX12_opened 21 = .ok (.aload_n 0, 1) := by decide +kernel
theorem dX12_opened_22 : decode cX12_opened 22 = .ok (.getfield 29, 3) := by decide +kernel
theorem dX12_opened_25 : decode cX12_opened 25 = .ok (.aload_n 0, 1) := by decide +kernel
theorem dX12_opened_26 : decode cX12_opened 26 = .ok (.getfield 142, 3) := by decide +kernel
theorem dX12_opened_29 : decode cX12_opened 29 = .ok (.iload_n 1, 1) := by decide +kernel
theorem dX12_opened_30 : decode cX12_opened 30 = .ok (.iastore, 1) := by decide +kernel
theorem dX12_opened_31 : decode cX12_opened 31 = .ok (.aload_n 0, 1) := by decide +kernel
theorem dX12_opened_32 : decode cX12_opened 32 = .ok (.dup, 1) := by decide +kernel
theorem dX12_opened_33 : decode cX12_opened 33 = .ok (.getfield 142, 3) := by decide +kernel
theorem dX12_opened_36 : decode cX12_opened 36 = .ok (.iconst 1, 1) := by decide +kernel
theorem dX12_opened_37 : decode cX12_opened 37 = .ok (.iadd, 1) := by decide +kernel
theorem dX12_opened_38 : decode cX12_opened 38 = .ok (.putfield 142, 3) := by decide +kernel
theorem dX12_opened_41 : decode cX12_opened 41 = .ok (.aload_n 0, 1) := by decide +kernel
theorem dX12_opened_42 : decode cX12_opened 42 = .ok (.invokevirtual 166, 3) := by decide +kernel
theorem cw_X12_nextToken : CWv yX12_nextToken cX12_nextToken 2 none 0 := ⟨⟨⟨List.mem_of_getElem? (i := 137) (by decide +kernel), by decide +kernel⟩, ⟨List.mem_of_getElem? (i := 1627) (by decide +kernel), by decide +kernel⟩, by decide +kernel⟩, ⟨List.mem_of_getElem? (i := 1626) (by decide +kernel), by decide +kernel⟩, ⟨List.mem_of_getElem? (i := 50) (by decide +kernel), by decide +kernel⟩⟩
theorem km12_166 : inW (Cond.methodLink RX12 166 yX12_nextToken) := ⟨List.mem_of_getElem? (i := 1624) (by decide +kernel), by decide +kernel⟩
theorem dX12_opened_45 : decode cX12_opened 45 = .ok (.iload_n 1, 1) := by decide +kernel
theorem dX12_opened_46 : decode cX12_opened 46 = .ok (.bipush 44, 2) := by decide +kernel
theorem dX12_opened_48 : decode cX12_opened 48 = .ok (.if_icmp .eq 5, 3) := by decide +kernel
theorem dX12_opened_53 : decode cX12_opened 53 = .ok (.aload_n 0, 1) := by decide +kernel
theorem dX12_opened_54 : decode cX12_opened 54 = .ok (.getfield 98, 3) := by decide +kernel
theorem dX12_opened_57 : decode cX12_opened 57 = .ok (.bipush 40, 2) := by decide +kernel
theorem dX12_opened_59 : decode cX12_opened 59 = .ok (.if_icmp .eq 5, 3) := by decide +kernel
theorem dX12_opened_64 : decode cX12_opened 64 = .ok (.aload_n 0, 1) := by decide +kernel
theorem dX12_opened_65 : decode cX12_opened 65 = .ok (.getfield 32, 3) := by decide +kernel
theorem kf12_32 : inW (Cond.fieldLink RX12 32 "KneeOathsModel" "counts" "[I") := ⟨List.mem_of_getElem? (i := 1514) (by decide +kernel), by decide +kernel⟩
theorem dX12_opened_68 : decode cX12_opened 68 = .ok (.aload_n 0, 1) := by decide +kernel
theorem dX12_opened_69 : decode cX12_opened 69 = .ok (.getfield 169, 3) := by decide +kernel
theorem kf12_169 : inW (Cond.fieldLink RX12 169 "KneeOathsModel" "counting" "I") := ⟨List.mem_of_getElem? (i := 1517) (by decide +kernel), by decide +kernel⟩
theorem dX12_opened_72 : decode cX12_opened 72 = .ok (.iconst 1, 1) := by decide +kernel
theorem dX12_opened_73 : decode cX12_opened 73 = .ok (.iastore, 1) := by decide +kernel
theorem dX12_opened_74 : decode cX12_opened 74 = .ok (.aload_n 0, 1) := by decide +kernel
theorem dX12_opened_75 : decode cX12_opened 75 = .ok (.dup, 1) := by decide +kernel
theorem dX12_opened_76 : decode cX12_opened 76 = .ok (.getfield 169, 3) := by decide +kernel
theorem dX12_opened_79 : decode cX12_opened 79 = .ok (.iconst 1, 1) := by decide +kernel
theorem dX12_opened_80 : decode cX12_opened 80 = .ok (.iadd, 1) := by decide +kernel
theorem dX12_opened_81 : decode cX12_opened 81 = .ok (.putfield 169, 3) := by decide +kernel
theorem dX12_opened_84 : decode cX12_opened 84 = .ok (.aload_n 0, 1) := by decide +kernel
theorem dX12_opened_85 : decode cX12_opened 85 = .ok (.invokevirtual 166, 3) := by decide +kernel
theorem dX12_opened_88 : decode cX12_opened 88 = .ok (.iconst 0, 1) := by decide +kernel
theorem dX12_opened_89 : decode cX12_opened 89 = .ok (.ireturn, 1) := by decide +kernel
theorem dX12_opened_62 : decode cX12_opened 62 = .ok (.iconst 1, 1) := by decide +kernel
theorem dX12_opened_63 : decode cX12_opened 63 = .ok (.ireturn, 1) := by decide +kernel
theorem dX12_opened_51 : decode cX12_opened 51 = .ok (.iconst 0, 1) := by decide +kernel
theorem dX12_opened_52 : decode cX12_opened 52 = .ok (.ireturn, 1) := by decide +kernel
theorem dX12_opened_9 : decode cX12_opened 9 = .ok (.iconst 3, 1) := by decide +kernel
theorem dX12_opened_10 : decode cX12_opened 10 = .ok (.ireturn, 1) := by decide +kernel
theorem dX12_shut_0 : decode cX12_shut 0 = .ok (.aload_n 0, 1) := by decide +kernel
theorem dX12_shut_1 : decode cX12_shut 1 = .ok (.dup, 1) := by decide +kernel
theorem dX12_shut_2 : decode cX12_shut 2 = .ok (.getfield 152, 3) := by decide +kernel
theorem dX12_shut_5 : decode cX12_shut 5 = .ok (.iconst 1, 1) := by decide +kernel
theorem dX12_shut_6 : decode cX12_shut 6 = .ok (.isub, 1) := by decide +kernel
theorem dX12_shut_7 : decode cX12_shut 7 = .ok (.putfield 152, 3) := by decide +kernel
theorem dX12_shut_10 : decode cX12_shut 10 = .ok (.iload_n 1, 1) := by decide +kernel
theorem dX12_shut_11 : decode cX12_shut 11 = .ok (.bipush 44, 2) := by decide +kernel
theorem dX12_shut_13 : decode cX12_shut 13 = .ok (.if_icmp .ne 45, 3) := by decide +kernel
theorem dX12_shut_58 : decode cX12_shut 58 = .ok (.aload_n 0, 1) := by decide +kernel
theorem dX12_shut_59 : decode cX12_shut 59 = .ok (.dup, 1) := by decide +kernel
theorem dX12_shut_60 : decode cX12_shut 60 = .ok (.getfield 142, 3) := by decide +kernel
theorem dX12_shut_63 : decode cX12_shut 63 = .ok (.iconst 1, 1) := by decide +kernel
theorem dX12_shut_64 : decode cX12_shut 64 = .ok (.isub, 1) := by decide +kernel
theorem dX12_shut_65 : decode cX12_shut 65 = .ok (.putfield 142, 3) := by decide +kernel
theorem dX12_shut_68 : decode cX12_shut 68 = .ok (.iload_n 1, 1) := by decide +kernel
theorem dX12_shut_69 : decode cX12_shut 69 = .ok (.bipush 43, 2) := by decide +kernel
theorem dX12_shut_71 : decode cX12_shut 71 = .ok (.if_icmp .ne 9, 3) := by decide +kernel
theorem dX12_shut_80 : decode cX12_shut 80 = .ok (.aload_n 0, 1) := by decide +kernel
theorem dX12_shut_81 : decode cX12_shut 81 = .ok (.invokevirtual 166, 3) := by decide +kernel
theorem dX12_shut_84 : decode cX12_shut 84 = .ok (.aload_n 0, 1) := by decide +kernel
theorem dX12_shut_85 : decode cX12_shut 85 = .ok (.bipush 7, 2) := by decide +kernel
theorem dX12_shut_87 : decode cX12_shut 87 = .ok (.invokevirtual 181, 3) := by decide +kernel
theorem cw_X12_settle : CWv yX12_settle cX12_settle 2 none 1 := ⟨⟨⟨List.mem_of_getElem? (i := 137) (by decide +kernel), by decide +kernel⟩, ⟨List.mem_of_getElem? (i := 1736) (by decide +kernel), by decide +kernel⟩, by decide +kernel⟩, ⟨List.mem_of_getElem? (i := 1735) (by decide +kernel), by decide +kernel⟩, ⟨List.mem_of_getElem? (i := 70) (by decide +kernel), by decide +kernel⟩⟩
theorem km12_181 : inW (Cond.methodLink RX12 181 yX12_settle) := ⟨List.mem_of_getElem? (i := 1733) (by decide +kernel), by decide +kernel⟩
theorem dX12_shut_90 : decode cX12_shut 90 = .ok (.return_, 1) := by decide +kernel
theorem dX12_shut_74 : decode cX12_shut 74 = .ok (.aload_n 0, 1) := by decide +kernel
theorem dX12_shut_75 : decode cX12_shut 75 = .ok (.iconst 3, 1) := by decide +kernel
theorem dX12_shut_76 : decode cX12_shut 76 = .ok (.iconst 0, 1) := by decide +kernel
theorem dX12_shut_77 : decode cX12_shut 77 = .ok (.invokevirtual 148, 3) := by decide +kernel
theorem dX12_shut_16 : decode cX12_shut 16 = .ok (.aload_n 0, 1) := by decide +kernel
theorem dX12_shut_17 : decode cX12_shut 17 = .ok (.dup, 1) := by decide +kernel
theorem dX12_shut_18 : decode cX12_shut 18 = .ok (.getfield 169, 3) := by decide +kernel
theorem dX12_shut_21 : decode cX12_shut 21 = .ok (.iconst 1, 1) := by decide +kernel
theorem dX12_shut_22 : decode cX12_shut 22 = .ok (.isub, 1) := by decide +kernel
theorem dX12_shut_23 : decode cX12_shut 23 = .ok (.putfield 169, 3) := by decide +kernel
theorem dX12_shut_26 : decode cX12_shut 26 = .ok (.aload_n 0, 1) := by decide +kernel
theorem dX12_shut_27 : decode cX12_shut 27 = .ok (.iconst 4, 1) := by decide +kernel
theorem dX12_shut_28 : decode cX12_shut 28 = .ok (.aload_n 0, 1) := by decide +kernel
theorem dX12_shut_29 : decode cX12_shut 29 = .ok (.getfield 32, 3) := by decide +kernel
theorem dX12_shut_32 : decode cX12_shut 32 = .ok (.aload_n 0, 1) := by decide +kernel
theorem dX12_shut_33 : decode cX12_shut 33 = .ok (.getfield 169, 3) := by decide +kernel
theorem dX12_shut_36 : decode cX12_shut 36 = .ok (.iaload, 1) := by decide +kernel
theorem dX12_shut_37 : decode cX12_shut 37 = .ok (.invokevirtual 148, 3) := by decide +kernel
theorem dX12_shut_40 : decode cX12_shut 40 = .ok (.aload_n 0, 1) := by decide +kernel
theorem dX12_shut_41 : decode cX12_shut 41 = .ok (.getfield 29, 3) := by decide +kernel
theorem dX12_shut_44 : decode cX12_shut 44 = .ok (.aload_n 0, 1) := by decide +kernel
theorem dX12_shut_45 : decode cX12_shut 45 = .ok (.getfield 142, 3) := by decide +kernel
theorem dX12_shut_48 : decode cX12_shut 48 = .ok (.iconst 1, 1) := by decide +kernel
theorem dX12_shut_49 : decode cX12_shut 49 = .ok (.isub, 1) := by decide +kernel
theorem dX12_shut_50 : decode cX12_shut 50 = .ok (.bipush 16, 2) := by decide +kernel
theorem dX12_shut_52 : decode cX12_shut 52 = .ok (.iastore, 1) := by decide +kernel
theorem dX12_shut_53 : decode cX12_shut 53 = .ok (.aload_n 0, 1) := by decide +kernel
theorem dX12_shut_54 : decode cX12_shut 54 = .ok (.invokevirtual 166, 3) := by decide +kernel
theorem dX12_shut_57 : decode cX12_shut 57 = .ok (.return_, 1) := by decide +kernel
theorem askd_t {r : Int32} {q : Prop} (e : r = 1 ∧ q ∨ r = 0 ∧ ¬ q) (h : ¬ r = 0) : q := by
  rcases e with e | e
  · exact e.2
  · exact absurd e.1 h
theorem cmk_t {r : Int32} {q : Bool} (e : r = if q = true then 1 else 0) (h : ¬ r = 0) : q = true := by
  cases q with
  | true => rfl
  | false => exact absurd e h
theorem cmk_f {r : Int32} {q : Bool} (e : r = if q = true then 1 else 0) (h : r = 0) : q = false := by
  cases q with
  | false => rfl
  | true => rw [h] at e; exact absurd e (by decide)
section BTX
variable {gp : Nat → Int32} {pd v x : Int32} {k : Int} {cmp : Bool} {r : Int32} {opn : Int}
def tpP (gp : Nat → Int32) (pd : Int32) : Int := if 0 < pd.toInt.toNat then (gp (pd.toInt.toNat - 1)).toInt else 40
theorem tp_n (h : pd.toInt.toNat = 0 ∨ (gp (pd.toInt.toNat - 1)).toInt ≠ 16) : tpP gp pd ≠ 16 := by
  unfold tpP
  by_cases z : 0 < pd.toInt.toNat
  · rw [if_pos z]; rcases h with h | h
    · omega
    · exact h
  · rw [if_neg z]; decide
theorem tp_y (hp : 1 ≤ pd.toInt) (ex : x.toInt = pd.toInt - 1) (ev : v = gp x.toNatClampNeg) (h : v = 16) : tpP gp pd = 16 := by
  unfold tpP
  rw [if_pos (by omega)]
  rw [h] at ev
  have e : x.toNatClampNeg = pd.toInt.toNat - 1 := by rw [tnc]; omega
  rw [e] at ev
  rw [← ev]; rfl
theorem PRN_40 (h : k ≠ 41) : PRN k 40 cmp := ⟨fun _ => h, by omega, by omega, by omega, by omega⟩
theorem PRN_41 (h : ¬ (k = 24 ∧ cmp = true)) : PRN k 41 cmp := ⟨by omega, fun _ => h, by omega, by omega, by omega⟩
theorem PRN_42 (h : k ≠ 25) : PRN k 42 cmp := ⟨by omega, by omega, fun _ => h, by omega, by omega⟩
theorem PRN_43 (h : k ≠ 26) : PRN k 43 cmp := ⟨by omega, by omega, by omega, fun _ => h, by omega⟩
theorem PRN_44 (h : cmp = true → k ≠ 44 ∧ k ≠ 41) : PRN k 44 cmp := ⟨by omega, by omega, by omega, by omega, fun _ => h⟩
theorem PRN_o (h : opn < 40 ∨ 44 < opn) : PRN k opn cmp := ⟨by omega, by omega, by omega, by omega, by omega⟩
def PRY (k opn : Int) (cmp : Bool) (r : Int) : Prop :=
  (r = 0 ∧ ((opn = 40 ∧ k = 41) ∨ (opn = 43 ∧ k = 26) ∨ (opn = 44 ∧ cmp = true ∧ k = 41))) ∨ (r = 42 ∧ opn = 41 ∧ cmp = true ∧ k = 24) ∨ (r = 43 ∧ opn = 42 ∧ k = 25) ∨ (r = 44 ∧ opn = 44 ∧ cmp = true ∧ k = 44)
theorem cm_tf (h : cmp = false) (h2 : cmp = true) : False := by rw [h] at h2; exact absurd h2 (by decide)
end BTX
set_option maxHeartbeats 4000000 in
set_option maxRecDepth 100000 in
theorem x_X12_betweenOf {l : Launch} {G : GG}  {L : List Nat} {f : HF} {ad : Nat → Nat → Nat} {pa : (Nat → Int32) → Prop} {PA : (Nat → Int32) → Prop} {PI : PIT} {PX : (Nat → Int32) → Prop} {td fa fp at9 ps9 tk nu t0 wr so pd op9 cg iw on9 is9 se : Int32} {wd : Int64} {gp : Nat → Int32} {W9 : List Int} {k9 v9 : Int} (I : SH (spM PA PI PX pa) nnM G ad L f) (p_ad_0_0 : pt L f (ad 0 0) (.inr (12, [.ref (ad 1 0), .ref (ad 2 0), .ref (ad 3 0), .ref (ad 4 0), .int td, .int fa, .int fp, .int at9, .int ps9, .int tk, .int nu, .long wd, .int t0, .int wr, .int so, .ref (ad 5 0), .ref (ad 6 0), .int pd, .int op9, .int cg, .int iw, .int on9, .ref (ad 7 0), .ref (ad 8 0), .ref (ad 9 0), .int is9, .ref (ad 10 0), .ref (ad 11 0), .ref (ad 12 0), .ref (ad 13 0), .int se, .ref (ad 14 0)]))) (p_ad_5_0 : pt L f (ad 5 0) (.inl (G.2 0, 160, .inl gp))) (hK : TKR W9 k9 v9 tk nu wd) : PMp l yX12_betweenOf cX12_betweenOf 2 .int 3 0 0 G [.ref (ad 0 0)] L f (fun r => (bn (-1) 22 r ∧ BTW gp pd tk r ∧ ((r = -1 ∧ BTN k9 (tpP gp pd) (opvP gp pd) (cmkP gp pd)) ∨ (0 ≤ r.toInt ∧ BTK k9 (tpP gp pd) (opvP gp pd) (cmkP gp pd) r.toInt)))) := by
  refine PMi.of (post := fun r L1 f1 => ((bn (-1) 22 r ∧ BTW gp pd tk r ∧ ((r = -1 ∧ BTN k9 (tpP gp pd) (opvP gp pd) (cmkP gp pd)) ∨ (0 ≤ r.toInt ∧ BTK k9 (tpP gp pd) (opvP gp pd) (cmkP gp pd) r.toInt)))) ∧ L1 = L ∧ f1 = f) (own := RX12) (by decide) rfl (Nat.le_of_ble_eq_true rfl) (fun sz p e s m args below meth c A ls hA1 hname S Y hl => ?_)
  have hx := S.hx
  have hb := S.hb
  have hl : lv_has ls 2 [(0, .ref (ad 0 0))] := hl
  obtain ⟨bfe_4, bfe_5, bfe_6, bfe_7, bfe_8, bfe_12, bfe_13, bfe_17, bfe_18, bfe_19, bfe_20, bfe_25⟩ := obM I p_ad_0_0
  refine lv_aload_n hx hb dX12_betweenOf_0 rfl (lv_at hl 0 rfl) ?_
  refine pg_get S Y ok_X12 17 (by decide) kf12_142 (v := .int pd) p_ad_0_0 rfl dX12_betweenOf_1 ?_
  refine lv_if_le (tgt := 27) hx hb dX12_betweenOf_4 (by decide) (fun c_86029 => ?_) (fun c_86029 => ?_)
  · have B_86030 : bn 0 0 pd := bn_w (bn_lel c_86029 bfe_17 (show bn 0 0 (0 : Int32) from bn_k (by decide))) (by decide)
    refine lv_iconst (v := 0) hx hb dX12_betweenOf_27 (by decide) ?_
    refine lv_istore_n (lv' := [(1, .int 0), (0, .ref (ad 0 0))]) hx hb dX12_betweenOf_28 rfl hl (by decide) rfl (fun ls hl => ?_)
    refine lv_iload_n hx hb dX12_betweenOf_29 rfl (lv_at hl 0 rfl) ?_
    refine lv_if_ne (tgt := 45) hx hb dX12_betweenOf_30 (by decide) (fun h => absurd (by decide) h) (fun _ => ?_)
    refine lv_aload_n hx hb dX12_betweenOf_33 rfl (lv_at hl 1 rfl) ?_
    refine pg_get S Y ok_X12 9 (by decide) kf12_98 (v := .int tk) p_ad_0_0 rfl dX12_betweenOf_34 ?_
    refine lv_bipush (v := 43) hx hb dX12_betweenOf_37 (by decide) ?_
    refine lv_icmp_ne (tgt := 45) hx hb dX12_betweenOf_39 (by decide) (fun c_86032 => ?_) (fun c_86032 => ?_)
    · refine lv_iload_n hx hb dX12_betweenOf_45 rfl (lv_at hl 0 rfl) ?_
      refine lv_if_ne (tgt := 61) hx hb dX12_betweenOf_46 (by decide) (fun h => absurd (by decide) h) (fun _ => ?_)
      refine lv_aload_n hx hb dX12_betweenOf_49 rfl (lv_at hl 1 rfl) ?_
      refine pg_get S Y ok_X12 9 (by decide) kf12_98 (v := .int tk) p_ad_0_0 rfl dX12_betweenOf_50 ?_
      refine lv_bipush (v := 45) hx hb dX12_betweenOf_53 (by decide) ?_
      refine lv_icmp_ne (tgt := 61) hx hb dX12_betweenOf_55 (by decide) (fun c_86034 => ?_) (fun c_86034 => ?_)
      · refine lv_iload_n hx hb dX12_betweenOf_61 rfl (lv_at hl 0 rfl) ?_
        refine lv_if_ne (tgt := 77) hx hb dX12_betweenOf_62 (by decide) (fun h => absurd (by decide) h) (fun _ => ?_)
        refine lv_aload_n hx hb dX12_betweenOf_65 rfl (lv_at hl 1 rfl) ?_
        refine pg_get S Y ok_X12 9 (by decide) kf12_98 (v := .int tk) p_ad_0_0 rfl dX12_betweenOf_66 ?_
        refine lv_bipush (v := 42) hx hb dX12_betweenOf_69 (by decide) ?_
        refine lv_icmp_ne (tgt := 77) hx hb dX12_betweenOf_71 (by decide) (fun c_86036 => ?_) (fun c_86036 => ?_)
        · refine lv_iload_n hx hb dX12_betweenOf_77 rfl (lv_at hl 0 rfl) ?_
          refine lv_if_ne (tgt := 93) hx hb dX12_betweenOf_78 (by decide) (fun h => absurd (by decide) h) (fun _ => ?_)
          refine lv_aload_n hx hb dX12_betweenOf_81 rfl (lv_at hl 1 rfl) ?_
          refine pg_get S Y ok_X12 9 (by decide) kf12_98 (v := .int tk) p_ad_0_0 rfl dX12_betweenOf_82 ?_
          refine lv_bipush (v := 47) hx hb dX12_betweenOf_85 (by decide) ?_
          refine lv_icmp_ne (tgt := 93) hx hb dX12_betweenOf_87 (by decide) (fun c_86038 => ?_) (fun c_86038 => ?_)
          · refine lv_aload_n hx hb dX12_betweenOf_93 rfl (lv_at hl 1 rfl) ?_
            refine cVp (As := []) (rest := []) S Y (x_X12_isAskHere (l := l) I p_ad_0_0 p_ad_5_0) cw_X12_isAskHere km12_162 p_ad_0_0 ok_X12.1 rfl rfl ⟨Nat.le_of_ble_eq_true rfl, Nat.le_of_ble_eq_true rfl⟩ hl.1 rfl (Nat.le_of_ble_eq_true rfl) ⟨Nat.le_of_ble_eq_true rfl, Nat.le_of_ble_eq_true rfl⟩ dX12_betweenOf_94 (fun r_86040 H locs er_86040 Y => ?_)
            refine lv_if_ne (tgt := 102) hx hb dX12_betweenOf_97 (by decide) (fun c_86041 => ?_) (fun c_86041 => ?_)
            · have B_86042 : bn 1 160 pd := bn_w (ask_pd er_86040.2 c_86041 (bn_w B_86030 (by decide))) (by decide)
              have B_86043 : bn 1 1 r_86040 := bn_w (bn_nel c_86041 er_86040.1 (show bn 0 0 (0 : Int32) from bn_k (by decide))) (by decide)
              refine lv_aload_n hx hb dX12_betweenOf_102 rfl (lv_at hl 1 rfl) ?_
              refine cVp (As := []) (rest := []) S Y (x_X12_isCompared (l := l) I p_ad_0_0 p_ad_5_0) cw_X12_isCompared km12_194 p_ad_0_0 ok_X12.1 rfl rfl ⟨Nat.le_of_ble_eq_true rfl, Nat.le_of_ble_eq_true rfl⟩ hl.1 rfl (Nat.le_of_ble_eq_true rfl) ⟨Nat.le_of_ble_eq_true rfl, Nat.le_of_ble_eq_true rfl⟩ dX12_betweenOf_103 (fun r_86045 H locs er_86045 Y => ?_)
              refine lv_if_ne (tgt := 114) hx hb dX12_betweenOf_106 (by decide) (fun c_86046 => ?_) (fun c_86046 => ?_)
              · have B_86047 : bn 1 1 r_86045 := bn_w (bn_nel c_86046 er_86045.1 (show bn 0 0 (0 : Int32) from bn_k (by decide))) (by decide)
                refine lv_aload_n hx hb dX12_betweenOf_114 rfl (lv_at hl 1 rfl) ?_
                refine lv_bipush (v := 97) hx hb dX12_betweenOf_115 (by decide) ?_
                refine lv_bipush (v := 110) hx hb dX12_betweenOf_117 (by decide) ?_
                refine lv_bipush (v := 100) hx hb dX12_betweenOf_119 (by decide) ?_
                refine cSlp (As := [.int 97, .int 110, .int 100]) (rest := [.ref (ad 0 0)]) S Y (x_X12_w3 (l := l) ) cw_X12_w3 km12_124 rfl ⟨Nat.le_of_ble_eq_true rfl, Nat.le_of_ble_eq_true rfl⟩ hl.1 rfl (Nat.le_of_ble_eq_true rfl) ⟨Nat.le_of_ble_eq_true rfl, Nat.le_of_ble_eq_true rfl⟩ dX12_betweenOf_121 (fun r_86049 H locs er_86049 Y => ?_)
                refine cVp (As := [.long r_86049]) (rest := []) S Y (x_X12_isWord (l := l) I p_ad_0_0) cw_X12_isWord km12_187 p_ad_0_0 ok_X12.1 rfl rfl ⟨Nat.le_of_ble_eq_true rfl, Nat.le_of_ble_eq_true rfl⟩ hl.1 rfl (Nat.le_of_ble_eq_true rfl) ⟨Nat.le_of_ble_eq_true rfl, Nat.le_of_ble_eq_true rfl⟩ dX12_betweenOf_124 (fun r_86050 H locs er_86050 Y => ?_)
                refine lv_if_eq (tgt := 135) hx hb dX12_betweenOf_127 (by decide) (fun c_86051 => ?_) (fun c_86051 => ?_)
                · have B_86052 : bn 0 0 r_86050 := bn_w (bn_eq c_86051 (show bn 0 0 (0 : Int32) from bn_k (by decide))) (by decide)
                  refine lv_aload_n hx hb dX12_betweenOf_135 rfl (lv_at hl 1 rfl) ?_
                  refine lv_bipush (v := 111) hx hb dX12_betweenOf_136 (by decide) ?_
                  refine lv_bipush (v := 114) hx hb dX12_betweenOf_138 (by decide) ?_
                  refine cSlp (As := [.int 111, .int 114]) (rest := [.ref (ad 0 0)]) S Y (x_X12_w2 (l := l) ) cw_X12_w2 km12_120 rfl ⟨Nat.le_of_ble_eq_true rfl, Nat.le_of_ble_eq_true rfl⟩ hl.1 rfl (Nat.le_of_ble_eq_true rfl) ⟨Nat.le_of_ble_eq_true rfl, Nat.le_of_ble_eq_true rfl⟩ dX12_betweenOf_140 (fun r_86054 H locs er_86054 Y => ?_)
                  refine cVp (As := [.long r_86054]) (rest := []) S Y (x_X12_isWord (l := l) I p_ad_0_0) cw_X12_isWord km12_187 p_ad_0_0 ok_X12.1 rfl rfl ⟨Nat.le_of_ble_eq_true rfl, Nat.le_of_ble_eq_true rfl⟩ hl.1 rfl (Nat.le_of_ble_eq_true rfl) ⟨Nat.le_of_ble_eq_true rfl, Nat.le_of_ble_eq_true rfl⟩ dX12_betweenOf_143 (fun r_86055 H locs er_86055 Y => ?_)
                  refine lv_if_eq (tgt := 154) hx hb dX12_betweenOf_146 (by decide) (fun c_86056 => ?_) (fun c_86056 => ?_)
                  · have B_86057 : bn 0 0 r_86055 := bn_w (bn_eq c_86056 (show bn 0 0 (0 : Int32) from bn_k (by decide))) (by decide)
                    refine lv_iconst (v := (-1)) hx hb dX12_betweenOf_154 (by decide) ?_
                    exact prI (post := fun r L1 f1 => ((bn (-1) 22 r ∧ BTW gp pd tk r ∧ ((r = -1 ∧ BTN k9 (tpP gp pd) (opvP gp pd) (cmkP gp pd)) ∨ (0 ≤ r.toInt ∧ BTK k9 (tpP gp pd) (opvP gp pd) (cmkP gp pd) r.toInt)))) ∧ L1 = L ∧ f1 = f) S Y rfl (by decide) (by decide) hA1 ⟨⟨bn_k (by decide), Or.inl rfl, Or.inl ⟨rfl, (Or.inr (by have j0 := (mt ((tk_k hK).2.2.2.2.1 43 (by decide)).mpr (show ¬ tk.toInt = 43 from fun z => c_86032 (Int32.toInt_inj.mp (z.trans rfl)))); have j1 := (mt ((tk_k hK).2.2.2.2.1 45 (by decide)).mpr (show ¬ tk.toInt = 45 from fun z => c_86034 (Int32.toInt_inj.mp (z.trans rfl)))); have j2 := (mt ((tk_k hK).2.2.2.2.1 42 (by decide)).mpr (show ¬ tk.toInt = 42 from fun z => c_86036 (Int32.toInt_inj.mp (z.trans rfl)))); have j3 := (mt ((tk_k hK).2.2.2.2.1 47 (by decide)).mpr (show ¬ tk.toInt = 47 from fun z => c_86038 (Int32.toInt_inj.mp (z.trans rfl)))); have j4 := (mt (tk_w hK (show 28 < 31 from by decide) (show r_86049.toInt = pkR (wdj 28).reverse from by rw [er_86049]; decide +kernel)).mpr (cls_f er_86050.2.2 c_86051)); have j5 := (mt (tk_w hK (show 27 < 31 from by decide) (show r_86054.toInt = pkR (wdj 27).reverse from by rw [er_86054]; decide +kernel)).mpr (cls_f er_86055.2.2 c_86056)); omega)), (fun _ => ⟨fun q => (cm_tf q (cmk_t er_86045.2 c_86046)).elim, fun _ => ⟨(by have j0 := (mt ((tk_k hK).2.2.2.2.1 43 (by decide)).mpr (show ¬ tk.toInt = 43 from fun z => c_86032 (Int32.toInt_inj.mp (z.trans rfl)))); have j1 := (mt ((tk_k hK).2.2.2.2.1 45 (by decide)).mpr (show ¬ tk.toInt = 45 from fun z => c_86034 (Int32.toInt_inj.mp (z.trans rfl)))); have j2 := (mt ((tk_k hK).2.2.2.2.1 42 (by decide)).mpr (show ¬ tk.toInt = 42 from fun z => c_86036 (Int32.toInt_inj.mp (z.trans rfl)))); have j3 := (mt ((tk_k hK).2.2.2.2.1 47 (by decide)).mpr (show ¬ tk.toInt = 47 from fun z => c_86038 (Int32.toInt_inj.mp (z.trans rfl)))); have j4 := (mt (tk_w hK (show 28 < 31 from by decide) (show r_86049.toInt = pkR (wdj 28).reverse from by rw [er_86049]; decide +kernel)).mpr (cls_f er_86050.2.2 c_86051)); have j5 := (mt (tk_w hK (show 27 < 31 from by decide) (show r_86054.toInt = pkR (wdj 27).reverse from by rw [er_86054]; decide +kernel)).mpr (cls_f er_86055.2.2 c_86056)); omega), (by have j0 := (mt ((tk_k hK).2.2.2.2.1 43 (by decide)).mpr (show ¬ tk.toInt = 43 from fun z => c_86032 (Int32.toInt_inj.mp (z.trans rfl)))); have j1 := (mt ((tk_k hK).2.2.2.2.1 45 (by decide)).mpr (show ¬ tk.toInt = 45 from fun z => c_86034 (Int32.toInt_inj.mp (z.trans rfl)))); have j2 := (mt ((tk_k hK).2.2.2.2.1 42 (by decide)).mpr (show ¬ tk.toInt = 42 from fun z => c_86036 (Int32.toInt_inj.mp (z.trans rfl)))); have j3 := (mt ((tk_k hK).2.2.2.2.1 47 (by decide)).mpr (show ¬ tk.toInt = 47 from fun z => c_86038 (Int32.toInt_inj.mp (z.trans rfl)))); have j4 := (mt (tk_w hK (show 28 < 31 from by decide) (show r_86049.toInt = pkR (wdj 28).reverse from by rw [er_86049]; decide +kernel)).mpr (cls_f er_86050.2.2 c_86051)); have j5 := (mt (tk_w hK (show 27 < 31 from by decide) (show r_86054.toInt = pkR (wdj 27).reverse from by rw [er_86054]; decide +kernel)).mpr (cls_f er_86055.2.2 c_86056)); omega)⟩⟩)⟩⟩, rfl, rfl⟩ dX12_betweenOf_155
                  · have B_86058 : bn 1 1 r_86055 := bn_w (bn_nel c_86056 er_86055.1 (show bn 0 0 (0 : Int32) from bn_k (by decide))) (by decide)
                    refine lv_bipush (v := 22) hx hb dX12_betweenOf_149 (by decide) ?_
                    refine lv_goto (tgt := 155) hx hb dX12_betweenOf_151 (by decide) ?_
                    exact prI (post := fun r L1 f1 => ((bn (-1) 22 r ∧ BTW gp pd tk r ∧ ((r = -1 ∧ BTN k9 (tpP gp pd) (opvP gp pd) (cmkP gp pd)) ∨ (0 ≤ r.toInt ∧ BTK k9 (tpP gp pd) (opvP gp pd) (cmkP gp pd) r.toInt)))) ∧ L1 = L ∧ f1 = f) S Y rfl (by decide) (by decide) hA1 ⟨⟨bn_k (by decide), Or.inr ⟨(show ¬ tk = 0 from by rw [(isw_a er_86055).2 c_86056]; decide), Or.inr (Or.inr ⟨Or.inr rfl, (askd_t er_86040.2 c_86041), (cmk_t er_86045.2 c_86046)⟩)⟩, Or.inr ⟨by decide, Or.inr (Or.inr ⟨(askd_t er_86040.2 c_86041), (cmk_t er_86045.2 c_86046), Or.inr ⟨rfl, (by have j0 := (mt ((tk_k hK).2.2.2.2.1 43 (by decide)).mpr (show ¬ tk.toInt = 43 from fun z => c_86032 (Int32.toInt_inj.mp (z.trans rfl)))); have j1 := (mt ((tk_k hK).2.2.2.2.1 45 (by decide)).mpr (show ¬ tk.toInt = 45 from fun z => c_86034 (Int32.toInt_inj.mp (z.trans rfl)))); have j2 := (mt ((tk_k hK).2.2.2.2.1 42 (by decide)).mpr (show ¬ tk.toInt = 42 from fun z => c_86036 (Int32.toInt_inj.mp (z.trans rfl)))); have j3 := (mt ((tk_k hK).2.2.2.2.1 47 (by decide)).mpr (show ¬ tk.toInt = 47 from fun z => c_86038 (Int32.toInt_inj.mp (z.trans rfl)))); have j4 := (mt (tk_w hK (show 28 < 31 from by decide) (show r_86049.toInt = pkR (wdj 28).reverse from by rw [er_86049]; decide +kernel)).mpr (cls_f er_86050.2.2 c_86051)); have j5 := ((tk_w hK (show 27 < 31 from by decide) (show r_86054.toInt = pkR (wdj 27).reverse from by rw [er_86054]; decide +kernel)).mp (cls_t er_86055.2.2 c_86056)); omega)⟩⟩)⟩⟩, rfl, rfl⟩ dX12_betweenOf_155
                · have B_86053 : bn 1 1 r_86050 := bn_w (bn_nel c_86051 er_86050.1 (show bn 0 0 (0 : Int32) from bn_k (by decide))) (by decide)
                  refine lv_bipush (v := 21) hx hb dX12_betweenOf_130 (by decide) ?_
                  refine lv_goto (tgt := 155) hx hb dX12_betweenOf_132 (by decide) ?_
                  exact prI (post := fun r L1 f1 => ((bn (-1) 22 r ∧ BTW gp pd tk r ∧ ((r = -1 ∧ BTN k9 (tpP gp pd) (opvP gp pd) (cmkP gp pd)) ∨ (0 ≤ r.toInt ∧ BTK k9 (tpP gp pd) (opvP gp pd) (cmkP gp pd) r.toInt)))) ∧ L1 = L ∧ f1 = f) S Y rfl (by decide) (by decide) hA1 ⟨⟨bn_k (by decide), Or.inr ⟨(show ¬ tk = 0 from by rw [(isw_a er_86050).2 c_86051]; decide), Or.inr (Or.inr ⟨Or.inl rfl, (askd_t er_86040.2 c_86041), (cmk_t er_86045.2 c_86046)⟩)⟩, Or.inr ⟨by decide, Or.inr (Or.inr ⟨(askd_t er_86040.2 c_86041), (cmk_t er_86045.2 c_86046), Or.inl ⟨rfl, (by have j0 := (mt ((tk_k hK).2.2.2.2.1 43 (by decide)).mpr (show ¬ tk.toInt = 43 from fun z => c_86032 (Int32.toInt_inj.mp (z.trans rfl)))); have j1 := (mt ((tk_k hK).2.2.2.2.1 45 (by decide)).mpr (show ¬ tk.toInt = 45 from fun z => c_86034 (Int32.toInt_inj.mp (z.trans rfl)))); have j2 := (mt ((tk_k hK).2.2.2.2.1 42 (by decide)).mpr (show ¬ tk.toInt = 42 from fun z => c_86036 (Int32.toInt_inj.mp (z.trans rfl)))); have j3 := (mt ((tk_k hK).2.2.2.2.1 47 (by decide)).mpr (show ¬ tk.toInt = 47 from fun z => c_86038 (Int32.toInt_inj.mp (z.trans rfl)))); have j4 := ((tk_w hK (show 28 < 31 from by decide) (show r_86049.toInt = pkR (wdj 28).reverse from by rw [er_86049]; decide +kernel)).mp (cls_t er_86050.2.2 c_86051)); omega)⟩⟩)⟩⟩, rfl, rfl⟩ dX12_betweenOf_155
              · have B_86048 : bn 0 0 r_86045 := bn_w (bn_eq c_86046 (show bn 0 0 (0 : Int32) from bn_k (by decide))) (by decide)
                refine lv_aload_n hx hb dX12_betweenOf_109 rfl (lv_at hl 1 rfl) ?_
                refine cVp (As := []) (rest := []) S Y (x_X12_compareOf (l := l) I p_ad_0_0 hK) cw_X12_compareOf km12_197 p_ad_0_0 ok_X12.1 rfl rfl ⟨Nat.le_of_ble_eq_true rfl, Nat.le_of_ble_eq_true rfl⟩ hl.1 rfl (Nat.le_of_ble_eq_true rfl) ⟨Nat.le_of_ble_eq_true rfl, Nat.le_of_ble_eq_true rfl⟩ dX12_betweenOf_110 (fun r_86059 H locs er_86059 Y => ?_)
                exact prI (post := fun r L1 f1 => ((bn (-1) 22 r ∧ BTW gp pd tk r ∧ ((r = -1 ∧ BTN k9 (tpP gp pd) (opvP gp pd) (cmkP gp pd)) ∨ (0 ≤ r.toInt ∧ BTK k9 (tpP gp pd) (opvP gp pd) (cmkP gp pd) r.toInt)))) ∧ L1 = L ∧ f1 = f) S Y rfl (by decide) (by decide) hA1 ⟨⟨bn_w (isw_a er_86059).1 (by decide), (by by_cases z : r_86059 = -1; exact Or.inl z; exact Or.inr ⟨((isw_a er_86059).2 z).1, Or.inr (Or.inl ⟨((isw_a er_86059).2 z).2, (askd_t er_86040.2 c_86041), (cmk_f er_86045.2 c_86046)⟩)⟩), (by rcases er_86059.2.2 with ⟨z, z2⟩ | ⟨z, z2⟩; exact Or.inl ⟨z, (Or.inr (by have j0 := (mt ((tk_k hK).2.2.2.2.1 43 (by decide)).mpr (show ¬ tk.toInt = 43 from fun z => c_86032 (Int32.toInt_inj.mp (z.trans rfl)))); have j1 := (mt ((tk_k hK).2.2.2.2.1 45 (by decide)).mpr (show ¬ tk.toInt = 45 from fun z => c_86034 (Int32.toInt_inj.mp (z.trans rfl)))); have j2 := (mt ((tk_k hK).2.2.2.2.1 42 (by decide)).mpr (show ¬ tk.toInt = 42 from fun z => c_86036 (Int32.toInt_inj.mp (z.trans rfl)))); have j3 := (mt ((tk_k hK).2.2.2.2.1 47 (by decide)).mpr (show ¬ tk.toInt = 47 from fun z => c_86038 (Int32.toInt_inj.mp (z.trans rfl)))); omega)), fun _ => ⟨fun _ => z2, fun q => (cm_tf (cmk_f er_86045.2 c_86046) q).elim⟩⟩; exact Or.inr ⟨(by have k9 := ((isw_a er_86059).2 z).2.1; omega), Or.inr (Or.inl ⟨(askd_t er_86040.2 c_86041), (cmk_f er_86045.2 c_86046), (((isw_a er_86059).2 z).2), z2⟩)⟩)⟩, rfl, rfl⟩ dX12_betweenOf_113
            · have B_86044 : bn 0 0 r_86040 := bn_w (bn_eq c_86041 (show bn 0 0 (0 : Int32) from bn_k (by decide))) (by decide)
              refine lv_iconst (v := (-1)) hx hb dX12_betweenOf_100 (by decide) ?_
              exact prI (post := fun r L1 f1 => ((bn (-1) 22 r ∧ BTW gp pd tk r ∧ ((r = -1 ∧ BTN k9 (tpP gp pd) (opvP gp pd) (cmkP gp pd)) ∨ (0 ≤ r.toInt ∧ BTK k9 (tpP gp pd) (opvP gp pd) (cmkP gp pd) r.toInt)))) ∧ L1 = L ∧ f1 = f) S Y rfl (by decide) (by decide) hA1 ⟨⟨bn_k (by decide), Or.inl rfl, Or.inl ⟨rfl, (Or.inr (by have j0 := (mt ((tk_k hK).2.2.2.2.1 43 (by decide)).mpr (show ¬ tk.toInt = 43 from fun z => c_86032 (Int32.toInt_inj.mp (z.trans rfl)))); have j1 := (mt ((tk_k hK).2.2.2.2.1 45 (by decide)).mpr (show ¬ tk.toInt = 45 from fun z => c_86034 (Int32.toInt_inj.mp (z.trans rfl)))); have j2 := (mt ((tk_k hK).2.2.2.2.1 42 (by decide)).mpr (show ¬ tk.toInt = 42 from fun z => c_86036 (Int32.toInt_inj.mp (z.trans rfl)))); have j3 := (mt ((tk_k hK).2.2.2.2.1 47 (by decide)).mpr (show ¬ tk.toInt = 47 from fun z => c_86038 (Int32.toInt_inj.mp (z.trans rfl)))); omega)), (fun z => absurd z (askd_no er_86040.2 c_86041))⟩⟩, rfl, rfl⟩ dX12_betweenOf_101
          · have B_86039 : bn 47 47 tk := bn_w (bn_eq c_86038 (show bn 47 47 (47 : Int32) from bn_k (by decide))) (by decide)
            refine lv_bipush (v := 9) hx hb dX12_betweenOf_90 (by decide) ?_
            exact prI (post := fun r L1 f1 => ((bn (-1) 22 r ∧ BTW gp pd tk r ∧ ((r = -1 ∧ BTN k9 (tpP gp pd) (opvP gp pd) (cmkP gp pd)) ∨ (0 ≤ r.toInt ∧ BTK k9 (tpP gp pd) (opvP gp pd) (cmkP gp pd) r.toInt)))) ∧ L1 = L ∧ f1 = f) S Y rfl (by decide) (by decide) hA1 ⟨⟨bn_k (by decide), Or.inr ⟨(show ¬ tk = 0 from by rw [c_86038]; decide), Or.inl ⟨bn_k (by decide), (Or.inl (by have z9 := c_86029; rw [Int32.le_iff_toInt_le] at z9; have z8 : (0 : Int32).toInt = 0 := rfl; omega))⟩⟩, Or.inr ⟨by decide, Or.inl ⟨(tp_n (Or.inl (by have z9 := c_86029; rw [Int32.le_iff_toInt_le] at z9; have z8 : (0 : Int32).toInt = 0 := rfl; omega))), Or.inr (Or.inr (Or.inr ⟨rfl, (by have j0 := (mt ((tk_k hK).2.2.2.2.1 43 (by decide)).mpr (show ¬ tk.toInt = 43 from fun z => c_86032 (Int32.toInt_inj.mp (z.trans rfl)))); have j1 := (mt ((tk_k hK).2.2.2.2.1 45 (by decide)).mpr (show ¬ tk.toInt = 45 from fun z => c_86034 (Int32.toInt_inj.mp (z.trans rfl)))); have j2 := (mt ((tk_k hK).2.2.2.2.1 42 (by decide)).mpr (show ¬ tk.toInt = 42 from fun z => c_86036 (Int32.toInt_inj.mp (z.trans rfl)))); have j3 := (((tk_k hK).2.2.2.2.1 47 (by decide)).mp (show tk.toInt = 47 from by rw [c_86038]; rfl)); omega)⟩))⟩⟩⟩, rfl, rfl⟩ dX12_betweenOf_92
        · have B_86037 : bn 42 42 tk := bn_w (bn_eq c_86036 (show bn 42 42 (42 : Int32) from bn_k (by decide))) (by decide)
          refine lv_bipush (v := 8) hx hb dX12_betweenOf_74 (by decide) ?_
          exact prI (post := fun r L1 f1 => ((bn (-1) 22 r ∧ BTW gp pd tk r ∧ ((r = -1 ∧ BTN k9 (tpP gp pd) (opvP gp pd) (cmkP gp pd)) ∨ (0 ≤ r.toInt ∧ BTK k9 (tpP gp pd) (opvP gp pd) (cmkP gp pd) r.toInt)))) ∧ L1 = L ∧ f1 = f) S Y rfl (by decide) (by decide) hA1 ⟨⟨bn_k (by decide), Or.inr ⟨(show ¬ tk = 0 from by rw [c_86036]; decide), Or.inl ⟨bn_k (by decide), (Or.inl (by have z9 := c_86029; rw [Int32.le_iff_toInt_le] at z9; have z8 : (0 : Int32).toInt = 0 := rfl; omega))⟩⟩, Or.inr ⟨by decide, Or.inl ⟨(tp_n (Or.inl (by have z9 := c_86029; rw [Int32.le_iff_toInt_le] at z9; have z8 : (0 : Int32).toInt = 0 := rfl; omega))), Or.inr (Or.inr (Or.inl ⟨rfl, (by have j0 := (mt ((tk_k hK).2.2.2.2.1 43 (by decide)).mpr (show ¬ tk.toInt = 43 from fun z => c_86032 (Int32.toInt_inj.mp (z.trans rfl)))); have j1 := (mt ((tk_k hK).2.2.2.2.1 45 (by decide)).mpr (show ¬ tk.toInt = 45 from fun z => c_86034 (Int32.toInt_inj.mp (z.trans rfl)))); have j2 := (((tk_k hK).2.2.2.2.1 42 (by decide)).mp (show tk.toInt = 42 from by rw [c_86036]; rfl)); omega)⟩))⟩⟩⟩, rfl, rfl⟩ dX12_betweenOf_76
      · have B_86035 : bn 45 45 tk := bn_w (bn_eq c_86034 (show bn 45 45 (45 : Int32) from bn_k (by decide))) (by decide)
        refine lv_bipush (v := 7) hx hb dX12_betweenOf_58 (by decide) ?_
        exact prI (post := fun r L1 f1 => ((bn (-1) 22 r ∧ BTW gp pd tk r ∧ ((r = -1 ∧ BTN k9 (tpP gp pd) (opvP gp pd) (cmkP gp pd)) ∨ (0 ≤ r.toInt ∧ BTK k9 (tpP gp pd) (opvP gp pd) (cmkP gp pd) r.toInt)))) ∧ L1 = L ∧ f1 = f) S Y rfl (by decide) (by decide) hA1 ⟨⟨bn_k (by decide), Or.inr ⟨(show ¬ tk = 0 from by rw [c_86034]; decide), Or.inl ⟨bn_k (by decide), (Or.inl (by have z9 := c_86029; rw [Int32.le_iff_toInt_le] at z9; have z8 : (0 : Int32).toInt = 0 := rfl; omega))⟩⟩, Or.inr ⟨by decide, Or.inl ⟨(tp_n (Or.inl (by have z9 := c_86029; rw [Int32.le_iff_toInt_le] at z9; have z8 : (0 : Int32).toInt = 0 := rfl; omega))), Or.inr (Or.inl ⟨rfl, (by have j0 := (mt ((tk_k hK).2.2.2.2.1 43 (by decide)).mpr (show ¬ tk.toInt = 43 from fun z => c_86032 (Int32.toInt_inj.mp (z.trans rfl)))); have j1 := (((tk_k hK).2.2.2.2.1 45 (by decide)).mp (show tk.toInt = 45 from by rw [c_86034]; rfl)); omega)⟩)⟩⟩⟩, rfl, rfl⟩ dX12_betweenOf_60
    · have B_86033 : bn 43 43 tk := bn_w (bn_eq c_86032 (show bn 43 43 (43 : Int32) from bn_k (by decide))) (by decide)
      refine lv_bipush (v := 6) hx hb dX12_betweenOf_42 (by decide) ?_
      exact prI (post := fun r L1 f1 => ((bn (-1) 22 r ∧ BTW gp pd tk r ∧ ((r = -1 ∧ BTN k9 (tpP gp pd) (opvP gp pd) (cmkP gp pd)) ∨ (0 ≤ r.toInt ∧ BTK k9 (tpP gp pd) (opvP gp pd) (cmkP gp pd) r.toInt)))) ∧ L1 = L ∧ f1 = f) S Y rfl (by decide) (by decide) hA1 ⟨⟨bn_k (by decide), Or.inr ⟨(show ¬ tk = 0 from by rw [c_86032]; decide), Or.inl ⟨bn_k (by decide), (Or.inl (by have z9 := c_86029; rw [Int32.le_iff_toInt_le] at z9; have z8 : (0 : Int32).toInt = 0 := rfl; omega))⟩⟩, Or.inr ⟨by decide, Or.inl ⟨(tp_n (Or.inl (by have z9 := c_86029; rw [Int32.le_iff_toInt_le] at z9; have z8 : (0 : Int32).toInt = 0 := rfl; omega))), Or.inl ⟨rfl, (by have j0 := (((tk_k hK).2.2.2.2.1 43 (by decide)).mp (show tk.toInt = 43 from by rw [c_86032]; rfl)); omega)⟩⟩⟩⟩, rfl, rfl⟩ dX12_betweenOf_44
  · have B_86031 : bn 1 160 pd := bn_w (bn_gtl c_86029 bfe_17 (show bn 0 0 (0 : Int32) from bn_k (by decide))) (by decide)
    refine lv_aload_n hx hb dX12_betweenOf_7 rfl (lv_at hl 0 rfl) ?_
    refine pg_get S Y ok_X12 15 (by decide) kf12_29 (v := .ref (ad 5 0)) p_ad_0_0 rfl dX12_betweenOf_8 ?_
    refine lv_aload_n hx hb dX12_betweenOf_11 rfl (lv_at hl 0 rfl) ?_
    refine pg_get S Y ok_X12 17 (by decide) kf12_142 (v := .int pd) p_ad_0_0 rfl dX12_betweenOf_12 ?_
    refine lv_iconst (v := 1) hx hb dX12_betweenOf_15 (by decide) ?_
    refine lv_isub hx hb dX12_betweenOf_16 ?_
    refine lv_topi (fun x_86060 ex_86060 => ?_)
    obtain ⟨v_86061, ev_86061⟩ : ∃ z, z = gp (x_86060 : Int32).toNatClampNeg := ⟨_, rfl⟩
    refine pg_iald S Y (v := v_86061) p_ad_5_0 (vp_bn (bn_eq ex_86060 (bn_sub B_86031 (show bn 1 1 (1 : Int32) from bn_k (by decide)) (by decide))) (by decide)) ev_86061.symm dX12_betweenOf_17 ?_
    refine lv_bipush (v := 16) hx hb dX12_betweenOf_18 (by decide) ?_
    refine lv_icmp_ne (tgt := 27) hx hb dX12_betweenOf_20 (by decide) (fun c_86062 => ?_) (fun c_86062 => ?_)
    · refine lv_iconst (v := 0) hx hb dX12_betweenOf_27 (by decide) ?_
      refine lv_istore_n (lv' := [(1, .int 0), (0, .ref (ad 0 0))]) hx hb dX12_betweenOf_28 rfl hl (by decide) rfl (fun ls hl => ?_)
      refine lv_iload_n hx hb dX12_betweenOf_29 rfl (lv_at hl 0 rfl) ?_
      refine lv_if_ne (tgt := 45) hx hb dX12_betweenOf_30 (by decide) (fun h => absurd (by decide) h) (fun _ => ?_)
      refine lv_aload_n hx hb dX12_betweenOf_33 rfl (lv_at hl 1 rfl) ?_
      refine pg_get S Y ok_X12 9 (by decide) kf12_98 (v := .int tk) p_ad_0_0 rfl dX12_betweenOf_34 ?_
      refine lv_bipush (v := 43) hx hb dX12_betweenOf_37 (by decide) ?_
      refine lv_icmp_ne (tgt := 45) hx hb dX12_betweenOf_39 (by decide) (fun c_86064 => ?_) (fun c_86064 => ?_)
      · refine lv_iload_n hx hb dX12_betweenOf_45 rfl (lv_at hl 0 rfl) ?_
        refine lv_if_ne (tgt := 61) hx hb dX12_betweenOf_46 (by decide) (fun h => absurd (by decide) h) (fun _ => ?_)
        refine lv_aload_n hx hb dX12_betweenOf_49 rfl (lv_at hl 1 rfl) ?_
        refine pg_get S Y ok_X12 9 (by decide) kf12_98 (v := .int tk) p_ad_0_0 rfl dX12_betweenOf_50 ?_
        refine lv_bipush (v := 45) hx hb dX12_betweenOf_53 (by decide) ?_
        refine lv_icmp_ne (tgt := 61) hx hb dX12_betweenOf_55 (by decide) (fun c_86066 => ?_) (fun c_86066 => ?_)
        · refine lv_iload_n hx hb dX12_betweenOf_61 rfl (lv_at hl 0 rfl) ?_
          refine lv_if_ne (tgt := 77) hx hb dX12_betweenOf_62 (by decide) (fun h => absurd (by decide) h) (fun _ => ?_)
          refine lv_aload_n hx hb dX12_betweenOf_65 rfl (lv_at hl 1 rfl) ?_
          refine pg_get S Y ok_X12 9 (by decide) kf12_98 (v := .int tk) p_ad_0_0 rfl dX12_betweenOf_66 ?_
          refine lv_bipush (v := 42) hx hb dX12_betweenOf_69 (by decide) ?_
          refine lv_icmp_ne (tgt := 77) hx hb dX12_betweenOf_71 (by decide) (fun c_86068 => ?_) (fun c_86068 => ?_)
          · refine lv_iload_n hx hb dX12_betweenOf_77 rfl (lv_at hl 0 rfl) ?_
            refine lv_if_ne (tgt := 93) hx hb dX12_betweenOf_78 (by decide) (fun h => absurd (by decide) h) (fun _ => ?_)
            refine lv_aload_n hx hb dX12_betweenOf_81 rfl (lv_at hl 1 rfl) ?_
            refine pg_get S Y ok_X12 9 (by decide) kf12_98 (v := .int tk) p_ad_0_0 rfl dX12_betweenOf_82 ?_
            refine lv_bipush (v := 47) hx hb dX12_betweenOf_85 (by decide) ?_
            refine lv_icmp_ne (tgt := 93) hx hb dX12_betweenOf_87 (by decide) (fun c_86070 => ?_) (fun c_86070 => ?_)
            · refine lv_aload_n hx hb dX12_betweenOf_93 rfl (lv_at hl 1 rfl) ?_
              refine cVp (As := []) (rest := []) S Y (x_X12_isAskHere (l := l) I p_ad_0_0 p_ad_5_0) cw_X12_isAskHere km12_162 p_ad_0_0 ok_X12.1 rfl rfl ⟨Nat.le_of_ble_eq_true rfl, Nat.le_of_ble_eq_true rfl⟩ hl.1 rfl (Nat.le_of_ble_eq_true rfl) ⟨Nat.le_of_ble_eq_true rfl, Nat.le_of_ble_eq_true rfl⟩ dX12_betweenOf_94 (fun r_86072 H locs er_86072 Y => ?_)
              refine lv_if_ne (tgt := 102) hx hb dX12_betweenOf_97 (by decide) (fun c_86073 => ?_) (fun c_86073 => ?_)
              · have B_86074 : bn 1 1 r_86072 := bn_w (bn_nel c_86073 er_86072.1 (show bn 0 0 (0 : Int32) from bn_k (by decide))) (by decide)
                refine lv_aload_n hx hb dX12_betweenOf_102 rfl (lv_at hl 1 rfl) ?_
                refine cVp (As := []) (rest := []) S Y (x_X12_isCompared (l := l) I p_ad_0_0 p_ad_5_0) cw_X12_isCompared km12_194 p_ad_0_0 ok_X12.1 rfl rfl ⟨Nat.le_of_ble_eq_true rfl, Nat.le_of_ble_eq_true rfl⟩ hl.1 rfl (Nat.le_of_ble_eq_true rfl) ⟨Nat.le_of_ble_eq_true rfl, Nat.le_of_ble_eq_true rfl⟩ dX12_betweenOf_103 (fun r_86076 H locs er_86076 Y => ?_)
                refine lv_if_ne (tgt := 114) hx hb dX12_betweenOf_106 (by decide) (fun c_86077 => ?_) (fun c_86077 => ?_)
                · have B_86078 : bn 1 1 r_86076 := bn_w (bn_nel c_86077 er_86076.1 (show bn 0 0 (0 : Int32) from bn_k (by decide))) (by decide)
                  refine lv_aload_n hx hb dX12_betweenOf_114 rfl (lv_at hl 1 rfl) ?_
                  refine lv_bipush (v := 97) hx hb dX12_betweenOf_115 (by decide) ?_
                  refine lv_bipush (v := 110) hx hb dX12_betweenOf_117 (by decide) ?_
                  refine lv_bipush (v := 100) hx hb dX12_betweenOf_119 (by decide) ?_
                  refine cSlp (As := [.int 97, .int 110, .int 100]) (rest := [.ref (ad 0 0)]) S Y (x_X12_w3 (l := l) ) cw_X12_w3 km12_124 rfl ⟨Nat.le_of_ble_eq_true rfl, Nat.le_of_ble_eq_true rfl⟩ hl.1 rfl (Nat.le_of_ble_eq_true rfl) ⟨Nat.le_of_ble_eq_true rfl, Nat.le_of_ble_eq_true rfl⟩ dX12_betweenOf_121 (fun r_86080 H locs er_86080 Y => ?_)
                  refine cVp (As := [.long r_86080]) (rest := []) S Y (x_X12_isWord (l := l) I p_ad_0_0) cw_X12_isWord km12_187 p_ad_0_0 ok_X12.1 rfl rfl ⟨Nat.le_of_ble_eq_true rfl, Nat.le_of_ble_eq_true rfl⟩ hl.1 rfl (Nat.le_of_ble_eq_true rfl) ⟨Nat.le_of_ble_eq_true rfl, Nat.le_of_ble_eq_true rfl⟩ dX12_betweenOf_124 (fun r_86081 H locs er_86081 Y => ?_)
                  refine lv_if_eq (tgt := 135) hx hb dX12_betweenOf_127 (by decide) (fun c_86082 => ?_) (fun c_86082 => ?_)
                  · have B_86083 : bn 0 0 r_86081 := bn_w (bn_eq c_86082 (show bn 0 0 (0 : Int32) from bn_k (by decide))) (by decide)
                    refine lv_aload_n hx hb dX12_betweenOf_135 rfl (lv_at hl 1 rfl) ?_
                    refine lv_bipush (v := 111) hx hb dX12_betweenOf_136 (by decide) ?_
                    refine lv_bipush (v := 114) hx hb dX12_betweenOf_138 (by decide) ?_
                    refine cSlp (As := [.int 111, .int 114]) (rest := [.ref (ad 0 0)]) S Y (x_X12_w2 (l := l) ) cw_X12_w2 km12_120 rfl ⟨Nat.le_of_ble_eq_true rfl, Nat.le_of_ble_eq_true rfl⟩ hl.1 rfl (Nat.le_of_ble_eq_true rfl) ⟨Nat.le_of_ble_eq_true rfl, Nat.le_of_ble_eq_true rfl⟩ dX12_betweenOf_140 (fun r_86085 H locs er_86085 Y => ?_)
                    refine cVp (As := [.long r_86085]) (rest := []) S Y (x_X12_isWord (l := l) I p_ad_0_0) cw_X12_isWord km12_187 p_ad_0_0 ok_X12.1 rfl rfl ⟨Nat.le_of_ble_eq_true rfl, Nat.le_of_ble_eq_true rfl⟩ hl.1 rfl (Nat.le_of_ble_eq_true rfl) ⟨Nat.le_of_ble_eq_true rfl, Nat.le_of_ble_eq_true rfl⟩ dX12_betweenOf_143 (fun r_86086 H locs er_86086 Y => ?_)
                    refine lv_if_eq (tgt := 154) hx hb dX12_betweenOf_146 (by decide) (fun c_86087 => ?_) (fun c_86087 => ?_)
                    · have B_86088 : bn 0 0 r_86086 := bn_w (bn_eq c_86087 (show bn 0 0 (0 : Int32) from bn_k (by decide))) (by decide)
                      refine lv_iconst (v := (-1)) hx hb dX12_betweenOf_154 (by decide) ?_
                      exact prI (post := fun r L1 f1 => ((bn (-1) 22 r ∧ BTW gp pd tk r ∧ ((r = -1 ∧ BTN k9 (tpP gp pd) (opvP gp pd) (cmkP gp pd)) ∨ (0 ≤ r.toInt ∧ BTK k9 (tpP gp pd) (opvP gp pd) (cmkP gp pd) r.toInt)))) ∧ L1 = L ∧ f1 = f) S Y rfl (by decide) (by decide) hA1 ⟨⟨bn_k (by decide), Or.inl rfl, Or.inl ⟨rfl, (Or.inr (by have j0 := (mt ((tk_k hK).2.2.2.2.1 43 (by decide)).mpr (show ¬ tk.toInt = 43 from fun z => c_86064 (Int32.toInt_inj.mp (z.trans rfl)))); have j1 := (mt ((tk_k hK).2.2.2.2.1 45 (by decide)).mpr (show ¬ tk.toInt = 45 from fun z => c_86066 (Int32.toInt_inj.mp (z.trans rfl)))); have j2 := (mt ((tk_k hK).2.2.2.2.1 42 (by decide)).mpr (show ¬ tk.toInt = 42 from fun z => c_86068 (Int32.toInt_inj.mp (z.trans rfl)))); have j3 := (mt ((tk_k hK).2.2.2.2.1 47 (by decide)).mpr (show ¬ tk.toInt = 47 from fun z => c_86070 (Int32.toInt_inj.mp (z.trans rfl)))); have j4 := (mt (tk_w hK (show 28 < 31 from by decide) (show r_86080.toInt = pkR (wdj 28).reverse from by rw [er_86080]; decide +kernel)).mpr (cls_f er_86081.2.2 c_86082)); have j5 := (mt (tk_w hK (show 27 < 31 from by decide) (show r_86085.toInt = pkR (wdj 27).reverse from by rw [er_86085]; decide +kernel)).mpr (cls_f er_86086.2.2 c_86087)); omega)), (fun _ => ⟨fun q => (cm_tf q (cmk_t er_86076.2 c_86077)).elim, fun _ => ⟨(by have j0 := (mt ((tk_k hK).2.2.2.2.1 43 (by decide)).mpr (show ¬ tk.toInt = 43 from fun z => c_86064 (Int32.toInt_inj.mp (z.trans rfl)))); have j1 := (mt ((tk_k hK).2.2.2.2.1 45 (by decide)).mpr (show ¬ tk.toInt = 45 from fun z => c_86066 (Int32.toInt_inj.mp (z.trans rfl)))); have j2 := (mt ((tk_k hK).2.2.2.2.1 42 (by decide)).mpr (show ¬ tk.toInt = 42 from fun z => c_86068 (Int32.toInt_inj.mp (z.trans rfl)))); have j3 := (mt ((tk_k hK).2.2.2.2.1 47 (by decide)).mpr (show ¬ tk.toInt = 47 from fun z => c_86070 (Int32.toInt_inj.mp (z.trans rfl)))); have j4 := (mt (tk_w hK (show 28 < 31 from by decide) (show r_86080.toInt = pkR (wdj 28).reverse from by rw [er_86080]; decide +kernel)).mpr (cls_f er_86081.2.2 c_86082)); have j5 := (mt (tk_w hK (show 27 < 31 from by decide) (show r_86085.toInt = pkR (wdj 27).reverse from by rw [er_86085]; decide +kernel)).mpr (cls_f er_86086.2.2 c_86087)); omega), (by have j0 := (mt ((tk_k hK).2.2.2.2.1 43 (by decide)).mpr (show ¬ tk.toInt = 43 from fun z => c_86064 (Int32.toInt_inj.mp (z.trans rfl)))); have j1 := (mt ((tk_k hK).2.2.2.2.1 45 (by decide)).mpr (show ¬ tk.toInt = 45 from fun z => c_86066 (Int32.toInt_inj.mp (z.trans rfl)))); have j2 := (mt ((tk_k hK).2.2.2.2.1 42 (by decide)).mpr (show ¬ tk.toInt = 42 from fun z => c_86068 (Int32.toInt_inj.mp (z.trans rfl)))); have j3 := (mt ((tk_k hK).2.2.2.2.1 47 (by decide)).mpr (show ¬ tk.toInt = 47 from fun z => c_86070 (Int32.toInt_inj.mp (z.trans rfl)))); have j4 := (mt (tk_w hK (show 28 < 31 from by decide) (show r_86080.toInt = pkR (wdj 28).reverse from by rw [er_86080]; decide +kernel)).mpr (cls_f er_86081.2.2 c_86082)); have j5 := (mt (tk_w hK (show 27 < 31 from by decide) (show r_86085.toInt = pkR (wdj 27).reverse from by rw [er_86085]; decide +kernel)).mpr (cls_f er_86086.2.2 c_86087)); omega)⟩⟩)⟩⟩, rfl, rfl⟩ dX12_betweenOf_155
                    · have B_86089 : bn 1 1 r_86086 := bn_w (bn_nel c_86087 er_86086.1 (show bn 0 0 (0 : Int32) from bn_k (by decide))) (by decide)
                      refine lv_bipush (v := 22) hx hb dX12_betweenOf_149 (by decide) ?_
                      refine lv_goto (tgt := 155) hx hb dX12_betweenOf_151 (by decide) ?_
                      exact prI (post := fun r L1 f1 => ((bn (-1) 22 r ∧ BTW gp pd tk r ∧ ((r = -1 ∧ BTN k9 (tpP gp pd) (opvP gp pd) (cmkP gp pd)) ∨ (0 ≤ r.toInt ∧ BTK k9 (tpP gp pd) (opvP gp pd) (cmkP gp pd) r.toInt)))) ∧ L1 = L ∧ f1 = f) S Y rfl (by decide) (by decide) hA1 ⟨⟨bn_k (by decide), Or.inr ⟨(show ¬ tk = 0 from by rw [(isw_a er_86086).2 c_86087]; decide), Or.inr (Or.inr ⟨Or.inr rfl, (askd_t er_86072.2 c_86073), (cmk_t er_86076.2 c_86077)⟩)⟩, Or.inr ⟨by decide, Or.inr (Or.inr ⟨(askd_t er_86072.2 c_86073), (cmk_t er_86076.2 c_86077), Or.inr ⟨rfl, (by have j0 := (mt ((tk_k hK).2.2.2.2.1 43 (by decide)).mpr (show ¬ tk.toInt = 43 from fun z => c_86064 (Int32.toInt_inj.mp (z.trans rfl)))); have j1 := (mt ((tk_k hK).2.2.2.2.1 45 (by decide)).mpr (show ¬ tk.toInt = 45 from fun z => c_86066 (Int32.toInt_inj.mp (z.trans rfl)))); have j2 := (mt ((tk_k hK).2.2.2.2.1 42 (by decide)).mpr (show ¬ tk.toInt = 42 from fun z => c_86068 (Int32.toInt_inj.mp (z.trans rfl)))); have j3 := (mt ((tk_k hK).2.2.2.2.1 47 (by decide)).mpr (show ¬ tk.toInt = 47 from fun z => c_86070 (Int32.toInt_inj.mp (z.trans rfl)))); have j4 := (mt (tk_w hK (show 28 < 31 from by decide) (show r_86080.toInt = pkR (wdj 28).reverse from by rw [er_86080]; decide +kernel)).mpr (cls_f er_86081.2.2 c_86082)); have j5 := ((tk_w hK (show 27 < 31 from by decide) (show r_86085.toInt = pkR (wdj 27).reverse from by rw [er_86085]; decide +kernel)).mp (cls_t er_86086.2.2 c_86087)); omega)⟩⟩)⟩⟩, rfl, rfl⟩ dX12_betweenOf_155
                  · have B_86084 : bn 1 1 r_86081 := bn_w (bn_nel c_86082 er_86081.1 (show bn 0 0 (0 : Int32) from bn_k (by decide))) (by decide)
                    refine lv_bipush (v := 21) hx hb dX12_betweenOf_130 (by decide) ?_
                    refine lv_goto (tgt := 155) hx hb dX12_betweenOf_132 (by decide) ?_
                    exact prI (post := fun r L1 f1 => ((bn (-1) 22 r ∧ BTW gp pd tk r ∧ ((r = -1 ∧ BTN k9 (tpP gp pd) (opvP gp pd) (cmkP gp pd)) ∨ (0 ≤ r.toInt ∧ BTK k9 (tpP gp pd) (opvP gp pd) (cmkP gp pd) r.toInt)))) ∧ L1 = L ∧ f1 = f) S Y rfl (by decide) (by decide) hA1 ⟨⟨bn_k (by decide), Or.inr ⟨(show ¬ tk = 0 from by rw [(isw_a er_86081).2 c_86082]; decide), Or.inr (Or.inr ⟨Or.inl rfl, (askd_t er_86072.2 c_86073), (cmk_t er_86076.2 c_86077)⟩)⟩, Or.inr ⟨by decide, Or.inr (Or.inr ⟨(askd_t er_86072.2 c_86073), (cmk_t er_86076.2 c_86077), Or.inl ⟨rfl, (by have j0 := (mt ((tk_k hK).2.2.2.2.1 43 (by decide)).mpr (show ¬ tk.toInt = 43 from fun z => c_86064 (Int32.toInt_inj.mp (z.trans rfl)))); have j1 := (mt ((tk_k hK).2.2.2.2.1 45 (by decide)).mpr (show ¬ tk.toInt = 45 from fun z => c_86066 (Int32.toInt_inj.mp (z.trans rfl)))); have j2 := (mt ((tk_k hK).2.2.2.2.1 42 (by decide)).mpr (show ¬ tk.toInt = 42 from fun z => c_86068 (Int32.toInt_inj.mp (z.trans rfl)))); have j3 := (mt ((tk_k hK).2.2.2.2.1 47 (by decide)).mpr (show ¬ tk.toInt = 47 from fun z => c_86070 (Int32.toInt_inj.mp (z.trans rfl)))); have j4 := ((tk_w hK (show 28 < 31 from by decide) (show r_86080.toInt = pkR (wdj 28).reverse from by rw [er_86080]; decide +kernel)).mp (cls_t er_86081.2.2 c_86082)); omega)⟩⟩)⟩⟩, rfl, rfl⟩ dX12_betweenOf_155
                · have B_86079 : bn 0 0 r_86076 := bn_w (bn_eq c_86077 (show bn 0 0 (0 : Int32) from bn_k (by decide))) (by decide)
                  refine lv_aload_n hx hb dX12_betweenOf_109 rfl (lv_at hl 1 rfl) ?_
                  refine cVp (As := []) (rest := []) S Y (x_X12_compareOf (l := l) I p_ad_0_0 hK) cw_X12_compareOf km12_197 p_ad_0_0 ok_X12.1 rfl rfl ⟨Nat.le_of_ble_eq_true rfl, Nat.le_of_ble_eq_true rfl⟩ hl.1 rfl (Nat.le_of_ble_eq_true rfl) ⟨Nat.le_of_ble_eq_true rfl, Nat.le_of_ble_eq_true rfl⟩ dX12_betweenOf_110 (fun r_86090 H locs er_86090 Y => ?_)
                  exact prI (post := fun r L1 f1 => ((bn (-1) 22 r ∧ BTW gp pd tk r ∧ ((r = -1 ∧ BTN k9 (tpP gp pd) (opvP gp pd) (cmkP gp pd)) ∨ (0 ≤ r.toInt ∧ BTK k9 (tpP gp pd) (opvP gp pd) (cmkP gp pd) r.toInt)))) ∧ L1 = L ∧ f1 = f) S Y rfl (by decide) (by decide) hA1 ⟨⟨bn_w (isw_a er_86090).1 (by decide), (by by_cases z : r_86090 = -1; exact Or.inl z; exact Or.inr ⟨((isw_a er_86090).2 z).1, Or.inr (Or.inl ⟨((isw_a er_86090).2 z).2, (askd_t er_86072.2 c_86073), (cmk_f er_86076.2 c_86077)⟩)⟩), (by rcases er_86090.2.2 with ⟨z, z2⟩ | ⟨z, z2⟩; exact Or.inl ⟨z, (Or.inr (by have j0 := (mt ((tk_k hK).2.2.2.2.1 43 (by decide)).mpr (show ¬ tk.toInt = 43 from fun z => c_86064 (Int32.toInt_inj.mp (z.trans rfl)))); have j1 := (mt ((tk_k hK).2.2.2.2.1 45 (by decide)).mpr (show ¬ tk.toInt = 45 from fun z => c_86066 (Int32.toInt_inj.mp (z.trans rfl)))); have j2 := (mt ((tk_k hK).2.2.2.2.1 42 (by decide)).mpr (show ¬ tk.toInt = 42 from fun z => c_86068 (Int32.toInt_inj.mp (z.trans rfl)))); have j3 := (mt ((tk_k hK).2.2.2.2.1 47 (by decide)).mpr (show ¬ tk.toInt = 47 from fun z => c_86070 (Int32.toInt_inj.mp (z.trans rfl)))); omega)), fun _ => ⟨fun _ => z2, fun q => (cm_tf (cmk_f er_86076.2 c_86077) q).elim⟩⟩; exact Or.inr ⟨(by have k9 := ((isw_a er_86090).2 z).2.1; omega), Or.inr (Or.inl ⟨(askd_t er_86072.2 c_86073), (cmk_f er_86076.2 c_86077), (((isw_a er_86090).2 z).2), z2⟩)⟩)⟩, rfl, rfl⟩ dX12_betweenOf_113
              · have B_86075 : bn 0 0 r_86072 := bn_w (bn_eq c_86073 (show bn 0 0 (0 : Int32) from bn_k (by decide))) (by decide)
                refine lv_iconst (v := (-1)) hx hb dX12_betweenOf_100 (by decide) ?_
                exact prI (post := fun r L1 f1 => ((bn (-1) 22 r ∧ BTW gp pd tk r ∧ ((r = -1 ∧ BTN k9 (tpP gp pd) (opvP gp pd) (cmkP gp pd)) ∨ (0 ≤ r.toInt ∧ BTK k9 (tpP gp pd) (opvP gp pd) (cmkP gp pd) r.toInt)))) ∧ L1 = L ∧ f1 = f) S Y rfl (by decide) (by decide) hA1 ⟨⟨bn_k (by decide), Or.inl rfl, Or.inl ⟨rfl, (Or.inr (by have j0 := (mt ((tk_k hK).2.2.2.2.1 43 (by decide)).mpr (show ¬ tk.toInt = 43 from fun z => c_86064 (Int32.toInt_inj.mp (z.trans rfl)))); have j1 := (mt ((tk_k hK).2.2.2.2.1 45 (by decide)).mpr (show ¬ tk.toInt = 45 from fun z => c_86066 (Int32.toInt_inj.mp (z.trans rfl)))); have j2 := (mt ((tk_k hK).2.2.2.2.1 42 (by decide)).mpr (show ¬ tk.toInt = 42 from fun z => c_86068 (Int32.toInt_inj.mp (z.trans rfl)))); have j3 := (mt ((tk_k hK).2.2.2.2.1 47 (by decide)).mpr (show ¬ tk.toInt = 47 from fun z => c_86070 (Int32.toInt_inj.mp (z.trans rfl)))); omega)), (fun z => absurd z (askd_no er_86072.2 c_86073))⟩⟩, rfl, rfl⟩ dX12_betweenOf_101
            · have B_86071 : bn 47 47 tk := bn_w (bn_eq c_86070 (show bn 47 47 (47 : Int32) from bn_k (by decide))) (by decide)
              refine lv_bipush (v := 9) hx hb dX12_betweenOf_90 (by decide) ?_
              exact prI (post := fun r L1 f1 => ((bn (-1) 22 r ∧ BTW gp pd tk r ∧ ((r = -1 ∧ BTN k9 (tpP gp pd) (opvP gp pd) (cmkP gp pd)) ∨ (0 ≤ r.toInt ∧ BTK k9 (tpP gp pd) (opvP gp pd) (cmkP gp pd) r.toInt)))) ∧ L1 = L ∧ f1 = f) S Y rfl (by decide) (by decide) hA1 ⟨⟨bn_k (by decide), Or.inr ⟨(show ¬ tk = 0 from by rw [c_86070]; decide), Or.inl ⟨bn_k (by decide), (Or.inr (fun z9 => c_86062 (Int32.toInt_inj.mp ((show v_86061.toInt = (gp (pd.toInt.toNat - 1)).toInt from by rw [ev_86061, show (x_86060 : Int32).toNatClampNeg = pd.toInt.toNat - 1 from (by have z8 := (la_sub ex_86060 (rfl : pd.toInt = pd.toInt) (show (1 : Int32).toInt = 1 from rfl) B_86031 (show bn 1 1 (1 : Int32) from bn_k (by decide)) (by decide)); have z7 := (B_86031).1; rw [tnc]; omega)]).trans z9))))⟩⟩, Or.inr ⟨by decide, Or.inl ⟨(tp_n (Or.inr (fun z9 => c_86062 (Int32.toInt_inj.mp ((show v_86061.toInt = (gp (pd.toInt.toNat - 1)).toInt from by rw [ev_86061, show (x_86060 : Int32).toNatClampNeg = pd.toInt.toNat - 1 from (by have z8 := (la_sub ex_86060 (rfl : pd.toInt = pd.toInt) (show (1 : Int32).toInt = 1 from rfl) B_86031 (show bn 1 1 (1 : Int32) from bn_k (by decide)) (by decide)); have z7 := (B_86031).1; rw [tnc]; omega)]).trans z9))))), Or.inr (Or.inr (Or.inr ⟨rfl, (by have j0 := (mt ((tk_k hK).2.2.2.2.1 43 (by decide)).mpr (show ¬ tk.toInt = 43 from fun z => c_86064 (Int32.toInt_inj.mp (z.trans rfl)))); have j1 := (mt ((tk_k hK).2.2.2.2.1 45 (by decide)).mpr (show ¬ tk.toInt = 45 from fun z => c_86066 (Int32.toInt_inj.mp (z.trans rfl)))); have j2 := (mt ((tk_k hK).2.2.2.2.1 42 (by decide)).mpr (show ¬ tk.toInt = 42 from fun z => c_86068 (Int32.toInt_inj.mp (z.trans rfl)))); have j3 := (((tk_k hK).2.2.2.2.1 47 (by decide)).mp (show tk.toInt = 47 from by rw [c_86070]; rfl)); omega)⟩))⟩⟩⟩, rfl, rfl⟩ dX12_betweenOf_92
          · have B_86069 : bn 42 42 tk := bn_w (bn_eq c_86068 (show bn 42 42 (42 : Int32) from bn_k (by decide))) (by decide)
            refine lv_bipush (v := 8) hx hb dX12_betweenOf_74 (by decide) ?_
            exact prI (post := fun r L1 f1 => ((bn (-1) 22 r ∧ BTW gp pd tk r ∧ ((r = -1 ∧ BTN k9 (tpP gp pd) (opvP gp pd) (cmkP gp pd)) ∨ (0 ≤ r.toInt ∧ BTK k9 (tpP gp pd) (opvP gp pd) (cmkP gp pd) r.toInt)))) ∧ L1 = L ∧ f1 = f) S Y rfl (by decide) (by decide) hA1 ⟨⟨bn_k (by decide), Or.inr ⟨(show ¬ tk = 0 from by rw [c_86068]; decide), Or.inl ⟨bn_k (by decide), (Or.inr (fun z9 => c_86062 (Int32.toInt_inj.mp ((show v_86061.toInt = (gp (pd.toInt.toNat - 1)).toInt from by rw [ev_86061, show (x_86060 : Int32).toNatClampNeg = pd.toInt.toNat - 1 from (by have z8 := (la_sub ex_86060 (rfl : pd.toInt = pd.toInt) (show (1 : Int32).toInt = 1 from rfl) B_86031 (show bn 1 1 (1 : Int32) from bn_k (by decide)) (by decide)); have z7 := (B_86031).1; rw [tnc]; omega)]).trans z9))))⟩⟩, Or.inr ⟨by decide, Or.inl ⟨(tp_n (Or.inr (fun z9 => c_86062 (Int32.toInt_inj.mp ((show v_86061.toInt = (gp (pd.toInt.toNat - 1)).toInt from by rw [ev_86061, show (x_86060 : Int32).toNatClampNeg = pd.toInt.toNat - 1 from (by have z8 := (la_sub ex_86060 (rfl : pd.toInt = pd.toInt) (show (1 : Int32).toInt = 1 from rfl) B_86031 (show bn 1 1 (1 : Int32) from bn_k (by decide)) (by decide)); have z7 := (B_86031).1; rw [tnc]; omega)]).trans z9))))), Or.inr (Or.inr (Or.inl ⟨rfl, (by have j0 := (mt ((tk_k hK).2.2.2.2.1 43 (by decide)).mpr (show ¬ tk.toInt = 43 from fun z => c_86064 (Int32.toInt_inj.mp (z.trans rfl)))); have j1 := (mt ((tk_k hK).2.2.2.2.1 45 (by decide)).mpr (show ¬ tk.toInt = 45 from fun z => c_86066 (Int32.toInt_inj.mp (z.trans rfl)))); have j2 := (((tk_k hK).2.2.2.2.1 42 (by decide)).mp (show tk.toInt = 42 from by rw [c_86068]; rfl)); omega)⟩))⟩⟩⟩, rfl, rfl⟩ dX12_betweenOf_76
        · have B_86067 : bn 45 45 tk := bn_w (bn_eq c_86066 (show bn 45 45 (45 : Int32) from bn_k (by decide))) (by decide)
          refine lv_bipush (v := 7) hx hb dX12_betweenOf_58 (by decide) ?_
          exact prI (post := fun r L1 f1 => ((bn (-1) 22 r ∧ BTW gp pd tk r ∧ ((r = -1 ∧ BTN k9 (tpP gp pd) (opvP gp pd) (cmkP gp pd)) ∨ (0 ≤ r.toInt ∧ BTK k9 (tpP gp pd) (opvP gp pd) (cmkP gp pd) r.toInt)))) ∧ L1 = L ∧ f1 = f) S Y rfl (by decide) (by decide) hA1 ⟨⟨bn_k (by decide), Or.inr ⟨(show ¬ tk = 0 from by rw [c_86066]; decide), Or.inl ⟨bn_k (by decide), (Or.inr (fun z9 => c_86062 (Int32.toInt_inj.mp ((show v_86061.toInt = (gp (pd.toInt.toNat - 1)).toInt from by rw [ev_86061, show (x_86060 : Int32).toNatClampNeg = pd.toInt.toNat - 1 from (by have z8 := (la_sub ex_86060 (rfl : pd.toInt = pd.toInt) (show (1 : Int32).toInt = 1 from rfl) B_86031 (show bn 1 1 (1 : Int32) from bn_k (by decide)) (by decide)); have z7 := (B_86031).1; rw [tnc]; omega)]).trans z9))))⟩⟩, Or.inr ⟨by decide, Or.inl ⟨(tp_n (Or.inr (fun z9 => c_86062 (Int32.toInt_inj.mp ((show v_86061.toInt = (gp (pd.toInt.toNat - 1)).toInt from by rw [ev_86061, show (x_86060 : Int32).toNatClampNeg = pd.toInt.toNat - 1 from (by have z8 := (la_sub ex_86060 (rfl : pd.toInt = pd.toInt) (show (1 : Int32).toInt = 1 from rfl) B_86031 (show bn 1 1 (1 : Int32) from bn_k (by decide)) (by decide)); have z7 := (B_86031).1; rw [tnc]; omega)]).trans z9))))), Or.inr (Or.inl ⟨rfl, (by have j0 := (mt ((tk_k hK).2.2.2.2.1 43 (by decide)).mpr (show ¬ tk.toInt = 43 from fun z => c_86064 (Int32.toInt_inj.mp (z.trans rfl)))); have j1 := (((tk_k hK).2.2.2.2.1 45 (by decide)).mp (show tk.toInt = 45 from by rw [c_86066]; rfl)); omega)⟩)⟩⟩⟩, rfl, rfl⟩ dX12_betweenOf_60
      · have B_86065 : bn 43 43 tk := bn_w (bn_eq c_86064 (show bn 43 43 (43 : Int32) from bn_k (by decide))) (by decide)
        refine lv_bipush (v := 6) hx hb dX12_betweenOf_42 (by decide) ?_
        exact prI (post := fun r L1 f1 => ((bn (-1) 22 r ∧ BTW gp pd tk r ∧ ((r = -1 ∧ BTN k9 (tpP gp pd) (opvP gp pd) (cmkP gp pd)) ∨ (0 ≤ r.toInt ∧ BTK k9 (tpP gp pd) (opvP gp pd) (cmkP gp pd) r.toInt)))) ∧ L1 = L ∧ f1 = f) S Y rfl (by decide) (by decide) hA1 ⟨⟨bn_k (by decide), Or.inr ⟨(show ¬ tk = 0 from by rw [c_86064]; decide), Or.inl ⟨bn_k (by decide), (Or.inr (fun z9 => c_86062 (Int32.toInt_inj.mp ((show v_86061.toInt = (gp (pd.toInt.toNat - 1)).toInt from by rw [ev_86061, show (x_86060 : Int32).toNatClampNeg = pd.toInt.toNat - 1 from (by have z8 := (la_sub ex_86060 (rfl : pd.toInt = pd.toInt) (show (1 : Int32).toInt = 1 from rfl) B_86031 (show bn 1 1 (1 : Int32) from bn_k (by decide)) (by decide)); have z7 := (B_86031).1; rw [tnc]; omega)]).trans z9))))⟩⟩, Or.inr ⟨by decide, Or.inl ⟨(tp_n (Or.inr (fun z9 => c_86062 (Int32.toInt_inj.mp ((show v_86061.toInt = (gp (pd.toInt.toNat - 1)).toInt from by rw [ev_86061, show (x_86060 : Int32).toNatClampNeg = pd.toInt.toNat - 1 from (by have z8 := (la_sub ex_86060 (rfl : pd.toInt = pd.toInt) (show (1 : Int32).toInt = 1 from rfl) B_86031 (show bn 1 1 (1 : Int32) from bn_k (by decide)) (by decide)); have z7 := (B_86031).1; rw [tnc]; omega)]).trans z9))))), Or.inl ⟨rfl, (by have j0 := (((tk_k hK).2.2.2.2.1 43 (by decide)).mp (show tk.toInt = 43 from by rw [c_86064]; rfl)); omega)⟩⟩⟩⟩, rfl, rfl⟩ dX12_betweenOf_44
    · have B_86063 : bn 16 16 v_86061 := bn_w (bn_eq c_86062 (show bn 16 16 (16 : Int32) from bn_k (by decide))) (by decide)
      refine lv_iconst (v := 1) hx hb dX12_betweenOf_23 (by decide) ?_
      refine lv_goto (tgt := 28) hx hb dX12_betweenOf_24 (by decide) ?_
      refine lv_istore_n (lv' := [(1, .int 1), (0, .ref (ad 0 0))]) hx hb dX12_betweenOf_28 rfl hl (by decide) rfl (fun ls hl => ?_)
      refine lv_iload_n hx hb dX12_betweenOf_29 rfl (lv_at hl 0 rfl) ?_
      refine lv_if_ne (tgt := 45) hx hb dX12_betweenOf_30 (by decide) (fun _ => ?_) (fun h => absurd h (by decide))
      refine lv_iload_n hx hb dX12_betweenOf_45 rfl (lv_at hl 0 rfl) ?_
      refine lv_if_ne (tgt := 61) hx hb dX12_betweenOf_46 (by decide) (fun _ => ?_) (fun h => absurd h (by decide))
      refine lv_iload_n hx hb dX12_betweenOf_61 rfl (lv_at hl 0 rfl) ?_
      refine lv_if_ne (tgt := 77) hx hb dX12_betweenOf_62 (by decide) (fun _ => ?_) (fun h => absurd h (by decide))
      refine lv_iload_n hx hb dX12_betweenOf_77 rfl (lv_at hl 0 rfl) ?_
      refine lv_if_ne (tgt := 93) hx hb dX12_betweenOf_78 (by decide) (fun _ => ?_) (fun h => absurd h (by decide))
      refine lv_aload_n hx hb dX12_betweenOf_93 rfl (lv_at hl 1 rfl) ?_
      refine cVp (As := []) (rest := []) S Y (x_X12_isAskHere (l := l) I p_ad_0_0 p_ad_5_0) cw_X12_isAskHere km12_162 p_ad_0_0 ok_X12.1 rfl rfl ⟨Nat.le_of_ble_eq_true rfl, Nat.le_of_ble_eq_true rfl⟩ hl.1 rfl (Nat.le_of_ble_eq_true rfl) ⟨Nat.le_of_ble_eq_true rfl, Nat.le_of_ble_eq_true rfl⟩ dX12_betweenOf_94 (fun r_86091 H locs er_86091 Y => ?_)
      refine lv_if_ne (tgt := 102) hx hb dX12_betweenOf_97 (by decide) (fun c_86092 => ?_) (fun c_86092 => ?_)
      · have B_86093 : bn 1 1 r_86091 := bn_w (bn_nel c_86092 er_86091.1 (show bn 0 0 (0 : Int32) from bn_k (by decide))) (by decide)
        refine lv_aload_n hx hb dX12_betweenOf_102 rfl (lv_at hl 1 rfl) ?_
        refine cVp (As := []) (rest := []) S Y (x_X12_isCompared (l := l) I p_ad_0_0 p_ad_5_0) cw_X12_isCompared km12_194 p_ad_0_0 ok_X12.1 rfl rfl ⟨Nat.le_of_ble_eq_true rfl, Nat.le_of_ble_eq_true rfl⟩ hl.1 rfl (Nat.le_of_ble_eq_true rfl) ⟨Nat.le_of_ble_eq_true rfl, Nat.le_of_ble_eq_true rfl⟩ dX12_betweenOf_103 (fun r_86095 H locs er_86095 Y => ?_)
        refine lv_if_ne (tgt := 114) hx hb dX12_betweenOf_106 (by decide) (fun c_86096 => ?_) (fun c_86096 => ?_)
        · have B_86097 : bn 1 1 r_86095 := bn_w (bn_nel c_86096 er_86095.1 (show bn 0 0 (0 : Int32) from bn_k (by decide))) (by decide)
          refine lv_aload_n hx hb dX12_betweenOf_114 rfl (lv_at hl 1 rfl) ?_
          refine lv_bipush (v := 97) hx hb dX12_betweenOf_115 (by decide) ?_
          refine lv_bipush (v := 110) hx hb dX12_betweenOf_117 (by decide) ?_
          refine lv_bipush (v := 100) hx hb dX12_betweenOf_119 (by decide) ?_
          refine cSlp (As := [.int 97, .int 110, .int 100]) (rest := [.ref (ad 0 0)]) S Y (x_X12_w3 (l := l) ) cw_X12_w3 km12_124 rfl ⟨Nat.le_of_ble_eq_true rfl, Nat.le_of_ble_eq_true rfl⟩ hl.1 rfl (Nat.le_of_ble_eq_true rfl) ⟨Nat.le_of_ble_eq_true rfl, Nat.le_of_ble_eq_true rfl⟩ dX12_betweenOf_121 (fun r_86099 H locs er_86099 Y => ?_)
          refine cVp (As := [.long r_86099]) (rest := []) S Y (x_X12_isWord (l := l) I p_ad_0_0) cw_X12_isWord km12_187 p_ad_0_0 ok_X12.1 rfl rfl ⟨Nat.le_of_ble_eq_true rfl, Nat.le_of_ble_eq_true rfl⟩ hl.1 rfl (Nat.le_of_ble_eq_true rfl) ⟨Nat.le_of_ble_eq_true rfl, Nat.le_of_ble_eq_true rfl⟩ dX12_betweenOf_124 (fun r_86100 H locs er_86100 Y => ?_)
          refine lv_if_eq (tgt := 135) hx hb dX12_betweenOf_127 (by decide) (fun c_86101 => ?_) (fun c_86101 => ?_)
          · have B_86102 : bn 0 0 r_86100 := bn_w (bn_eq c_86101 (show bn 0 0 (0 : Int32) from bn_k (by decide))) (by decide)
            refine lv_aload_n hx hb dX12_betweenOf_135 rfl (lv_at hl 1 rfl) ?_
            refine lv_bipush (v := 111) hx hb dX12_betweenOf_136 (by decide) ?_
            refine lv_bipush (v := 114) hx hb dX12_betweenOf_138 (by decide) ?_
            refine cSlp (As := [.int 111, .int 114]) (rest := [.ref (ad 0 0)]) S Y (x_X12_w2 (l := l) ) cw_X12_w2 km12_120 rfl ⟨Nat.le_of_ble_eq_true rfl, Nat.le_of_ble_eq_true rfl⟩ hl.1 rfl (Nat.le_of_ble_eq_true rfl) ⟨Nat.le_of_ble_eq_true rfl, Nat.le_of_ble_eq_true rfl⟩ dX12_betweenOf_140 (fun r_86104 H locs er_86104 Y => ?_)
            refine cVp (As := [.long r_86104]) (rest := []) S Y (x_X12_isWord (l := l) I p_ad_0_0) cw_X12_isWord km12_187 p_ad_0_0 ok_X12.1 rfl rfl ⟨Nat.le_of_ble_eq_true rfl, Nat.le_of_ble_eq_true rfl⟩ hl.1 rfl (Nat.le_of_ble_eq_true rfl) ⟨Nat.le_of_ble_eq_true rfl, Nat.le_of_ble_eq_true rfl⟩ dX12_betweenOf_143 (fun r_86105 H locs er_86105 Y => ?_)
            refine lv_if_eq (tgt := 154) hx hb dX12_betweenOf_146 (by decide) (fun c_86106 => ?_) (fun c_86106 => ?_)
            · have B_86107 : bn 0 0 r_86105 := bn_w (bn_eq c_86106 (show bn 0 0 (0 : Int32) from bn_k (by decide))) (by decide)
              refine lv_iconst (v := (-1)) hx hb dX12_betweenOf_154 (by decide) ?_
              exact prI (post := fun r L1 f1 => ((bn (-1) 22 r ∧ BTW gp pd tk r ∧ ((r = -1 ∧ BTN k9 (tpP gp pd) (opvP gp pd) (cmkP gp pd)) ∨ (0 ≤ r.toInt ∧ BTK k9 (tpP gp pd) (opvP gp pd) (cmkP gp pd) r.toInt)))) ∧ L1 = L ∧ f1 = f) S Y rfl (by decide) (by decide) hA1 ⟨⟨bn_k (by decide), Or.inl rfl, Or.inl ⟨rfl, (Or.inl (tp_y (B_86031).1 (by have z8 := (la_sub ex_86060 (rfl : pd.toInt = pd.toInt) (show (1 : Int32).toInt = 1 from rfl) B_86031 (show bn 1 1 (1 : Int32) from bn_k (by decide)) (by decide)); omega) ev_86061 c_86062)), (fun _ => ⟨fun q => (cm_tf q (cmk_t er_86095.2 c_86096)).elim, fun _ => ⟨(by have j0 := (mt (tk_w hK (show 28 < 31 from by decide) (show r_86099.toInt = pkR (wdj 28).reverse from by rw [er_86099]; decide +kernel)).mpr (cls_f er_86100.2.2 c_86101)); have j1 := (mt (tk_w hK (show 27 < 31 from by decide) (show r_86104.toInt = pkR (wdj 27).reverse from by rw [er_86104]; decide +kernel)).mpr (cls_f er_86105.2.2 c_86106)); omega), (by have j0 := (mt (tk_w hK (show 28 < 31 from by decide) (show r_86099.toInt = pkR (wdj 28).reverse from by rw [er_86099]; decide +kernel)).mpr (cls_f er_86100.2.2 c_86101)); have j1 := (mt (tk_w hK (show 27 < 31 from by decide) (show r_86104.toInt = pkR (wdj 27).reverse from by rw [er_86104]; decide +kernel)).mpr (cls_f er_86105.2.2 c_86106)); omega)⟩⟩)⟩⟩, rfl, rfl⟩ dX12_betweenOf_155
            · have B_86108 : bn 1 1 r_86105 := bn_w (bn_nel c_86106 er_86105.1 (show bn 0 0 (0 : Int32) from bn_k (by decide))) (by decide)
              refine lv_bipush (v := 22) hx hb dX12_betweenOf_149 (by decide) ?_
              refine lv_goto (tgt := 155) hx hb dX12_betweenOf_151 (by decide) ?_
              exact prI (post := fun r L1 f1 => ((bn (-1) 22 r ∧ BTW gp pd tk r ∧ ((r = -1 ∧ BTN k9 (tpP gp pd) (opvP gp pd) (cmkP gp pd)) ∨ (0 ≤ r.toInt ∧ BTK k9 (tpP gp pd) (opvP gp pd) (cmkP gp pd) r.toInt)))) ∧ L1 = L ∧ f1 = f) S Y rfl (by decide) (by decide) hA1 ⟨⟨bn_k (by decide), Or.inr ⟨(show ¬ tk = 0 from by rw [(isw_a er_86105).2 c_86106]; decide), Or.inr (Or.inr ⟨Or.inr rfl, (askd_t er_86091.2 c_86092), (cmk_t er_86095.2 c_86096)⟩)⟩, Or.inr ⟨by decide, Or.inr (Or.inr ⟨(askd_t er_86091.2 c_86092), (cmk_t er_86095.2 c_86096), Or.inr ⟨rfl, (by have j0 := (mt (tk_w hK (show 28 < 31 from by decide) (show r_86099.toInt = pkR (wdj 28).reverse from by rw [er_86099]; decide +kernel)).mpr (cls_f er_86100.2.2 c_86101)); have j1 := ((tk_w hK (show 27 < 31 from by decide) (show r_86104.toInt = pkR (wdj 27).reverse from by rw [er_86104]; decide +kernel)).mp (cls_t er_86105.2.2 c_86106)); omega)⟩⟩)⟩⟩, rfl, rfl⟩ dX12_betweenOf_155
          · have B_86103 : bn 1 1 r_86100 := bn_w (bn_nel c_86101 er_86100.1 (show bn 0 0 (0 : Int32) from bn_k (by decide))) (by decide)
            refine lv_bipush (v := 21) hx hb dX12_betweenOf_130 (by decide) ?_
            refine lv_goto (tgt := 155) hx hb dX12_betweenOf_132 (by decide) ?_
            exact prI (post := fun r L1 f1 => ((bn (-1) 22 r ∧ BTW gp pd tk r ∧ ((r = -1 ∧ BTN k9 (tpP gp pd) (opvP gp pd) (cmkP gp pd)) ∨ (0 ≤ r.toInt ∧ BTK k9 (tpP gp pd) (opvP gp pd) (cmkP gp pd) r.toInt)))) ∧ L1 = L ∧ f1 = f) S Y rfl (by decide) (by decide) hA1 ⟨⟨bn_k (by decide), Or.inr ⟨(show ¬ tk = 0 from by rw [(isw_a er_86100).2 c_86101]; decide), Or.inr (Or.inr ⟨Or.inl rfl, (askd_t er_86091.2 c_86092), (cmk_t er_86095.2 c_86096)⟩)⟩, Or.inr ⟨by decide, Or.inr (Or.inr ⟨(askd_t er_86091.2 c_86092), (cmk_t er_86095.2 c_86096), Or.inl ⟨rfl, (by have j0 := ((tk_w hK (show 28 < 31 from by decide) (show r_86099.toInt = pkR (wdj 28).reverse from by rw [er_86099]; decide +kernel)).mp (cls_t er_86100.2.2 c_86101)); omega)⟩⟩)⟩⟩, rfl, rfl⟩ dX12_betweenOf_155
        · have B_86098 : bn 0 0 r_86095 := bn_w (bn_eq c_86096 (show bn 0 0 (0 : Int32) from bn_k (by decide))) (by decide)
          refine lv_aload_n hx hb dX12_betweenOf_109 rfl (lv_at hl 1 rfl) ?_
          refine cVp (As := []) (rest := []) S Y (x_X12_compareOf (l := l) I p_ad_0_0 hK) cw_X12_compareOf km12_197 p_ad_0_0 ok_X12.1 rfl rfl ⟨Nat.le_of_ble_eq_true rfl, Nat.le_of_ble_eq_true rfl⟩ hl.1 rfl (Nat.le_of_ble_eq_true rfl) ⟨Nat.le_of_ble_eq_true rfl, Nat.le_of_ble_eq_true rfl⟩ dX12_betweenOf_110 (fun r_86109 H locs er_86109 Y => ?_)
          exact prI (post := fun r L1 f1 => ((bn (-1) 22 r ∧ BTW gp pd tk r ∧ ((r = -1 ∧ BTN k9 (tpP gp pd) (opvP gp pd) (cmkP gp pd)) ∨ (0 ≤ r.toInt ∧ BTK k9 (tpP gp pd) (opvP gp pd) (cmkP gp pd) r.toInt)))) ∧ L1 = L ∧ f1 = f) S Y rfl (by decide) (by decide) hA1 ⟨⟨bn_w (isw_a er_86109).1 (by decide), (by by_cases z : r_86109 = -1; exact Or.inl z; exact Or.inr ⟨((isw_a er_86109).2 z).1, Or.inr (Or.inl ⟨((isw_a er_86109).2 z).2, (askd_t er_86091.2 c_86092), (cmk_f er_86095.2 c_86096)⟩)⟩), (by rcases er_86109.2.2 with ⟨z, z2⟩ | ⟨z, z2⟩; exact Or.inl ⟨z, (Or.inl (tp_y (B_86031).1 (by have z8 := (la_sub ex_86060 (rfl : pd.toInt = pd.toInt) (show (1 : Int32).toInt = 1 from rfl) B_86031 (show bn 1 1 (1 : Int32) from bn_k (by decide)) (by decide)); omega) ev_86061 c_86062)), fun _ => ⟨fun _ => z2, fun q => (cm_tf (cmk_f er_86095.2 c_86096) q).elim⟩⟩; exact Or.inr ⟨(by have k9 := ((isw_a er_86109).2 z).2.1; omega), Or.inr (Or.inl ⟨(askd_t er_86091.2 c_86092), (cmk_f er_86095.2 c_86096), (((isw_a er_86109).2 z).2), z2⟩)⟩)⟩, rfl, rfl⟩ dX12_betweenOf_113
      · have B_86094 : bn 0 0 r_86091 := bn_w (bn_eq c_86092 (show bn 0 0 (0 : Int32) from bn_k (by decide))) (by decide)
        refine lv_iconst (v := (-1)) hx hb dX12_betweenOf_100 (by decide) ?_
        exact prI (post := fun r L1 f1 => ((bn (-1) 22 r ∧ BTW gp pd tk r ∧ ((r = -1 ∧ BTN k9 (tpP gp pd) (opvP gp pd) (cmkP gp pd)) ∨ (0 ≤ r.toInt ∧ BTK k9 (tpP gp pd) (opvP gp pd) (cmkP gp pd) r.toInt)))) ∧ L1 = L ∧ f1 = f) S Y rfl (by decide) (by decide) hA1 ⟨⟨bn_k (by decide), Or.inl rfl, Or.inl ⟨rfl, (Or.inl (tp_y (B_86031).1 (by have z8 := (la_sub ex_86060 (rfl : pd.toInt = pd.toInt) (show (1 : Int32).toInt = 1 from rfl) B_86031 (show bn 1 1 (1 : Int32) from bn_k (by decide)) (by decide)); omega) ev_86061 c_86062)), (fun z => absurd z (askd_no er_86091.2 c_86092))⟩⟩, rfl, rfl⟩ dX12_betweenOf_101
set_option maxHeartbeats 4000000 in
set_option maxRecDepth 100000 in
theorem x_X12_partOf {l : Launch} {G : GG}  {L : List Nat} {f : HF} {ad : Nat → Nat → Nat} {pa : (Nat → Int32) → Prop} {PA : (Nat → Int32) → Prop} {PI : PIT} {PX : (Nat → Int32) → Prop} {i1 : Int32} {td fa fp at9 ps9 tk nu t0 wr so pd op9 cg iw on9 is9 se : Int32} {wd : Int64} {gp : Nat → Int32} {W9 : List Int} {k9 v9 : Int} (I : SH (spM PA PI PX pa) nnM G ad L f) (p_ad_0_0 : pt L f (ad 0 0) (.inr (12, [.ref (ad 1 0), .ref (ad 2 0), .ref (ad 3 0), .ref (ad 4 0), .int td, .int fa, .int fp, .int at9, .int ps9, .int tk, .int nu, .long wd, .int t0, .int wr, .int so, .ref (ad 5 0), .ref (ad 6 0), .int pd, .int op9, .int cg, .int iw, .int on9, .ref (ad 7 0), .ref (ad 8 0), .ref (ad 9 0), .int is9, .ref (ad 10 0), .ref (ad 11 0), .ref (ad 12 0), .ref (ad 13 0), .int se, .ref (ad 14 0)]))) (p_ad_5_0 : pt L f (ad 5 0) (.inl (G.2 0, 160, .inl gp))) (hK : TKR W9 k9 v9 tk nu wd) : PMp l yX12_partOf cX12_partOf 2 .int 3 0 0 G [.ref (ad 0 0), .int i1] L f (fun r => (bn (-1) 44 r ∧ PRT gp pd tk i1 r ∧ ((r = -1 ∧ PRN k9 i1.toInt (cmkP gp pd)) ∨ PRY k9 i1.toInt (cmkP gp pd) r.toInt))) := by
  refine PMi.of (post := fun r L1 f1 => ((bn (-1) 44 r ∧ PRT gp pd tk i1 r ∧ ((r = -1 ∧ PRN k9 i1.toInt (cmkP gp pd)) ∨ PRY k9 i1.toInt (cmkP gp pd) r.toInt))) ∧ L1 = L ∧ f1 = f) (own := RX12) (by decide) rfl (Nat.le_of_ble_eq_true rfl) (fun sz p e s m args below meth c A ls hA1 hname S Y hl => ?_)
  have hx := S.hx
  have hb := S.hb
  have hl : lv_has ls 2 [(0, .ref (ad 0 0)), (1, .int i1)] := hl
  obtain ⟨bfe_4, bfe_5, bfe_6, bfe_7, bfe_8, bfe_12, bfe_13, bfe_17, bfe_18, bfe_19, bfe_20, bfe_25⟩ := obM I p_ad_0_0
  refine lv_iload_n hx hb dX12_partOf_0 rfl (lv_at hl 1 rfl) ?_
  rcases swM_40_44 i1 with h_86170 | h_86170 | h_86170 | h_86170 | h_86170 | h_86170
  · refine lv_fold (z := 40) h_86170 ?_
    refine lv_tableIn (off := 35) (tgt := 36) hx hb dX12_partOf_1 (by decide) (by decide) (by decide) (by decide) ?_
    refine lv_aload_n hx hb dX12_partOf_36 rfl (lv_at hl 0 rfl) ?_
    refine pg_get S Y ok_X12 9 (by decide) kf12_98 (v := .int tk) p_ad_0_0 rfl dX12_partOf_37 ?_
    refine lv_bipush (v := 41) hx hb dX12_partOf_40 (by decide) ?_
    refine lv_icmp_ne (tgt := 49) hx hb dX12_partOf_42 (by decide) (fun c_86171 => ?_) (fun c_86171 => ?_)
    · refine lv_iconst (v := (-1)) hx hb dX12_partOf_49 (by decide) ?_
      exact prI (post := fun r L1 f1 => ((bn (-1) 44 r ∧ PRT gp pd tk i1 r ∧ ((r = -1 ∧ PRN k9 i1.toInt (cmkP gp pd)) ∨ PRY k9 i1.toInt (cmkP gp pd) r.toInt))) ∧ L1 = L ∧ f1 = f) S Y rfl (by decide) (by decide) hA1 ⟨⟨bn_k (by decide), Or.inl rfl, Or.inl ⟨rfl, (by rw [h_86170]; exact PRN_40 (by have j0 := (mt ((tk_k hK).2.2.2.2.1 41 (by decide)).mpr (show ¬ tk.toInt = 41 from fun z => c_86171 (Int32.toInt_inj.mp (z.trans rfl)))); omega))⟩⟩, rfl, rfl⟩ dX12_partOf_50
    · have B_86172 : bn 41 41 tk := bn_w (bn_eq c_86171 (show bn 41 41 (41 : Int32) from bn_k (by decide))) (by decide)
      refine lv_iconst (v := 0) hx hb dX12_partOf_45 (by decide) ?_
      refine lv_goto (tgt := 50) hx hb dX12_partOf_46 (by decide) ?_
      exact prI (post := fun r L1 f1 => ((bn (-1) 44 r ∧ PRT gp pd tk i1 r ∧ ((r = -1 ∧ PRN k9 i1.toInt (cmkP gp pd)) ∨ PRY k9 i1.toInt (cmkP gp pd) r.toInt))) ∧ L1 = L ∧ f1 = f) S Y rfl (by decide) (by decide) hA1 ⟨⟨bn_k (by decide), Or.inr ⟨(show ¬ tk = 0 from by rw [c_86171]; decide), Or.inl ⟨rfl, Or.inl h_86170⟩⟩, Or.inr (Or.inl ⟨rfl, Or.inl ⟨(show i1.toInt = 40 from by rw [h_86170]; rfl), (by have j0 := (((tk_k hK).2.2.2.2.1 41 (by decide)).mp (show tk.toInt = 41 from by rw [c_86171]; rfl)); omega)⟩⟩)⟩, rfl, rfl⟩ dX12_partOf_50
  · refine lv_fold (z := 41) h_86170 ?_
    refine lv_tableIn (off := 50) (tgt := 51) hx hb dX12_partOf_1 (by decide) (by decide) (by decide) (by decide) ?_
    refine lv_aload_n hx hb dX12_partOf_51 rfl (lv_at hl 0 rfl) ?_
    refine lv_bipush (v := 116) hx hb dX12_partOf_52 (by decide) ?_
    refine lv_bipush (v := 104) hx hb dX12_partOf_54 (by decide) ?_
    refine lv_bipush (v := 101) hx hb dX12_partOf_56 (by decide) ?_
    refine lv_bipush (v := 110) hx hb dX12_partOf_58 (by decide) ?_
    refine cSlp (As := [.int 116, .int 104, .int 101, .int 110]) (rest := [.ref (ad 0 0)]) S Y (x_X12_w4 (l := l) ) cw_X12_w4 km12_128 rfl ⟨Nat.le_of_ble_eq_true rfl, Nat.le_of_ble_eq_true rfl⟩ hl.1 rfl (Nat.le_of_ble_eq_true rfl) ⟨Nat.le_of_ble_eq_true rfl, Nat.le_of_ble_eq_true rfl⟩ dX12_partOf_60 (fun r_86173 H locs er_86173 Y => ?_)
    refine cVp (As := [.long r_86173]) (rest := []) S Y (x_X12_isWord (l := l) I p_ad_0_0) cw_X12_isWord km12_187 p_ad_0_0 ok_X12.1 rfl rfl ⟨Nat.le_of_ble_eq_true rfl, Nat.le_of_ble_eq_true rfl⟩ hl.1 rfl (Nat.le_of_ble_eq_true rfl) ⟨Nat.le_of_ble_eq_true rfl, Nat.le_of_ble_eq_true rfl⟩ dX12_partOf_63 (fun r_86174 H locs er_86174 Y => ?_)
    refine lv_if_eq (tgt := 81) hx hb dX12_partOf_66 (by decide) (fun c_86175 => ?_) (fun c_86175 => ?_)
    · have B_86176 : bn 0 0 r_86174 := bn_w (bn_eq c_86175 (show bn 0 0 (0 : Int32) from bn_k (by decide))) (by decide)
      refine lv_iconst (v := (-1)) hx hb dX12_partOf_81 (by decide) ?_
      exact prI (post := fun r L1 f1 => ((bn (-1) 44 r ∧ PRT gp pd tk i1 r ∧ ((r = -1 ∧ PRN k9 i1.toInt (cmkP gp pd)) ∨ PRY k9 i1.toInt (cmkP gp pd) r.toInt))) ∧ L1 = L ∧ f1 = f) S Y rfl (by decide) (by decide) hA1 ⟨⟨bn_k (by decide), Or.inl rfl, Or.inl ⟨rfl, (by rw [h_86170]; exact PRN_41 (fun z => absurd z.1 (by have j0 := (mt (tk_w hK (show 24 < 31 from by decide) (show r_86173.toInt = pkR (wdj 24).reverse from by rw [er_86173]; decide +kernel)).mpr (cls_f er_86174.2.2 c_86175)); omega)))⟩⟩, rfl, rfl⟩ dX12_partOf_82
    · have B_86177 : bn 1 1 r_86174 := bn_w (bn_nel c_86175 er_86174.1 (show bn 0 0 (0 : Int32) from bn_k (by decide))) (by decide)
      refine lv_aload_n hx hb dX12_partOf_69 rfl (lv_at hl 0 rfl) ?_
      refine cVp (As := []) (rest := []) S Y (x_X12_isCompared (l := l) I p_ad_0_0 p_ad_5_0) cw_X12_isCompared km12_194 p_ad_0_0 ok_X12.1 rfl rfl ⟨Nat.le_of_ble_eq_true rfl, Nat.le_of_ble_eq_true rfl⟩ hl.1 rfl (Nat.le_of_ble_eq_true rfl) ⟨Nat.le_of_ble_eq_true rfl, Nat.le_of_ble_eq_true rfl⟩ dX12_partOf_70 (fun r_86178 H locs er_86178 Y => ?_)
      refine lv_if_eq (tgt := 81) hx hb dX12_partOf_73 (by decide) (fun c_86179 => ?_) (fun c_86179 => ?_)
      · have B_86180 : bn 0 0 r_86178 := bn_w (bn_eq c_86179 (show bn 0 0 (0 : Int32) from bn_k (by decide))) (by decide)
        refine lv_iconst (v := (-1)) hx hb dX12_partOf_81 (by decide) ?_
        exact prI (post := fun r L1 f1 => ((bn (-1) 44 r ∧ PRT gp pd tk i1 r ∧ ((r = -1 ∧ PRN k9 i1.toInt (cmkP gp pd)) ∨ PRY k9 i1.toInt (cmkP gp pd) r.toInt))) ∧ L1 = L ∧ f1 = f) S Y rfl (by decide) (by decide) hA1 ⟨⟨bn_k (by decide), Or.inl rfl, Or.inl ⟨rfl, (by rw [h_86170]; exact PRN_41 (fun z => cm_tf (cmk_f er_86178.2 c_86179) z.2))⟩⟩, rfl, rfl⟩ dX12_partOf_82
      · have B_86181 : bn 1 1 r_86178 := bn_w (bn_nel c_86179 er_86178.1 (show bn 0 0 (0 : Int32) from bn_k (by decide))) (by decide)
        refine lv_bipush (v := 42) hx hb dX12_partOf_76 (by decide) ?_
        refine lv_goto (tgt := 82) hx hb dX12_partOf_78 (by decide) ?_
        exact prI (post := fun r L1 f1 => ((bn (-1) 44 r ∧ PRT gp pd tk i1 r ∧ ((r = -1 ∧ PRN k9 i1.toInt (cmkP gp pd)) ∨ PRY k9 i1.toInt (cmkP gp pd) r.toInt))) ∧ L1 = L ∧ f1 = f) S Y rfl (by decide) (by decide) hA1 ⟨⟨bn_k (by decide), Or.inr ⟨(show ¬ tk = 0 from by rw [(isw_a er_86174).2 c_86175]; decide), Or.inr (Or.inl ⟨rfl, h_86170, (cmk_t er_86178.2 c_86179)⟩)⟩, Or.inr (Or.inr (Or.inl ⟨rfl, (show i1.toInt = 41 from by rw [h_86170]; rfl), (cmk_t er_86178.2 c_86179), (by have j0 := ((tk_w hK (show 24 < 31 from by decide) (show r_86173.toInt = pkR (wdj 24).reverse from by rw [er_86173]; decide +kernel)).mp (cls_t er_86174.2.2 c_86175)); omega)⟩))⟩, rfl, rfl⟩ dX12_partOf_82
  · refine lv_fold (z := 42) h_86170 ?_
    refine lv_tableIn (off := 82) (tgt := 83) hx hb dX12_partOf_1 (by decide) (by decide) (by decide) (by decide) ?_
    refine lv_aload_n hx hb dX12_partOf_83 rfl (lv_at hl 0 rfl) ?_
    refine lv_bipush (v := 101) hx hb dX12_partOf_84 (by decide) ?_
    refine lv_bipush (v := 108) hx hb dX12_partOf_86 (by decide) ?_
    refine lv_bipush (v := 115) hx hb dX12_partOf_88 (by decide) ?_
    refine lv_bipush (v := 101) hx hb dX12_partOf_90 (by decide) ?_
    refine cSlp (As := [.int 101, .int 108, .int 115, .int 101]) (rest := [.ref (ad 0 0)]) S Y (x_X12_w4 (l := l) ) cw_X12_w4 km12_128 rfl ⟨Nat.le_of_ble_eq_true rfl, Nat.le_of_ble_eq_true rfl⟩ hl.1 rfl (Nat.le_of_ble_eq_true rfl) ⟨Nat.le_of_ble_eq_true rfl, Nat.le_of_ble_eq_true rfl⟩ dX12_partOf_92 (fun r_86182 H locs er_86182 Y => ?_)
    refine cVp (As := [.long r_86182]) (rest := []) S Y (x_X12_isWord (l := l) I p_ad_0_0) cw_X12_isWord km12_187 p_ad_0_0 ok_X12.1 rfl rfl ⟨Nat.le_of_ble_eq_true rfl, Nat.le_of_ble_eq_true rfl⟩ hl.1 rfl (Nat.le_of_ble_eq_true rfl) ⟨Nat.le_of_ble_eq_true rfl, Nat.le_of_ble_eq_true rfl⟩ dX12_partOf_95 (fun r_86183 H locs er_86183 Y => ?_)
    refine lv_if_eq (tgt := 106) hx hb dX12_partOf_98 (by decide) (fun c_86184 => ?_) (fun c_86184 => ?_)
    · have B_86185 : bn 0 0 r_86183 := bn_w (bn_eq c_86184 (show bn 0 0 (0 : Int32) from bn_k (by decide))) (by decide)
      refine lv_iconst (v := (-1)) hx hb dX12_partOf_106 (by decide) ?_
      exact prI (post := fun r L1 f1 => ((bn (-1) 44 r ∧ PRT gp pd tk i1 r ∧ ((r = -1 ∧ PRN k9 i1.toInt (cmkP gp pd)) ∨ PRY k9 i1.toInt (cmkP gp pd) r.toInt))) ∧ L1 = L ∧ f1 = f) S Y rfl (by decide) (by decide) hA1 ⟨⟨bn_k (by decide), Or.inl rfl, Or.inl ⟨rfl, (by rw [h_86170]; exact PRN_42 (by have j0 := (mt (tk_w hK (show 25 < 31 from by decide) (show r_86182.toInt = pkR (wdj 25).reverse from by rw [er_86182]; decide +kernel)).mpr (cls_f er_86183.2.2 c_86184)); omega))⟩⟩, rfl, rfl⟩ dX12_partOf_107
    · have B_86186 : bn 1 1 r_86183 := bn_w (bn_nel c_86184 er_86183.1 (show bn 0 0 (0 : Int32) from bn_k (by decide))) (by decide)
      refine lv_bipush (v := 43) hx hb dX12_partOf_101 (by decide) ?_
      refine lv_goto (tgt := 107) hx hb dX12_partOf_103 (by decide) ?_
      exact prI (post := fun r L1 f1 => ((bn (-1) 44 r ∧ PRT gp pd tk i1 r ∧ ((r = -1 ∧ PRN k9 i1.toInt (cmkP gp pd)) ∨ PRY k9 i1.toInt (cmkP gp pd) r.toInt))) ∧ L1 = L ∧ f1 = f) S Y rfl (by decide) (by decide) hA1 ⟨⟨bn_k (by decide), Or.inr ⟨(show ¬ tk = 0 from by rw [(isw_a er_86183).2 c_86184]; decide), Or.inr (Or.inr (Or.inl ⟨rfl, h_86170⟩))⟩, Or.inr (Or.inr (Or.inr (Or.inl ⟨rfl, (show i1.toInt = 42 from by rw [h_86170]; rfl), (by have j0 := ((tk_w hK (show 25 < 31 from by decide) (show r_86182.toInt = pkR (wdj 25).reverse from by rw [er_86182]; decide +kernel)).mp (cls_t er_86183.2.2 c_86184)); omega)⟩)))⟩, rfl, rfl⟩ dX12_partOf_107
  · refine lv_fold (z := 43) h_86170 ?_
    refine lv_tableIn (off := 107) (tgt := 108) hx hb dX12_partOf_1 (by decide) (by decide) (by decide) (by decide) ?_
    refine lv_aload_n hx hb dX12_partOf_108 rfl (lv_at hl 0 rfl) ?_
    refine lv_bipush (v := 101) hx hb dX12_partOf_109 (by decide) ?_
    refine lv_bipush (v := 110) hx hb dX12_partOf_111 (by decide) ?_
    refine lv_bipush (v := 100) hx hb dX12_partOf_113 (by decide) ?_
    refine cSlp (As := [.int 101, .int 110, .int 100]) (rest := [.ref (ad 0 0)]) S Y (x_X12_w3 (l := l) ) cw_X12_w3 km12_124 rfl ⟨Nat.le_of_ble_eq_true rfl, Nat.le_of_ble_eq_true rfl⟩ hl.1 rfl (Nat.le_of_ble_eq_true rfl) ⟨Nat.le_of_ble_eq_true rfl, Nat.le_of_ble_eq_true rfl⟩ dX12_partOf_115 (fun r_86187 H locs er_86187 Y => ?_)
    refine cVp (As := [.long r_86187]) (rest := []) S Y (x_X12_isWord (l := l) I p_ad_0_0) cw_X12_isWord km12_187 p_ad_0_0 ok_X12.1 rfl rfl ⟨Nat.le_of_ble_eq_true rfl, Nat.le_of_ble_eq_true rfl⟩ hl.1 rfl (Nat.le_of_ble_eq_true rfl) ⟨Nat.le_of_ble_eq_true rfl, Nat.le_of_ble_eq_true rfl⟩ dX12_partOf_118 (fun r_86188 H locs er_86188 Y => ?_)
    refine lv_if_eq (tgt := 128) hx hb dX12_partOf_121 (by decide) (fun c_86189 => ?_) (fun c_86189 => ?_)
    · have B_86190 : bn 0 0 r_86188 := bn_w (bn_eq c_86189 (show bn 0 0 (0 : Int32) from bn_k (by decide))) (by decide)
      refine lv_iconst (v := (-1)) hx hb dX12_partOf_128 (by decide) ?_
      exact prI (post := fun r L1 f1 => ((bn (-1) 44 r ∧ PRT gp pd tk i1 r ∧ ((r = -1 ∧ PRN k9 i1.toInt (cmkP gp pd)) ∨ PRY k9 i1.toInt (cmkP gp pd) r.toInt))) ∧ L1 = L ∧ f1 = f) S Y rfl (by decide) (by decide) hA1 ⟨⟨bn_k (by decide), Or.inl rfl, Or.inl ⟨rfl, (by rw [h_86170]; exact PRN_43 (by have j0 := (mt (tk_w hK (show 26 < 31 from by decide) (show r_86187.toInt = pkR (wdj 26).reverse from by rw [er_86187]; decide +kernel)).mpr (cls_f er_86188.2.2 c_86189)); omega))⟩⟩, rfl, rfl⟩ dX12_partOf_129
    · have B_86191 : bn 1 1 r_86188 := bn_w (bn_nel c_86189 er_86188.1 (show bn 0 0 (0 : Int32) from bn_k (by decide))) (by decide)
      refine lv_iconst (v := 0) hx hb dX12_partOf_124 (by decide) ?_
      refine lv_goto (tgt := 129) hx hb dX12_partOf_125 (by decide) ?_
      exact prI (post := fun r L1 f1 => ((bn (-1) 44 r ∧ PRT gp pd tk i1 r ∧ ((r = -1 ∧ PRN k9 i1.toInt (cmkP gp pd)) ∨ PRY k9 i1.toInt (cmkP gp pd) r.toInt))) ∧ L1 = L ∧ f1 = f) S Y rfl (by decide) (by decide) hA1 ⟨⟨bn_k (by decide), Or.inr ⟨(show ¬ tk = 0 from by rw [(isw_a er_86188).2 c_86189]; decide), Or.inl ⟨rfl, Or.inr (Or.inl h_86170)⟩⟩, Or.inr (Or.inl ⟨rfl, Or.inr (Or.inl ⟨(show i1.toInt = 43 from by rw [h_86170]; rfl), (by have j0 := ((tk_w hK (show 26 < 31 from by decide) (show r_86187.toInt = pkR (wdj 26).reverse from by rw [er_86187]; decide +kernel)).mp (cls_t er_86188.2.2 c_86189)); omega)⟩)⟩)⟩, rfl, rfl⟩ dX12_partOf_129
  · refine lv_fold (z := 44) h_86170 ?_
    refine lv_tableIn (off := 129) (tgt := 130) hx hb dX12_partOf_1 (by decide) (by decide) (by decide) (by decide) ?_
    refine lv_aload_n hx hb dX12_partOf_130 rfl (lv_at hl 0 rfl) ?_
    refine cVp (As := []) (rest := []) S Y (x_X12_isCompared (l := l) I p_ad_0_0 p_ad_5_0) cw_X12_isCompared km12_194 p_ad_0_0 ok_X12.1 rfl rfl ⟨Nat.le_of_ble_eq_true rfl, Nat.le_of_ble_eq_true rfl⟩ hl.1 rfl (Nat.le_of_ble_eq_true rfl) ⟨Nat.le_of_ble_eq_true rfl, Nat.le_of_ble_eq_true rfl⟩ dX12_partOf_131 (fun r_86192 H locs er_86192 Y => ?_)
    refine lv_if_ne (tgt := 141) hx hb dX12_partOf_134 (by decide) (fun c_86193 => ?_) (fun c_86193 => ?_)
    · have B_86194 : bn 1 1 r_86192 := bn_w (bn_nel c_86193 er_86192.1 (show bn 0 0 (0 : Int32) from bn_k (by decide))) (by decide)
      refine lv_aload_n hx hb dX12_partOf_141 rfl (lv_at hl 0 rfl) ?_
      refine pg_get S Y ok_X12 9 (by decide) kf12_98 (v := .int tk) p_ad_0_0 rfl dX12_partOf_142 ?_
      refine lv_bipush (v := 44) hx hb dX12_partOf_145 (by decide) ?_
      refine lv_icmp_ne (tgt := 155) hx hb dX12_partOf_147 (by decide) (fun c_86196 => ?_) (fun c_86196 => ?_)
      · refine lv_aload_n hx hb dX12_partOf_155 rfl (lv_at hl 0 rfl) ?_
        refine pg_get S Y ok_X12 9 (by decide) kf12_98 (v := .int tk) p_ad_0_0 rfl dX12_partOf_156 ?_
        refine lv_bipush (v := 41) hx hb dX12_partOf_159 (by decide) ?_
        refine lv_icmp_ne (tgt := 168) hx hb dX12_partOf_161 (by decide) (fun c_86198 => ?_) (fun c_86198 => ?_)
        · refine lv_iconst (v := (-1)) hx hb dX12_partOf_168 (by decide) ?_
          exact prI (post := fun r L1 f1 => ((bn (-1) 44 r ∧ PRT gp pd tk i1 r ∧ ((r = -1 ∧ PRN k9 i1.toInt (cmkP gp pd)) ∨ PRY k9 i1.toInt (cmkP gp pd) r.toInt))) ∧ L1 = L ∧ f1 = f) S Y rfl (by decide) (by decide) hA1 ⟨⟨bn_k (by decide), Or.inl rfl, Or.inl ⟨rfl, (by rw [h_86170]; exact PRN_44 (fun _ => ⟨(by have j0 := (mt ((tk_k hK).2.2.2.2.1 44 (by decide)).mpr (show ¬ tk.toInt = 44 from fun z => c_86196 (Int32.toInt_inj.mp (z.trans rfl)))); have j1 := (mt ((tk_k hK).2.2.2.2.1 41 (by decide)).mpr (show ¬ tk.toInt = 41 from fun z => c_86198 (Int32.toInt_inj.mp (z.trans rfl)))); omega), (by have j0 := (mt ((tk_k hK).2.2.2.2.1 44 (by decide)).mpr (show ¬ tk.toInt = 44 from fun z => c_86196 (Int32.toInt_inj.mp (z.trans rfl)))); have j1 := (mt ((tk_k hK).2.2.2.2.1 41 (by decide)).mpr (show ¬ tk.toInt = 41 from fun z => c_86198 (Int32.toInt_inj.mp (z.trans rfl)))); omega)⟩))⟩⟩, rfl, rfl⟩ dX12_partOf_169
        · have B_86199 : bn 41 41 tk := bn_w (bn_eq c_86198 (show bn 41 41 (41 : Int32) from bn_k (by decide))) (by decide)
          refine lv_iconst (v := 0) hx hb dX12_partOf_164 (by decide) ?_
          refine lv_goto (tgt := 169) hx hb dX12_partOf_165 (by decide) ?_
          exact prI (post := fun r L1 f1 => ((bn (-1) 44 r ∧ PRT gp pd tk i1 r ∧ ((r = -1 ∧ PRN k9 i1.toInt (cmkP gp pd)) ∨ PRY k9 i1.toInt (cmkP gp pd) r.toInt))) ∧ L1 = L ∧ f1 = f) S Y rfl (by decide) (by decide) hA1 ⟨⟨bn_k (by decide), Or.inr ⟨(show ¬ tk = 0 from by rw [c_86198]; decide), Or.inl ⟨rfl, Or.inr (Or.inr ⟨h_86170, (cmk_t er_86192.2 c_86193)⟩)⟩⟩, Or.inr (Or.inl ⟨rfl, Or.inr (Or.inr ⟨(show i1.toInt = 44 from by rw [h_86170]; rfl), (cmk_t er_86192.2 c_86193), (by have j0 := (mt ((tk_k hK).2.2.2.2.1 44 (by decide)).mpr (show ¬ tk.toInt = 44 from fun z => c_86196 (Int32.toInt_inj.mp (z.trans rfl)))); have j1 := (((tk_k hK).2.2.2.2.1 41 (by decide)).mp (show tk.toInt = 41 from by rw [c_86198]; rfl)); omega)⟩)⟩)⟩, rfl, rfl⟩ dX12_partOf_169
      · have B_86197 : bn 44 44 tk := bn_w (bn_eq c_86196 (show bn 44 44 (44 : Int32) from bn_k (by decide))) (by decide)
        refine lv_bipush (v := 44) hx hb dX12_partOf_150 (by decide) ?_
        refine lv_goto (tgt := 169) hx hb dX12_partOf_152 (by decide) ?_
        exact prI (post := fun r L1 f1 => ((bn (-1) 44 r ∧ PRT gp pd tk i1 r ∧ ((r = -1 ∧ PRN k9 i1.toInt (cmkP gp pd)) ∨ PRY k9 i1.toInt (cmkP gp pd) r.toInt))) ∧ L1 = L ∧ f1 = f) S Y rfl (by decide) (by decide) hA1 ⟨⟨bn_k (by decide), Or.inr ⟨(show ¬ tk = 0 from by rw [c_86196]; decide), Or.inr (Or.inr (Or.inr ⟨rfl, h_86170, (cmk_t er_86192.2 c_86193)⟩))⟩, Or.inr (Or.inr (Or.inr (Or.inr ⟨rfl, (show i1.toInt = 44 from by rw [h_86170]; rfl), (cmk_t er_86192.2 c_86193), (by have j0 := (((tk_k hK).2.2.2.2.1 44 (by decide)).mp (show tk.toInt = 44 from by rw [c_86196]; rfl)); omega)⟩)))⟩, rfl, rfl⟩ dX12_partOf_169
    · have B_86195 : bn 0 0 r_86192 := bn_w (bn_eq c_86193 (show bn 0 0 (0 : Int32) from bn_k (by decide))) (by decide)
      refine lv_iconst (v := (-1)) hx hb dX12_partOf_137 (by decide) ?_
      refine lv_goto (tgt := 169) hx hb dX12_partOf_138 (by decide) ?_
      exact prI (post := fun r L1 f1 => ((bn (-1) 44 r ∧ PRT gp pd tk i1 r ∧ ((r = -1 ∧ PRN k9 i1.toInt (cmkP gp pd)) ∨ PRY k9 i1.toInt (cmkP gp pd) r.toInt))) ∧ L1 = L ∧ f1 = f) S Y rfl (by decide) (by decide) hA1 ⟨⟨bn_k (by decide), Or.inl rfl, Or.inl ⟨rfl, (by rw [h_86170]; exact PRN_44 (fun q => (cm_tf (cmk_f er_86192.2 c_86193) q).elim))⟩⟩, rfl, rfl⟩ dX12_partOf_169
  · refine lv_tableOut (tgt := 170) hx hb dX12_partOf_1 h_86170 (by decide) ?_
    refine lv_iconst (v := (-1)) hx hb dX12_partOf_170 (by decide) ?_
    exact prI (post := fun r L1 f1 => ((bn (-1) 44 r ∧ PRT gp pd tk i1 r ∧ ((r = -1 ∧ PRN k9 i1.toInt (cmkP gp pd)) ∨ PRY k9 i1.toInt (cmkP gp pd) r.toInt))) ∧ L1 = L ∧ f1 = f) S Y rfl (by decide) (by decide) hA1 ⟨⟨bn_k (by decide), Or.inl rfl, Or.inl ⟨rfl, PRN_o (by have k9 := h_86170; omega)⟩⟩, rfl, rfl⟩ dX12_partOf_171
section PLR
variable {gp g gc gc2 : Nat → Int32} {pd x ov cg cg2 : Int32}
theorem pls_rep (eg : g = upd gp x.toNatClampNeg ov) (ex : x.toInt = pd.toInt - 1) (hp : 1 ≤ pd.toInt) : pls (fun j => (g j).toInt) pd.toInt.toNat = ov.toInt :: pls (fun j => (gp j).toInt) (pd.toInt.toNat - 1) := by
  have e : x.toNatClampNeg = pd.toInt.toNat - 1 := by rw [tnc]; omega
  rw [show pd.toInt.toNat = (pd.toInt.toNat - 1) + 1 by omega]
  show (g (pd.toInt.toNat - 1)).toInt :: _ = _
  rw [pls_ext (g := fun j => (gp j).toInt) (g2 := fun j => (g j).toInt) (pd.toInt.toNat - 1) (fun k hk => by rw [eg, pk_un (by rw [e]; omega)]), eg, e, pk_us, show pd.toInt.toNat - 1 + 1 - 1 = pd.toInt.toNat - 1 by omega]
theorem gc_new (eg : gc2 = upd gc x.toNatClampNeg ov) (ex : x.toInt = cg.toInt) (h0 : 0 ≤ cg.toInt) : (gc2 cg.toInt.toNat).toInt = ov.toInt ∧ ∀ k, k < cg.toInt.toNat → (gc2 k).toInt = (gc k).toInt := by
  have e : x.toNatClampNeg = cg.toInt.toNat := by rw [tnc]; omega
  refine ⟨by rw [eg, e, pk_us], fun k hk => by rw [eg, pk_un (by rw [e]; omega)]⟩
end PLR
set_option maxHeartbeats 4000000 in
set_option maxRecDepth 100000 in
theorem x_X12_opened {l : Launch} {G : GG}  {L : List Nat} {f : HF} {ad : Nat → Nat → Nat} {pa : (Nat → Int32) → Prop} {PA : (Nat → Int32) → Prop} {PI : PIT} {i1 : Int32} {td fa fp at9 ps9 tk nu t0 wr so pd op9 cg iw on9 is9 se : Int32} {wd : Int64} {gt gp gc : Nat → Int32} {gB : Nat → Int32} {fr : Nat} {opn : Int} {cmp : Bool} {i9 : Nat} {bL : Bool} {S9 : List LI} {rr : Int × Nat} (I : SH (spM PA PI (XV gB fr gp gc opn cmp t0 wr pd op9 cg false) pa) nnM G ad L f) (p_ad_0_0 : pt L f (ad 0 0) (.inr (12, [.ref (ad 1 0), .ref (ad 2 0), .ref (ad 3 0), .ref (ad 4 0), .int td, .int fa, .int fp, .int at9, .int ps9, .int tk, .int nu, .long wd, .int t0, .int wr, .int so, .ref (ad 5 0), .ref (ad 6 0), .int pd, .int op9, .int cg, .int iw, .int on9, .ref (ad 7 0), .ref (ad 8 0), .ref (ad 9 0), .int is9, .ref (ad 10 0), .ref (ad 11 0), .ref (ad 12 0), .ref (ad 13 0), .int se, .ref (ad 14 0)]))) (p_ad_4_0 : pt L f (ad 4 0) (.inl (G.2 0, 300, .inl gt))) (p_ad_5_0 : pt L f (ad 5 0) (.inl (G.2 0, 160, .inl gp))) (p_ad_6_0 : pt L f (ad 6 0) (.inl (G.2 0, 9, .inl gc))) (ho : OPH i1 opn gp pd) (hiw : iw = 0) (hroom : wr.toInt + pd.toInt ≤ ps9.toInt) (hT : TK at9 ps9 tk) (htk : ¬ tk = 0) (hB : BYT gt) (hTN : TKN (bI gt) td.toInt.toNat i9 at9 ps9 tk nu wd) (hO3 : op9.toInt = 8 → rr = (3, i9)) (hO0 : ¬ op9.toInt = 8 → ¬ i1.toInt = 44 → Bg (tkK (bI gt) td.toInt.toNat) (tkV (bI gt) td.toInt.toNat) bL (fun j => (gc j).toInt) (i1.toInt :: (pls (fun j => (gp j).toInt) pd.toInt.toNat)) cg.toInt.toNat S9 (i9 + 1) rr) (hOJ : ¬ op9.toInt = 8 → i1.toInt = 44 → ((tkK (bI gt) td.toInt.toNat) (i9 + 1) ≠ 40 ∧ rr = (1, i9 + 1)) ∨ ((tkK (bI gt) td.toInt.toNat) (i9 + 1) = 40 ∧ ∀ cn2 : Nat → Int, cn2 (cg.toInt.toNat) = 1 → (∀ k, k < cg.toInt.toNat → cn2 k = (fun j => (gc j).toInt) k) → Bg (tkK (bI gt) td.toInt.toNat) (tkV (bI gt) td.toInt.toNat) bL cn2 (44 :: (pls (fun j => (gp j).toInt) pd.toInt.toNat)) (cg.toInt.toNat + 1) S9 (i9 + 2) rr)) : PMi l yX12_opened cX12_opened 2 .int 2 0 0 G [.ref (ad 0 0), .int i1] L f (fun r L1 f1 => ∃ at92 : Int32, ∃ ps92 : Int32, ∃ tk2 : Int32, ∃ nu2 : Int32, ∃ wd2 : Int64, ∃ pd2 : Int32, ∃ op92 : Int32, ∃ cg2 : Int32, ∃ gp2 : Nat → Int32, ∃ gc2 : Nat → Int32, bn 0 3 r ∧ SH (spM PA PI (XR r gB fr gp2 gc2 t0 wr pd2 op92 cg2 iw) pa) nnM G ad L1 f1 ∧ pt L1 f1 (ad 0 0) (.inr (12, [.ref (ad 1 0), .ref (ad 2 0), .ref (ad 3 0), .ref (ad 4 0), .int td, .int fa, .int fp, .int at92, .int ps92, .int tk2, .int nu2, .long wd2, .int t0, .int wr, .int so, .ref (ad 5 0), .ref (ad 6 0), .int pd2, .int op92, .int cg2, .int iw, .int on9, .ref (ad 7 0), .ref (ad 8 0), .ref (ad 9 0), .int is9, .ref (ad 10 0), .ref (ad 11 0), .ref (ad 12 0), .ref (ad 13 0), .int se, .ref (ad 14 0)])) ∧ pt L1 f1 (ad 4 0) (.inl (G.2 0, 300, .inl gt)) ∧ pt L1 f1 (ad 5 0) (.inl (G.2 0, 160, .inl gp2)) ∧ pt L1 f1 (ad 6 0) (.inl (G.2 0, 9, .inl gc2)) ∧ TK at92 ps92 tk2 ∧ (r.toInt = 0 → ps9.toInt + 1 ≤ ps92.toInt) ∧ (r.toInt ≤ 0 → wr.toInt + pd2.toInt ≤ ps92.toInt) ∧ NXT (bI gt) td.toInt.toNat bL gp2 gc2 pd2 cg2 iw at92 ps92 tk2 nu2 wd2 S9 rr r.toInt) := by
  refine PMi.of (post := fun r L1 f1 => ∃ at92 : Int32, ∃ ps92 : Int32, ∃ tk2 : Int32, ∃ nu2 : Int32, ∃ wd2 : Int64, ∃ pd2 : Int32, ∃ op92 : Int32, ∃ cg2 : Int32, ∃ gp2 : Nat → Int32, ∃ gc2 : Nat → Int32, bn 0 3 r ∧ SH (spM PA PI (XR r gB fr gp2 gc2 t0 wr pd2 op92 cg2 iw) pa) nnM G ad L1 f1 ∧ pt L1 f1 (ad 0 0) (.inr (12, [.ref (ad 1 0), .ref (ad 2 0), .ref (ad 3 0), .ref (ad 4 0), .int td, .int fa, .int fp, .int at92, .int ps92, .int tk2, .int nu2, .long wd2, .int t0, .int wr, .int so, .ref (ad 5 0), .ref (ad 6 0), .int pd2, .int op92, .int cg2, .int iw, .int on9, .ref (ad 7 0), .ref (ad 8 0), .ref (ad 9 0), .int is9, .ref (ad 10 0), .ref (ad 11 0), .ref (ad 12 0), .ref (ad 13 0), .int se, .ref (ad 14 0)])) ∧ pt L1 f1 (ad 4 0) (.inl (G.2 0, 300, .inl gt)) ∧ pt L1 f1 (ad 5 0) (.inl (G.2 0, 160, .inl gp2)) ∧ pt L1 f1 (ad 6 0) (.inl (G.2 0, 9, .inl gc2)) ∧ TK at92 ps92 tk2 ∧ (r.toInt = 0 → ps9.toInt + 1 ≤ ps92.toInt) ∧ (r.toInt ≤ 0 → wr.toInt + pd2.toInt ≤ ps92.toInt) ∧ NXT (bI gt) td.toInt.toNat bL gp2 gc2 pd2 cg2 iw at92 ps92 tk2 nu2 wd2 S9 rr r.toInt) (own := RX12) (by decide) rfl (Nat.le_of_ble_eq_true rfl) (fun sz p e s m args below meth c A ls hA1 hname S Y hl => ?_)
  have hx := S.hx
  have hb := S.hb
  have hl : lv_has ls 2 [(0, .ref (ad 0 0)), (1, .int i1)] := hl
  obtain ⟨bfe_4, bfe_5, bfe_6, bfe_7, bfe_8, bfe_12, bfe_13, bfe_17, bfe_18, bfe_19, bfe_20, bfe_25⟩ := obM I p_ad_0_0
  obtain ⟨g_86318, p_ad_3_0, o_86319⟩ := I.opi (k := 3) (j := 0) (by decide) rfl
  have p_ad_3_0 : pt L f (ad 3 0) (.inl (G.2 0, 2916, .inl g_86318)) := p_ad_3_0
  have hI := XV_info o_86319 bfe_18 bfe_19 bfe_17
  have B_86320 : bn 0 53 pd := ⟨bfe_17.1, by have z9 := hI.2.2.1; have z8 := bfe_18.2; omega⟩
  refine lv_aload_n hx hb dX12_opened_0 rfl (lv_at hl 0 rfl) ?_
  refine pg_get S Y ok_X12 18 (by decide) kf12_152 (v := .int op9) p_ad_0_0 rfl dX12_opened_1 ?_
  refine lv_bipush (v := 8) hx hb dX12_opened_4 (by decide) ?_
  refine lv_icmp_ne (tgt := 11) hx hb dX12_opened_6 (by decide) (fun c_86321 => ?_) (fun c_86321 => ?_)
  · have B_86322 : bn 0 7 op9 := bn_w (bn_neu c_86321 bfe_18 (show bn 8 8 (8 : Int32) from bn_k (by decide))) (by decide)
    refine lv_aload_n hx hb dX12_opened_11 rfl (lv_at hl 0 rfl) ?_
    refine lv_dup hx hb dX12_opened_12 rfl ?_
    refine pg_get S Y ok_X12 18 (by decide) kf12_152 (v := .int op9) p_ad_0_0 rfl dX12_opened_13 ?_
    refine lv_iconst (v := 1) hx hb dX12_opened_16 (by decide) ?_
    refine lv_iadd hx hb dX12_opened_17 ?_
    refine lv_topi (fun x_86324 ex_86324 => ?_)
    refine pg_put S Y ok_X12 18 (by decide) kf12_152 rfl (fs' := [.ref (ad 1 0), .ref (ad 2 0), .ref (ad 3 0), .ref (ad 4 0), .int td, .int fa, .int fp, .int at9, .int ps9, .int tk, .int nu, .long wd, .int t0, .int wr, .int so, .ref (ad 5 0), .ref (ad 6 0), .int pd, .int x_86324, .int cg, .int iw, .int on9, .ref (ad 7 0), .ref (ad 8 0), .ref (ad 9 0), .int is9, .ref (ad 10 0), .ref (ad 11 0), .ref (ad 12 0), .ref (ad 13 0), .int se, .ref (ad 14 0)]) (v := .int x_86324) p_ad_0_0 rfl rfl rfl (Nat.le_of_ble_eq_true rfl) dX12_opened_18 (fun f_86325 H locs ef_86325 Y => ?_)
    have p_ad_4_0 := p_ad_4_0.up ef_86325 (I.ne (k := 4) (j := 0) (k' := 0) (j' := 0) (by decide) (by decide) (Or.inl (by decide)))
    have p_ad_5_0 := p_ad_5_0.up ef_86325 (I.ne (k := 5) (j := 0) (k' := 0) (j' := 0) (by decide) (by decide) (Or.inl (by decide)))
    have p_ad_6_0 := p_ad_6_0.up ef_86325 (I.ne (k := 6) (j := 0) (k' := 0) (j' := 0) (by decide) (by decide) (Or.inl (by decide)))
    have p_ad_3_0 := p_ad_3_0.up ef_86325 (I.ne (k := 3) (j := 0) (k' := 0) (j' := 0) (by decide) (by decide) (Or.inl (by decide)))
    have p_ad_0_0 := p_ad_0_0.me ef_86325
    have I := I.up (k := 0) (j := 0) (by decide) ef_86325 (okE_o (okFs_c okV_r (okFs_c okV_r (okFs_c okV_r (okFs_c okV_r (okFs_c (okV_p bfe_4) (okFs_c (okV_p bfe_5) (okFs_c (okV_p bfe_6) (okFs_c (okV_i bfe_7) (okFs_c (okV_i bfe_8) (okFs_c (okV_i (bn_any _)) (okFs_c (okV_i (bn_any _)) (okFs_c okV_l (okFs_c (okV_i bfe_12) (okFs_c (okV_i bfe_13) (okFs_c (okV_i (bn_any _)) (okFs_c okV_r (okFs_c okV_r (okFs_c (okV_i bfe_17) (okFs_c (okV_i (bn_w (bn_eq ex_86324 (bn_add B_86322 (show bn 1 1 (1 : Int32) from bn_k (by decide)) (by decide))) (by decide))) (okFs_c (okV_i bfe_19) (okFs_c (okV_i bfe_20) (okFs_c (okV_i (bn_any _)) (okFs_c okV_r (okFs_c okV_r (okFs_c okV_r (okFs_c (okV_i bfe_25) (okFs_c okV_r (okFs_c okV_r (okFs_c okV_r (okFs_c okV_r (okFs_c (okV_i (bn_any _)) (okFs_c okV_r okFs_n)))))))))))))))))))))))))))))))))
    refine lv_aload_n hx hb dX12_opened_21 rfl (lv_at hl 0 rfl) ?_
    refine pg_get S Y ok_X12 15 (by decide) kf12_29 (v := .ref (ad 5 0)) p_ad_0_0 rfl dX12_opened_22 ?_
    refine lv_aload_n hx hb dX12_opened_25 rfl (lv_at hl 0 rfl) ?_
    refine pg_get S Y ok_X12 17 (by decide) kf12_142 (v := .int pd) p_ad_0_0 rfl dX12_opened_26 ?_
    refine lv_iload_n hx hb dX12_opened_29 rfl (lv_at hl 1 rfl) ?_
    refine pg_iast S Y p_ad_5_0 (vp_bn B_86320 (by decide)) dX12_opened_30 (fun f_86327 H locs ef_86327 Y => ?_)
    obtain ⟨g_86326, eg_86326⟩ : ∃ z, z = upd (gp) (pd : Int32).toNatClampNeg i1 := ⟨_, rfl⟩
    rw [← eg_86326] at ef_86327
    have p_ad_0_0 := p_ad_0_0.up ef_86327 (I.ne (k := 0) (j := 0) (k' := 5) (j' := 0) (by decide) (by decide) (Or.inl (by decide)))
    have p_ad_4_0 := p_ad_4_0.up ef_86327 (I.ne (k := 4) (j := 0) (k' := 5) (j' := 0) (by decide) (by decide) (Or.inl (by decide)))
    have p_ad_6_0 := p_ad_6_0.up ef_86327 (I.ne (k := 6) (j := 0) (k' := 5) (j' := 0) (by decide) (by decide) (Or.inl (by decide)))
    have p_ad_3_0 := p_ad_3_0.up ef_86327 (I.ne (k := 3) (j := 0) (k' := 5) (j' := 0) (by decide) (by decide) (Or.inl (by decide)))
    have p_ad_5_0 := p_ad_5_0.me ef_86327
    have o_86328 : True := trivial
    have I := I.up (k := 5) (j := 0) (by decide) ef_86327 (okE_a (g := g_86326) o_86328)
    have B_86329 : bn 0 7 cg := ⟨bfe_19.1, by have z9 := hI.2.2.2.1; have z8 := ((bn_eq ex_86324 (bn_add B_86322 (show bn 1 1 (1 : Int32) from bn_k (by decide)) (by decide)))).2; have z7 := (la_add ex_86324 (rfl : op9.toInt = op9.toInt) (show (1 : Int32).toInt = 1 from rfl) B_86322 (show bn 1 1 (1 : Int32) from bn_k (by decide)) (by decide)); omega⟩
    refine lv_aload_n hx hb dX12_opened_31 rfl (lv_at hl 0 rfl) ?_
    refine lv_dup hx hb dX12_opened_32 rfl ?_
    refine pg_get S Y ok_X12 17 (by decide) kf12_142 (v := .int pd) p_ad_0_0 rfl dX12_opened_33 ?_
    refine lv_iconst (v := 1) hx hb dX12_opened_36 (by decide) ?_
    refine lv_iadd hx hb dX12_opened_37 ?_
    refine lv_topi (fun x_86330 ex_86330 => ?_)
    refine pg_put S Y ok_X12 17 (by decide) kf12_142 rfl (fs' := [.ref (ad 1 0), .ref (ad 2 0), .ref (ad 3 0), .ref (ad 4 0), .int td, .int fa, .int fp, .int at9, .int ps9, .int tk, .int nu, .long wd, .int t0, .int wr, .int so, .ref (ad 5 0), .ref (ad 6 0), .int x_86330, .int x_86324, .int cg, .int iw, .int on9, .ref (ad 7 0), .ref (ad 8 0), .ref (ad 9 0), .int is9, .ref (ad 10 0), .ref (ad 11 0), .ref (ad 12 0), .ref (ad 13 0), .int se, .ref (ad 14 0)]) (v := .int x_86330) p_ad_0_0 rfl rfl rfl (Nat.le_of_ble_eq_true rfl) dX12_opened_38 (fun f_86331 H locs ef_86331 Y => ?_)
    have p_ad_4_0 := p_ad_4_0.up ef_86331 (I.ne (k := 4) (j := 0) (k' := 0) (j' := 0) (by decide) (by decide) (Or.inl (by decide)))
    have p_ad_5_0 := p_ad_5_0.up ef_86331 (I.ne (k := 5) (j := 0) (k' := 0) (j' := 0) (by decide) (by decide) (Or.inl (by decide)))
    have p_ad_6_0 := p_ad_6_0.up ef_86331 (I.ne (k := 6) (j := 0) (k' := 0) (j' := 0) (by decide) (by decide) (Or.inl (by decide)))
    have p_ad_3_0 := p_ad_3_0.up ef_86331 (I.ne (k := 3) (j := 0) (k' := 0) (j' := 0) (by decide) (by decide) (Or.inl (by decide)))
    have p_ad_0_0 := p_ad_0_0.me ef_86331
    have I := I.up (k := 0) (j := 0) (by decide) ef_86331 (okE_o (okFs_c okV_r (okFs_c okV_r (okFs_c okV_r (okFs_c okV_r (okFs_c (okV_p bfe_4) (okFs_c (okV_p bfe_5) (okFs_c (okV_p bfe_6) (okFs_c (okV_i bfe_7) (okFs_c (okV_i bfe_8) (okFs_c (okV_i (bn_any _)) (okFs_c (okV_i (bn_any _)) (okFs_c okV_l (okFs_c (okV_i bfe_12) (okFs_c (okV_i bfe_13) (okFs_c (okV_i (bn_any _)) (okFs_c okV_r (okFs_c okV_r (okFs_c (okV_i (bn_w (bn_eq ex_86330 (bn_add B_86320 (show bn 1 1 (1 : Int32) from bn_k (by decide)) (by decide))) (by decide))) (okFs_c (okV_i (bn_w (bn_eq ex_86324 (bn_add B_86322 (show bn 1 1 (1 : Int32) from bn_k (by decide)) (by decide))) (by decide))) (okFs_c (okV_i bfe_19) (okFs_c (okV_i bfe_20) (okFs_c (okV_i (bn_any _)) (okFs_c okV_r (okFs_c okV_r (okFs_c okV_r (okFs_c (okV_i bfe_25) (okFs_c okV_r (okFs_c okV_r (okFs_c okV_r (okFs_c okV_r (okFs_c (okV_i (bn_any _)) (okFs_c okV_r okFs_n)))))))))))))))))))))))))))))))))
    refine lv_aload_n hx hb dX12_opened_41 rfl (lv_at hl 0 rfl) ?_
    refine cVv (As := []) (rest := []) S Y (x_X12_nextToken (l := l) I p_ad_0_0 p_ad_4_0 p_ad_5_0 p_ad_6_0 hB) cw_X12_nextToken km12_166 p_ad_0_0 ok_X12.1 rfl rfl ⟨Nat.le_of_ble_eq_true rfl, Nat.le_of_ble_eq_true rfl⟩ hl.1 rfl (Nat.le_of_ble_eq_true rfl) ⟨Nat.le_of_ble_eq_true rfl, Nat.le_of_ble_eq_true rfl⟩ dX12_opened_42 (fun L_86332 f_86333 H locs hr_86334 Y => ?_)
    obtain ⟨v_86335, v_86336, v_86337, v_86338, v_86339, I, p_ad_0_0, p_ad_4_0, p_ad_5_0, p_ad_6_0, eT_86340, eP_86341, eN_86342⟩ := hr_86334
    obtain ⟨bfc86342_4, bfc86342_5, bfc86342_6, bfc86342_7, bfc86342_8, bfc86342_12, bfc86342_13, bfc86342_17, bfc86342_18, bfc86342_19, bfc86342_20, bfc86342_25⟩ := obM I p_ad_0_0
    have TN_86344 := NT_s hTN eN_86342
    refine lv_iload_n hx hb dX12_opened_45 rfl (lv_at hl 1 rfl) ?_
    refine lv_bipush (v := 44) hx hb dX12_opened_46 (by decide) ?_
    refine lv_icmp_eq (tgt := 53) hx hb dX12_opened_48 (by decide) (fun c_86345 => ?_) (fun c_86345 => ?_)
    · have B_86346 : bn 44 44 i1 := bn_w (bn_eq c_86345 (show bn 44 44 (44 : Int32) from bn_k (by decide))) (by decide)
      refine lv_aload_n hx hb dX12_opened_53 rfl (lv_at hl 0 rfl) ?_
      refine pg_get S Y ok_X12 9 (by decide) kf12_98 (v := .int v_86337) p_ad_0_0 rfl dX12_opened_54 ?_
      refine lv_bipush (v := 40) hx hb dX12_opened_57 (by decide) ?_
      refine lv_icmp_eq (tgt := 64) hx hb dX12_opened_59 (by decide) (fun c_86347 => ?_) (fun c_86347 => ?_)
      · have B_86348 : bn 40 40 v_86337 := bn_w (bn_eq c_86347 (show bn 40 40 (40 : Int32) from bn_k (by decide))) (by decide)
        have h40 : (tkK (bI gt) td.toInt.toNat) (i9 + 1) = 40 := (by have j0 := (((tk_k TN_86344.2.2).2.2.2.2.1 40 (by decide)).mp (show v_86337.toInt = 40 from by rw [c_86347]; rfl)); omega)
        refine lv_aload_n hx hb dX12_opened_64 rfl (lv_at hl 0 rfl) ?_
        refine pg_get S Y ok_X12 16 (by decide) kf12_32 (v := .ref (ad 6 0)) p_ad_0_0 rfl dX12_opened_65 ?_
        refine lv_aload_n hx hb dX12_opened_68 rfl (lv_at hl 0 rfl) ?_
        refine pg_get S Y ok_X12 19 (by decide) kf12_169 (v := .int cg) p_ad_0_0 rfl dX12_opened_69 ?_
        refine lv_iconst (v := 1) hx hb dX12_opened_72 (by decide) ?_
        refine pg_iast S Y p_ad_6_0 (vp_bn B_86329 (by decide)) dX12_opened_73 (fun f_86350 H locs ef_86350 Y => ?_)
        obtain ⟨g_86349, eg_86349⟩ : ∃ z, z = upd (gc) (cg : Int32).toNatClampNeg 1 := ⟨_, rfl⟩
        rw [← eg_86349] at ef_86350
        have p_ad_0_0 := p_ad_0_0.up ef_86350 (I.ne (k := 0) (j := 0) (k' := 6) (j' := 0) (by decide) (by decide) (Or.inl (by decide)))
        have p_ad_4_0 := p_ad_4_0.up ef_86350 (I.ne (k := 4) (j := 0) (k' := 6) (j' := 0) (by decide) (by decide) (Or.inl (by decide)))
        have p_ad_5_0 := p_ad_5_0.up ef_86350 (I.ne (k := 5) (j := 0) (k' := 6) (j' := 0) (by decide) (by decide) (Or.inl (by decide)))
        have p_ad_6_0 := p_ad_6_0.me ef_86350
        have o_86351 : True := trivial
        have I := I.up (k := 6) (j := 0) (by decide) ef_86350 (okE_a (g := g_86349) o_86351)
        refine lv_aload_n hx hb dX12_opened_74 rfl (lv_at hl 0 rfl) ?_
        refine lv_dup hx hb dX12_opened_75 rfl ?_
        refine pg_get S Y ok_X12 19 (by decide) kf12_169 (v := .int cg) p_ad_0_0 rfl dX12_opened_76 ?_
        refine lv_iconst (v := 1) hx hb dX12_opened_79 (by decide) ?_
        refine lv_iadd hx hb dX12_opened_80 ?_
        refine lv_topi (fun x_86352 ex_86352 => ?_)
        refine pg_put S Y ok_X12 19 (by decide) kf12_169 rfl (fs' := [.ref (ad 1 0), .ref (ad 2 0), .ref (ad 3 0), .ref (ad 4 0), .int td, .int fa, .int fp, .int v_86335, .int v_86336, .int v_86337, .int v_86338, .long v_86339, .int t0, .int wr, .int so, .ref (ad 5 0), .ref (ad 6 0), .int x_86330, .int x_86324, .int x_86352, .int iw, .int on9, .ref (ad 7 0), .ref (ad 8 0), .ref (ad 9 0), .int is9, .ref (ad 10 0), .ref (ad 11 0), .ref (ad 12 0), .ref (ad 13 0), .int se, .ref (ad 14 0)]) (v := .int x_86352) p_ad_0_0 rfl rfl rfl (Nat.le_of_ble_eq_true rfl) dX12_opened_81 (fun f_86353 H locs ef_86353 Y => ?_)
        have p_ad_4_0 := p_ad_4_0.up ef_86353 (I.ne (k := 4) (j := 0) (k' := 0) (j' := 0) (by decide) (by decide) (Or.inl (by decide)))
        have p_ad_5_0 := p_ad_5_0.up ef_86353 (I.ne (k := 5) (j := 0) (k' := 0) (j' := 0) (by decide) (by decide) (Or.inl (by decide)))
        have p_ad_6_0 := p_ad_6_0.up ef_86353 (I.ne (k := 6) (j := 0) (k' := 0) (j' := 0) (by decide) (by decide) (Or.inl (by decide)))
        have p_ad_0_0 := p_ad_0_0.me ef_86353
        have I := I.up (k := 0) (j := 0) (by decide) ef_86353 (okE_o (okFs_c okV_r (okFs_c okV_r (okFs_c okV_r (okFs_c okV_r (okFs_c (okV_p bfc86342_4) (okFs_c (okV_p bfc86342_5) (okFs_c (okV_p bfc86342_6) (okFs_c (okV_i bfc86342_7) (okFs_c (okV_i bfc86342_8) (okFs_c (okV_i (bn_any _)) (okFs_c (okV_i (bn_any _)) (okFs_c okV_l (okFs_c (okV_i bfc86342_12) (okFs_c (okV_i bfc86342_13) (okFs_c (okV_i (bn_any _)) (okFs_c okV_r (okFs_c okV_r (okFs_c (okV_i bfc86342_17) (okFs_c (okV_i bfc86342_18) (okFs_c (okV_i (bn_w (bn_eq ex_86352 (bn_add B_86329 (show bn 1 1 (1 : Int32) from bn_k (by decide)) (by decide))) (by decide))) (okFs_c (okV_i bfc86342_20) (okFs_c (okV_i (bn_any _)) (okFs_c okV_r (okFs_c okV_r (okFs_c okV_r (okFs_c (okV_i bfc86342_25) (okFs_c okV_r (okFs_c okV_r (okFs_c okV_r (okFs_c okV_r (okFs_c (okV_i (bn_any _)) (okFs_c okV_r okFs_n)))))))))))))))))))))))))))))))))
        refine lv_aload_n hx hb dX12_opened_84 rfl (lv_at hl 0 rfl) ?_
        refine cVv (As := []) (rest := []) S Y (x_X12_nextToken (l := l) I p_ad_0_0 p_ad_4_0 p_ad_5_0 p_ad_6_0 hB) cw_X12_nextToken km12_166 p_ad_0_0 ok_X12.1 rfl rfl ⟨Nat.le_of_ble_eq_true rfl, Nat.le_of_ble_eq_true rfl⟩ hl.1 rfl (Nat.le_of_ble_eq_true rfl) ⟨Nat.le_of_ble_eq_true rfl, Nat.le_of_ble_eq_true rfl⟩ dX12_opened_85 (fun L_86354 f_86355 H locs hr_86356 Y => ?_)
        obtain ⟨v_86357, v_86358, v_86359, v_86360, v_86361, I, p_ad_0_0, p_ad_4_0, p_ad_5_0, p_ad_6_0, eT_86362, eP_86363, eN_86364⟩ := hr_86356
        obtain ⟨bfc86364_4, bfc86364_5, bfc86364_6, bfc86364_7, bfc86364_8, bfc86364_12, bfc86364_13, bfc86364_17, bfc86364_18, bfc86364_19, bfc86364_20, bfc86364_25⟩ := obM I p_ad_0_0
        have TN_86366 := NT_s TN_86344 eN_86364
        obtain ⟨g_86367, p_ad_3_0, o_86368⟩ := I.opi (k := 3) (j := 0) (by decide) rfl
        have p_ad_3_0 : pt L_86354 f_86355 (ad 3 0) (.inl (G.2 0, 2916, .inl g_86367)) := p_ad_3_0
        have o_86369 : (XR 0 gB fr g_86326 g_86349 t0 wr x_86330 x_86324 x_86352 iw) g_86367 := (by rw [hiw]; exact XR_f (XV_jus o_86368 ho c_86345 eg_86326 (by have z9 := (la_add ex_86330 (rfl : pd.toInt = pd.toInt) (show (1 : Int32).toInt = 1 from rfl) B_86320 (show bn 1 1 (1 : Int32) from bn_k (by decide)) (by decide)); omega) (by have z9 := (la_add ex_86324 (rfl : op9.toInt = op9.toInt) (show (1 : Int32).toInt = 1 from rfl) B_86322 (show bn 1 1 (1 : Int32) from bn_k (by decide)) (by decide)); omega) eg_86349 (by have z9 := (la_add ex_86352 (rfl : cg.toInt = cg.toInt) (show (1 : Int32).toInt = 1 from rfl) B_86329 (show bn 1 1 (1 : Int32) from bn_k (by decide)) (by decide)); omega) bfe_18 bfe_19 bfe_17))
        have I := I.castS (sp' := spM PA PI (XR 0 gB fr g_86326 g_86349 t0 wr x_86330 x_86324 x_86352 iw) pa) (k := 3) (j := 0) (by decide) p_ad_3_0 (okE_a (g := g_86367) o_86369) pXC
        refine lv_iconst (v := 0) hx hb dX12_opened_88 (by decide) ?_
        exact prI (post := fun r L1 f1 => ∃ at92 : Int32, ∃ ps92 : Int32, ∃ tk2 : Int32, ∃ nu2 : Int32, ∃ wd2 : Int64, ∃ pd2 : Int32, ∃ op92 : Int32, ∃ cg2 : Int32, ∃ gp2 : Nat → Int32, ∃ gc2 : Nat → Int32, bn 0 3 r ∧ SH (spM PA PI (XR r gB fr gp2 gc2 t0 wr pd2 op92 cg2 iw) pa) nnM G ad L1 f1 ∧ pt L1 f1 (ad 0 0) (.inr (12, [.ref (ad 1 0), .ref (ad 2 0), .ref (ad 3 0), .ref (ad 4 0), .int td, .int fa, .int fp, .int at92, .int ps92, .int tk2, .int nu2, .long wd2, .int t0, .int wr, .int so, .ref (ad 5 0), .ref (ad 6 0), .int pd2, .int op92, .int cg2, .int iw, .int on9, .ref (ad 7 0), .ref (ad 8 0), .ref (ad 9 0), .int is9, .ref (ad 10 0), .ref (ad 11 0), .ref (ad 12 0), .ref (ad 13 0), .int se, .ref (ad 14 0)])) ∧ pt L1 f1 (ad 4 0) (.inl (G.2 0, 300, .inl gt)) ∧ pt L1 f1 (ad 5 0) (.inl (G.2 0, 160, .inl gp2)) ∧ pt L1 f1 (ad 6 0) (.inl (G.2 0, 9, .inl gc2)) ∧ TK at92 ps92 tk2 ∧ (r.toInt = 0 → ps9.toInt + 1 ≤ ps92.toInt) ∧ (r.toInt ≤ 0 → wr.toInt + pd2.toInt ≤ ps92.toInt) ∧ NXT (bI gt) td.toInt.toNat bL gp2 gc2 pd2 cg2 iw at92 ps92 tk2 nu2 wd2 S9 rr r.toInt) S Y rfl (by decide) (by decide) hA1 ⟨v_86357, v_86358, v_86359, v_86360, v_86361, x_86330, x_86324, x_86352, g_86326, g_86349, bn_w (show bn 0 0 (0 : Int32) from bn_k (by decide)) (by decide), I, p_ad_0_0, p_ad_4_0, p_ad_5_0, p_ad_6_0, eT_86362, (fun _ => (by have c0 := eT_86340.1; have c1 := eP_86341; have c2 := eT_86362.1; have c3 := eP_86363; have c4 := hroom; have c5 := (hT.2 htk); have c6 := (la_add ex_86330 (rfl : pd.toInt = pd.toInt) (show (1 : Int32).toInt = 1 from rfl) B_86320 (show bn 1 1 (1 : Int32) from bn_k (by decide)) (by decide)); omega)), (fun _ => (by have c0 := eT_86340.1; have c1 := eP_86341; have c2 := eT_86362.1; have c3 := eP_86363; have c4 := hroom; have c5 := (hT.2 htk); have c6 := (la_add ex_86330 (rfl : pd.toInt = pd.toInt) (show (1 : Int32).toInt = 1 from rfl) B_86320 (show bn 1 1 (1 : Int32) from bn_k (by decide)) (by decide)); omega)), ⟨i9 + 1 + 1, TN_86366, fun _ => ⟨fun _ => (by have q9 := gc_new eg_86349 (by have z9 := (rfl : cg.toInt = cg.toInt); omega) bfe_19.1; have q8 := hOJ (show ¬ op9.toInt = 8 from fun z => c_86321 (Int32.toInt_inj.mp (z.trans rfl))) (show i1.toInt = 44 from by rw [c_86345]; rfl); rw [pls_push eg_86326 (by have z9 := (rfl : pd.toInt = pd.toInt); omega) bfe_17.1 (by have z9 := (la_add ex_86330 (rfl : pd.toInt = pd.toInt) (show (1 : Int32).toInt = 1 from rfl) B_86320 (show bn 1 1 (1 : Int32) from bn_k (by decide)) (by decide)); omega), show x_86352.toInt.toNat = cg.toInt.toNat + 1 from by have z9 := (la_add ex_86352 (rfl : cg.toInt = cg.toInt) (show (1 : Int32).toInt = 1 from rfl) B_86329 (show bn 1 1 (1 : Int32) from bn_k (by decide)) (by decide)); have z8 := bfe_19.1; omega]; rcases q8 with ⟨z, _⟩ | ⟨_, z⟩; exact absurd h40 z; rw [show i1.toInt = 44 from (show i1.toInt = 44 from by rw [c_86345]; rfl)]; exact z _ q9.1 q9.2), fun h => absurd h (by rw [hiw]; decide)⟩, (fun h => absurd h (by decide))⟩⟩ dX12_opened_89
      · obtain ⟨g_86370, p_ad_3_0, o_86371⟩ := I.opi (k := 3) (j := 0) (by decide) rfl
        have p_ad_3_0 : pt L_86332 f_86333 (ad 3 0) (.inl (G.2 0, 2916, .inl g_86370)) := p_ad_3_0
        have o_86372 : (XR 1 gB fr g_86326 gc t0 wr x_86330 x_86324 cg iw) g_86370 := (XR_no o_86371.1 (by decide))
        have I := I.castS (sp' := spM PA PI (XR 1 gB fr g_86326 gc t0 wr x_86330 x_86324 cg iw) pa) (k := 3) (j := 0) (by decide) p_ad_3_0 (okE_a (g := g_86370) o_86372) pXC
        refine lv_iconst (v := 1) hx hb dX12_opened_62 (by decide) ?_
        exact prI (post := fun r L1 f1 => ∃ at92 : Int32, ∃ ps92 : Int32, ∃ tk2 : Int32, ∃ nu2 : Int32, ∃ wd2 : Int64, ∃ pd2 : Int32, ∃ op92 : Int32, ∃ cg2 : Int32, ∃ gp2 : Nat → Int32, ∃ gc2 : Nat → Int32, bn 0 3 r ∧ SH (spM PA PI (XR r gB fr gp2 gc2 t0 wr pd2 op92 cg2 iw) pa) nnM G ad L1 f1 ∧ pt L1 f1 (ad 0 0) (.inr (12, [.ref (ad 1 0), .ref (ad 2 0), .ref (ad 3 0), .ref (ad 4 0), .int td, .int fa, .int fp, .int at92, .int ps92, .int tk2, .int nu2, .long wd2, .int t0, .int wr, .int so, .ref (ad 5 0), .ref (ad 6 0), .int pd2, .int op92, .int cg2, .int iw, .int on9, .ref (ad 7 0), .ref (ad 8 0), .ref (ad 9 0), .int is9, .ref (ad 10 0), .ref (ad 11 0), .ref (ad 12 0), .ref (ad 13 0), .int se, .ref (ad 14 0)])) ∧ pt L1 f1 (ad 4 0) (.inl (G.2 0, 300, .inl gt)) ∧ pt L1 f1 (ad 5 0) (.inl (G.2 0, 160, .inl gp2)) ∧ pt L1 f1 (ad 6 0) (.inl (G.2 0, 9, .inl gc2)) ∧ TK at92 ps92 tk2 ∧ (r.toInt = 0 → ps9.toInt + 1 ≤ ps92.toInt) ∧ (r.toInt ≤ 0 → wr.toInt + pd2.toInt ≤ ps92.toInt) ∧ NXT (bI gt) td.toInt.toNat bL gp2 gc2 pd2 cg2 iw at92 ps92 tk2 nu2 wd2 S9 rr r.toInt) S Y rfl (by decide) (by decide) hA1 ⟨v_86335, v_86336, v_86337, v_86338, v_86339, x_86330, x_86324, cg, g_86326, gc, bn_w (show bn 1 1 (1 : Int32) from bn_k (by decide)) (by decide), I, p_ad_0_0, p_ad_4_0, p_ad_5_0, p_ad_6_0, eT_86340, (fun h => absurd h (by decide)), (fun h => absurd h (by decide)), ⟨i9 + 1, TN_86344, (fun h => absurd h (by decide)), fun _ => (by rcases hOJ (show ¬ op9.toInt = 8 from fun z => c_86321 (Int32.toInt_inj.mp (z.trans rfl))) (show i1.toInt = 44 from by rw [c_86345]; rfl) with ⟨_, z⟩ | ⟨z, _⟩; exact z; exact absurd z (by have j0 := (mt ((tk_k TN_86344.2.2).2.2.2.2.1 40 (by decide)).mpr (show ¬ v_86337.toInt = 40 from fun z => c_86347 (Int32.toInt_inj.mp (z.trans rfl)))); omega))⟩⟩ dX12_opened_63
    · obtain ⟨g_86373, p_ad_3_0, o_86374⟩ := I.opi (k := 3) (j := 0) (by decide) rfl
      have p_ad_3_0 : pt L_86332 f_86333 (ad 3 0) (.inl (G.2 0, 2916, .inl g_86373)) := p_ad_3_0
      have o_86375 : (XR 0 gB fr g_86326 gc t0 wr x_86330 x_86324 cg iw) g_86373 := (by rw [hiw]; exact XR_f (XV_opd o_86374 ho c_86345 eg_86326 (by have z9 := (la_add ex_86330 (rfl : pd.toInt = pd.toInt) (show (1 : Int32).toInt = 1 from rfl) B_86320 (show bn 1 1 (1 : Int32) from bn_k (by decide)) (by decide)); omega) (by have z9 := (la_add ex_86324 (rfl : op9.toInt = op9.toInt) (show (1 : Int32).toInt = 1 from rfl) B_86322 (show bn 1 1 (1 : Int32) from bn_k (by decide)) (by decide)); omega) bfe_18 bfe_17))
      have I := I.castS (sp' := spM PA PI (XR 0 gB fr g_86326 gc t0 wr x_86330 x_86324 cg iw) pa) (k := 3) (j := 0) (by decide) p_ad_3_0 (okE_a (g := g_86373) o_86375) pXC
      refine lv_iconst (v := 0) hx hb dX12_opened_51 (by decide) ?_
      exact prI (post := fun r L1 f1 => ∃ at92 : Int32, ∃ ps92 : Int32, ∃ tk2 : Int32, ∃ nu2 : Int32, ∃ wd2 : Int64, ∃ pd2 : Int32, ∃ op92 : Int32, ∃ cg2 : Int32, ∃ gp2 : Nat → Int32, ∃ gc2 : Nat → Int32, bn 0 3 r ∧ SH (spM PA PI (XR r gB fr gp2 gc2 t0 wr pd2 op92 cg2 iw) pa) nnM G ad L1 f1 ∧ pt L1 f1 (ad 0 0) (.inr (12, [.ref (ad 1 0), .ref (ad 2 0), .ref (ad 3 0), .ref (ad 4 0), .int td, .int fa, .int fp, .int at92, .int ps92, .int tk2, .int nu2, .long wd2, .int t0, .int wr, .int so, .ref (ad 5 0), .ref (ad 6 0), .int pd2, .int op92, .int cg2, .int iw, .int on9, .ref (ad 7 0), .ref (ad 8 0), .ref (ad 9 0), .int is9, .ref (ad 10 0), .ref (ad 11 0), .ref (ad 12 0), .ref (ad 13 0), .int se, .ref (ad 14 0)])) ∧ pt L1 f1 (ad 4 0) (.inl (G.2 0, 300, .inl gt)) ∧ pt L1 f1 (ad 5 0) (.inl (G.2 0, 160, .inl gp2)) ∧ pt L1 f1 (ad 6 0) (.inl (G.2 0, 9, .inl gc2)) ∧ TK at92 ps92 tk2 ∧ (r.toInt = 0 → ps9.toInt + 1 ≤ ps92.toInt) ∧ (r.toInt ≤ 0 → wr.toInt + pd2.toInt ≤ ps92.toInt) ∧ NXT (bI gt) td.toInt.toNat bL gp2 gc2 pd2 cg2 iw at92 ps92 tk2 nu2 wd2 S9 rr r.toInt) S Y rfl (by decide) (by decide) hA1 ⟨v_86335, v_86336, v_86337, v_86338, v_86339, x_86330, x_86324, cg, g_86326, gc, bn_w (show bn 0 0 (0 : Int32) from bn_k (by decide)) (by decide), I, p_ad_0_0, p_ad_4_0, p_ad_5_0, p_ad_6_0, eT_86340, (fun _ => (by have c0 := eT_86340.1; have c1 := eP_86341; have c2 := hroom; have c3 := (hT.2 htk); have c4 := (la_add ex_86330 (rfl : pd.toInt = pd.toInt) (show (1 : Int32).toInt = 1 from rfl) B_86320 (show bn 1 1 (1 : Int32) from bn_k (by decide)) (by decide)); omega)), (fun _ => (by have c0 := eT_86340.1; have c1 := eP_86341; have c2 := hroom; have c3 := (hT.2 htk); have c4 := (la_add ex_86330 (rfl : pd.toInt = pd.toInt) (show (1 : Int32).toInt = 1 from rfl) B_86320 (show bn 1 1 (1 : Int32) from bn_k (by decide)) (by decide)); omega)), ⟨i9 + 1, TN_86344, fun _ => ⟨fun _ => (by rw [pls_push eg_86326 (by have z9 := (rfl : pd.toInt = pd.toInt); omega) bfe_17.1 (by have z9 := (la_add ex_86330 (rfl : pd.toInt = pd.toInt) (show (1 : Int32).toInt = 1 from rfl) B_86320 (show bn 1 1 (1 : Int32) from bn_k (by decide)) (by decide)); omega)]; exact hO0 (show ¬ op9.toInt = 8 from fun z => c_86321 (Int32.toInt_inj.mp (z.trans rfl))) (show ¬ i1.toInt = 44 from fun z => c_86345 (Int32.toInt_inj.mp (z.trans rfl)))), fun h => absurd h (by rw [hiw]; decide)⟩, (fun h => absurd h (by decide))⟩⟩ dX12_opened_52
  · have B_86323 : bn 8 8 op9 := bn_w (bn_eq c_86321 (show bn 8 8 (8 : Int32) from bn_k (by decide))) (by decide)
    have o_86376 : (XR 3 gB fr gp gc t0 wr pd op9 cg iw) g_86318 := (XR_no o_86319.1 (by decide))
    have I := I.castS (sp' := spM PA PI (XR 3 gB fr gp gc t0 wr pd op9 cg iw) pa) (k := 3) (j := 0) (by decide) p_ad_3_0 (okE_a (g := g_86318) o_86376) pXC
    refine lv_iconst (v := 3) hx hb dX12_opened_9 (by decide) ?_
    exact prI (post := fun r L1 f1 => ∃ at92 : Int32, ∃ ps92 : Int32, ∃ tk2 : Int32, ∃ nu2 : Int32, ∃ wd2 : Int64, ∃ pd2 : Int32, ∃ op92 : Int32, ∃ cg2 : Int32, ∃ gp2 : Nat → Int32, ∃ gc2 : Nat → Int32, bn 0 3 r ∧ SH (spM PA PI (XR r gB fr gp2 gc2 t0 wr pd2 op92 cg2 iw) pa) nnM G ad L1 f1 ∧ pt L1 f1 (ad 0 0) (.inr (12, [.ref (ad 1 0), .ref (ad 2 0), .ref (ad 3 0), .ref (ad 4 0), .int td, .int fa, .int fp, .int at92, .int ps92, .int tk2, .int nu2, .long wd2, .int t0, .int wr, .int so, .ref (ad 5 0), .ref (ad 6 0), .int pd2, .int op92, .int cg2, .int iw, .int on9, .ref (ad 7 0), .ref (ad 8 0), .ref (ad 9 0), .int is9, .ref (ad 10 0), .ref (ad 11 0), .ref (ad 12 0), .ref (ad 13 0), .int se, .ref (ad 14 0)])) ∧ pt L1 f1 (ad 4 0) (.inl (G.2 0, 300, .inl gt)) ∧ pt L1 f1 (ad 5 0) (.inl (G.2 0, 160, .inl gp2)) ∧ pt L1 f1 (ad 6 0) (.inl (G.2 0, 9, .inl gc2)) ∧ TK at92 ps92 tk2 ∧ (r.toInt = 0 → ps9.toInt + 1 ≤ ps92.toInt) ∧ (r.toInt ≤ 0 → wr.toInt + pd2.toInt ≤ ps92.toInt) ∧ NXT (bI gt) td.toInt.toNat bL gp2 gc2 pd2 cg2 iw at92 ps92 tk2 nu2 wd2 S9 rr r.toInt) S Y rfl (by decide) (by decide) hA1 ⟨at9, ps9, tk, nu, wd, pd, op9, cg, gp, gc, bn_w (show bn 3 3 (3 : Int32) from bn_k (by decide)) (by decide), I, p_ad_0_0, p_ad_4_0, p_ad_5_0, p_ad_6_0, hT, (fun h => absurd h (by decide)), (fun h => absurd h (by decide)), ⟨i9, hTN, (fun h => absurd h (by decide)), fun _ => hO3 (show op9.toInt = 8 from by rw [c_86321]; rfl)⟩⟩ dX12_opened_10
set_option maxHeartbeats 4000000 in
set_option maxRecDepth 100000 in
theorem x_X12_shut {l : Launch} {G : GG}  {L : List Nat} {f : HF} {ad : Nat → Nat → Nat} {pa : (Nat → Int32) → Prop} {PA : (Nat → Int32) → Prop} {PI : PIT} {i1 : Int32} {td fa fp at9 ps9 tk nu t0 wr so pd op9 cg iw on9 is9 se : Int32} {wd : Int64} {gt gp gc : Nat → Int32} {gB : Nat → Int32} {fr : Nat} {opn : Int} {cur0 cmp0 : Bool} {i9 : Nat} {bL : Bool} {S9 : List LI} {rr : Int × Nat} (I : SH (spM PA PI (XS gB fr gp gc 1 opn cur0 cmp0 t0 wr pd op9 cg) pa) nnM G ad L f) (p_ad_0_0 : pt L f (ad 0 0) (.inr (12, [.ref (ad 1 0), .ref (ad 2 0), .ref (ad 3 0), .ref (ad 4 0), .int td, .int fa, .int fp, .int at9, .int ps9, .int tk, .int nu, .long wd, .int t0, .int wr, .int so, .ref (ad 5 0), .ref (ad 6 0), .int pd, .int op9, .int cg, .int iw, .int on9, .ref (ad 7 0), .ref (ad 8 0), .ref (ad 9 0), .int is9, .ref (ad 10 0), .ref (ad 11 0), .ref (ad 12 0), .ref (ad 13 0), .int se, .ref (ad 14 0)]))) (p_ad_4_0 : pt L f (ad 4 0) (.inl (G.2 0, 300, .inl gt))) (p_ad_5_0 : pt L f (ad 5 0) (.inl (G.2 0, 160, .inl gp))) (p_ad_6_0 : pt L f (ad 6 0) (.inl (G.2 0, 9, .inl gc))) (hc : cur0 = false → cmp0 = true) (hq : cmp0 = true → askd opn) (hxt : xtp gp pd 1) (ho : i1.toInt = opn) (h4 : opn = 40 ∨ opn = 43 ∨ (opn = 44 ∧ cmp0 = true)) (hroom : wr.toInt + pd.toInt ≤ ps9.toInt) (hT : TK at9 ps9 tk) (htk : ¬ tk = 0) (hB : BYT gt) (hTN : TKN (bI gt) td.toInt.toNat i9 at9 ps9 tk nu wd) (hLS : (¬ i1.toInt = 44 → LL (tkK (bI gt) td.toInt.toNat) (tkV (bI gt) td.toInt.toNat) ((CA bL (fun j => (gc j).toInt) (pls (fun j => (gp j).toInt) (pd.toInt.toNat - 1)) cg.toInt.toNat).1 ++ S9) (i9 + 1) rr) ∧ (i1.toInt = 44 → LL (tkK (bI gt) td.toInt.toNat) (tkV (bI gt) td.toInt.toNat) ((CA bL (fun j => (gc j).toInt) (16 :: pls (fun j => (gp j).toInt) (pd.toInt.toNat - 1)) (cg.toInt.toNat - 1)).1 ++ S9) (i9 + 1) rr)) (h2m : ∀ t, t ∈ (pls (fun j => (gp j).toInt) pd.toInt.toNat) → 2 ≤ t) (hng : ∀ y : Int32, y.toInt ≤ pd.toInt → xtp gp y 7 → nng (pls (fun j => (gp j).toInt) y.toInt.toNat)) : PMv l yX12_shut cX12_shut 2 2 0 0 G [.ref (ad 0 0), .int i1] L f (fun L1 f1 => ∃ at92 : Int32, ∃ ps92 : Int32, ∃ tk2 : Int32, ∃ nu2 : Int32, ∃ wd2 : Int64, ∃ wr2 : Int32, ∃ pd2 : Int32, ∃ op92 : Int32, ∃ cg2 : Int32, ∃ gp2 : Nat → Int32, SH (spM PA PI (XW gB fr gp2 gc t0 wr2 pd2 op92 cg2 true) pa) nnM G ad L1 f1 ∧ pt L1 f1 (ad 0 0) (.inr (12, [.ref (ad 1 0), .ref (ad 2 0), .ref (ad 3 0), .ref (ad 4 0), .int td, .int fa, .int fp, .int at92, .int ps92, .int tk2, .int nu2, .long wd2, .int t0, .int wr2, .int so, .ref (ad 5 0), .ref (ad 6 0), .int pd2, .int op92, .int cg2, .int iw, .int on9, .ref (ad 7 0), .ref (ad 8 0), .ref (ad 9 0), .int is9, .ref (ad 10 0), .ref (ad 11 0), .ref (ad 12 0), .ref (ad 13 0), .int se, .ref (ad 14 0)])) ∧ pt L1 f1 (ad 4 0) (.inl (G.2 0, 300, .inl gt)) ∧ pt L1 f1 (ad 5 0) (.inl (G.2 0, 160, .inl gp2)) ∧ pt L1 f1 (ad 6 0) (.inl (G.2 0, 9, .inl gc)) ∧ TK at92 ps92 tk2 ∧ ps9.toInt + 1 ≤ ps92.toInt ∧ wr2.toInt + pd2.toInt ≤ ps92.toInt ∧ ∃ j, TKN (bI gt) td.toInt.toNat j at92 ps92 tk2 nu2 wd2 ∧ LL (tkK (bI gt) td.toInt.toNat) (tkV (bI gt) td.toInt.toNat) ((CA bL (fun j => (gc j).toInt) (pls (fun j => (gp2 j).toInt) pd2.toInt.toNat) cg2.toInt.toNat).1 ++ S9) j rr ∧ nng (pls (fun j => (gp2 j).toInt) pd2.toInt.toNat)) := by
  refine PMv.of (post := fun L1 f1 => ∃ at92 : Int32, ∃ ps92 : Int32, ∃ tk2 : Int32, ∃ nu2 : Int32, ∃ wd2 : Int64, ∃ wr2 : Int32, ∃ pd2 : Int32, ∃ op92 : Int32, ∃ cg2 : Int32, ∃ gp2 : Nat → Int32, SH (spM PA PI (XW gB fr gp2 gc t0 wr2 pd2 op92 cg2 true) pa) nnM G ad L1 f1 ∧ pt L1 f1 (ad 0 0) (.inr (12, [.ref (ad 1 0), .ref (ad 2 0), .ref (ad 3 0), .ref (ad 4 0), .int td, .int fa, .int fp, .int at92, .int ps92, .int tk2, .int nu2, .long wd2, .int t0, .int wr2, .int so, .ref (ad 5 0), .ref (ad 6 0), .int pd2, .int op92, .int cg2, .int iw, .int on9, .ref (ad 7 0), .ref (ad 8 0), .ref (ad 9 0), .int is9, .ref (ad 10 0), .ref (ad 11 0), .ref (ad 12 0), .ref (ad 13 0), .int se, .ref (ad 14 0)])) ∧ pt L1 f1 (ad 4 0) (.inl (G.2 0, 300, .inl gt)) ∧ pt L1 f1 (ad 5 0) (.inl (G.2 0, 160, .inl gp2)) ∧ pt L1 f1 (ad 6 0) (.inl (G.2 0, 9, .inl gc)) ∧ TK at92 ps92 tk2 ∧ ps9.toInt + 1 ≤ ps92.toInt ∧ wr2.toInt + pd2.toInt ≤ ps92.toInt ∧ ∃ j, TKN (bI gt) td.toInt.toNat j at92 ps92 tk2 nu2 wd2 ∧ LL (tkK (bI gt) td.toInt.toNat) (tkV (bI gt) td.toInt.toNat) ((CA bL (fun j => (gc j).toInt) (pls (fun j => (gp2 j).toInt) pd2.toInt.toNat) cg2.toInt.toNat).1 ++ S9) j rr ∧ nng (pls (fun j => (gp2 j).toInt) pd2.toInt.toNat)) (own := RX12) (by decide) rfl (Nat.le_of_ble_eq_true rfl) (fun sz p e s m args below meth c A ls hA1 hname S Y hl => ?_)
  have hx := S.hx
  have hb := S.hb
  have hl : lv_has ls 2 [(0, .ref (ad 0 0)), (1, .int i1)] := hl
  obtain ⟨bfe_4, bfe_5, bfe_6, bfe_7, bfe_8, bfe_12, bfe_13, bfe_17, bfe_18, bfe_19, bfe_20, bfe_25⟩ := obM I p_ad_0_0
  obtain ⟨g_86595, p_ad_3_0, o_86596⟩ := I.opi (k := 3) (j := 0) (by decide) rfl
  have p_ad_3_0 : pt L f (ad 3 0) (.inl (G.2 0, 2916, .inl g_86595)) := p_ad_3_0
  have hS := XS_top o_86596 hc hxt (by rcases h4 with h | h | h <;> omega) (by rcases h4 with h | h | h <;> omega)
  have B_86597 : bn 1 160 pd := ⟨hS.1, bfe_17.2⟩
  have B_86598 : bn 1 8 op9 := ⟨hS.2.1, bfe_18.2⟩
  have B_86599 : bn 0 299 wr := ⟨bfe_13.1, by have z9 := hT.2 htk; have z8 := bfe_7.2; have z7 := bfe_17.1; omega⟩
  refine lv_aload_n hx hb dX12_shut_0 rfl (lv_at hl 0 rfl) ?_
  refine lv_dup hx hb dX12_shut_1 rfl ?_
  refine pg_get S Y ok_X12 18 (by decide) kf12_152 (v := .int op9) p_ad_0_0 rfl dX12_shut_2 ?_
  refine lv_iconst (v := 1) hx hb dX12_shut_5 (by decide) ?_
  refine lv_isub hx hb dX12_shut_6 ?_
  refine lv_topi (fun x_86600 ex_86600 => ?_)
  refine pg_put S Y ok_X12 18 (by decide) kf12_152 rfl (fs' := [.ref (ad 1 0), .ref (ad 2 0), .ref (ad 3 0), .ref (ad 4 0), .int td, .int fa, .int fp, .int at9, .int ps9, .int tk, .int nu, .long wd, .int t0, .int wr, .int so, .ref (ad 5 0), .ref (ad 6 0), .int pd, .int x_86600, .int cg, .int iw, .int on9, .ref (ad 7 0), .ref (ad 8 0), .ref (ad 9 0), .int is9, .ref (ad 10 0), .ref (ad 11 0), .ref (ad 12 0), .ref (ad 13 0), .int se, .ref (ad 14 0)]) (v := .int x_86600) p_ad_0_0 rfl rfl rfl (Nat.le_of_ble_eq_true rfl) dX12_shut_7 (fun f_86601 H locs ef_86601 Y => ?_)
  have p_ad_4_0 := p_ad_4_0.up ef_86601 (I.ne (k := 4) (j := 0) (k' := 0) (j' := 0) (by decide) (by decide) (Or.inl (by decide)))
  have p_ad_5_0 := p_ad_5_0.up ef_86601 (I.ne (k := 5) (j := 0) (k' := 0) (j' := 0) (by decide) (by decide) (Or.inl (by decide)))
  have p_ad_6_0 := p_ad_6_0.up ef_86601 (I.ne (k := 6) (j := 0) (k' := 0) (j' := 0) (by decide) (by decide) (Or.inl (by decide)))
  have p_ad_3_0 := p_ad_3_0.up ef_86601 (I.ne (k := 3) (j := 0) (k' := 0) (j' := 0) (by decide) (by decide) (Or.inl (by decide)))
  have p_ad_0_0 := p_ad_0_0.me ef_86601
  have I := I.up (k := 0) (j := 0) (by decide) ef_86601 (okE_o (okFs_c okV_r (okFs_c okV_r (okFs_c okV_r (okFs_c okV_r (okFs_c (okV_p bfe_4) (okFs_c (okV_p bfe_5) (okFs_c (okV_p bfe_6) (okFs_c (okV_i bfe_7) (okFs_c (okV_i bfe_8) (okFs_c (okV_i (bn_any _)) (okFs_c (okV_i (bn_any _)) (okFs_c okV_l (okFs_c (okV_i bfe_12) (okFs_c (okV_i bfe_13) (okFs_c (okV_i (bn_any _)) (okFs_c okV_r (okFs_c okV_r (okFs_c (okV_i bfe_17) (okFs_c (okV_i (bn_w (bn_eq ex_86600 (bn_sub B_86598 (show bn 1 1 (1 : Int32) from bn_k (by decide)) (by decide))) (by decide))) (okFs_c (okV_i bfe_19) (okFs_c (okV_i bfe_20) (okFs_c (okV_i (bn_any _)) (okFs_c okV_r (okFs_c okV_r (okFs_c okV_r (okFs_c (okV_i bfe_25) (okFs_c okV_r (okFs_c okV_r (okFs_c okV_r (okFs_c okV_r (okFs_c (okV_i (bn_any _)) (okFs_c okV_r okFs_n)))))))))))))))))))))))))))))))))
  refine lv_iload_n hx hb dX12_shut_10 rfl (lv_at hl 1 rfl) ?_
  refine lv_bipush (v := 44) hx hb dX12_shut_11 (by decide) ?_
  refine lv_icmp_ne (tgt := 58) hx hb dX12_shut_13 (by decide) (fun c_86602 => ?_) (fun c_86602 => ?_)
  · refine lv_aload_n hx hb dX12_shut_58 rfl (lv_at hl 0 rfl) ?_
    refine lv_dup hx hb dX12_shut_59 rfl ?_
    refine pg_get S Y ok_X12 17 (by decide) kf12_142 (v := .int pd) p_ad_0_0 rfl dX12_shut_60 ?_
    refine lv_iconst (v := 1) hx hb dX12_shut_63 (by decide) ?_
    refine lv_isub hx hb dX12_shut_64 ?_
    refine lv_topi (fun x_86604 ex_86604 => ?_)
    refine pg_put S Y ok_X12 17 (by decide) kf12_142 rfl (fs' := [.ref (ad 1 0), .ref (ad 2 0), .ref (ad 3 0), .ref (ad 4 0), .int td, .int fa, .int fp, .int at9, .int ps9, .int tk, .int nu, .long wd, .int t0, .int wr, .int so, .ref (ad 5 0), .ref (ad 6 0), .int x_86604, .int x_86600, .int cg, .int iw, .int on9, .ref (ad 7 0), .ref (ad 8 0), .ref (ad 9 0), .int is9, .ref (ad 10 0), .ref (ad 11 0), .ref (ad 12 0), .ref (ad 13 0), .int se, .ref (ad 14 0)]) (v := .int x_86604) p_ad_0_0 rfl rfl rfl (Nat.le_of_ble_eq_true rfl) dX12_shut_65 (fun f_86605 H locs ef_86605 Y => ?_)
    have p_ad_4_0 := p_ad_4_0.up ef_86605 (I.ne (k := 4) (j := 0) (k' := 0) (j' := 0) (by decide) (by decide) (Or.inl (by decide)))
    have p_ad_5_0 := p_ad_5_0.up ef_86605 (I.ne (k := 5) (j := 0) (k' := 0) (j' := 0) (by decide) (by decide) (Or.inl (by decide)))
    have p_ad_6_0 := p_ad_6_0.up ef_86605 (I.ne (k := 6) (j := 0) (k' := 0) (j' := 0) (by decide) (by decide) (Or.inl (by decide)))
    have p_ad_3_0 := p_ad_3_0.up ef_86605 (I.ne (k := 3) (j := 0) (k' := 0) (j' := 0) (by decide) (by decide) (Or.inl (by decide)))
    have p_ad_0_0 := p_ad_0_0.me ef_86605
    have I := I.up (k := 0) (j := 0) (by decide) ef_86605 (okE_o (okFs_c okV_r (okFs_c okV_r (okFs_c okV_r (okFs_c okV_r (okFs_c (okV_p bfe_4) (okFs_c (okV_p bfe_5) (okFs_c (okV_p bfe_6) (okFs_c (okV_i bfe_7) (okFs_c (okV_i bfe_8) (okFs_c (okV_i (bn_any _)) (okFs_c (okV_i (bn_any _)) (okFs_c okV_l (okFs_c (okV_i bfe_12) (okFs_c (okV_i bfe_13) (okFs_c (okV_i (bn_any _)) (okFs_c okV_r (okFs_c okV_r (okFs_c (okV_i (bn_w (bn_eq ex_86604 (bn_sub B_86597 (show bn 1 1 (1 : Int32) from bn_k (by decide)) (by decide))) (by decide))) (okFs_c (okV_i (bn_w (bn_eq ex_86600 (bn_sub B_86598 (show bn 1 1 (1 : Int32) from bn_k (by decide)) (by decide))) (by decide))) (okFs_c (okV_i bfe_19) (okFs_c (okV_i bfe_20) (okFs_c (okV_i (bn_any _)) (okFs_c okV_r (okFs_c okV_r (okFs_c okV_r (okFs_c (okV_i bfe_25) (okFs_c okV_r (okFs_c okV_r (okFs_c okV_r (okFs_c okV_r (okFs_c (okV_i (bn_any _)) (okFs_c okV_r okFs_n)))))))))))))))))))))))))))))))))
    refine lv_iload_n hx hb dX12_shut_68 rfl (lv_at hl 1 rfl) ?_
    refine lv_bipush (v := 43) hx hb dX12_shut_69 (by decide) ?_
    refine lv_icmp_ne (tgt := 80) hx hb dX12_shut_71 (by decide) (fun c_86606 => ?_) (fun c_86606 => ?_)
    · refine lv_aload_n hx hb dX12_shut_80 rfl (lv_at hl 0 rfl) ?_
      refine cVv (As := []) (rest := []) S Y (x_X12_nextToken (l := l) I p_ad_0_0 p_ad_4_0 p_ad_5_0 p_ad_6_0 hB) cw_X12_nextToken km12_166 p_ad_0_0 ok_X12.1 rfl rfl ⟨Nat.le_of_ble_eq_true rfl, Nat.le_of_ble_eq_true rfl⟩ hl.1 rfl (Nat.le_of_ble_eq_true rfl) ⟨Nat.le_of_ble_eq_true rfl, Nat.le_of_ble_eq_true rfl⟩ dX12_shut_81 (fun L_86608 f_86609 H locs hr_86610 Y => ?_)
      obtain ⟨v_86611, v_86612, v_86613, v_86614, v_86615, I, p_ad_0_0, p_ad_4_0, p_ad_5_0, p_ad_6_0, eT_86616, eP_86617, eN_86618⟩ := hr_86610
      obtain ⟨bfc86618_4, bfc86618_5, bfc86618_6, bfc86618_7, bfc86618_8, bfc86618_12, bfc86618_13, bfc86618_17, bfc86618_18, bfc86618_19, bfc86618_20, bfc86618_25⟩ := obM I p_ad_0_0
      have TN_86620 := NT_s hTN eN_86618
      refine lv_aload_n hx hb dX12_shut_84 rfl (lv_at hl 0 rfl) ?_
      refine lv_bipush (v := 7) hx hb dX12_shut_85 (by decide) ?_
      obtain ⟨g_86621, p_ad_3_0, o_86622⟩ := I.opi (k := 3) (j := 0) (by decide) rfl
      have p_ad_3_0 : pt L_86608 f_86609 (ad 3 0) (.inl (G.2 0, 2916, .inl g_86621)) := p_ad_3_0
      obtain ⟨opn2, cmp2, hz⟩ := XS_s40 o_86622 (by have z9 := (show ¬ i1.toInt = 43 from fun z => c_86606 (Int32.toInt_inj.mp (z.trans rfl))); have z8 := (show ¬ i1.toInt = 44 from fun z => c_86602 (Int32.toInt_inj.mp (z.trans rfl))); rcases h4 with h | h | h <;> omega) hc hq hxt (by have z9 := (la_sub ex_86604 (rfl : pd.toInt = pd.toInt) (show (1 : Int32).toInt = 1 from rfl) B_86597 (show bn 1 1 (1 : Int32) from bn_k (by decide)) (by decide)); omega) (by have z9 := (la_sub ex_86600 (rfl : op9.toInt = op9.toInt) (show (1 : Int32).toInt = 1 from rfl) B_86598 (show bn 1 1 (1 : Int32) from bn_k (by decide)) (by decide)); omega) hS.1
      have o_86623 : (XS gB fr gp gc (7 : Int32).toInt.toNat opn2 true cmp2 t0 wr x_86604 x_86600 cg) g_86621 := hz
      have I := I.castS (sp' := spM PA PI (XS gB fr gp gc (7 : Int32).toInt.toNat opn2 true cmp2 t0 wr x_86604 x_86600 cg) pa) (k := 3) (j := 0) (by decide) p_ad_3_0 (okE_a (g := g_86621) o_86623) pXC
      refine cVv (As := [.int 7]) (rest := []) S Y (x_X12_settle (l := l) I p_ad_0_0 p_ad_4_0 p_ad_5_0 p_ad_6_0 (bn_w (show bn 7 7 (7 : Int32) from bn_k (by decide)) (by decide)) (by have c0 := eT_86616.1; have c1 := eP_86617; have c2 := hroom; have c3 := (hT.2 htk); have c4 := bfe_8.2; have c5 := bfe_7.2; have c6 := (la_sub ex_86604 (rfl : pd.toInt = pd.toInt) (show (1 : Int32).toInt = 1 from rfl) B_86597 (show bn 1 1 (1 : Int32) from bn_k (by decide)) (by decide)); omega)) cw_X12_settle km12_181 p_ad_0_0 ok_X12.1 rfl rfl ⟨Nat.le_of_ble_eq_true rfl, Nat.le_of_ble_eq_true rfl⟩ hl.1 rfl (Nat.le_of_ble_eq_true rfl) ⟨Nat.le_of_ble_eq_true rfl, Nat.le_of_ble_eq_true rfl⟩ dX12_shut_87 (fun L_86624 f_86625 H locs hr_86626 Y => ?_)
      obtain ⟨v_86627, v_86628, v_86629, I, p_ad_0_0, p_ad_4_0, p_ad_5_0, p_ad_6_0, es1_86630, es2_86631, es3_86632, eD_86633⟩ := hr_86626
      obtain ⟨bfc86633_4, bfc86633_5, bfc86633_6, bfc86633_7, bfc86633_8, bfc86633_12, bfc86633_13, bfc86633_17, bfc86633_18, bfc86633_19, bfc86633_20, bfc86633_25⟩ := obM I p_ad_0_0
      obtain ⟨g_86635, p_ad_3_0, o_86636⟩ := I.opi (k := 3) (j := 0) (by decide) rfl
      have p_ad_3_0 : pt L_86624 f_86625 (ad 3 0) (.inl (G.2 0, 2916, .inl g_86635)) := p_ad_3_0
      have o_86637 : (XW gB fr gp gc t0 v_86627 v_86628 v_86629 cg true) g_86635 := (XS_end5 o_86636 (by decide) es2_86631)
      have I := I.castS (sp' := spM PA PI (XW gB fr gp gc t0 v_86627 v_86628 v_86629 cg true) pa) (k := 3) (j := 0) (by decide) p_ad_3_0 (okE_a (g := g_86635) o_86637) pXC
      exact prV (post := fun L1 f1 => ∃ at92 : Int32, ∃ ps92 : Int32, ∃ tk2 : Int32, ∃ nu2 : Int32, ∃ wd2 : Int64, ∃ wr2 : Int32, ∃ pd2 : Int32, ∃ op92 : Int32, ∃ cg2 : Int32, ∃ gp2 : Nat → Int32, SH (spM PA PI (XW gB fr gp2 gc t0 wr2 pd2 op92 cg2 true) pa) nnM G ad L1 f1 ∧ pt L1 f1 (ad 0 0) (.inr (12, [.ref (ad 1 0), .ref (ad 2 0), .ref (ad 3 0), .ref (ad 4 0), .int td, .int fa, .int fp, .int at92, .int ps92, .int tk2, .int nu2, .long wd2, .int t0, .int wr2, .int so, .ref (ad 5 0), .ref (ad 6 0), .int pd2, .int op92, .int cg2, .int iw, .int on9, .ref (ad 7 0), .ref (ad 8 0), .ref (ad 9 0), .int is9, .ref (ad 10 0), .ref (ad 11 0), .ref (ad 12 0), .ref (ad 13 0), .int se, .ref (ad 14 0)])) ∧ pt L1 f1 (ad 4 0) (.inl (G.2 0, 300, .inl gt)) ∧ pt L1 f1 (ad 5 0) (.inl (G.2 0, 160, .inl gp2)) ∧ pt L1 f1 (ad 6 0) (.inl (G.2 0, 9, .inl gc)) ∧ TK at92 ps92 tk2 ∧ ps9.toInt + 1 ≤ ps92.toInt ∧ wr2.toInt + pd2.toInt ≤ ps92.toInt ∧ ∃ j, TKN (bI gt) td.toInt.toNat j at92 ps92 tk2 nu2 wd2 ∧ LL (tkK (bI gt) td.toInt.toNat) (tkV (bI gt) td.toInt.toNat) ((CA bL (fun j => (gc j).toInt) (pls (fun j => (gp2 j).toInt) pd2.toInt.toNat) cg2.toInt.toNat).1 ++ S9) j rr ∧ nng (pls (fun j => (gp2 j).toInt) pd2.toInt.toNat)) S Y (by decide) (by decide) hA1 ⟨v_86611, v_86612, v_86613, v_86614, v_86615, v_86627, v_86628, v_86629, cg, gp, I, p_ad_0_0, p_ad_4_0, p_ad_5_0, p_ad_6_0, eT_86616, (by have c0 := eT_86616.1; have c1 := eP_86617; have c2 := es1_86630; have c3 := es3_86632; have c4 := (la_sub ex_86604 (rfl : pd.toInt = pd.toInt) (show (1 : Int32).toInt = 1 from rfl) B_86597 (show bn 1 1 (1 : Int32) from bn_k (by decide)) (by decide)); have c5 := hroom; have c6 := (hT.2 htk); omega), (by have c0 := eT_86616.1; have c1 := eP_86617; have c2 := es1_86630; have c3 := es3_86632; have c4 := (la_sub ex_86604 (rfl : pd.toInt = pd.toInt) (show (1 : Int32).toInt = 1 from rfl) B_86597 (show bn 1 1 (1 : Int32) from bn_k (by decide)) (by decide)); have c5 := hroom; have c6 := (hT.2 htk); omega), ⟨i9 + 1, TN_86620, (by rw [eD_86633, (dR_stp (b := bL) (cn := (fun j => (gc j).toInt)) (c := cg.toInt.toNat) (show 5 ≤ (7 : Int32).toInt.toNat from by decide) _ (fun t ht => h2m t (by rw [pls_1 (by have z9 := (la_sub ex_86604 (rfl : pd.toInt = pd.toInt) (show (1 : Int32).toInt = 1 from rfl) B_86597 (show bn 1 1 (1 : Int32) from bn_k (by decide)) (by decide)); omega) hS.1]; exact List.mem_cons_of_mem _ ht))).2.1, show x_86604.toInt.toNat = pd.toInt.toNat - 1 from by have z9 := (la_sub ex_86604 (rfl : pd.toInt = pd.toInt) (show (1 : Int32).toInt = 1 from rfl) B_86597 (show bn 1 1 (1 : Int32) from bn_k (by decide)) (by decide)); omega]; exact hLS.1 (show ¬ i1.toInt = 44 from fun z => c_86602 (Int32.toInt_inj.mp (z.trans rfl)))), hng _ (by have z9 := es3_86632; have z8 := (la_sub ex_86604 (rfl : pd.toInt = pd.toInt) (show (1 : Int32).toInt = 1 from rfl) B_86597 (show bn 1 1 (1 : Int32) from bn_k (by decide)) (by decide)); omega) es2_86631⟩⟩ dX12_shut_90
    · have B_86607 : bn 43 43 i1 := bn_w (bn_eq c_86606 (show bn 43 43 (43 : Int32) from bn_k (by decide))) (by decide)
      refine lv_aload_n hx hb dX12_shut_74 rfl (lv_at hl 0 rfl) ?_
      refine lv_iconst (v := 3) hx hb dX12_shut_75 (by decide) ?_
      refine lv_iconst (v := 0) hx hb dX12_shut_76 (by decide) ?_
      refine cVv (As := [.int 3, .int 0]) (rest := []) S Y (x_X12_emit (l := l) I p_ad_0_0 p_ad_4_0 p_ad_5_0 p_ad_6_0 (bn_w B_86599 (by decide))) cw_X12_emit km12_148 p_ad_0_0 ok_X12.1 rfl rfl ⟨Nat.le_of_ble_eq_true rfl, Nat.le_of_ble_eq_true rfl⟩ hl.1 rfl (Nat.le_of_ble_eq_true rfl) ⟨Nat.le_of_ble_eq_true rfl, Nat.le_of_ble_eq_true rfl⟩ dX12_shut_77 (fun L_86638 f_86639 H locs hr_86640 Y => ?_)
      obtain ⟨v_86641, I, p_ad_0_0, p_ad_4_0, p_ad_5_0, p_ad_6_0, e13_86642⟩ := hr_86640
      obtain ⟨bfc86642_4, bfc86642_5, bfc86642_6, bfc86642_7, bfc86642_8, bfc86642_12, bfc86642_13, bfc86642_17, bfc86642_18, bfc86642_19, bfc86642_20, bfc86642_25⟩ := obM I p_ad_0_0
      refine lv_aload_n hx hb dX12_shut_80 rfl (lv_at hl 0 rfl) ?_
      refine cVv (As := []) (rest := []) S Y (x_X12_nextToken (l := l) I p_ad_0_0 p_ad_4_0 p_ad_5_0 p_ad_6_0 hB) cw_X12_nextToken km12_166 p_ad_0_0 ok_X12.1 rfl rfl ⟨Nat.le_of_ble_eq_true rfl, Nat.le_of_ble_eq_true rfl⟩ hl.1 rfl (Nat.le_of_ble_eq_true rfl) ⟨Nat.le_of_ble_eq_true rfl, Nat.le_of_ble_eq_true rfl⟩ dX12_shut_81 (fun L_86644 f_86645 H locs hr_86646 Y => ?_)
      obtain ⟨v_86647, v_86648, v_86649, v_86650, v_86651, I, p_ad_0_0, p_ad_4_0, p_ad_5_0, p_ad_6_0, eT_86652, eP_86653, eN_86654⟩ := hr_86646
      obtain ⟨bfc86654_4, bfc86654_5, bfc86654_6, bfc86654_7, bfc86654_8, bfc86654_12, bfc86654_13, bfc86654_17, bfc86654_18, bfc86654_19, bfc86654_20, bfc86654_25⟩ := obM I p_ad_0_0
      have TN_86656 := NT_s hTN eN_86654
      refine lv_aload_n hx hb dX12_shut_84 rfl (lv_at hl 0 rfl) ?_
      refine lv_bipush (v := 7) hx hb dX12_shut_85 (by decide) ?_
      obtain ⟨g_86657, p_ad_3_0, o_86658⟩ := I.opi (k := 3) (j := 0) (by decide) rfl
      have p_ad_3_0 : pt L_86644 f_86645 (ad 3 0) (.inl (G.2 0, 2916, .inl g_86657)) := p_ad_3_0
      obtain ⟨opn2, cmp2, hz⟩ := XS_fi o_86658 rfl rfl rfl e13_86642 B_86599 (ho.symm.trans (show i1.toInt = 43 from by rw [c_86606]; rfl)) hc hq hxt (by have z9 := (la_sub ex_86604 (rfl : pd.toInt = pd.toInt) (show (1 : Int32).toInt = 1 from rfl) B_86597 (show bn 1 1 (1 : Int32) from bn_k (by decide)) (by decide)); omega) (by have z9 := (la_sub ex_86600 (rfl : op9.toInt = op9.toInt) (show (1 : Int32).toInt = 1 from rfl) B_86598 (show bn 1 1 (1 : Int32) from bn_k (by decide)) (by decide)); omega) hS.1
      have o_86659 : (XS gB fr gp gc (7 : Int32).toInt.toNat opn2 true cmp2 t0 v_86641 x_86604 x_86600 cg) g_86657 := hz
      have I := I.castS (sp' := spM PA PI (XS gB fr gp gc (7 : Int32).toInt.toNat opn2 true cmp2 t0 v_86641 x_86604 x_86600 cg) pa) (k := 3) (j := 0) (by decide) p_ad_3_0 (okE_a (g := g_86657) o_86659) pXC
      refine cVv (As := [.int 7]) (rest := []) S Y (x_X12_settle (l := l) I p_ad_0_0 p_ad_4_0 p_ad_5_0 p_ad_6_0 (bn_w (show bn 7 7 (7 : Int32) from bn_k (by decide)) (by decide)) (by have c0 := e13_86642; have c1 := eT_86652.1; have c2 := eP_86653; have c3 := hroom; have c4 := (hT.2 htk); have c5 := bfe_8.2; have c6 := bfe_7.2; have c7 := (la_sub ex_86604 (rfl : pd.toInt = pd.toInt) (show (1 : Int32).toInt = 1 from rfl) B_86597 (show bn 1 1 (1 : Int32) from bn_k (by decide)) (by decide)); omega)) cw_X12_settle km12_181 p_ad_0_0 ok_X12.1 rfl rfl ⟨Nat.le_of_ble_eq_true rfl, Nat.le_of_ble_eq_true rfl⟩ hl.1 rfl (Nat.le_of_ble_eq_true rfl) ⟨Nat.le_of_ble_eq_true rfl, Nat.le_of_ble_eq_true rfl⟩ dX12_shut_87 (fun L_86660 f_86661 H locs hr_86662 Y => ?_)
      obtain ⟨v_86663, v_86664, v_86665, I, p_ad_0_0, p_ad_4_0, p_ad_5_0, p_ad_6_0, es1_86666, es2_86667, es3_86668, eD_86669⟩ := hr_86662
      obtain ⟨bfc86669_4, bfc86669_5, bfc86669_6, bfc86669_7, bfc86669_8, bfc86669_12, bfc86669_13, bfc86669_17, bfc86669_18, bfc86669_19, bfc86669_20, bfc86669_25⟩ := obM I p_ad_0_0
      obtain ⟨g_86671, p_ad_3_0, o_86672⟩ := I.opi (k := 3) (j := 0) (by decide) rfl
      have p_ad_3_0 : pt L_86660 f_86661 (ad 3 0) (.inl (G.2 0, 2916, .inl g_86671)) := p_ad_3_0
      have o_86673 : (XW gB fr gp gc t0 v_86663 v_86664 v_86665 cg true) g_86671 := (XS_end5 o_86672 (by decide) es2_86667)
      have I := I.castS (sp' := spM PA PI (XW gB fr gp gc t0 v_86663 v_86664 v_86665 cg true) pa) (k := 3) (j := 0) (by decide) p_ad_3_0 (okE_a (g := g_86671) o_86673) pXC
      exact prV (post := fun L1 f1 => ∃ at92 : Int32, ∃ ps92 : Int32, ∃ tk2 : Int32, ∃ nu2 : Int32, ∃ wd2 : Int64, ∃ wr2 : Int32, ∃ pd2 : Int32, ∃ op92 : Int32, ∃ cg2 : Int32, ∃ gp2 : Nat → Int32, SH (spM PA PI (XW gB fr gp2 gc t0 wr2 pd2 op92 cg2 true) pa) nnM G ad L1 f1 ∧ pt L1 f1 (ad 0 0) (.inr (12, [.ref (ad 1 0), .ref (ad 2 0), .ref (ad 3 0), .ref (ad 4 0), .int td, .int fa, .int fp, .int at92, .int ps92, .int tk2, .int nu2, .long wd2, .int t0, .int wr2, .int so, .ref (ad 5 0), .ref (ad 6 0), .int pd2, .int op92, .int cg2, .int iw, .int on9, .ref (ad 7 0), .ref (ad 8 0), .ref (ad 9 0), .int is9, .ref (ad 10 0), .ref (ad 11 0), .ref (ad 12 0), .ref (ad 13 0), .int se, .ref (ad 14 0)])) ∧ pt L1 f1 (ad 4 0) (.inl (G.2 0, 300, .inl gt)) ∧ pt L1 f1 (ad 5 0) (.inl (G.2 0, 160, .inl gp2)) ∧ pt L1 f1 (ad 6 0) (.inl (G.2 0, 9, .inl gc)) ∧ TK at92 ps92 tk2 ∧ ps9.toInt + 1 ≤ ps92.toInt ∧ wr2.toInt + pd2.toInt ≤ ps92.toInt ∧ ∃ j, TKN (bI gt) td.toInt.toNat j at92 ps92 tk2 nu2 wd2 ∧ LL (tkK (bI gt) td.toInt.toNat) (tkV (bI gt) td.toInt.toNat) ((CA bL (fun j => (gc j).toInt) (pls (fun j => (gp2 j).toInt) pd2.toInt.toNat) cg2.toInt.toNat).1 ++ S9) j rr ∧ nng (pls (fun j => (gp2 j).toInt) pd2.toInt.toNat)) S Y (by decide) (by decide) hA1 ⟨v_86647, v_86648, v_86649, v_86650, v_86651, v_86663, v_86664, v_86665, cg, gp, I, p_ad_0_0, p_ad_4_0, p_ad_5_0, p_ad_6_0, eT_86652, (by have c0 := e13_86642; have c1 := eT_86652.1; have c2 := eP_86653; have c3 := es1_86666; have c4 := es3_86668; have c5 := (la_sub ex_86604 (rfl : pd.toInt = pd.toInt) (show (1 : Int32).toInt = 1 from rfl) B_86597 (show bn 1 1 (1 : Int32) from bn_k (by decide)) (by decide)); have c6 := hroom; have c7 := (hT.2 htk); omega), (by have c0 := e13_86642; have c1 := eT_86652.1; have c2 := eP_86653; have c3 := es1_86666; have c4 := es3_86668; have c5 := (la_sub ex_86604 (rfl : pd.toInt = pd.toInt) (show (1 : Int32).toInt = 1 from rfl) B_86597 (show bn 1 1 (1 : Int32) from bn_k (by decide)) (by decide)); have c6 := hroom; have c7 := (hT.2 htk); omega), ⟨i9 + 1, TN_86656, (by rw [eD_86669, (dR_stp (b := bL) (cn := (fun j => (gc j).toInt)) (c := cg.toInt.toNat) (show 5 ≤ (7 : Int32).toInt.toNat from by decide) _ (fun t ht => h2m t (by rw [pls_1 (by have z9 := (la_sub ex_86604 (rfl : pd.toInt = pd.toInt) (show (1 : Int32).toInt = 1 from rfl) B_86597 (show bn 1 1 (1 : Int32) from bn_k (by decide)) (by decide)); omega) hS.1]; exact List.mem_cons_of_mem _ ht))).2.1, show x_86604.toInt.toNat = pd.toInt.toNat - 1 from by have z9 := (la_sub ex_86604 (rfl : pd.toInt = pd.toInt) (show (1 : Int32).toInt = 1 from rfl) B_86597 (show bn 1 1 (1 : Int32) from bn_k (by decide)) (by decide)); omega]; exact hLS.1 (show ¬ i1.toInt = 44 from fun z => c_86602 (Int32.toInt_inj.mp (z.trans rfl)))), hng _ (by have z9 := es3_86668; have z8 := (la_sub ex_86604 (rfl : pd.toInt = pd.toInt) (show (1 : Int32).toInt = 1 from rfl) B_86597 (show bn 1 1 (1 : Int32) from bn_k (by decide)) (by decide)); omega) es2_86667⟩⟩ dX12_shut_90
  · have B_86603 : bn 44 44 i1 := bn_w (bn_eq c_86602 (show bn 44 44 (44 : Int32) from bn_k (by decide))) (by decide)
    have B_86674 : bn 1 8 cg := ⟨(hS.2.2.2.2 (ho.symm.trans (show i1.toInt = 44 from by rw [c_86602]; rfl))).1, bfe_19.2⟩
    refine lv_aload_n hx hb dX12_shut_16 rfl (lv_at hl 0 rfl) ?_
    refine lv_dup hx hb dX12_shut_17 rfl ?_
    refine pg_get S Y ok_X12 19 (by decide) kf12_169 (v := .int cg) p_ad_0_0 rfl dX12_shut_18 ?_
    refine lv_iconst (v := 1) hx hb dX12_shut_21 (by decide) ?_
    refine lv_isub hx hb dX12_shut_22 ?_
    refine lv_topi (fun x_86675 ex_86675 => ?_)
    refine pg_put S Y ok_X12 19 (by decide) kf12_169 rfl (fs' := [.ref (ad 1 0), .ref (ad 2 0), .ref (ad 3 0), .ref (ad 4 0), .int td, .int fa, .int fp, .int at9, .int ps9, .int tk, .int nu, .long wd, .int t0, .int wr, .int so, .ref (ad 5 0), .ref (ad 6 0), .int pd, .int x_86600, .int x_86675, .int iw, .int on9, .ref (ad 7 0), .ref (ad 8 0), .ref (ad 9 0), .int is9, .ref (ad 10 0), .ref (ad 11 0), .ref (ad 12 0), .ref (ad 13 0), .int se, .ref (ad 14 0)]) (v := .int x_86675) p_ad_0_0 rfl rfl rfl (Nat.le_of_ble_eq_true rfl) dX12_shut_23 (fun f_86676 H locs ef_86676 Y => ?_)
    have p_ad_4_0 := p_ad_4_0.up ef_86676 (I.ne (k := 4) (j := 0) (k' := 0) (j' := 0) (by decide) (by decide) (Or.inl (by decide)))
    have p_ad_5_0 := p_ad_5_0.up ef_86676 (I.ne (k := 5) (j := 0) (k' := 0) (j' := 0) (by decide) (by decide) (Or.inl (by decide)))
    have p_ad_6_0 := p_ad_6_0.up ef_86676 (I.ne (k := 6) (j := 0) (k' := 0) (j' := 0) (by decide) (by decide) (Or.inl (by decide)))
    have p_ad_3_0 := p_ad_3_0.up ef_86676 (I.ne (k := 3) (j := 0) (k' := 0) (j' := 0) (by decide) (by decide) (Or.inl (by decide)))
    have p_ad_0_0 := p_ad_0_0.me ef_86676
    have I := I.up (k := 0) (j := 0) (by decide) ef_86676 (okE_o (okFs_c okV_r (okFs_c okV_r (okFs_c okV_r (okFs_c okV_r (okFs_c (okV_p bfe_4) (okFs_c (okV_p bfe_5) (okFs_c (okV_p bfe_6) (okFs_c (okV_i bfe_7) (okFs_c (okV_i bfe_8) (okFs_c (okV_i (bn_any _)) (okFs_c (okV_i (bn_any _)) (okFs_c okV_l (okFs_c (okV_i bfe_12) (okFs_c (okV_i bfe_13) (okFs_c (okV_i (bn_any _)) (okFs_c okV_r (okFs_c okV_r (okFs_c (okV_i bfe_17) (okFs_c (okV_i (bn_w (bn_eq ex_86600 (bn_sub B_86598 (show bn 1 1 (1 : Int32) from bn_k (by decide)) (by decide))) (by decide))) (okFs_c (okV_i (bn_w (bn_eq ex_86675 (bn_sub B_86674 (show bn 1 1 (1 : Int32) from bn_k (by decide)) (by decide))) (by decide))) (okFs_c (okV_i bfe_20) (okFs_c (okV_i (bn_any _)) (okFs_c okV_r (okFs_c okV_r (okFs_c okV_r (okFs_c (okV_i bfe_25) (okFs_c okV_r (okFs_c okV_r (okFs_c okV_r (okFs_c okV_r (okFs_c (okV_i (bn_any _)) (okFs_c okV_r okFs_n)))))))))))))))))))))))))))))))))
    refine lv_aload_n hx hb dX12_shut_26 rfl (lv_at hl 0 rfl) ?_
    refine lv_iconst (v := 4) hx hb dX12_shut_27 (by decide) ?_
    refine lv_aload_n hx hb dX12_shut_28 rfl (lv_at hl 0 rfl) ?_
    refine pg_get S Y ok_X12 16 (by decide) kf12_32 (v := .ref (ad 6 0)) p_ad_0_0 rfl dX12_shut_29 ?_
    refine lv_aload_n hx hb dX12_shut_32 rfl (lv_at hl 0 rfl) ?_
    refine pg_get S Y ok_X12 19 (by decide) kf12_169 (v := .int x_86675) p_ad_0_0 rfl dX12_shut_33 ?_
    obtain ⟨v_86677, ev_86677⟩ : ∃ z, z = gc (x_86675 : Int32).toNatClampNeg := ⟨_, rfl⟩
    refine pg_iald S Y (v := v_86677) p_ad_6_0 (vp_bn (bn_eq ex_86675 (bn_sub B_86674 (show bn 1 1 (1 : Int32) from bn_k (by decide)) (by decide))) (by decide)) ev_86677.symm dX12_shut_36 ?_
    refine cVv (As := [.int 4, .int v_86677]) (rest := []) S Y (x_X12_emit (l := l) I p_ad_0_0 p_ad_4_0 p_ad_5_0 p_ad_6_0 (bn_w B_86599 (by decide))) cw_X12_emit km12_148 p_ad_0_0 ok_X12.1 rfl rfl ⟨Nat.le_of_ble_eq_true rfl, Nat.le_of_ble_eq_true rfl⟩ hl.1 rfl (Nat.le_of_ble_eq_true rfl) ⟨Nat.le_of_ble_eq_true rfl, Nat.le_of_ble_eq_true rfl⟩ dX12_shut_37 (fun L_86678 f_86679 H locs hr_86680 Y => ?_)
    obtain ⟨v_86681, I, p_ad_0_0, p_ad_4_0, p_ad_5_0, p_ad_6_0, e13_86682⟩ := hr_86680
    obtain ⟨bfc86682_4, bfc86682_5, bfc86682_6, bfc86682_7, bfc86682_8, bfc86682_12, bfc86682_13, bfc86682_17, bfc86682_18, bfc86682_19, bfc86682_20, bfc86682_25⟩ := obM I p_ad_0_0
    refine lv_aload_n hx hb dX12_shut_40 rfl (lv_at hl 0 rfl) ?_
    refine pg_get S Y ok_X12 15 (by decide) kf12_29 (v := .ref (ad 5 0)) p_ad_0_0 rfl dX12_shut_41 ?_
    refine lv_aload_n hx hb dX12_shut_44 rfl (lv_at hl 0 rfl) ?_
    refine pg_get S Y ok_X12 17 (by decide) kf12_142 (v := .int pd) p_ad_0_0 rfl dX12_shut_45 ?_
    refine lv_iconst (v := 1) hx hb dX12_shut_48 (by decide) ?_
    refine lv_isub hx hb dX12_shut_49 ?_
    refine lv_topi (fun x_86684 ex_86684 => ?_)
    refine lv_bipush (v := 16) hx hb dX12_shut_50 (by decide) ?_
    refine pg_iast S Y p_ad_5_0 (vp_bn (bn_eq ex_86684 (bn_sub B_86597 (show bn 1 1 (1 : Int32) from bn_k (by decide)) (by decide))) (by decide)) dX12_shut_52 (fun f_86686 H locs ef_86686 Y => ?_)
    obtain ⟨g_86685, eg_86685⟩ : ∃ z, z = upd (gp) (x_86684 : Int32).toNatClampNeg 16 := ⟨_, rfl⟩
    rw [← eg_86685] at ef_86686
    have p_ad_0_0 := p_ad_0_0.up ef_86686 (I.ne (k := 0) (j := 0) (k' := 5) (j' := 0) (by decide) (by decide) (Or.inl (by decide)))
    have p_ad_4_0 := p_ad_4_0.up ef_86686 (I.ne (k := 4) (j := 0) (k' := 5) (j' := 0) (by decide) (by decide) (Or.inl (by decide)))
    have p_ad_6_0 := p_ad_6_0.up ef_86686 (I.ne (k := 6) (j := 0) (k' := 5) (j' := 0) (by decide) (by decide) (Or.inl (by decide)))
    have p_ad_5_0 := p_ad_5_0.me ef_86686
    have o_86687 : True := trivial
    have I := I.up (k := 5) (j := 0) (by decide) ef_86686 (okE_a (g := g_86685) o_86687)
    refine lv_aload_n hx hb dX12_shut_53 rfl (lv_at hl 0 rfl) ?_
    refine cVv (As := []) (rest := []) S Y (x_X12_nextToken (l := l) I p_ad_0_0 p_ad_4_0 p_ad_5_0 p_ad_6_0 hB) cw_X12_nextToken km12_166 p_ad_0_0 ok_X12.1 rfl rfl ⟨Nat.le_of_ble_eq_true rfl, Nat.le_of_ble_eq_true rfl⟩ hl.1 rfl (Nat.le_of_ble_eq_true rfl) ⟨Nat.le_of_ble_eq_true rfl, Nat.le_of_ble_eq_true rfl⟩ dX12_shut_54 (fun L_86688 f_86689 H locs hr_86690 Y => ?_)
    obtain ⟨v_86691, v_86692, v_86693, v_86694, v_86695, I, p_ad_0_0, p_ad_4_0, p_ad_5_0, p_ad_6_0, eT_86696, eP_86697, eN_86698⟩ := hr_86690
    obtain ⟨bfc86698_4, bfc86698_5, bfc86698_6, bfc86698_7, bfc86698_8, bfc86698_12, bfc86698_13, bfc86698_17, bfc86698_18, bfc86698_19, bfc86698_20, bfc86698_25⟩ := obM I p_ad_0_0
    have TN_86700 := NT_s hTN eN_86698
    obtain ⟨g_86701, p_ad_3_0, o_86702⟩ := I.opi (k := 3) (j := 0) (by decide) rfl
    have p_ad_3_0 : pt L_86688 f_86689 (ad 3 0) (.inl (G.2 0, 2916, .inl g_86701)) := p_ad_3_0
    have o_86703 : (XW gB fr g_86685 gc t0 v_86681 pd x_86600 x_86675 true) g_86701 := (XS_just o_86702 rfl rfl ev_86677 e13_86682 (B_86599) (ho.symm.trans (show i1.toInt = 44 from by rw [c_86602]; rfl)) (by rcases h4 with h | h | h; have z9 := (ho.symm.trans (show i1.toInt = 44 from by rw [c_86602]; rfl)); omega; have z9 := (ho.symm.trans (show i1.toInt = 44 from by rw [c_86602]; rfl)); omega; exact h.2) hxt eg_86685 (by have z9 := (la_sub ex_86684 (rfl : pd.toInt = pd.toInt) (show (1 : Int32).toInt = 1 from rfl) B_86597 (show bn 1 1 (1 : Int32) from bn_k (by decide)) (by decide)); omega) (by have z9 := (la_sub ex_86600 (rfl : op9.toInt = op9.toInt) (show (1 : Int32).toInt = 1 from rfl) B_86598 (show bn 1 1 (1 : Int32) from bn_k (by decide)) (by decide)); omega) (by have z9 := (la_sub ex_86675 (rfl : cg.toInt = cg.toInt) (show (1 : Int32).toInt = 1 from rfl) B_86674 (show bn 1 1 (1 : Int32) from bn_k (by decide)) (by decide)); omega) hS.1)
    have I := I.castS (sp' := spM PA PI (XW gB fr g_86685 gc t0 v_86681 pd x_86600 x_86675 true) pa) (k := 3) (j := 0) (by decide) p_ad_3_0 (okE_a (g := g_86701) o_86703) pXC
    exact prV (post := fun L1 f1 => ∃ at92 : Int32, ∃ ps92 : Int32, ∃ tk2 : Int32, ∃ nu2 : Int32, ∃ wd2 : Int64, ∃ wr2 : Int32, ∃ pd2 : Int32, ∃ op92 : Int32, ∃ cg2 : Int32, ∃ gp2 : Nat → Int32, SH (spM PA PI (XW gB fr gp2 gc t0 wr2 pd2 op92 cg2 true) pa) nnM G ad L1 f1 ∧ pt L1 f1 (ad 0 0) (.inr (12, [.ref (ad 1 0), .ref (ad 2 0), .ref (ad 3 0), .ref (ad 4 0), .int td, .int fa, .int fp, .int at92, .int ps92, .int tk2, .int nu2, .long wd2, .int t0, .int wr2, .int so, .ref (ad 5 0), .ref (ad 6 0), .int pd2, .int op92, .int cg2, .int iw, .int on9, .ref (ad 7 0), .ref (ad 8 0), .ref (ad 9 0), .int is9, .ref (ad 10 0), .ref (ad 11 0), .ref (ad 12 0), .ref (ad 13 0), .int se, .ref (ad 14 0)])) ∧ pt L1 f1 (ad 4 0) (.inl (G.2 0, 300, .inl gt)) ∧ pt L1 f1 (ad 5 0) (.inl (G.2 0, 160, .inl gp2)) ∧ pt L1 f1 (ad 6 0) (.inl (G.2 0, 9, .inl gc)) ∧ TK at92 ps92 tk2 ∧ ps9.toInt + 1 ≤ ps92.toInt ∧ wr2.toInt + pd2.toInt ≤ ps92.toInt ∧ ∃ j, TKN (bI gt) td.toInt.toNat j at92 ps92 tk2 nu2 wd2 ∧ LL (tkK (bI gt) td.toInt.toNat) (tkV (bI gt) td.toInt.toNat) ((CA bL (fun j => (gc j).toInt) (pls (fun j => (gp2 j).toInt) pd2.toInt.toNat) cg2.toInt.toNat).1 ++ S9) j rr ∧ nng (pls (fun j => (gp2 j).toInt) pd2.toInt.toNat)) S Y (by decide) (by decide) hA1 ⟨v_86691, v_86692, v_86693, v_86694, v_86695, v_86681, pd, x_86600, x_86675, g_86685, I, p_ad_0_0, p_ad_4_0, p_ad_5_0, p_ad_6_0, eT_86696, (by have c0 := e13_86682; have c1 := eT_86696.1; have c2 := eP_86697; have c3 := hroom; have c4 := (hT.2 htk); omega), (by have c0 := e13_86682; have c1 := eT_86696.1; have c2 := eP_86697; have c3 := hroom; have c4 := (hT.2 htk); omega), ⟨i9 + 1, TN_86700, (by rw [pls_rep eg_86685 (by have z9 := (la_sub ex_86684 (rfl : pd.toInt = pd.toInt) (show (1 : Int32).toInt = 1 from rfl) B_86597 (show bn 1 1 (1 : Int32) from bn_k (by decide)) (by decide)); omega) hS.1, show x_86675.toInt.toNat = cg.toInt.toNat - 1 from by have z9 := (la_sub ex_86675 (rfl : cg.toInt = cg.toInt) (show (1 : Int32).toInt = 1 from rfl) B_86674 (show bn 1 1 (1 : Int32) from bn_k (by decide)) (by decide)); have z8 := bfe_19.1; omega]; exact hLS.2 (show i1.toInt = 44 from by rw [c_86602]; rfl)), (by rw [pls_rep eg_86685 (by have z9 := (la_sub ex_86684 (rfl : pd.toInt = pd.toInt) (show (1 : Int32).toInt = 1 from rfl) B_86597 (show bn 1 1 (1 : Int32) from bn_k (by decide)) (by decide)); omega) hS.1]; exact fun z => absurd z.2 (by decide))⟩⟩ dX12_shut_57
