theorem dX3_pop_0 : decode cX3_pop 0 = .ok (.aload_n 0, 1) := by decide +kernel
theorem dX3_pop_1 : decode cX3_pop 1 = .ok (.getfield 101, 3) := by decide +kernel
theorem ok_X3 : clOK 3 RX3 TX3 3 tyX3 := ⟨rfl, fun w h => ⟨(show ∀ w ∈ u_ws RX3 TX3 3, w ∈ lw_tbl by decide +kernel) w h, (show ∀ w ∈ u_ws RX3 TX3 3, gw w = true by decide +kernel) w h⟩, tyX3_ok, nmX3⟩
theorem kf3_101 : inW (Cond.fieldLink RX3 101 "KneeOaths$Judge" "height" "I") := ⟨List.mem_of_getElem? (i := 390) (by decide +kernel), by decide +kernel⟩
theorem dX3_pop_4 : decode cX3_pop 4 = .ok (.ifCond .le 15, 3) := by decide +kernel
theorem dX3_pop_19 : decode cX3_pop 19 = .ok (.iconst 0, 1) := by decide +kernel
theorem dX3_pop_20 : decode cX3_pop 20 = .ok (.ireturn, 1) := by decide +kernel
theorem dX3_pop_7 : decode cX3_pop 7 = .ok (.aload_n 0, 1) := by decide +kernel
theorem dX3_pop_8 : decode cX3_pop 8 = .ok (.getfield 101, 3) := by decide +kernel
theorem dX3_pop_11 : decode cX3_pop 11 = .ok (.aload_n 0, 1) := by decide +kernel
theorem dX3_pop_12 : decode cX3_pop 12 = .ok (.getfield 9, 3) := by decide +kernel
theorem kf3_9 : inW (Cond.fieldLink RX3 9 "KneeOaths$Judge" "stack" "[I") := ⟨List.mem_of_getElem? (i := 389) (by decide +kernel), by decide +kernel⟩
theorem dX3_pop_15 : decode cX3_pop 15 = .ok (.arraylength, 1) := by decide +kernel
theorem dX3_pop_16 : decode cX3_pop 16 = .ok (.if_icmp .le 5, 3) := by decide +kernel
theorem dX3_pop_21 : decode cX3_pop 21 = .ok (.aload_n 0, 1) := by decide +kernel
theorem dX3_pop_22 : decode cX3_pop 22 = .ok (.dup, 1) := by decide +kernel
theorem dX3_pop_23 : decode cX3_pop 23 = .ok (.getfield 101, 3) := by decide +kernel
theorem dX3_pop_26 : decode cX3_pop 26 = .ok (.iconst 1, 1) := by decide +kernel
theorem dX3_pop_27 : decode cX3_pop 27 = .ok (.isub, 1) := by decide +kernel
theorem dX3_pop_28 : decode cX3_pop 28 = .ok (.putfield 101, 3) := by decide +kernel
theorem dX3_pop_31 : decode cX3_pop 31 = .ok (.aload_n 0, 1) := by decide +kernel
theorem dX3_pop_32 : decode cX3_pop 32 = .ok (.getfield 9, 3) := by decide +kernel
theorem dX3_pop_35 : decode cX3_pop 35 = .ok (.aload_n 0, 1) := by decide +kernel
theorem dX3_pop_36 : decode cX3_pop 36 = .ok (.getfield 101, 3) := by decide +kernel
theorem dX3_pop_39 : decode cX3_pop 39 = .ok (.iaload, 1) := by decide +kernel
theorem dX3_pop_40 : decode cX3_pop 40 = .ok (.ireturn, 1) := by decide +kernel
theorem dX3_push_0 : decode cX3_push 0 = .ok (.aload_n 0, 1) := by decide +kernel
theorem dX3_push_1 : decode cX3_push 1 = .ok (.getfield 101, 3) := by decide +kernel
theorem dX3_push_4 : decode cX3_push 4 = .ok (.ifCond .lt 66, 3) := by decide +kernel
theorem dX3_push_70 : decode cX3_push 70 = .ok (.return_, 1) := by decide +kernel
theorem dX3_push_7 : decode cX3_push 7 = .ok (.aload_n 0, 1) := by decide +kernel
theorem dX3_push_8 : decode cX3_push 8 = .ok (.getfield 101, 3) := by decide +kernel
theorem dX3_push_11 : decode cX3_push 11 = .ok (.aload_n 0, 1) := by decide +kernel
theorem dX3_push_12 : decode cX3_push 12 = .ok (.getfield 9, 3) := by decide +kernel
theorem dX3_push_15 : decode cX3_push 15 = .ok (.arraylength, 1) := by decide +kernel
theorem dX3_push_16 : decode cX3_push 16 = .ok (.if_icmp .ge 54, 3) := by decide +kernel
theorem dX3_push_19 : decode cX3_push 19 = .ok (.lload_n 1, 1) := by decide +kernel
theorem dX3_push_20 : decode cX3_push 20 = .ok (.ldc2_w 126, 3) := by decide +kernel
theorem kl3_126 : inW (Cond.constantLong RX3 126 (1000000)) := ⟨List.mem_of_getElem? (i := 982) (by decide +kernel), by decide +kernel⟩
theorem dX3_push_23 : decode cX3_push 23 = .ok (.lcmp, 1) := by decide +kernel
theorem dX3_push_24 : decode cX3_push 24 = .ok (.ifCond .le 9, 3) := by decide +kernel
theorem dX3_push_33 : decode cX3_push 33 = .ok (.lload_n 1, 1) := by decide +kernel
theorem dX3_push_34 : decode cX3_push 34 = .ok (.lstore_n 3, 1) := by decide +kernel
theorem dX3_push_35 : decode cX3_push 35 = .ok (.aload_n 0, 1) := by decide +kernel
theorem dX3_push_36 : decode cX3_push 36 = .ok (.getfield 9, 3) := by decide +kernel
theorem dX3_push_39 : decode cX3_push 39 = .ok (.aload_n 0, 1) := by decide +kernel
theorem dX3_push_40 : decode cX3_push 40 = .ok (.getfield 101, 3) := by decide +kernel
theorem dX3_push_43 : decode cX3_push 43 = .ok (.lload_n 3, 1) := by decide +kernel
theorem dX3_push_44 : decode cX3_push 44 = .ok (.ldc2_w 128, 3) := by decide +kernel
theorem kl3_128 : inW (Cond.constantLong RX3 128 (-1000000)) := ⟨List.mem_of_getElem? (i := 983) (by decide +kernel), by decide +kernel⟩
theorem dX3_push_47 : decode cX3_push 47 = .ok (.lcmp, 1) := by decide +kernel
theorem dX3_push_48 : decode cX3_push 48 = .ok (.ifCond .ge 9, 3) := by decide +kernel
theorem dX3_push_57 : decode cX3_push 57 = .ok (.lload_n 3, 1) := by decide +kernel
theorem dX3_push_58 : decode cX3_push 58 = .ok (.l2i, 1) := by decide +kernel
theorem dX3_push_59 : decode cX3_push 59 = .ok (.iastore, 1) := by decide +kernel
theorem dX3_push_60 : decode cX3_push 60 = .ok (.aload_n 0, 1) := by decide +kernel
theorem dX3_push_61 : decode cX3_push 61 = .ok (.dup, 1) := by decide +kernel
theorem dX3_push_62 : decode cX3_push 62 = .ok (.getfield 101, 3) := by decide +kernel
theorem dX3_push_65 : decode cX3_push 65 = .ok (.iconst 1, 1) := by decide +kernel
theorem dX3_push_66 : decode cX3_push 66 = .ok (.iadd, 1) := by decide +kernel
theorem dX3_push_67 : decode cX3_push 67 = .ok (.putfield 101, 3) := by decide +kernel
theorem dX3_push_51 : decode cX3_push 51 = .ok (.ldc2_w 128, 3) := by decide +kernel
theorem dX3_push_54 : decode cX3_push 54 = .ok (.goto 4, 3) := by decide +kernel
theorem dX3_push_27 : decode cX3_push 27 = .ok (.ldc2_w 126, 3) := by decide +kernel
theorem dX3_push_30 : decode cX3_push 30 = .ok (.goto 4, 3) := by decide +kernel
theorem dX3_joined_0 : decode cX3_joined 0 = .ok (.iload_n 0, 1) := by decide +kernel
theorem dX3_joined_1 : decode cX3_joined 1 = .ok (.tableswitch 169 8 19 #[63, 67, 71, 75, 89, 101, 113, 125, 137, 149, 161, 165], 63) := by decide +kernel
theorem sw_8_19 (x : Int32) : x = 8 ∨ x = 9 ∨ x = 10 ∨ x = 11 ∨ x = 12 ∨ x = 13 ∨ x = 14 ∨ x = 15 ∨ x = 16 ∨ x = 17 ∨ x = 18 ∨ x = 19 ∨ (x.toInt < 8 ∨ 19 < x.toInt) := by
  have key : ∀ k : Int32, x.toInt = k.toInt → x = k := fun k h => Int32.toInt_inj.mp h
  by_cases h1 : x.toInt < 8
  · simp [h1]
  by_cases h2 : 19 < x.toInt
  · simp [h2]
  have h3 : x.toInt = 8 ∨ x.toInt = 9 ∨ x.toInt = 10 ∨ x.toInt = 11 ∨ x.toInt = 12 ∨ x.toInt = 13 ∨ x.toInt = 14 ∨ x.toInt = 15 ∨ x.toInt = 16 ∨ x.toInt = 17 ∨ x.toInt = 18 ∨ x.toInt = 19 := by omega
  rcases h3 with h | h | h | h | h | h | h | h | h | h | h | h
  · rw [key 8 (h.trans (by decide))]; decide
  · rw [key 9 (h.trans (by decide))]; decide
  · rw [key 10 (h.trans (by decide))]; decide
  · rw [key 11 (h.trans (by decide))]; decide
  · rw [key 12 (h.trans (by decide))]; decide
  · rw [key 13 (h.trans (by decide))]; decide
  · rw [key 14 (h.trans (by decide))]; decide
  · rw [key 15 (h.trans (by decide))]; decide
  · rw [key 16 (h.trans (by decide))]; decide
  · rw [key 17 (h.trans (by decide))]; decide
  · rw [key 18 (h.trans (by decide))]; decide
  · rw [key 19 (h.trans (by decide))]; decide
theorem dX3_joined_64 : decode cX3_joined 64 = .ok (.lload_n 1, 1) := by decide +kernel
theorem dX3_joined_65 : decode cX3_joined 65 = .ok (.lload_n 3, 1) := by decide +kernel
theorem dX3_joined_66 : decode cX3_joined 66 = .ok (.ladd, 1) := by decide +kernel
theorem dX3_joined_67 : decode cX3_joined 67 = .ok (.lreturn, 1) := by decide +kernel
theorem dX3_joined_68 : decode cX3_joined 68 = .ok (.lload_n 1, 1) := by decide +kernel
theorem dX3_joined_69 : decode cX3_joined 69 = .ok (.lload_n 3, 1) := by decide +kernel
theorem dX3_joined_70 : decode cX3_joined 70 = .ok (.lsub, 1) := by decide +kernel
theorem dX3_joined_71 : decode cX3_joined 71 = .ok (.lreturn, 1) := by decide +kernel
theorem dX3_joined_72 : decode cX3_joined 72 = .ok (.lload_n 1, 1) := by decide +kernel
theorem dX3_joined_73 : decode cX3_joined 73 = .ok (.lload_n 3, 1) := by decide +kernel
theorem dX3_joined_74 : decode cX3_joined 74 = .ok (.lmul, 1) := by decide +kernel
theorem dX3_joined_75 : decode cX3_joined 75 = .ok (.lreturn, 1) := by decide +kernel
theorem dX3_joined_76 : decode cX3_joined 76 = .ok (.lload_n 3, 1) := by decide +kernel
theorem dX3_joined_77 : decode cX3_joined 77 = .ok (.lconst 0, 1) := by decide +kernel
theorem dX3_joined_78 : decode cX3_joined 78 = .ok (.lcmp, 1) := by decide +kernel
theorem dX3_joined_79 : decode cX3_joined 79 = .ok (.ifCond .ne 7, 3) := by decide +kernel
theorem dX3_joined_86 : decode cX3_joined 86 = .ok (.lload_n 1, 1) := by decide +kernel
theorem dX3_joined_87 : decode cX3_joined 87 = .ok (.lload_n 3, 1) := by decide +kernel
theorem dX3_joined_88 : decode cX3_joined 88 = .ok (.ldiv, 1) := by decide +kernel
theorem dX3_joined_89 : decode cX3_joined 89 = .ok (.lreturn, 1) := by decide +kernel
theorem dX3_joined_82 : decode cX3_joined 82 = .ok (.lconst 0, 1) := by decide +kernel
theorem dX3_joined_83 : decode cX3_joined 83 = .ok (.goto 6, 3) := by decide +kernel
theorem dX3_joined_90 : decode cX3_joined 90 = .ok (.lload_n 1, 1) := by decide +kernel
theorem dX3_joined_91 : decode cX3_joined 91 = .ok (.lload_n 3, 1) := by decide +kernel
theorem dX3_joined_92 : decode cX3_joined 92 = .ok (.lcmp, 1) := by decide +kernel
theorem dX3_joined_93 : decode cX3_joined 93 = .ok (.ifCond .ge 7, 3) := by decide +kernel
theorem dX3_joined_100 : decode cX3_joined 100 = .ok (.lconst 0, 1) := by decide +kernel
theorem dX3_joined_101 : decode cX3_joined 101 = .ok (.lreturn, 1) := by decide +kernel
theorem dX3_joined_96 : decode cX3_joined 96 = .ok (.lconst 1, 1) := by decide +kernel
theorem dX3_joined_97 : decode cX3_joined 97 = .ok (.goto 4, 3) := by decide +kernel
theorem dX3_joined_102 : decode cX3_joined 102 = .ok (.lload_n 1, 1) := by decide +kernel
theorem dX3_joined_103 : decode cX3_joined 103 = .ok (.lload_n 3, 1) := by decide +kernel
theorem dX3_joined_104 : decode cX3_joined 104 = .ok (.lcmp, 1) := by decide +kernel
theorem dX3_joined_105 : decode cX3_joined 105 = .ok (.ifCond .gt 7, 3) := by decide +kernel
theorem dX3_joined_112 : decode cX3_joined 112 = .ok (.lconst 0, 1) := by decide +kernel
theorem dX3_joined_113 : decode cX3_joined 113 = .ok (.lreturn, 1) := by decide +kernel
theorem dX3_joined_108 : decode cX3_joined 108 = .ok (.lconst 1, 1) := by decide +kernel
theorem dX3_joined_109 : decode cX3_joined 109 = .ok (.goto 4, 3) := by decide +kernel
theorem dX3_joined_114 : decode cX3_joined 114 = .ok (.lload_n 1, 1) := by decide +kernel
theorem dX3_joined_115 : decode cX3_joined 115 = .ok (.lload_n 3, 1) := by decide +kernel
theorem dX3_joined_116 : decode cX3_joined 116 = .ok (.lcmp, 1) := by decide +kernel
theorem dX3_joined_117 : decode cX3_joined 117 = .ok (.ifCond .le 7, 3) := by decide +kernel
theorem dX3_joined_124 : decode cX3_joined 124 = .ok (.lconst 0, 1) := by decide +kernel
theorem dX3_joined_125 : decode cX3_joined 125 = .ok (.lreturn, 1) := by decide +kernel
theorem dX3_joined_120 : decode cX3_joined 120 = .ok (.lconst 1, 1) := by decide +kernel
theorem dX3_joined_121 : decode cX3_joined 121 = .ok (.goto 4, 3) := by decide +kernel
theorem dX3_joined_126 : decode cX3_joined 126 = .ok (.lload_n 1, 1) := by decide +kernel
theorem dX3_joined_127 : decode cX3_joined 127 = .ok (.lload_n 3, 1) := by decide +kernel
theorem dX3_joined_128 : decode cX3_joined 128 = .ok (.lcmp, 1) := by decide +kernel
theorem dX3_joined_129 : decode cX3_joined 129 = .ok (.ifCond .lt 7, 3) := by decide +kernel
theorem dX3_joined_136 : decode cX3_joined 136 = .ok (.lconst 0, 1) := by decide +kernel
theorem dX3_joined_137 : decode cX3_joined 137 = .ok (.lreturn, 1) := by decide +kernel
theorem dX3_joined_132 : decode cX3_joined 132 = .ok (.lconst 1, 1) := by decide +kernel
theorem dX3_joined_133 : decode cX3_joined 133 = .ok (.goto 4, 3) := by decide +kernel
theorem dX3_joined_138 : decode cX3_joined 138 = .ok (.lload_n 1, 1) := by decide +kernel
theorem dX3_joined_139 : decode cX3_joined 139 = .ok (.lload_n 3, 1) := by decide +kernel
theorem dX3_joined_140 : decode cX3_joined 140 = .ok (.lcmp, 1) := by decide +kernel
theorem dX3_joined_141 : decode cX3_joined 141 = .ok (.ifCond .ne 7, 3) := by decide +kernel
theorem dX3_joined_148 : decode cX3_joined 148 = .ok (.lconst 0, 1) := by decide +kernel
theorem dX3_joined_149 : decode cX3_joined 149 = .ok (.lreturn, 1) := by decide +kernel
theorem dX3_joined_144 : decode cX3_joined 144 = .ok (.lconst 1, 1) := by decide +kernel
theorem dX3_joined_145 : decode cX3_joined 145 = .ok (.goto 4, 3) := by decide +kernel
theorem dX3_joined_150 : decode cX3_joined 150 = .ok (.lload_n 1, 1) := by decide +kernel
theorem dX3_joined_151 : decode cX3_joined 151 = .ok (.lload_n 3, 1) := by decide +kernel
theorem dX3_joined_152 : decode cX3_joined 152 = .ok (.lcmp, 1) := by decide +kernel
theorem dX3_joined_153 : decode cX3_joined 153 = .ok (.ifCond .eq 7, 3) := by decide +kernel
theorem dX3_joined_160 : decode cX3_joined 160 = .ok (.lconst 0, 1) := by decide +kernel
theorem dX3_joined_161 : decode cX3_joined 161 = .ok (.lreturn, 1) := by decide +kernel
theorem dX3_joined_156 : decode cX3_joined 156 = .ok (.lconst 1, 1) := by decide +kernel
theorem dX3_joined_157 : decode cX3_joined 157 = .ok (.goto 4, 3) := by decide +kernel
theorem dX3_joined_162 : decode cX3_joined 162 = .ok (.lload_n 1, 1) := by decide +kernel
theorem dX3_joined_163 : decode cX3_joined 163 = .ok (.lload_n 3, 1) := by decide +kernel
theorem dX3_joined_164 : decode cX3_joined 164 = .ok (.land, 1) := by decide +kernel
theorem dX3_joined_165 : decode cX3_joined 165 = .ok (.lreturn, 1) := by decide +kernel
theorem dX3_joined_166 : decode cX3_joined 166 = .ok (.lload_n 1, 1) := by decide +kernel
theorem dX3_joined_167 : decode cX3_joined 167 = .ok (.lload_n 3, 1) := by decide +kernel
theorem dX3_joined_168 : decode cX3_joined 168 = .ok (.lor, 1) := by decide +kernel
theorem dX3_joined_169 : decode cX3_joined 169 = .ok (.lreturn, 1) := by decide +kernel
theorem dX3_joined_170 : decode cX3_joined 170 = .ok (.lconst 0, 1) := by decide +kernel
theorem dX3_joined_171 : decode cX3_joined 171 = .ok (.lreturn, 1) := by decide +kernel
theorem dX3_named_0 : decode cX3_named 0 = .ok (.iload_n 1, 1) := by decide +kernel
theorem dX3_named_1 : decode cX3_named 1 = .ok (.tableswitch 131 9 18 #[55, 60, 65, 74, 83, 85, 93, 101, 109, 123], 55) := by decide +kernel
theorem sw_9_18 (x : Int32) : x = 9 ∨ x = 10 ∨ x = 11 ∨ x = 12 ∨ x = 13 ∨ x = 14 ∨ x = 15 ∨ x = 16 ∨ x = 17 ∨ x = 18 ∨ (x.toInt < 9 ∨ 18 < x.toInt) := by
  have key : ∀ k : Int32, x.toInt = k.toInt → x = k := fun k h => Int32.toInt_inj.mp h
  by_cases h1 : x.toInt < 9
  · simp [h1]
  by_cases h2 : 18 < x.toInt
  · simp [h2]
  have h3 : x.toInt = 9 ∨ x.toInt = 10 ∨ x.toInt = 11 ∨ x.toInt = 12 ∨ x.toInt = 13 ∨ x.toInt = 14 ∨ x.toInt = 15 ∨ x.toInt = 16 ∨ x.toInt = 17 ∨ x.toInt = 18 := by omega
  rcases h3 with h | h | h | h | h | h | h | h | h | h
  · rw [key 9 (h.trans (by decide))]; decide
  · rw [key 10 (h.trans (by decide))]; decide
  · rw [key 11 (h.trans (by decide))]; decide
  · rw [key 12 (h.trans (by decide))]; decide
  · rw [key 13 (h.trans (by decide))]; decide
  · rw [key 14 (h.trans (by decide))]; decide
  · rw [key 15 (h.trans (by decide))]; decide
  · rw [key 16 (h.trans (by decide))]; decide
  · rw [key 17 (h.trans (by decide))]; decide
  · rw [key 18 (h.trans (by decide))]; decide
theorem dX3_named_56 : decode cX3_named 56 = .ok (.aload_n 2, 1) := by decide +kernel
theorem dX3_named_57 : decode cX3_named 57 = .ok (.getfield 130, 3) := by decide +kernel
theorem kf3_130 : inW (Cond.fieldLinkNest RX3 130 "KneeOaths$Ledger" "date" "I" "KneeOaths") := ⟨List.mem_of_getElem? (i := 172) (by decide +kernel), by decide +kernel⟩
theorem dX3_named_60 : decode cX3_named 60 = .ok (.ireturn, 1) := by decide +kernel
theorem dX3_named_61 : decode cX3_named 61 = .ok (.aload_n 2, 1) := by decide +kernel
theorem dX3_named_62 : decode cX3_named 62 = .ok (.getfield 57, 3) := by decide +kernel
theorem kf3_57 : inW (Cond.fieldLinkNest RX3 57 "KneeOaths$Ledger" "rain" "I" "KneeOaths") := ⟨List.mem_of_getElem? (i := 176) (by decide +kernel), by decide +kernel⟩
theorem dX3_named_65 : decode cX3_named 65 = .ok (.ireturn, 1) := by decide +kernel
theorem dX3_named_66 : decode cX3_named 66 = .ok (.aload_n 0, 1) := by decide +kernel
theorem dX3_named_67 : decode cX3_named 67 = .ok (.getfield 15, 3) := by decide +kernel
theorem kf3_15 : inW (Cond.fieldLink RX3 15 "KneeOaths$Judge" "world" "LKneeOaths$World;") := ⟨List.mem_of_getElem? (i := 388) (by decide +kernel), by decide +kernel⟩
theorem dX3_named_70 : decode cX3_named 70 = .ok (.iload_n 3, 1) := by decide +kernel
theorem dX3_named_71 : decode cX3_named 71 = .ok (.invokevirtual 37, 3) := by decide +kernel
theorem cw_X10_toughOf : CWv yX10_toughOf cX10_toughOf 2 (some .int) 1 := ⟨⟨⟨List.mem_of_getElem? (i := 126) (by decide +kernel), by decide +kernel⟩, ⟨List.mem_of_getElem? (i := 957) (by decide +kernel), by decide +kernel⟩, by decide +kernel⟩, ⟨List.mem_of_getElem? (i := 955) (by decide +kernel), by decide +kernel⟩, ⟨List.mem_of_getElem? (i := 956) (by decide +kernel), by decide +kernel⟩⟩
theorem km3_37 : inW (Cond.methodLink RX3 37 yX10_toughOf) := ⟨List.mem_of_getElem? (i := 954) (by decide +kernel), by decide +kernel⟩
theorem dX3_named_74 : decode cX3_named 74 = .ok (.ireturn, 1) := by decide +kernel
theorem dX3_named_75 : decode cX3_named 75 = .ok (.aload_n 0, 1) := by decide +kernel
theorem dX3_named_76 : decode cX3_named 76 = .ok (.getfield 15, 3) := by decide +kernel
theorem dX3_named_79 : decode cX3_named 79 = .ok (.iload_n 3, 1) := by decide +kernel
theorem dX3_named_80 : decode cX3_named 80 = .ok (.invokevirtual 133, 3) := by decide +kernel
theorem cw_X10_ageOf : CWv yX10_ageOf cX10_ageOf 2 (some .int) 1 := ⟨⟨⟨List.mem_of_getElem? (i := 126) (by decide +kernel), by decide +kernel⟩, ⟨List.mem_of_getElem? (i := 991) (by decide +kernel), by decide +kernel⟩, by decide +kernel⟩, ⟨List.mem_of_getElem? (i := 989) (by decide +kernel), by decide +kernel⟩, ⟨List.mem_of_getElem? (i := 990) (by decide +kernel), by decide +kernel⟩⟩
theorem km3_133 : inW (Cond.methodLink RX3 133 yX10_ageOf) := ⟨List.mem_of_getElem? (i := 988) (by decide +kernel), by decide +kernel⟩
theorem dX3_named_83 : decode cX3_named 83 = .ok (.ireturn, 1) := by decide +kernel
theorem dX3_named_84 : decode cX3_named 84 = .ok (.iload_n 3, 1) := by decide +kernel
theorem dX3_named_85 : decode cX3_named 85 = .ok (.ireturn, 1) := by decide +kernel
theorem dX3_named_86 : decode cX3_named 86 = .ok (.aload_n 2, 1) := by decide +kernel
theorem dX3_named_87 : decode cX3_named 87 = .ok (.iload 4, 2) := by decide +kernel
theorem dX3_named_89 : decode cX3_named 89 = .ok (.iconst 3, 1) := by decide +kernel
theorem dX3_named_90 : decode cX3_named 90 = .ok (.invokevirtual 19, 3) := by decide +kernel
theorem km3_19 : inW (Cond.methodLink RX3 19 yX4_get) := ⟨List.mem_of_getElem? (i := 951) (by decide +kernel), by decide +kernel⟩
theorem dX3_named_93 : decode cX3_named 93 = .ok (.ireturn, 1) := by decide +kernel
theorem dX3_named_94 : decode cX3_named 94 = .ok (.aload_n 2, 1) := by decide +kernel
theorem dX3_named_95 : decode cX3_named 95 = .ok (.iload 4, 2) := by decide +kernel
theorem dX3_named_97 : decode cX3_named 97 = .ok (.iconst 2, 1) := by decide +kernel
theorem dX3_named_98 : decode cX3_named 98 = .ok (.invokevirtual 19, 3) := by decide +kernel
theorem dX3_named_101 : decode cX3_named 101 = .ok (.ireturn, 1) := by decide +kernel
theorem dX3_named_102 : decode cX3_named 102 = .ok (.aload_n 2, 1) := by decide +kernel
theorem dX3_named_103 : decode cX3_named 103 = .ok (.iload 4, 2) := by decide +kernel
theorem dX3_named_105 : decode cX3_named 105 = .ok (.iconst 5, 1) := by decide +kernel
theorem dX3_named_106 : decode cX3_named 106 = .ok (.invokevirtual 19, 3) := by decide +kernel
theorem dX3_named_109 : decode cX3_named 109 = .ok (.ireturn, 1) := by decide +kernel
theorem dX3_named_110 : decode cX3_named 110 = .ok (.aload_n 2, 1) := by decide +kernel
theorem dX3_named_111 : decode cX3_named 111 = .ok (.getfield 130, 3) := by decide +kernel
theorem dX3_named_114 : decode cX3_named 114 = .ok (.aload_n 2, 1) := by decide +kernel
theorem dX3_named_115 : decode cX3_named 115 = .ok (.iload 4, 2) := by decide +kernel
theorem dX3_named_117 : decode cX3_named 117 = .ok (.bipush 6, 2) := by decide +kernel
theorem dX3_named_119 : decode cX3_named 119 = .ok (.invokevirtual 19, 3) := by decide +kernel
theorem dX3_named_122 : decode cX3_named 122 = .ok (.isub, 1) := by decide +kernel
theorem dX3_named_123 : decode cX3_named 123 = .ok (.ireturn, 1) := by decide +kernel
theorem dX3_named_124 : decode cX3_named 124 = .ok (.aload_n 2, 1) := by decide +kernel
theorem dX3_named_125 : decode cX3_named 125 = .ok (.iload 4, 2) := by decide +kernel
theorem dX3_named_127 : decode cX3_named 127 = .ok (.iconst 0, 1) := by decide +kernel
theorem dX3_named_128 : decode cX3_named 128 = .ok (.invokevirtual 19, 3) := by decide +kernel
theorem dX3_named_131 : decode cX3_named 131 = .ok (.ireturn, 1) := by decide +kernel
theorem dX3_named_132 : decode cX3_named 132 = .ok (.iconst 0, 1) := by decide +kernel
theorem dX3_named_133 : decode cX3_named 133 = .ok (.ireturn, 1) := by decide +kernel
set_option maxHeartbeats 4000000 in
set_option maxRecDepth 100000 in
theorem x_X3_pop {l : Launch} {G : GG}  {L : List Nat} {f : HF} {ad : Nat → Nat → Nat} {rs : RS} {fc : Int × Int} {tc w : Nat → Int × Int} {q : Nat → (Nat → Int32) → Prop} (I : SH (spC rs fc tc w q) nnC G ad L f) (hW : WBp w 8) (hT : WBp tc 4) (hQ : QIp q) : PMi l yX3_pop cX3_pop 1 .int 0 0 0 G [.ref (ad 3 0)] L f (fun r L1 f1 => SH (spC rs fc tc w q) nnC G ad L1 f1) := by
  refine PMi.of (post := fun r L1 f1 => SH (spC rs fc tc w q) nnC G ad L1 f1) (own := RX3) (by decide) rfl (Nat.le_of_ble_eq_true rfl) (fun sz p e s m args below meth c A ls hA1 hname S Y hl => ?_)
  have hx := S.hx
  have hb := S.hb
  have hl : lv_has ls 1 [(0, .ref (ad 3 0))] := hl
  refine lv_aload_n hx hb dX3_pop_0 rfl (lv_at hl 0 rfl) ?_
  obtain ⟨v_8945, p_ad_3_0, b_8946⟩ := opnC_3 (j := 0) I (by decide)
  have p_ad_3_0 : pt L f (ad 3 0) (.inr (3, [.ref (ad 1 0), .ref (ad 54 0), .int v_8945])) := p_ad_3_0
  refine pg_get S Y ok_X3 2 (by decide) kf3_101 (v := .int v_8945) p_ad_3_0 rfl dX3_pop_1 ?_
  refine lv_if_le (tgt := 19) hx hb dX3_pop_4 (by decide) (fun c_8947 => ?_) (fun c_8947 => ?_)
  · have B_8948 : bn (-2147483648) 0 v_8945 := bn_w (bn_lel c_8947 (bn_any v_8945) (show bn 0 0 (0 : Int32) from bn_k (by decide))) (by decide)
    refine lv_iconst (v := 0) hx hb dX3_pop_19 (by decide) ?_
    exact prI (post := fun r L1 f1 => SH (spC rs fc tc w q) nnC G ad L1 f1) S Y rfl (by decide) (by decide) hA1 I dX3_pop_20
  · have B_8949 : bn 1 2147483647 v_8945 := bn_w (bn_gtl c_8947 (bn_any v_8945) (show bn 0 0 (0 : Int32) from bn_k (by decide))) (by decide)
    refine lv_aload_n hx hb dX3_pop_7 rfl (lv_at hl 0 rfl) ?_
    refine pg_get S Y ok_X3 2 (by decide) kf3_101 (v := .int v_8945) p_ad_3_0 rfl dX3_pop_8 ?_
    refine lv_aload_n hx hb dX3_pop_11 rfl (lv_at hl 0 rfl) ?_
    refine pg_get S Y ok_X3 1 (by decide) kf3_9 (v := .ref (ad 54 0)) p_ad_3_0 rfl dX3_pop_12 ?_
    obtain ⟨g_8950, p_ad_54_0, o_8951⟩ := I.opi (k := 54) (j := 0) (by decide) rfl
    have p_ad_54_0 : pt L f (ad 54 0) (.inl (G.2 0, 300, .inl g_8950)) := p_ad_54_0
    refine pg_alen S Y (k := 0) (v := 300) p_ad_54_0 rfl rfl dX3_pop_15 ?_
    refine lv_icmp_le (tgt := 21) hx hb dX3_pop_16 (by decide) (fun c_8952 => ?_) (fun c_8952 => ?_)
    · have B_8953 : bn 1 300 v_8945 := bn_w (bn_lel c_8952 B_8949 (show bn 300 300 (300 : Int32) from bn_k (by decide))) (by decide)
      refine lv_aload_n hx hb dX3_pop_21 rfl (lv_at hl 0 rfl) ?_
      refine lv_dup hx hb dX3_pop_22 rfl ?_
      refine pg_get S Y ok_X3 2 (by decide) kf3_101 (v := .int v_8945) p_ad_3_0 rfl dX3_pop_23 ?_
      refine lv_iconst (v := 1) hx hb dX3_pop_26 (by decide) ?_
      refine lv_isub hx hb dX3_pop_27 ?_
      refine lv_topi (fun x_8955 ex_8955 => ?_)
      refine pg_put S Y ok_X3 2 (by decide) kf3_101 rfl (fs' := [.ref (ad 1 0), .ref (ad 54 0), .int x_8955]) (v := .int x_8955) p_ad_3_0 rfl rfl rfl (Nat.le_of_ble_eq_true rfl) dX3_pop_28 (fun f_8956 H locs ef_8956 Y => ?_)
      have p_ad_54_0 := p_ad_54_0.up ef_8956 (I.ne (k := 54) (j := 0) (k' := 3) (j' := 0) (by decide) (by decide) (Or.inl (by decide)))
      have p_ad_3_0 := p_ad_3_0.me ef_8956
      have I := I.up (k := 3) (j := 0) (by decide) ef_8956 (okE_o (okFs_c okV_r (okFs_c okV_r (okFs_c (okV_i (bn_w (bn_eq ex_8955 (bn_sub B_8953 (show bn 1 1 (1 : Int32) from bn_k (by decide)) (by decide))) (by decide))) okFs_n))))
      refine lv_aload_n hx hb dX3_pop_31 rfl (lv_at hl 0 rfl) ?_
      refine pg_get S Y ok_X3 1 (by decide) kf3_9 (v := .ref (ad 54 0)) p_ad_3_0 rfl dX3_pop_32 ?_
      refine lv_aload_n hx hb dX3_pop_35 rfl (lv_at hl 0 rfl) ?_
      refine pg_get S Y ok_X3 2 (by decide) kf3_101 (v := .int x_8955) p_ad_3_0 rfl dX3_pop_36 ?_
      obtain ⟨v_8957, ev_8957⟩ : ∃ z, z = g_8950 (x_8955 : Int32).toNatClampNeg := ⟨_, rfl⟩
      refine pg_iald S Y (v := v_8957) p_ad_54_0 (vp_bn (bn_eq ex_8955 (bn_sub B_8953 (show bn 1 1 (1 : Int32) from bn_k (by decide)) (by decide))) (by decide)) ev_8957.symm dX3_pop_39 ?_
      exact prI (post := fun r L1 f1 => SH (spC rs fc tc w q) nnC G ad L1 f1) S Y rfl (by decide) (by decide) hA1 I dX3_pop_40
    · have B_8954 : bn 301 2147483647 v_8945 := bn_w (bn_gtl c_8952 B_8949 (show bn 300 300 (300 : Int32) from bn_k (by decide))) (by decide)
      refine lv_iconst (v := 0) hx hb dX3_pop_19 (by decide) ?_
      exact prI (post := fun r L1 f1 => SH (spC rs fc tc w q) nnC G ad L1 f1) S Y rfl (by decide) (by decide) hA1 I dX3_pop_20
set_option maxHeartbeats 4000000 in
set_option maxRecDepth 100000 in
theorem x_X3_push {l : Launch} {G : GG}  {L : List Nat} {f : HF} {ad : Nat → Nat → Nat} {rs : RS} {fc : Int × Int} {tc w : Nat → Int × Int} {q : Nat → (Nat → Int32) → Prop} {v1 : Int64} (I : SH (spC rs fc tc w q) nnC G ad L f) (hW : WBp w 8) (hT : WBp tc 4) (hQ : QIp q) : PMv l yX3_push cX3_push 5 0 0 0 G [.ref (ad 3 0), .long v1] L f (fun L1 f1 => SH (spC rs fc tc w q) nnC G ad L1 f1) := by
  refine PMv.of (post := fun L1 f1 => SH (spC rs fc tc w q) nnC G ad L1 f1) (own := RX3) (by decide) rfl (Nat.le_of_ble_eq_true rfl) (fun sz p e s m args below meth c A ls hA1 hname S Y hl => ?_)
  have hx := S.hx
  have hb := S.hb
  have hl : lv_has ls 5 [(0, .ref (ad 3 0)), (1, .long v1)] := hl
  refine lv_aload_n hx hb dX3_push_0 rfl (lv_at hl 0 rfl) ?_
  obtain ⟨v_9036, p_ad_3_0, b_9037⟩ := opnC_3 (j := 0) I (by decide)
  have p_ad_3_0 : pt L f (ad 3 0) (.inr (3, [.ref (ad 1 0), .ref (ad 54 0), .int v_9036])) := p_ad_3_0
  refine pg_get S Y ok_X3 2 (by decide) kf3_101 (v := .int v_9036) p_ad_3_0 rfl dX3_push_1 ?_
  refine lv_if_lt (tgt := 70) hx hb dX3_push_4 (by decide) (fun c_9038 => ?_) (fun c_9038 => ?_)
  · have B_9039 : bn (-2147483648) (-1) v_9036 := bn_w (bn_ltl c_9038 (bn_any v_9036) (show bn 0 0 (0 : Int32) from bn_k (by decide))) (by decide)
    exact prV (post := fun L1 f1 => SH (spC rs fc tc w q) nnC G ad L1 f1) S Y (by decide) (by decide) hA1 I dX3_push_70
  · have B_9040 : bn 0 2147483647 v_9036 := bn_w (bn_gel c_9038 (bn_any v_9036) (show bn 0 0 (0 : Int32) from bn_k (by decide))) (by decide)
    refine lv_aload_n hx hb dX3_push_7 rfl (lv_at hl 0 rfl) ?_
    refine pg_get S Y ok_X3 2 (by decide) kf3_101 (v := .int v_9036) p_ad_3_0 rfl dX3_push_8 ?_
    refine lv_aload_n hx hb dX3_push_11 rfl (lv_at hl 0 rfl) ?_
    refine pg_get S Y ok_X3 1 (by decide) kf3_9 (v := .ref (ad 54 0)) p_ad_3_0 rfl dX3_push_12 ?_
    obtain ⟨g_9041, p_ad_54_0, o_9042⟩ := I.opi (k := 54) (j := 0) (by decide) rfl
    have p_ad_54_0 : pt L f (ad 54 0) (.inl (G.2 0, 300, .inl g_9041)) := p_ad_54_0
    refine pg_alen S Y (k := 0) (v := 300) p_ad_54_0 rfl rfl dX3_push_15 ?_
    refine lv_icmp_ge (tgt := 70) hx hb dX3_push_16 (by decide) (fun c_9043 => ?_) (fun c_9043 => ?_)
    · have B_9044 : bn 300 2147483647 v_9036 := bn_w (bn_ler c_9043 (show bn 300 300 (300 : Int32) from bn_k (by decide)) B_9040) (by decide)
      exact prV (post := fun L1 f1 => SH (spC rs fc tc w q) nnC G ad L1 f1) S Y (by decide) (by decide) hA1 I dX3_push_70
    · have B_9045 : bn 0 299 v_9036 := bn_w (bn_gtr c_9043 (show bn 300 300 (300 : Int32) from bn_k (by decide)) B_9040) (by decide)
      refine lv_lload_n hx hb dX3_push_19 rfl (lv_at hl 1 rfl) ?_
      refine lv_ldc2 (v := 1000000) hx hb S.ow (S.w kl3_126) dX3_push_20 ?_
      refine W.lcmp hx hb dX3_push_23 ?_
      refine lv_topi (fun x_9046 ex_9046 => ?_)
      refine lv_if_le (tgt := 33) hx hb dX3_push_24 (by decide) (fun c_9047 => ?_) (fun c_9047 => ?_)
      · have B_9048 : bn (-1) 0 x_9046 := bn_w (bn_lel c_9047 (bn_eq ex_9046 (bn_lc v1 (1000000 : Int64))) (show bn 0 0 (0 : Int32) from bn_k (by decide))) (by decide)
        refine lv_lload_n hx hb dX3_push_33 rfl (lv_at hl 1 rfl) ?_
        refine lv_lstore_n (lv' := [(3, .long v1), (0, .ref (ad 3 0)), (1, .long v1)]) hx hb dX3_push_34 rfl hl (by decide) rfl (fun ls hl => ?_)
        refine lv_aload_n hx hb dX3_push_35 rfl (lv_at hl 1 rfl) ?_
        refine pg_get S Y ok_X3 1 (by decide) kf3_9 (v := .ref (ad 54 0)) p_ad_3_0 rfl dX3_push_36 ?_
        refine lv_aload_n hx hb dX3_push_39 rfl (lv_at hl 1 rfl) ?_
        refine pg_get S Y ok_X3 2 (by decide) kf3_101 (v := .int v_9036) p_ad_3_0 rfl dX3_push_40 ?_
        refine lv_lload_n hx hb dX3_push_43 rfl (lv_at hl 0 rfl) ?_
        refine lv_ldc2 (v := (-1000000)) hx hb S.ow (S.w kl3_128) dX3_push_44 ?_
        refine W.lcmp hx hb dX3_push_47 ?_
        refine lv_topi (fun x_9050 ex_9050 => ?_)
        refine lv_if_ge (tgt := 57) hx hb dX3_push_48 (by decide) (fun c_9051 => ?_) (fun c_9051 => ?_)
        · have B_9052 : bn 0 1 x_9050 := bn_w (bn_ler c_9051 (show bn 0 0 (0 : Int32) from bn_k (by decide)) (bn_eq ex_9050 (bn_lc v1 ((-1000000) : Int64)))) (by decide)
          refine lv_lload_n hx hb dX3_push_57 rfl (lv_at hl 0 rfl) ?_
          refine lv_l2i hx hb dX3_push_58 rfl ?_
          refine lv_topi (fun x_9054 ex_9054 => ?_)
          refine pg_iast S Y p_ad_54_0 (vp_bn B_9045 (by decide)) dX3_push_59 (fun f_9056 H locs ef_9056 Y => ?_)
          obtain ⟨g_9055, eg_9055⟩ : ∃ z, z = upd (g_9041) (v_9036 : Int32).toNatClampNeg x_9054 := ⟨_, rfl⟩
          rw [← eg_9055] at ef_9056
          have p_ad_3_0 := p_ad_3_0.up ef_9056 (I.ne (k := 3) (j := 0) (k' := 54) (j' := 0) (by decide) (by decide) (Or.inl (by decide)))
          have p_ad_54_0 := p_ad_54_0.me ef_9056
          have I := I.up (k := 54) (j := 0) (by decide) ef_9056 (okE_a (g := g_9055) trivial)
          refine lv_aload_n hx hb dX3_push_60 rfl (lv_at hl 1 rfl) ?_
          refine lv_dup hx hb dX3_push_61 rfl ?_
          refine pg_get S Y ok_X3 2 (by decide) kf3_101 (v := .int v_9036) p_ad_3_0 rfl dX3_push_62 ?_
          refine lv_iconst (v := 1) hx hb dX3_push_65 (by decide) ?_
          refine lv_iadd hx hb dX3_push_66 ?_
          refine lv_topi (fun x_9057 ex_9057 => ?_)
          refine pg_put S Y ok_X3 2 (by decide) kf3_101 rfl (fs' := [.ref (ad 1 0), .ref (ad 54 0), .int x_9057]) (v := .int x_9057) p_ad_3_0 rfl rfl rfl (Nat.le_of_ble_eq_true rfl) dX3_push_67 (fun f_9058 H locs ef_9058 Y => ?_)
          have p_ad_54_0 := p_ad_54_0.up ef_9058 (I.ne (k := 54) (j := 0) (k' := 3) (j' := 0) (by decide) (by decide) (Or.inl (by decide)))
          have p_ad_3_0 := p_ad_3_0.me ef_9058
          have I := I.up (k := 3) (j := 0) (by decide) ef_9058 (okE_o (okFs_c okV_r (okFs_c okV_r (okFs_c (okV_i (bn_w (bn_eq ex_9057 (bn_add B_9045 (show bn 1 1 (1 : Int32) from bn_k (by decide)) (by decide))) (by decide))) okFs_n))))
          exact prV (post := fun L1 f1 => SH (spC rs fc tc w q) nnC G ad L1 f1) S Y (by decide) (by decide) hA1 I dX3_push_70
        · have B_9053 : bn (-1) (-1) x_9050 := bn_w (bn_gtr c_9051 (show bn 0 0 (0 : Int32) from bn_k (by decide)) (bn_eq ex_9050 (bn_lc v1 ((-1000000) : Int64)))) (by decide)
          refine lv_ldc2 (v := (-1000000)) hx hb S.ow (S.w kl3_128) dX3_push_51 ?_
          refine lv_goto (tgt := 58) hx hb dX3_push_54 (by decide) ?_
          refine lv_l2i (v := (-1000000)) hx hb dX3_push_58 (by decide) ?_
          refine pg_iast S Y p_ad_54_0 (vp_bn B_9045 (by decide)) dX3_push_59 (fun f_9060 H locs ef_9060 Y => ?_)
          obtain ⟨g_9059, eg_9059⟩ : ∃ z, z = upd (g_9041) (v_9036 : Int32).toNatClampNeg (-1000000) := ⟨_, rfl⟩
          rw [← eg_9059] at ef_9060
          have p_ad_3_0 := p_ad_3_0.up ef_9060 (I.ne (k := 3) (j := 0) (k' := 54) (j' := 0) (by decide) (by decide) (Or.inl (by decide)))
          have p_ad_54_0 := p_ad_54_0.me ef_9060
          have I := I.up (k := 54) (j := 0) (by decide) ef_9060 (okE_a (g := g_9059) trivial)
          refine lv_aload_n hx hb dX3_push_60 rfl (lv_at hl 1 rfl) ?_
          refine lv_dup hx hb dX3_push_61 rfl ?_
          refine pg_get S Y ok_X3 2 (by decide) kf3_101 (v := .int v_9036) p_ad_3_0 rfl dX3_push_62 ?_
          refine lv_iconst (v := 1) hx hb dX3_push_65 (by decide) ?_
          refine lv_iadd hx hb dX3_push_66 ?_
          refine lv_topi (fun x_9061 ex_9061 => ?_)
          refine pg_put S Y ok_X3 2 (by decide) kf3_101 rfl (fs' := [.ref (ad 1 0), .ref (ad 54 0), .int x_9061]) (v := .int x_9061) p_ad_3_0 rfl rfl rfl (Nat.le_of_ble_eq_true rfl) dX3_push_67 (fun f_9062 H locs ef_9062 Y => ?_)
          have p_ad_54_0 := p_ad_54_0.up ef_9062 (I.ne (k := 54) (j := 0) (k' := 3) (j' := 0) (by decide) (by decide) (Or.inl (by decide)))
          have p_ad_3_0 := p_ad_3_0.me ef_9062
          have I := I.up (k := 3) (j := 0) (by decide) ef_9062 (okE_o (okFs_c okV_r (okFs_c okV_r (okFs_c (okV_i (bn_w (bn_eq ex_9061 (bn_add B_9045 (show bn 1 1 (1 : Int32) from bn_k (by decide)) (by decide))) (by decide))) okFs_n))))
          exact prV (post := fun L1 f1 => SH (spC rs fc tc w q) nnC G ad L1 f1) S Y (by decide) (by decide) hA1 I dX3_push_70
      · have B_9049 : bn 1 1 x_9046 := bn_w (bn_gtl c_9047 (bn_eq ex_9046 (bn_lc v1 (1000000 : Int64))) (show bn 0 0 (0 : Int32) from bn_k (by decide))) (by decide)
        refine lv_ldc2 (v := 1000000) hx hb S.ow (S.w kl3_126) dX3_push_27 ?_
        refine lv_goto (tgt := 34) hx hb dX3_push_30 (by decide) ?_
        refine lv_lstore_n (lv' := [(3, .long 1000000), (0, .ref (ad 3 0)), (1, .long v1)]) hx hb dX3_push_34 rfl hl (by decide) rfl (fun ls hl => ?_)
        refine lv_aload_n hx hb dX3_push_35 rfl (lv_at hl 1 rfl) ?_
        refine pg_get S Y ok_X3 1 (by decide) kf3_9 (v := .ref (ad 54 0)) p_ad_3_0 rfl dX3_push_36 ?_
        refine lv_aload_n hx hb dX3_push_39 rfl (lv_at hl 1 rfl) ?_
        refine pg_get S Y ok_X3 2 (by decide) kf3_101 (v := .int v_9036) p_ad_3_0 rfl dX3_push_40 ?_
        refine lv_lload_n hx hb dX3_push_43 rfl (lv_at hl 0 rfl) ?_
        refine lv_ldc2 (v := (-1000000)) hx hb S.ow (S.w kl3_128) dX3_push_44 ?_
        refine W.lcmp hx hb dX3_push_47 ?_
        refine lv_topi (fun x_9063 ex_9063 => ?_)
        refine lv_if_ge (tgt := 57) hx hb dX3_push_48 (by decide) (fun c_9064 => ?_) (fun c_9064 => ?_)
        · have B_9065 : bn 0 1 x_9063 := bn_w (bn_ler c_9064 (show bn 0 0 (0 : Int32) from bn_k (by decide)) (bn_eq ex_9063 (bn_lc (1000000 : Int64) ((-1000000) : Int64)))) (by decide)
          refine lv_lload_n hx hb dX3_push_57 rfl (lv_at hl 0 rfl) ?_
          refine lv_l2i (v := 1000000) hx hb dX3_push_58 (by decide) ?_
          refine pg_iast S Y p_ad_54_0 (vp_bn B_9045 (by decide)) dX3_push_59 (fun f_9068 H locs ef_9068 Y => ?_)
          obtain ⟨g_9067, eg_9067⟩ : ∃ z, z = upd (g_9041) (v_9036 : Int32).toNatClampNeg 1000000 := ⟨_, rfl⟩
          rw [← eg_9067] at ef_9068
          have p_ad_3_0 := p_ad_3_0.up ef_9068 (I.ne (k := 3) (j := 0) (k' := 54) (j' := 0) (by decide) (by decide) (Or.inl (by decide)))
          have p_ad_54_0 := p_ad_54_0.me ef_9068
          have I := I.up (k := 54) (j := 0) (by decide) ef_9068 (okE_a (g := g_9067) trivial)
          refine lv_aload_n hx hb dX3_push_60 rfl (lv_at hl 1 rfl) ?_
          refine lv_dup hx hb dX3_push_61 rfl ?_
          refine pg_get S Y ok_X3 2 (by decide) kf3_101 (v := .int v_9036) p_ad_3_0 rfl dX3_push_62 ?_
          refine lv_iconst (v := 1) hx hb dX3_push_65 (by decide) ?_
          refine lv_iadd hx hb dX3_push_66 ?_
          refine lv_topi (fun x_9069 ex_9069 => ?_)
          refine pg_put S Y ok_X3 2 (by decide) kf3_101 rfl (fs' := [.ref (ad 1 0), .ref (ad 54 0), .int x_9069]) (v := .int x_9069) p_ad_3_0 rfl rfl rfl (Nat.le_of_ble_eq_true rfl) dX3_push_67 (fun f_9070 H locs ef_9070 Y => ?_)
          have p_ad_54_0 := p_ad_54_0.up ef_9070 (I.ne (k := 54) (j := 0) (k' := 3) (j' := 0) (by decide) (by decide) (Or.inl (by decide)))
          have p_ad_3_0 := p_ad_3_0.me ef_9070
          have I := I.up (k := 3) (j := 0) (by decide) ef_9070 (okE_o (okFs_c okV_r (okFs_c okV_r (okFs_c (okV_i (bn_w (bn_eq ex_9069 (bn_add B_9045 (show bn 1 1 (1 : Int32) from bn_k (by decide)) (by decide))) (by decide))) okFs_n))))
          exact prV (post := fun L1 f1 => SH (spC rs fc tc w q) nnC G ad L1 f1) S Y (by decide) (by decide) hA1 I dX3_push_70
        · have B_9066 : bn (-1) (-1) x_9063 := bn_w (bn_gtr c_9064 (show bn 0 0 (0 : Int32) from bn_k (by decide)) (bn_eq ex_9063 (bn_lc (1000000 : Int64) ((-1000000) : Int64)))) (by decide)
          refine lv_ldc2 (v := (-1000000)) hx hb S.ow (S.w kl3_128) dX3_push_51 ?_
          refine lv_goto (tgt := 58) hx hb dX3_push_54 (by decide) ?_
          refine lv_l2i (v := (-1000000)) hx hb dX3_push_58 (by decide) ?_
          refine pg_iast S Y p_ad_54_0 (vp_bn B_9045 (by decide)) dX3_push_59 (fun f_9072 H locs ef_9072 Y => ?_)
          obtain ⟨g_9071, eg_9071⟩ : ∃ z, z = upd (g_9041) (v_9036 : Int32).toNatClampNeg (-1000000) := ⟨_, rfl⟩
          rw [← eg_9071] at ef_9072
          have p_ad_3_0 := p_ad_3_0.up ef_9072 (I.ne (k := 3) (j := 0) (k' := 54) (j' := 0) (by decide) (by decide) (Or.inl (by decide)))
          have p_ad_54_0 := p_ad_54_0.me ef_9072
          have I := I.up (k := 54) (j := 0) (by decide) ef_9072 (okE_a (g := g_9071) trivial)
          refine lv_aload_n hx hb dX3_push_60 rfl (lv_at hl 1 rfl) ?_
          refine lv_dup hx hb dX3_push_61 rfl ?_
          refine pg_get S Y ok_X3 2 (by decide) kf3_101 (v := .int v_9036) p_ad_3_0 rfl dX3_push_62 ?_
          refine lv_iconst (v := 1) hx hb dX3_push_65 (by decide) ?_
          refine lv_iadd hx hb dX3_push_66 ?_
          refine lv_topi (fun x_9073 ex_9073 => ?_)
          refine pg_put S Y ok_X3 2 (by decide) kf3_101 rfl (fs' := [.ref (ad 1 0), .ref (ad 54 0), .int x_9073]) (v := .int x_9073) p_ad_3_0 rfl rfl rfl (Nat.le_of_ble_eq_true rfl) dX3_push_67 (fun f_9074 H locs ef_9074 Y => ?_)
          have p_ad_54_0 := p_ad_54_0.up ef_9074 (I.ne (k := 54) (j := 0) (k' := 3) (j' := 0) (by decide) (by decide) (Or.inl (by decide)))
          have p_ad_3_0 := p_ad_3_0.me ef_9074
          have I := I.up (k := 3) (j := 0) (by decide) ef_9074 (okE_o (okFs_c okV_r (okFs_c okV_r (okFs_c (okV_i (bn_w (bn_eq ex_9073 (bn_add B_9045 (show bn 1 1 (1 : Int32) from bn_k (by decide)) (by decide))) (by decide))) okFs_n))))
          exact prV (post := fun L1 f1 => SH (spC rs fc tc w q) nnC G ad L1 f1) S Y (by decide) (by decide) hA1 I dX3_push_70
set_option maxHeartbeats 4000000 in
set_option maxRecDepth 100000 in
theorem x_X3_joined {l : Launch} {G : GG}  {L : List Nat} {f : HF}  {i1 : Int32} {v1 v2 : Int64}  : PMl l yX3_joined cX3_joined 5 0 0 0 G [.int i1, .long v1, .long v2] L f (fun r L1 f1 => (True) ∧ L1 = L ∧ f1 = f) := by
  refine PMl.of (post := fun r L1 f1 => (True) ∧ L1 = L ∧ f1 = f) (own := RX3) (by decide) rfl (Nat.le_of_ble_eq_true rfl) (fun sz p e s m args below meth c A ls hA1 hname S Y hl => ?_)
  have hx := S.hx
  have hb := S.hb
  have hl : lv_has ls 5 [(0, .int i1), (1, .long v1), (3, .long v2)] := hl
  refine lv_iload_n hx hb dX3_joined_0 rfl (lv_at hl 0 rfl) ?_
  rcases sw_8_19 i1 with h_9139 | h_9139 | h_9139 | h_9139 | h_9139 | h_9139 | h_9139 | h_9139 | h_9139 | h_9139 | h_9139 | h_9139 | h_9139
  · refine lv_fold (z := 8) h_9139 ?_
    refine lv_tableIn (off := 63) (tgt := 64) hx hb dX3_joined_1 (by decide) (by decide) (by decide) (by decide) ?_
    refine lv_lload_n hx hb dX3_joined_64 rfl (lv_at hl 1 rfl) ?_
    refine lv_lload_n hx hb dX3_joined_65 rfl (lv_at hl 2 rfl) ?_
    refine lv_ladd hx hb dX3_joined_66 ?_
    refine lv_topl (fun x_9140 ex_9140 => ?_)
    exact prL (post := fun r L1 f1 => (True) ∧ L1 = L ∧ f1 = f) S Y (by decide) (by decide) hA1 ⟨trivial, rfl, rfl⟩ dX3_joined_67
  · refine lv_fold (z := 9) h_9139 ?_
    refine lv_tableIn (off := 67) (tgt := 68) hx hb dX3_joined_1 (by decide) (by decide) (by decide) (by decide) ?_
    refine lv_lload_n hx hb dX3_joined_68 rfl (lv_at hl 1 rfl) ?_
    refine lv_lload_n hx hb dX3_joined_69 rfl (lv_at hl 2 rfl) ?_
    refine lv_lsub hx hb dX3_joined_70 ?_
    refine lv_topl (fun x_9141 ex_9141 => ?_)
    exact prL (post := fun r L1 f1 => (True) ∧ L1 = L ∧ f1 = f) S Y (by decide) (by decide) hA1 ⟨trivial, rfl, rfl⟩ dX3_joined_71
  · refine lv_fold (z := 10) h_9139 ?_
    refine lv_tableIn (off := 71) (tgt := 72) hx hb dX3_joined_1 (by decide) (by decide) (by decide) (by decide) ?_
    refine lv_lload_n hx hb dX3_joined_72 rfl (lv_at hl 1 rfl) ?_
    refine lv_lload_n hx hb dX3_joined_73 rfl (lv_at hl 2 rfl) ?_
    refine lv_lmul hx hb dX3_joined_74 ?_
    refine lv_topl (fun x_9142 ex_9142 => ?_)
    exact prL (post := fun r L1 f1 => (True) ∧ L1 = L ∧ f1 = f) S Y (by decide) (by decide) hA1 ⟨trivial, rfl, rfl⟩ dX3_joined_75
  · refine lv_fold (z := 11) h_9139 ?_
    refine lv_tableIn (off := 75) (tgt := 76) hx hb dX3_joined_1 (by decide) (by decide) (by decide) (by decide) ?_
    refine lv_lload_n hx hb dX3_joined_76 rfl (lv_at hl 2 rfl) ?_
    refine lv_lconst (v := 0) hx hb dX3_joined_77 (by decide) ?_
    refine W.lcmp hx hb dX3_joined_78 ?_
    refine lv_topi (fun x_9143 ex_9143 => ?_)
    refine lv_if_ne (tgt := 86) hx hb dX3_joined_79 (by decide) (fun c_9144 => ?_) (fun c_9144 => ?_)
    · refine lv_lload_n hx hb dX3_joined_86 rfl (lv_at hl 1 rfl) ?_
      refine lv_lload_n hx hb dX3_joined_87 rfl (lv_at hl 2 rfl) ?_
      refine lv_ldiv hx hb dX3_joined_88 (lc_nz ex_9143 c_9144) ?_
      refine lv_topl (fun x_9146 ex_9146 => ?_)
      exact prL (post := fun r L1 f1 => (True) ∧ L1 = L ∧ f1 = f) S Y (by decide) (by decide) hA1 ⟨trivial, rfl, rfl⟩ dX3_joined_89
    · have B_9145 : bn 0 0 x_9143 := bn_w (bn_eq c_9144 (show bn 0 0 (0 : Int32) from bn_k (by decide))) (by decide)
      refine lv_lconst (v := 0) hx hb dX3_joined_82 (by decide) ?_
      refine lv_goto (tgt := 89) hx hb dX3_joined_83 (by decide) ?_
      exact prL (post := fun r L1 f1 => (True) ∧ L1 = L ∧ f1 = f) S Y (by decide) (by decide) hA1 ⟨trivial, rfl, rfl⟩ dX3_joined_89
  · refine lv_fold (z := 12) h_9139 ?_
    refine lv_tableIn (off := 89) (tgt := 90) hx hb dX3_joined_1 (by decide) (by decide) (by decide) (by decide) ?_
    refine lv_lload_n hx hb dX3_joined_90 rfl (lv_at hl 1 rfl) ?_
    refine lv_lload_n hx hb dX3_joined_91 rfl (lv_at hl 2 rfl) ?_
    refine W.lcmp hx hb dX3_joined_92 ?_
    refine lv_topi (fun x_9147 ex_9147 => ?_)
    refine lv_if_ge (tgt := 100) hx hb dX3_joined_93 (by decide) (fun c_9148 => ?_) (fun c_9148 => ?_)
    · have B_9149 : bn 0 1 x_9147 := bn_w (bn_ler c_9148 (show bn 0 0 (0 : Int32) from bn_k (by decide)) (bn_eq ex_9147 (bn_lc v1 v2))) (by decide)
      refine lv_lconst (v := 0) hx hb dX3_joined_100 (by decide) ?_
      exact prL (post := fun r L1 f1 => (True) ∧ L1 = L ∧ f1 = f) S Y (by decide) (by decide) hA1 ⟨trivial, rfl, rfl⟩ dX3_joined_101
    · have B_9150 : bn (-1) (-1) x_9147 := bn_w (bn_gtr c_9148 (show bn 0 0 (0 : Int32) from bn_k (by decide)) (bn_eq ex_9147 (bn_lc v1 v2))) (by decide)
      refine lv_lconst (v := 1) hx hb dX3_joined_96 (by decide) ?_
      refine lv_goto (tgt := 101) hx hb dX3_joined_97 (by decide) ?_
      exact prL (post := fun r L1 f1 => (True) ∧ L1 = L ∧ f1 = f) S Y (by decide) (by decide) hA1 ⟨trivial, rfl, rfl⟩ dX3_joined_101
  · refine lv_fold (z := 13) h_9139 ?_
    refine lv_tableIn (off := 101) (tgt := 102) hx hb dX3_joined_1 (by decide) (by decide) (by decide) (by decide) ?_
    refine lv_lload_n hx hb dX3_joined_102 rfl (lv_at hl 1 rfl) ?_
    refine lv_lload_n hx hb dX3_joined_103 rfl (lv_at hl 2 rfl) ?_
    refine W.lcmp hx hb dX3_joined_104 ?_
    refine lv_topi (fun x_9151 ex_9151 => ?_)
    refine lv_if_gt (tgt := 112) hx hb dX3_joined_105 (by decide) (fun c_9152 => ?_) (fun c_9152 => ?_)
    · have B_9153 : bn 1 1 x_9151 := bn_w (bn_ltr c_9152 (show bn 0 0 (0 : Int32) from bn_k (by decide)) (bn_eq ex_9151 (bn_lc v1 v2))) (by decide)
      refine lv_lconst (v := 0) hx hb dX3_joined_112 (by decide) ?_
      exact prL (post := fun r L1 f1 => (True) ∧ L1 = L ∧ f1 = f) S Y (by decide) (by decide) hA1 ⟨trivial, rfl, rfl⟩ dX3_joined_113
    · have B_9154 : bn (-1) 0 x_9151 := bn_w (bn_ger c_9152 (show bn 0 0 (0 : Int32) from bn_k (by decide)) (bn_eq ex_9151 (bn_lc v1 v2))) (by decide)
      refine lv_lconst (v := 1) hx hb dX3_joined_108 (by decide) ?_
      refine lv_goto (tgt := 113) hx hb dX3_joined_109 (by decide) ?_
      exact prL (post := fun r L1 f1 => (True) ∧ L1 = L ∧ f1 = f) S Y (by decide) (by decide) hA1 ⟨trivial, rfl, rfl⟩ dX3_joined_113
  · refine lv_fold (z := 14) h_9139 ?_
    refine lv_tableIn (off := 113) (tgt := 114) hx hb dX3_joined_1 (by decide) (by decide) (by decide) (by decide) ?_
    refine lv_lload_n hx hb dX3_joined_114 rfl (lv_at hl 1 rfl) ?_
    refine lv_lload_n hx hb dX3_joined_115 rfl (lv_at hl 2 rfl) ?_
    refine W.lcmp hx hb dX3_joined_116 ?_
    refine lv_topi (fun x_9155 ex_9155 => ?_)
    refine lv_if_le (tgt := 124) hx hb dX3_joined_117 (by decide) (fun c_9156 => ?_) (fun c_9156 => ?_)
    · have B_9157 : bn (-1) 0 x_9155 := bn_w (bn_lel c_9156 (bn_eq ex_9155 (bn_lc v1 v2)) (show bn 0 0 (0 : Int32) from bn_k (by decide))) (by decide)
      refine lv_lconst (v := 0) hx hb dX3_joined_124 (by decide) ?_
      exact prL (post := fun r L1 f1 => (True) ∧ L1 = L ∧ f1 = f) S Y (by decide) (by decide) hA1 ⟨trivial, rfl, rfl⟩ dX3_joined_125
    · have B_9158 : bn 1 1 x_9155 := bn_w (bn_gtl c_9156 (bn_eq ex_9155 (bn_lc v1 v2)) (show bn 0 0 (0 : Int32) from bn_k (by decide))) (by decide)
      refine lv_lconst (v := 1) hx hb dX3_joined_120 (by decide) ?_
      refine lv_goto (tgt := 125) hx hb dX3_joined_121 (by decide) ?_
      exact prL (post := fun r L1 f1 => (True) ∧ L1 = L ∧ f1 = f) S Y (by decide) (by decide) hA1 ⟨trivial, rfl, rfl⟩ dX3_joined_125
  · refine lv_fold (z := 15) h_9139 ?_
    refine lv_tableIn (off := 125) (tgt := 126) hx hb dX3_joined_1 (by decide) (by decide) (by decide) (by decide) ?_
    refine lv_lload_n hx hb dX3_joined_126 rfl (lv_at hl 1 rfl) ?_
    refine lv_lload_n hx hb dX3_joined_127 rfl (lv_at hl 2 rfl) ?_
    refine W.lcmp hx hb dX3_joined_128 ?_
    refine lv_topi (fun x_9159 ex_9159 => ?_)
    refine lv_if_lt (tgt := 136) hx hb dX3_joined_129 (by decide) (fun c_9160 => ?_) (fun c_9160 => ?_)
    · have B_9161 : bn (-1) (-1) x_9159 := bn_w (bn_ltl c_9160 (bn_eq ex_9159 (bn_lc v1 v2)) (show bn 0 0 (0 : Int32) from bn_k (by decide))) (by decide)
      refine lv_lconst (v := 0) hx hb dX3_joined_136 (by decide) ?_
      exact prL (post := fun r L1 f1 => (True) ∧ L1 = L ∧ f1 = f) S Y (by decide) (by decide) hA1 ⟨trivial, rfl, rfl⟩ dX3_joined_137
    · have B_9162 : bn 0 1 x_9159 := bn_w (bn_gel c_9160 (bn_eq ex_9159 (bn_lc v1 v2)) (show bn 0 0 (0 : Int32) from bn_k (by decide))) (by decide)
      refine lv_lconst (v := 1) hx hb dX3_joined_132 (by decide) ?_
      refine lv_goto (tgt := 137) hx hb dX3_joined_133 (by decide) ?_
      exact prL (post := fun r L1 f1 => (True) ∧ L1 = L ∧ f1 = f) S Y (by decide) (by decide) hA1 ⟨trivial, rfl, rfl⟩ dX3_joined_137
  · refine lv_fold (z := 16) h_9139 ?_
    refine lv_tableIn (off := 137) (tgt := 138) hx hb dX3_joined_1 (by decide) (by decide) (by decide) (by decide) ?_
    refine lv_lload_n hx hb dX3_joined_138 rfl (lv_at hl 1 rfl) ?_
    refine lv_lload_n hx hb dX3_joined_139 rfl (lv_at hl 2 rfl) ?_
    refine W.lcmp hx hb dX3_joined_140 ?_
    refine lv_topi (fun x_9163 ex_9163 => ?_)
    refine lv_if_ne (tgt := 148) hx hb dX3_joined_141 (by decide) (fun c_9164 => ?_) (fun c_9164 => ?_)
    · refine lv_lconst (v := 0) hx hb dX3_joined_148 (by decide) ?_
      exact prL (post := fun r L1 f1 => (True) ∧ L1 = L ∧ f1 = f) S Y (by decide) (by decide) hA1 ⟨trivial, rfl, rfl⟩ dX3_joined_149
    · have B_9165 : bn 0 0 x_9163 := bn_w (bn_eq c_9164 (show bn 0 0 (0 : Int32) from bn_k (by decide))) (by decide)
      refine lv_lconst (v := 1) hx hb dX3_joined_144 (by decide) ?_
      refine lv_goto (tgt := 149) hx hb dX3_joined_145 (by decide) ?_
      exact prL (post := fun r L1 f1 => (True) ∧ L1 = L ∧ f1 = f) S Y (by decide) (by decide) hA1 ⟨trivial, rfl, rfl⟩ dX3_joined_149
  · refine lv_fold (z := 17) h_9139 ?_
    refine lv_tableIn (off := 149) (tgt := 150) hx hb dX3_joined_1 (by decide) (by decide) (by decide) (by decide) ?_
    refine lv_lload_n hx hb dX3_joined_150 rfl (lv_at hl 1 rfl) ?_
    refine lv_lload_n hx hb dX3_joined_151 rfl (lv_at hl 2 rfl) ?_
    refine W.lcmp hx hb dX3_joined_152 ?_
    refine lv_topi (fun x_9166 ex_9166 => ?_)
    refine lv_if_eq (tgt := 160) hx hb dX3_joined_153 (by decide) (fun c_9167 => ?_) (fun c_9167 => ?_)
    · have B_9168 : bn 0 0 x_9166 := bn_w (bn_eq c_9167 (show bn 0 0 (0 : Int32) from bn_k (by decide))) (by decide)
      refine lv_lconst (v := 0) hx hb dX3_joined_160 (by decide) ?_
      exact prL (post := fun r L1 f1 => (True) ∧ L1 = L ∧ f1 = f) S Y (by decide) (by decide) hA1 ⟨trivial, rfl, rfl⟩ dX3_joined_161
    · refine lv_lconst (v := 1) hx hb dX3_joined_156 (by decide) ?_
      refine lv_goto (tgt := 161) hx hb dX3_joined_157 (by decide) ?_
      exact prL (post := fun r L1 f1 => (True) ∧ L1 = L ∧ f1 = f) S Y (by decide) (by decide) hA1 ⟨trivial, rfl, rfl⟩ dX3_joined_161
  · refine lv_fold (z := 18) h_9139 ?_
    refine lv_tableIn (off := 161) (tgt := 162) hx hb dX3_joined_1 (by decide) (by decide) (by decide) (by decide) ?_
    refine lv_lload_n hx hb dX3_joined_162 rfl (lv_at hl 1 rfl) ?_
    refine lv_lload_n hx hb dX3_joined_163 rfl (lv_at hl 2 rfl) ?_
    refine lv_land hx hb dX3_joined_164 ?_
    refine lv_topl (fun x_9169 ex_9169 => ?_)
    exact prL (post := fun r L1 f1 => (True) ∧ L1 = L ∧ f1 = f) S Y (by decide) (by decide) hA1 ⟨trivial, rfl, rfl⟩ dX3_joined_165
  · refine lv_fold (z := 19) h_9139 ?_
    refine lv_tableIn (off := 165) (tgt := 166) hx hb dX3_joined_1 (by decide) (by decide) (by decide) (by decide) ?_
    refine lv_lload_n hx hb dX3_joined_166 rfl (lv_at hl 1 rfl) ?_
    refine lv_lload_n hx hb dX3_joined_167 rfl (lv_at hl 2 rfl) ?_
    refine lv_lor hx hb dX3_joined_168 ?_
    refine lv_topl (fun x_9170 ex_9170 => ?_)
    exact prL (post := fun r L1 f1 => (True) ∧ L1 = L ∧ f1 = f) S Y (by decide) (by decide) hA1 ⟨trivial, rfl, rfl⟩ dX3_joined_169
  · refine lv_tableOut (tgt := 170) hx hb dX3_joined_1 h_9139 (by decide) ?_
    refine lv_lconst (v := 0) hx hb dX3_joined_170 (by decide) ?_
    exact prL (post := fun r L1 f1 => (True) ∧ L1 = L ∧ f1 = f) S Y (by decide) (by decide) hA1 ⟨trivial, rfl, rfl⟩ dX3_joined_171
set_option maxHeartbeats 4000000 in
set_option maxRecDepth 100000 in
theorem x_X3_named {l : Launch} {G : GG}  {L : List Nat} {f : HF} {ad : Nat → Nat → Nat} {rs : RS} {fc : Int × Int} {tc w : Nat → Int × Int} {q : Nat → (Nat → Int32) → Prop} {j : Nat} {i1 i2 i3 : Int32} (I : SH (spC rs fc tc w q) nnC G ad L f) (hW : WBp w 8) (hT : WBp tc 4) (hQ : QIp q) (hj : j < 63) : PMp l yX3_named cX3_named 5 .int 1 0 0 G [.ref (ad 3 0), .int i1, .ref (ad 10 j), .int i2, .int i3] L f (fun r => True) := by
  refine PMi.of (post := fun r L1 f1 => (True) ∧ L1 = L ∧ f1 = f) (own := RX3) (by decide) rfl (Nat.le_of_ble_eq_true rfl) (fun sz p e s m args below meth c A ls hA1 hname S Y hl => ?_)
  have hx := S.hx
  have hb := S.hb
  have hl : lv_has ls 5 [(0, .ref (ad 3 0)), (1, .int i1), (2, .ref (ad 10 j)), (3, .int i2), (4, .int i3)] := hl
  refine lv_iload_n hx hb dX3_named_0 rfl (lv_at hl 1 rfl) ?_
  rcases sw_9_18 i1 with h_9257 | h_9257 | h_9257 | h_9257 | h_9257 | h_9257 | h_9257 | h_9257 | h_9257 | h_9257 | h_9257
  · refine lv_fold (z := 9) h_9257 ?_
    refine lv_tableIn (off := 55) (tgt := 56) hx hb dX3_named_1 (by decide) (by decide) (by decide) (by decide) ?_
    refine lv_aload_n hx hb dX3_named_56 rfl (lv_at hl 2 rfl) ?_
    obtain ⟨v_9258, v_9260, v_9262, v_9264, v_9266, p_ad_10_j, b_9259, b_9261, b_9263, b_9265, b_9267⟩ := opnC_10 (j := j) I hj
    have p_ad_10_j : pt L f (ad 10 j) (.inr (4, [.ref (ad 11 j), .ref (ad 12 j), .int v_9258, .int v_9260, .int v_9262, .int v_9264, .int v_9266])) := p_ad_10_j
    refine pg_getN S Y ok_X4 4 (by decide) kf3_130 (v := .int v_9262) p_ad_10_j rfl dX3_named_57 ?_
    exact prI (post := fun r L1 f1 => (True) ∧ L1 = L ∧ f1 = f) S Y rfl (by decide) (by decide) hA1 ⟨trivial, rfl, rfl⟩ dX3_named_60
  · refine lv_fold (z := 10) h_9257 ?_
    refine lv_tableIn (off := 60) (tgt := 61) hx hb dX3_named_1 (by decide) (by decide) (by decide) (by decide) ?_
    refine lv_aload_n hx hb dX3_named_61 rfl (lv_at hl 2 rfl) ?_
    obtain ⟨v_9268, v_9270, v_9272, v_9274, v_9276, p_ad_10_j, b_9269, b_9271, b_9273, b_9275, b_9277⟩ := opnC_10 (j := j) I hj
    have p_ad_10_j : pt L f (ad 10 j) (.inr (4, [.ref (ad 11 j), .ref (ad 12 j), .int v_9268, .int v_9270, .int v_9272, .int v_9274, .int v_9276])) := p_ad_10_j
    refine pg_getN S Y ok_X4 5 (by decide) kf3_57 (v := .int v_9274) p_ad_10_j rfl dX3_named_62 ?_
    exact prI (post := fun r L1 f1 => (True) ∧ L1 = L ∧ f1 = f) S Y rfl (by decide) (by decide) hA1 ⟨trivial, rfl, rfl⟩ dX3_named_65
  · refine lv_fold (z := 11) h_9257 ?_
    refine lv_tableIn (off := 65) (tgt := 66) hx hb dX3_named_1 (by decide) (by decide) (by decide) (by decide) ?_
    refine lv_aload_n hx hb dX3_named_66 rfl (lv_at hl 0 rfl) ?_
    obtain ⟨v_9278, p_ad_3_0, b_9279⟩ := opnC_3 (j := 0) I (by decide)
    have p_ad_3_0 : pt L f (ad 3 0) (.inr (3, [.ref (ad 1 0), .ref (ad 54 0), .int v_9278])) := p_ad_3_0
    refine pg_get S Y ok_X3 0 (by decide) kf3_15 (v := .ref (ad 1 0)) p_ad_3_0 rfl dX3_named_67 ?_
    refine lv_iload_n hx hb dX3_named_70 rfl (lv_at hl 3 rfl) ?_
    refine cVp (As := [.int i2]) (rest := []) S Y (x_X10_toughOf (l := l) I hW hT hQ) cw_X10_toughOf km3_37 (I.opo (k := 1) (j := 0) (by decide) rfl).choose_spec.1 ok_X10.1 rfl rfl ⟨Nat.le_of_ble_eq_true rfl, Nat.le_of_ble_eq_true rfl⟩ hl.1 rfl (Nat.le_of_ble_eq_true rfl) ⟨Nat.le_of_ble_eq_true rfl, Nat.le_of_ble_eq_true rfl⟩ dX3_named_71 (fun r_9280 H locs er_9280 Y => ?_)
    exact prI (post := fun r L1 f1 => (True) ∧ L1 = L ∧ f1 = f) S Y rfl (by decide) (by decide) hA1 ⟨trivial, rfl, rfl⟩ dX3_named_74
  · refine lv_fold (z := 12) h_9257 ?_
    refine lv_tableIn (off := 74) (tgt := 75) hx hb dX3_named_1 (by decide) (by decide) (by decide) (by decide) ?_
    refine lv_aload_n hx hb dX3_named_75 rfl (lv_at hl 0 rfl) ?_
    obtain ⟨v_9281, p_ad_3_0, b_9282⟩ := opnC_3 (j := 0) I (by decide)
    have p_ad_3_0 : pt L f (ad 3 0) (.inr (3, [.ref (ad 1 0), .ref (ad 54 0), .int v_9281])) := p_ad_3_0
    refine pg_get S Y ok_X3 0 (by decide) kf3_15 (v := .ref (ad 1 0)) p_ad_3_0 rfl dX3_named_76 ?_
    refine lv_iload_n hx hb dX3_named_79 rfl (lv_at hl 3 rfl) ?_
    refine cVp (As := [.int i2]) (rest := []) S Y (x_X10_ageOf (l := l) I hW hT hQ) cw_X10_ageOf km3_133 (I.opo (k := 1) (j := 0) (by decide) rfl).choose_spec.1 ok_X10.1 rfl rfl ⟨Nat.le_of_ble_eq_true rfl, Nat.le_of_ble_eq_true rfl⟩ hl.1 rfl (Nat.le_of_ble_eq_true rfl) ⟨Nat.le_of_ble_eq_true rfl, Nat.le_of_ble_eq_true rfl⟩ dX3_named_80 (fun r_9283 H locs er_9283 Y => ?_)
    exact prI (post := fun r L1 f1 => (True) ∧ L1 = L ∧ f1 = f) S Y rfl (by decide) (by decide) hA1 ⟨trivial, rfl, rfl⟩ dX3_named_83
  · refine lv_fold (z := 13) h_9257 ?_
    refine lv_tableIn (off := 83) (tgt := 84) hx hb dX3_named_1 (by decide) (by decide) (by decide) (by decide) ?_
    refine lv_iload_n hx hb dX3_named_84 rfl (lv_at hl 3 rfl) ?_
    exact prI (post := fun r L1 f1 => (True) ∧ L1 = L ∧ f1 = f) S Y rfl (by decide) (by decide) hA1 ⟨trivial, rfl, rfl⟩ dX3_named_85
  · refine lv_fold (z := 14) h_9257 ?_
    refine lv_tableIn (off := 85) (tgt := 86) hx hb dX3_named_1 (by decide) (by decide) (by decide) (by decide) ?_
    refine lv_aload_n hx hb dX3_named_86 rfl (lv_at hl 2 rfl) ?_
    refine lv_iload hx hb dX3_named_87 (lv_at hl 4 rfl) ?_
    refine lv_iconst (v := 3) hx hb dX3_named_89 (by decide) ?_
    refine cVp (As := [.int i3, .int 3]) (rest := []) S Y (x_X4_get (l := l) (j := j) I hW hT hQ hj) cw_X4_get km3_19 (I.opo (k := 10) (j := j) hj rfl).choose_spec.1 ok_X4.1 rfl rfl ⟨Nat.le_of_ble_eq_true rfl, Nat.le_of_ble_eq_true rfl⟩ hl.1 rfl (Nat.le_of_ble_eq_true rfl) ⟨Nat.le_of_ble_eq_true rfl, Nat.le_of_ble_eq_true rfl⟩ dX3_named_90 (fun r_9284 H locs er_9284 Y => ?_)
    exact prI (post := fun r L1 f1 => (True) ∧ L1 = L ∧ f1 = f) S Y rfl (by decide) (by decide) hA1 ⟨trivial, rfl, rfl⟩ dX3_named_93
  · refine lv_fold (z := 15) h_9257 ?_
    refine lv_tableIn (off := 93) (tgt := 94) hx hb dX3_named_1 (by decide) (by decide) (by decide) (by decide) ?_
    refine lv_aload_n hx hb dX3_named_94 rfl (lv_at hl 2 rfl) ?_
    refine lv_iload hx hb dX3_named_95 (lv_at hl 4 rfl) ?_
    refine lv_iconst (v := 2) hx hb dX3_named_97 (by decide) ?_
    refine cVp (As := [.int i3, .int 2]) (rest := []) S Y (x_X4_get (l := l) (j := j) I hW hT hQ hj) cw_X4_get km3_19 (I.opo (k := 10) (j := j) hj rfl).choose_spec.1 ok_X4.1 rfl rfl ⟨Nat.le_of_ble_eq_true rfl, Nat.le_of_ble_eq_true rfl⟩ hl.1 rfl (Nat.le_of_ble_eq_true rfl) ⟨Nat.le_of_ble_eq_true rfl, Nat.le_of_ble_eq_true rfl⟩ dX3_named_98 (fun r_9285 H locs er_9285 Y => ?_)
    exact prI (post := fun r L1 f1 => (True) ∧ L1 = L ∧ f1 = f) S Y rfl (by decide) (by decide) hA1 ⟨trivial, rfl, rfl⟩ dX3_named_101
  · refine lv_fold (z := 16) h_9257 ?_
    refine lv_tableIn (off := 101) (tgt := 102) hx hb dX3_named_1 (by decide) (by decide) (by decide) (by decide) ?_
    refine lv_aload_n hx hb dX3_named_102 rfl (lv_at hl 2 rfl) ?_
    refine lv_iload hx hb dX3_named_103 (lv_at hl 4 rfl) ?_
    refine lv_iconst (v := 5) hx hb dX3_named_105 (by decide) ?_
    refine cVp (As := [.int i3, .int 5]) (rest := []) S Y (x_X4_get (l := l) (j := j) I hW hT hQ hj) cw_X4_get km3_19 (I.opo (k := 10) (j := j) hj rfl).choose_spec.1 ok_X4.1 rfl rfl ⟨Nat.le_of_ble_eq_true rfl, Nat.le_of_ble_eq_true rfl⟩ hl.1 rfl (Nat.le_of_ble_eq_true rfl) ⟨Nat.le_of_ble_eq_true rfl, Nat.le_of_ble_eq_true rfl⟩ dX3_named_106 (fun r_9286 H locs er_9286 Y => ?_)
    exact prI (post := fun r L1 f1 => (True) ∧ L1 = L ∧ f1 = f) S Y rfl (by decide) (by decide) hA1 ⟨trivial, rfl, rfl⟩ dX3_named_109
  · refine lv_fold (z := 17) h_9257 ?_
    refine lv_tableIn (off := 109) (tgt := 110) hx hb dX3_named_1 (by decide) (by decide) (by decide) (by decide) ?_
    refine lv_aload_n hx hb dX3_named_110 rfl (lv_at hl 2 rfl) ?_
    obtain ⟨v_9287, v_9289, v_9291, v_9293, v_9295, p_ad_10_j, b_9288, b_9290, b_9292, b_9294, b_9296⟩ := opnC_10 (j := j) I hj
    have p_ad_10_j : pt L f (ad 10 j) (.inr (4, [.ref (ad 11 j), .ref (ad 12 j), .int v_9287, .int v_9289, .int v_9291, .int v_9293, .int v_9295])) := p_ad_10_j
    refine pg_getN S Y ok_X4 4 (by decide) kf3_130 (v := .int v_9291) p_ad_10_j rfl dX3_named_111 ?_
    refine lv_aload_n hx hb dX3_named_114 rfl (lv_at hl 2 rfl) ?_
    refine lv_iload hx hb dX3_named_115 (lv_at hl 4 rfl) ?_
    refine lv_bipush (v := 6) hx hb dX3_named_117 (by decide) ?_
    refine cVp (As := [.int i3, .int 6]) (rest := [.int v_9291]) S Y (x_X4_get (l := l) (j := j) I hW hT hQ hj) cw_X4_get km3_19 p_ad_10_j ok_X4.1 rfl rfl ⟨Nat.le_of_ble_eq_true rfl, Nat.le_of_ble_eq_true rfl⟩ hl.1 rfl (Nat.le_of_ble_eq_true rfl) ⟨Nat.le_of_ble_eq_true rfl, Nat.le_of_ble_eq_true rfl⟩ dX3_named_119 (fun r_9297 H locs er_9297 Y => ?_)
    refine lv_isub hx hb dX3_named_122 ?_
    refine lv_topi (fun x_9298 ex_9298 => ?_)
    exact prI (post := fun r L1 f1 => (True) ∧ L1 = L ∧ f1 = f) S Y rfl (by decide) (by decide) hA1 ⟨trivial, rfl, rfl⟩ dX3_named_123
  · refine lv_fold (z := 18) h_9257 ?_
    refine lv_tableIn (off := 123) (tgt := 124) hx hb dX3_named_1 (by decide) (by decide) (by decide) (by decide) ?_
    refine lv_aload_n hx hb dX3_named_124 rfl (lv_at hl 2 rfl) ?_
    refine lv_iload hx hb dX3_named_125 (lv_at hl 4 rfl) ?_
    refine lv_iconst (v := 0) hx hb dX3_named_127 (by decide) ?_
    refine cVp (As := [.int i3, .int 0]) (rest := []) S Y (x_X4_get (l := l) (j := j) I hW hT hQ hj) cw_X4_get km3_19 (I.opo (k := 10) (j := j) hj rfl).choose_spec.1 ok_X4.1 rfl rfl ⟨Nat.le_of_ble_eq_true rfl, Nat.le_of_ble_eq_true rfl⟩ hl.1 rfl (Nat.le_of_ble_eq_true rfl) ⟨Nat.le_of_ble_eq_true rfl, Nat.le_of_ble_eq_true rfl⟩ dX3_named_128 (fun r_9299 H locs er_9299 Y => ?_)
    exact prI (post := fun r L1 f1 => (True) ∧ L1 = L ∧ f1 = f) S Y rfl (by decide) (by decide) hA1 ⟨trivial, rfl, rfl⟩ dX3_named_131
  · refine lv_tableOut (tgt := 132) hx hb dX3_named_1 h_9257 (by decide) ?_
    refine lv_iconst (v := 0) hx hb dX3_named_132 (by decide) ?_
    exact prI (post := fun r L1 f1 => (True) ∧ L1 = L ∧ f1 = f) S Y rfl (by decide) (by decide) hA1 ⟨trivial, rfl, rfl⟩ dX3_named_133
