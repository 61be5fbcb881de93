theorem dX12_isJustOne_0 : decode cX12_isJustOne 0 = .ok (.iconst 0, 1) := by decide +kernel
theorem dX12_isJustOne_1 : decode cX12_isJustOne 1 = .ok (.istore_n 3, 1) := by decide +kernel
theorem dX12_isJustOne_2 : decode cX12_isJustOne 2 = .ok (.iconst 0, 1) := by decide +kernel
theorem dX12_isJustOne_3 : decode cX12_isJustOne 3 = .ok (.istore 4, 2) := by decide +kernel
theorem dX12_isJustOne_5 : decode cX12_isJustOne 5 = .ok (.iload 4, 2) := by decide +kernel
theorem dX12_isJustOne_7 : decode cX12_isJustOne 7 = .ok (.iload_n 2, 1) := by decide +kernel
theorem dX12_isJustOne_8 : decode cX12_isJustOne 8 = .ok (.if_icmp .ge 29, 3) := by decide +kernel
theorem dX12_isJustOne_37 : decode cX12_isJustOne 37 = .ok (.iload_n 3, 1) := by decide +kernel
theorem dX12_isJustOne_38 : decode cX12_isJustOne 38 = .ok (.iconst 1, 1) := by decide +kernel
theorem dX12_isJustOne_39 : decode cX12_isJustOne 39 = .ok (.if_icmp .ne 7, 3) := by decide +kernel
theorem dX12_isJustOne_46 : decode cX12_isJustOne 46 = .ok (.iconst 0, 1) := by decide +kernel
theorem dX12_isJustOne_47 : decode cX12_isJustOne 47 = .ok (.ireturn, 1) := by decide +kernel
theorem dX12_isJustOne_11 : decode cX12_isJustOne 11 = .ok (.iload_n 3, 1) := by decide +kernel
theorem dX12_isJustOne_12 : decode cX12_isJustOne 12 = .ok (.aload_n 0, 1) := by decide +kernel
theorem dX12_isJustOne_13 : decode cX12_isJustOne 13 = .ok (.getfield 42, 3) := by decide +kernel
theorem kf12_42 : inW (Cond.fieldLink RX12 42 "KneeOathsModel" "truth" "[Z") := ⟨List.mem_of_getElem? (i := 1522) (by decide +kernel), by decide +kernel⟩
theorem dX12_isJustOne_16 : decode cX12_isJustOne 16 = .ok (.iload_n 1, 1) := by decide +kernel
theorem dX12_isJustOne_17 : decode cX12_isJustOne 17 = .ok (.iload 4, 2) := by decide +kernel
theorem dX12_isJustOne_19 : decode cX12_isJustOne 19 = .ok (.iadd, 1) := by decide +kernel
theorem dX12_isJustOne_20 : decode cX12_isJustOne 20 = .ok (.baload, 1) := by decide +kernel
theorem dX12_isJustOne_21 : decode cX12_isJustOne 21 = .ok (.ifCond .eq 7, 3) := by decide +kernel
theorem dX12_isJustOne_28 : decode cX12_isJustOne 28 = .ok (.iconst 0, 1) := by decide +kernel
theorem dX12_isJustOne_29 : decode cX12_isJustOne 29 = .ok (.iadd, 1) := by decide +kernel
theorem dX12_isJustOne_30 : decode cX12_isJustOne 30 = .ok (.istore_n 3, 1) := by decide +kernel
theorem dX12_isJustOne_31 : decode cX12_isJustOne 31 = .ok (.iinc 4 1, 3) := by decide +kernel
theorem dX12_isJustOne_34 : decode cX12_isJustOne 34 = .ok (.goto (-29), 3) := by decide +kernel
theorem dX12_isJustOne_24 : decode cX12_isJustOne 24 = .ok (.iconst 1, 1) := by decide +kernel
theorem dX12_isJustOne_25 : decode cX12_isJustOne 25 = .ok (.goto 4, 3) := by decide +kernel
theorem dX12_isJustOne_42 : decode cX12_isJustOne 42 = .ok (.iconst 1, 1) := by decide +kernel
theorem dX12_isJustOne_43 : decode cX12_isJustOne 43 = .ok (.goto 4, 3) := by decide +kernel
theorem dX12_clip_0 : decode cX12_clip 0 = .ok (.lload_n 0, 1) := by decide +kernel
theorem dX12_clip_1 : decode cX12_clip 1 = .ok (.ldc2_w 257, 3) := by decide +kernel
theorem kl12_257 : inW (Cond.constantLong RX12 257 (1000000)) := ⟨List.mem_of_getElem? (i := 1874) (by decide +kernel), by decide +kernel⟩
theorem dX12_clip_4 : decode cX12_clip 4 = .ok (.lcmp, 1) := by decide +kernel
theorem dX12_clip_5 : decode cX12_clip 5 = .ok (.ifCond .le 9, 3) := by decide +kernel
theorem dX12_clip_14 : decode cX12_clip 14 = .ok (.lload_n 0, 1) := by decide +kernel
theorem dX12_clip_15 : decode cX12_clip 15 = .ok (.ldc2_w 259, 3) := by decide +kernel
theorem kl12_259 : inW (Cond.constantLong RX12 259 (-1000000)) := ⟨List.mem_of_getElem? (i := 1875) (by decide +kernel), by decide +kernel⟩
theorem dX12_clip_18 : decode cX12_clip 18 = .ok (.lcmp, 1) := by decide +kernel
theorem dX12_clip_19 : decode cX12_clip 19 = .ok (.ifCond .ge 9, 3) := by decide +kernel
theorem dX12_clip_28 : decode cX12_clip 28 = .ok (.lload_n 0, 1) := by decide +kernel
theorem dX12_clip_29 : decode cX12_clip 29 = .ok (.lreturn, 1) := by decide +kernel
theorem dX12_clip_22 : decode cX12_clip 22 = .ok (.ldc2_w 259, 3) := by decide +kernel
theorem dX12_clip_25 : decode cX12_clip 25 = .ok (.goto 4, 3) := by decide +kernel
theorem dX12_clip_8 : decode cX12_clip 8 = .ok (.ldc2_w 257, 3) := by decide +kernel
theorem dX12_clip_11 : decode cX12_clip 11 = .ok (.goto 18, 3) := by decide +kernel
theorem dX12_two_0 : decode cX12_two 0 = .ok (.iload_n 0, 1) := by decide +kernel
theorem dX12_two_1 : decode cX12_two 1 = .ok (.tableswitch 48 6 8 #[27, 34, 41], 27) := by decide +kernel
theorem sw_6_8 (x : Int32) : x = 6 ∨ x = 7 ∨ x = 8 ∨ (x.toInt < 6 ∨ 8 < x.toInt) := by
  have key : ∀ k : Int32, x.toInt = k.toInt → x = k := fun k h => Int32.toInt_inj.mp h
  by_cases h1 : x.toInt < 6
  · simp [h1]
  by_cases h2 : 8 < x.toInt
  · simp [h2]
  have h3 : x.toInt = 6 ∨ x.toInt = 7 ∨ x.toInt = 8 := by omega
  rcases h3 with h | h | h
  · rw [key 6 (h.trans (by decide))]; decide
  · rw [key 7 (h.trans (by decide))]; decide
  · rw [key 8 (h.trans (by decide))]; decide
theorem dX12_two_28 : decode cX12_two 28 = .ok (.lload_n 1, 1) := by decide +kernel
theorem dX12_two_29 : decode cX12_two 29 = .ok (.lload_n 3, 1) := by decide +kernel
theorem dX12_two_30 : decode cX12_two 30 = .ok (.ladd, 1) := by decide +kernel
theorem dX12_two_31 : decode cX12_two 31 = .ok (.invokestatic 261, 3) := by decide +kernel
theorem cw_X12_clip : CWs yX12_clip cX12_clip 2 (some .long) 1 := ⟨⟨⟨List.mem_of_getElem? (i := 137) (by decide +kernel), by decide +kernel⟩, ⟨List.mem_of_getElem? (i := 1873) (by decide +kernel), by decide +kernel⟩, by decide +kernel⟩, ⟨List.mem_of_getElem? (i := 1872) (by decide +kernel), by decide +kernel⟩⟩
theorem km12_261 : inW (Cond.methodLink RX12 261 yX12_clip) := ⟨List.mem_of_getElem? (i := 1871) (by decide +kernel), by decide +kernel⟩
theorem dX12_two_34 : decode cX12_two 34 = .ok (.lreturn, 1) := by decide +kernel
theorem dX12_two_35 : decode cX12_two 35 = .ok (.lload_n 1, 1) := by decide +kernel
theorem dX12_two_36 : decode cX12_two 36 = .ok (.lload_n 3, 1) := by decide +kernel
theorem dX12_two_37 : decode cX12_two 37 = .ok (.lsub, 1) := by decide +kernel
theorem dX12_two_38 : decode cX12_two 38 = .ok (.invokestatic 261, 3) := by decide +kernel
theorem dX12_two_41 : decode cX12_two 41 = .ok (.lreturn, 1) := by decide +kernel
theorem dX12_two_42 : decode cX12_two 42 = .ok (.lload_n 1, 1) := by decide +kernel
theorem dX12_two_43 : decode cX12_two 43 = .ok (.lload_n 3, 1) := by decide +kernel
theorem dX12_two_44 : decode cX12_two 44 = .ok (.lmul, 1) := by decide +kernel
theorem dX12_two_45 : decode cX12_two 45 = .ok (.invokestatic 261, 3) := by decide +kernel
theorem dX12_two_48 : decode cX12_two 48 = .ok (.lreturn, 1) := by decide +kernel
theorem dX12_two_49 : decode cX12_two 49 = .ok (.lload_n 3, 1) := by decide +kernel
theorem dX12_two_50 : decode cX12_two 50 = .ok (.lconst 0, 1) := by decide +kernel
theorem dX12_two_51 : decode cX12_two 51 = .ok (.lcmp, 1) := by decide +kernel
theorem dX12_two_52 : decode cX12_two 52 = .ok (.ifCond .ne 7, 3) := by decide +kernel
theorem dX12_two_59 : decode cX12_two 59 = .ok (.lload_n 1, 1) := by decide +kernel
theorem dX12_two_60 : decode cX12_two 60 = .ok (.lload_n 3, 1) := by decide +kernel
theorem dX12_two_61 : decode cX12_two 61 = .ok (.ldiv, 1) := by decide +kernel
theorem dX12_two_62 : decode cX12_two 62 = .ok (.invokestatic 261, 3) := by decide +kernel
theorem dX12_two_65 : decode cX12_two 65 = .ok (.lreturn, 1) := by decide +kernel
theorem dX12_two_55 : decode cX12_two 55 = .ok (.lconst 0, 1) := by decide +kernel
theorem dX12_two_56 : decode cX12_two 56 = .ok (.goto 9, 3) := by decide +kernel
theorem dX12_isAsked_0 : decode cX12_isAsked 0 = .ok (.iload_n 0, 1) := by decide +kernel
theorem dX12_isAsked_1 : decode cX12_isAsked 1 = .ok (.bipush 10, 2) := by decide +kernel
theorem dX12_isAsked_3 : decode cX12_isAsked 3 = .ok (.if_icmp .ne 17, 3) := by decide +kernel
theorem dX12_isAsked_20 : decode cX12_isAsked 20 = .ok (.iload_n 0, 1) := by decide +kernel
theorem dX12_isAsked_21 : decode cX12_isAsked 21 = .ok (.bipush 11, 2) := by decide +kernel
theorem dX12_isAsked_23 : decode cX12_isAsked 23 = .ok (.if_icmp .ne 17, 3) := by decide +kernel
theorem dX12_isAsked_40 : decode cX12_isAsked 40 = .ok (.iload_n 0, 1) := by decide +kernel
theorem dX12_isAsked_41 : decode cX12_isAsked 41 = .ok (.bipush 12, 2) := by decide +kernel
theorem dX12_isAsked_43 : decode cX12_isAsked 43 = .ok (.if_icmp .ne 17, 3) := by decide +kernel
theorem dX12_isAsked_60 : decode cX12_isAsked 60 = .ok (.iload_n 0, 1) := by decide +kernel
theorem dX12_isAsked_61 : decode cX12_isAsked 61 = .ok (.bipush 13, 2) := by decide +kernel
theorem dX12_isAsked_63 : decode cX12_isAsked 63 = .ok (.if_icmp .ne 17, 3) := by decide +kernel
theorem dX12_isAsked_80 : decode cX12_isAsked 80 = .ok (.iload_n 0, 1) := by decide +kernel
theorem dX12_isAsked_81 : decode cX12_isAsked 81 = .ok (.bipush 14, 2) := by decide +kernel
theorem dX12_isAsked_83 : decode cX12_isAsked 83 = .ok (.if_icmp .ne 17, 3) := by decide +kernel
theorem dX12_isAsked_100 : decode cX12_isAsked 100 = .ok (.lload_n 1, 1) := by decide +kernel
theorem dX12_isAsked_101 : decode cX12_isAsked 101 = .ok (.lload_n 3, 1) := by decide +kernel
theorem dX12_isAsked_102 : decode cX12_isAsked 102 = .ok (.lcmp, 1) := by decide +kernel
theorem dX12_isAsked_103 : decode cX12_isAsked 103 = .ok (.ifCond .eq 7, 3) := by decide +kernel
theorem dX12_isAsked_110 : decode cX12_isAsked 110 = .ok (.iconst 0, 1) := by decide +kernel
theorem dX12_isAsked_111 : decode cX12_isAsked 111 = .ok (.ireturn, 1) := by decide +kernel
theorem dX12_isAsked_106 : decode cX12_isAsked 106 = .ok (.iconst 1, 1) := by decide +kernel
theorem dX12_isAsked_107 : decode cX12_isAsked 107 = .ok (.goto 4, 3) := by decide +kernel
theorem dX12_isAsked_86 : decode cX12_isAsked 86 = .ok (.lload_n 1, 1) := by decide +kernel
theorem dX12_isAsked_87 : decode cX12_isAsked 87 = .ok (.lload_n 3, 1) := by decide +kernel
theorem dX12_isAsked_88 : decode cX12_isAsked 88 = .ok (.lcmp, 1) := by decide +kernel
theorem dX12_isAsked_89 : decode cX12_isAsked 89 = .ok (.ifCond .ne 7, 3) := by decide +kernel
theorem dX12_isAsked_96 : decode cX12_isAsked 96 = .ok (.iconst 0, 1) := by decide +kernel
theorem dX12_isAsked_97 : decode cX12_isAsked 97 = .ok (.goto 14, 3) := by decide +kernel
theorem dX12_isAsked_92 : decode cX12_isAsked 92 = .ok (.iconst 1, 1) := by decide +kernel
theorem dX12_isAsked_93 : decode cX12_isAsked 93 = .ok (.goto 18, 3) := by decide +kernel
theorem dX12_isAsked_66 : decode cX12_isAsked 66 = .ok (.lload_n 1, 1) := by decide +kernel
theorem dX12_isAsked_67 : decode cX12_isAsked 67 = .ok (.lload_n 3, 1) := by decide +kernel
theorem dX12_isAsked_68 : decode cX12_isAsked 68 = .ok (.lcmp, 1) := by decide +kernel
theorem dX12_isAsked_69 : decode cX12_isAsked 69 = .ok (.ifCond .lt 7, 3) := by decide +kernel
theorem dX12_isAsked_76 : decode cX12_isAsked 76 = .ok (.iconst 0, 1) := by decide +kernel
theorem dX12_isAsked_77 : decode cX12_isAsked 77 = .ok (.goto 34, 3) := by decide +kernel
theorem dX12_isAsked_72 : decode cX12_isAsked 72 = .ok (.iconst 1, 1) := by decide +kernel
theorem dX12_isAsked_73 : decode cX12_isAsked 73 = .ok (.goto 38, 3) := by decide +kernel
theorem dX12_isAsked_46 : decode cX12_isAsked 46 = .ok (.lload_n 1, 1) := by decide +kernel
theorem dX12_isAsked_47 : decode cX12_isAsked 47 = .ok (.lload_n 3, 1) := by decide +kernel
theorem dX12_isAsked_48 : decode cX12_isAsked 48 = .ok (.lcmp, 1) := by decide +kernel
theorem dX12_isAsked_49 : decode cX12_isAsked 49 = .ok (.ifCond .le 7, 3) := by decide +kernel
theorem dX12_isAsked_56 : decode cX12_isAsked 56 = .ok (.iconst 0, 1) := by decide +kernel
theorem dX12_isAsked_57 : decode cX12_isAsked 57 = .ok (.goto 54, 3) := by decide +kernel
theorem dX12_isAsked_52 : decode cX12_isAsked 52 = .ok (.iconst 1, 1) := by decide +kernel
theorem dX12_isAsked_53 : decode cX12_isAsked 53 = .ok (.goto 58, 3) := by decide +kernel
theorem dX12_isAsked_26 : decode cX12_isAsked 26 = .ok (.lload_n 1, 1) := by decide +kernel
theorem dX12_isAsked_27 : decode cX12_isAsked 27 = .ok (.lload_n 3, 1) := by decide +kernel
theorem dX12_isAsked_28 : decode cX12_isAsked 28 = .ok (.lcmp, 1) := by decide +kernel
theorem dX12_isAsked_29 : decode cX12_isAsked 29 = .ok (.ifCond .gt 7, 3) := by decide +kernel
theorem dX12_isAsked_36 : decode cX12_isAsked 36 = .ok (.iconst 0, 1) := by decide +kernel
theorem dX12_isAsked_37 : decode cX12_isAsked 37 = .ok (.goto 74, 3) := by decide +kernel
theorem dX12_isAsked_32 : decode cX12_isAsked 32 = .ok (.iconst 1, 1) := by decide +kernel
theorem dX12_isAsked_33 : decode cX12_isAsked 33 = .ok (.goto 78, 3) := by decide +kernel
theorem dX12_isAsked_6 : decode cX12_isAsked 6 = .ok (.lload_n 1, 1) := by decide +kernel
theorem dX12_isAsked_7 : decode cX12_isAsked 7 = .ok (.lload_n 3, 1) := by decide +kernel
theorem dX12_isAsked_8 : decode cX12_isAsked 8 = .ok (.lcmp, 1) := by decide +kernel
theorem dX12_isAsked_9 : decode cX12_isAsked 9 = .ok (.ifCond .ge 7, 3) := by decide +kernel
theorem dX12_isAsked_16 : decode cX12_isAsked 16 = .ok (.iconst 0, 1) := by decide +kernel
theorem dX12_isAsked_17 : decode cX12_isAsked 17 = .ok (.goto 94, 3) := by decide +kernel
theorem dX12_isAsked_12 : decode cX12_isAsked 12 = .ok (.iconst 1, 1) := by decide +kernel
theorem dX12_isAsked_13 : decode cX12_isAsked 13 = .ok (.goto 98, 3) := by decide +kernel
theorem dX12_joined_0 : decode cX12_joined 0 = .ok (.iload_n 0, 1) := by decide +kernel
theorem dX12_joined_1 : decode cX12_joined 1 = .ok (.bipush 21, 2) := by decide +kernel
theorem dX12_joined_3 : decode cX12_joined 3 = .ok (.if_icmp .ne 19, 3) := by decide +kernel
theorem dX12_joined_22 : decode cX12_joined 22 = .ok (.iload_n 1, 1) := by decide +kernel
theorem dX12_joined_23 : decode cX12_joined 23 = .ok (.ifCond .ne 7, 3) := by decide +kernel
theorem dX12_joined_30 : decode cX12_joined 30 = .ok (.iconst 1, 1) := by decide +kernel
theorem dX12_joined_31 : decode cX12_joined 31 = .ok (.goto 4, 3) := by decide +kernel
theorem dX12_joined_35 : decode cX12_joined 35 = .ok (.ireturn, 1) := by decide +kernel
theorem dX12_joined_26 : decode cX12_joined 26 = .ok (.iload_n 2, 1) := by decide +kernel
theorem dX12_joined_27 : decode cX12_joined 27 = .ok (.ifCond .eq 7, 3) := by decide +kernel
theorem dX12_joined_34 : decode cX12_joined 34 = .ok (.iconst 0, 1) := by decide +kernel
theorem dX12_joined_6 : decode cX12_joined 6 = .ok (.iload_n 1, 1) := by decide +kernel
theorem dX12_joined_7 : decode cX12_joined 7 = .ok (.ifCond .eq 11, 3) := by decide +kernel
theorem dX12_joined_18 : decode cX12_joined 18 = .ok (.iconst 0, 1) := by decide +kernel
theorem dX12_joined_19 : decode cX12_joined 19 = .ok (.goto 16, 3) := by decide +kernel
theorem dX12_joined_10 : decode cX12_joined 10 = .ok (.iload_n 2, 1) := by decide +kernel
theorem dX12_joined_11 : decode cX12_joined 11 = .ok (.ifCond .eq 7, 3) := by decide +kernel
theorem dX12_joined_14 : decode cX12_joined 14 = .ok (.iconst 1, 1) := by decide +kernel
theorem dX12_joined_15 : decode cX12_joined 15 = .ok (.goto 20, 3) := by decide +kernel
theorem dX12_marksOf_0 : decode cX12_marksOf 0 = .ok (.lload_n 1, 1) := by decide +kernel
theorem dX12_marksOf_1 : decode cX12_marksOf 1 = .ok (.lconst 0, 1) := by decide +kernel
theorem dX12_marksOf_2 : decode cX12_marksOf 2 = .ok (.lcmp, 1) := by decide +kernel
theorem dX12_marksOf_3 : decode cX12_marksOf 3 = .ok (.ifCond .lt 28, 3) := by decide +kernel
theorem dX12_marksOf_31 : decode cX12_marksOf 31 = .ok (.lconst 0, 1) := by decide +kernel
theorem dX12_marksOf_32 : decode cX12_marksOf 32 = .ok (.lreturn, 1) := by decide +kernel
theorem dX12_marksOf_6 : decode cX12_marksOf 6 = .ok (.lload_n 1, 1) := by decide +kernel
theorem dX12_marksOf_7 : decode cX12_marksOf 7 = .ok (.aload_n 0, 1) := by decide +kernel
theorem dX12_marksOf_8 : decode cX12_marksOf 8 = .ok (.getfield 7, 3) := by decide +kernel
theorem dX12_marksOf_11 : decode cX12_marksOf 11 = .ok (.iconst 0, 1) := by decide +kernel
theorem dX12_marksOf_12 : decode cX12_marksOf 12 = .ok (.iaload, 1) := by decide +kernel
theorem dX12_marksOf_13 : decode cX12_marksOf 13 = .ok (.i2l, 1) := by decide +kernel
theorem dX12_marksOf_14 : decode cX12_marksOf 14 = .ok (.lcmp, 1) := by decide +kernel
theorem dX12_marksOf_15 : decode cX12_marksOf 15 = .ok (.ifCond .ge 16, 3) := by decide +kernel
theorem dX12_marksOf_18 : decode cX12_marksOf 18 = .ok (.aload_n 0, 1) := by decide +kernel
theorem dX12_marksOf_19 : decode cX12_marksOf 19 = .ok (.lload_n 1, 1) := by decide +kernel
theorem dX12_marksOf_20 : decode cX12_marksOf 20 = .ok (.l2i, 1) := by decide +kernel
theorem dX12_marksOf_21 : decode cX12_marksOf 21 = .ok (.invokevirtual 265, 3) := by decide +kernel
theorem dX12_marksOf_24 : decode cX12_marksOf 24 = .ok (.invokestatic 268, 3) := by decide +kernel
theorem cw_X12_bits : CWs yX12_bits cX12_bits 3 (some .int) 1 := ⟨⟨⟨List.mem_of_getElem? (i := 137) (by decide +kernel), by decide +kernel⟩, ⟨List.mem_of_getElem? (i := 1867) (by decide +kernel), by decide +kernel⟩, by decide +kernel⟩, ⟨List.mem_of_getElem? (i := 1866) (by decide +kernel), by decide +kernel⟩⟩
theorem km12_268 : inW (Cond.methodLink RX12 268 yX12_bits) := ⟨List.mem_of_getElem? (i := 1865) (by decide +kernel), by decide +kernel⟩
theorem dX12_marksOf_27 : decode cX12_marksOf 27 = .ok (.i2l, 1) := by decide +kernel
theorem dX12_marksOf_28 : decode cX12_marksOf 28 = .ok (.goto 4, 3) := by decide +kernel
theorem dX12_summedUp_0 : decode cX12_summedUp 0 = .ok (.sipush 729, 3) := by decide +kernel
theorem dX12_summedUp_3 : decode cX12_summedUp 3 = .ok (.iload_n 1, 1) := by decide +kernel
theorem dX12_summedUp_4 : decode cX12_summedUp 4 = .ok (.imul, 1) := by decide +kernel
theorem dX12_summedUp_5 : decode cX12_summedUp 5 = .ok (.iconst 1, 1) := by decide +kernel
theorem dX12_summedUp_6 : decode cX12_summedUp 6 = .ok (.iadd, 1) := by decide +kernel
theorem dX12_summedUp_7 : decode cX12_summedUp 7 = .ok (.iconst 5, 1) := by decide +kernel
theorem dX12_summedUp_8 : decode cX12_summedUp 8 = .ok (.iload_n 2, 1) := by decide +kernel
theorem dX12_summedUp_9 : decode cX12_summedUp 9 = .ok (.imul, 1) := by decide +kernel
theorem dX12_summedUp_10 : decode cX12_summedUp 10 = .ok (.iadd, 1) := by decide +kernel
theorem dX12_summedUp_11 : decode cX12_summedUp 11 = .ok (.istore_n 3, 1) := by decide +kernel
theorem dX12_summedUp_12 : decode cX12_summedUp 12 = .ok (.sipush 729, 3) := by decide +kernel
theorem dX12_summedUp_15 : decode cX12_summedUp 15 = .ok (.iload_n 1, 1) := by decide +kernel
theorem dX12_summedUp_16 : decode cX12_summedUp 16 = .ok (.imul, 1) := by decide +kernel
theorem dX12_summedUp_17 : decode cX12_summedUp 17 = .ok (.bipush 121, 2) := by decide +kernel
theorem dX12_summedUp_19 : decode cX12_summedUp 19 = .ok (.iadd, 1) := by decide +kernel
theorem dX12_summedUp_20 : decode cX12_summedUp 20 = .ok (.istore 4, 2) := by decide +kernel
theorem dX12_summedUp_22 : decode cX12_summedUp 22 = .ok (.iconst 0, 1) := by decide +kernel
theorem dX12_summedUp_23 : decode cX12_summedUp 23 = .ok (.istore 5, 2) := by decide +kernel
theorem dX12_summedUp_25 : decode cX12_summedUp 25 = .ok (.iconst 0, 1) := by decide +kernel
theorem dX12_summedUp_26 : decode cX12_summedUp 26 = .ok (.istore 6, 2) := by decide +kernel
theorem dX12_summedUp_28 : decode cX12_summedUp 28 = .ok (.aload_n 0, 1) := by decide +kernel
theorem dX12_summedUp_29 : decode cX12_summedUp 29 = .ok (.getfield 16, 3) := by decide +kernel
theorem kf12_16 : inW (Cond.fieldLink RX12 16 "KneeOathsModel" "texts" "[I") := ⟨List.mem_of_getElem? (i := 1500) (by decide +kernel), by decide +kernel⟩
theorem dX12_summedUp_32 : decode cX12_summedUp 32 = .ok (.iload_n 3, 1) := by decide +kernel
theorem dX12_summedUp_33 : decode cX12_summedUp 33 = .ok (.iconst 1, 1) := by decide +kernel
theorem dX12_summedUp_34 : decode cX12_summedUp 34 = .ok (.iadd, 1) := by decide +kernel
theorem dX12_summedUp_35 : decode cX12_summedUp 35 = .ok (.iaload, 1) := by decide +kernel
theorem dX12_summedUp_36 : decode cX12_summedUp 36 = .ok (.istore 7, 2) := by decide +kernel
theorem dX12_summedUp_38 : decode cX12_summedUp 38 = .ok (.iload 7, 2) := by decide +kernel
theorem dX12_summedUp_40 : decode cX12_summedUp 40 = .ok (.aload_n 0, 1) := by decide +kernel
theorem dX12_summedUp_41 : decode cX12_summedUp 41 = .ok (.getfield 16, 3) := by decide +kernel
theorem dX12_summedUp_44 : decode cX12_summedUp 44 = .ok (.iload_n 3, 1) := by decide +kernel
theorem dX12_summedUp_45 : decode cX12_summedUp 45 = .ok (.iconst 2, 1) := by decide +kernel
theorem dX12_summedUp_46 : decode cX12_summedUp 46 = .ok (.iadd, 1) := by decide +kernel
theorem dX12_summedUp_47 : decode cX12_summedUp 47 = .ok (.iaload, 1) := by decide +kernel
theorem dX12_summedUp_48 : decode cX12_summedUp 48 = .ok (.if_icmp .ge 358, 3) := by decide +kernel
theorem dX12_summedUp_406 : decode cX12_summedUp 406 = .ok (.aload_n 0, 1) := by decide +kernel
theorem dX12_summedUp_407 : decode cX12_summedUp 407 = .ok (.getfield 38, 3) := by decide +kernel
theorem kf12_38 : inW (Cond.fieldLink RX12 38 "KneeOathsModel" "values" "[J") := ⟨List.mem_of_getElem? (i := 1521) (by decide +kernel), by decide +kernel⟩
theorem dX12_summedUp_410 : decode cX12_summedUp 410 = .ok (.iconst 0, 1) := by decide +kernel
theorem dX12_summedUp_411 : decode cX12_summedUp 411 = .ok (.laload, 1) := by decide +kernel
theorem dX12_summedUp_412 : decode cX12_summedUp 412 = .ok (.lreturn, 1) := by decide +kernel
theorem dX12_summedUp_51 : decode cX12_summedUp 51 = .ok (.aload_n 0, 1) := by decide +kernel
theorem dX12_summedUp_52 : decode cX12_summedUp 52 = .ok (.getfield 16, 3) := by decide +kernel
theorem dX12_summedUp_55 : decode cX12_summedUp 55 = .ok (.iload 4, 2) := by decide +kernel
theorem dX12_summedUp_57 : decode cX12_summedUp 57 = .ok (.iconst 2, 1) := by decide +kernel
theorem dX12_summedUp_58 : decode cX12_summedUp 58 = .ok (.iload 7, 2) := by decide +kernel
theorem dX12_summedUp_60 : decode cX12_summedUp 60 = .ok (.imul, 1) := by decide +kernel
theorem dX12_summedUp_61 : decode cX12_summedUp 61 = .ok (.iadd, 1) := by decide +kernel
theorem dX12_summedUp_62 : decode cX12_summedUp 62 = .ok (.iaload, 1) := by decide +kernel
theorem dX12_summedUp_63 : decode cX12_summedUp 63 = .ok (.istore 8, 2) := by decide +kernel
theorem dX12_summedUp_65 : decode cX12_summedUp 65 = .ok (.aload_n 0, 1) := by decide +kernel
theorem dX12_summedUp_66 : decode cX12_summedUp 66 = .ok (.getfield 16, 3) := by decide +kernel
theorem dX12_summedUp_69 : decode cX12_summedUp 69 = .ok (.iload 4, 2) := by decide +kernel
theorem dX12_summedUp_71 : decode cX12_summedUp 71 = .ok (.iconst 2, 1) := by decide +kernel
theorem dX12_summedUp_72 : decode cX12_summedUp 72 = .ok (.iload 7, 2) := by decide +kernel
theorem dX12_summedUp_74 : decode cX12_summedUp 74 = .ok (.imul, 1) := by decide +kernel
theorem dX12_summedUp_75 : decode cX12_summedUp 75 = .ok (.iadd, 1) := by decide +kernel
theorem dX12_summedUp_76 : decode cX12_summedUp 76 = .ok (.iconst 1, 1) := by decide +kernel
theorem dX12_summedUp_77 : decode cX12_summedUp 77 = .ok (.iadd, 1) := by decide +kernel
theorem dX12_summedUp_78 : decode cX12_summedUp 78 = .ok (.iaload, 1) := by decide +kernel
theorem dX12_summedUp_79 : decode cX12_summedUp 79 = .ok (.istore 9, 2) := by decide +kernel
theorem dX12_summedUp_81 : decode cX12_summedUp 81 = .ok (.iload 8, 2) := by decide +kernel
theorem dX12_summedUp_83 : decode cX12_summedUp 83 = .ok (.iconst 1, 1) := by decide +kernel
theorem dX12_summedUp_84 : decode cX12_summedUp 84 = .ok (.if_icmp .gt 35, 3) := by decide +kernel
theorem dX12_summedUp_119 : decode cX12_summedUp 119 = .ok (.iload 8, 2) := by decide +kernel
theorem dX12_summedUp_121 : decode cX12_summedUp 121 = .ok (.iconst 3, 1) := by decide +kernel
theorem dX12_summedUp_122 : decode cX12_summedUp 122 = .ok (.if_icmp .ne 38, 3) := by decide +kernel
theorem dX12_summedUp_160 : decode cX12_summedUp 160 = .ok (.iload 8, 2) := by decide +kernel
theorem dX12_summedUp_162 : decode cX12_summedUp 162 = .ok (.iconst 4, 1) := by decide +kernel
theorem dX12_summedUp_163 : decode cX12_summedUp 163 = .ok (.if_icmp .ne 31, 3) := by decide +kernel
theorem dX12_summedUp_194 : decode cX12_summedUp 194 = .ok (.iload 8, 2) := by decide +kernel
theorem dX12_summedUp_196 : decode cX12_summedUp 196 = .ok (.iconst 5, 1) := by decide +kernel
theorem dX12_summedUp_197 : decode cX12_summedUp 197 = .ok (.if_icmp .gt 47, 3) := by decide +kernel
theorem dX12_summedUp_244 : decode cX12_summedUp 244 = .ok (.iload 8, 2) := by decide +kernel
theorem dX12_summedUp_246 : decode cX12_summedUp 246 = .ok (.bipush 10, 2) := by decide +kernel
theorem dX12_summedUp_248 : decode cX12_summedUp 248 = .ok (.if_icmp .ge 39, 3) := by decide +kernel
theorem dX12_summedUp_287 : decode cX12_summedUp 287 = .ok (.iload 8, 2) := by decide +kernel
theorem dX12_summedUp_289 : decode cX12_summedUp 289 = .ok (.bipush 20, 2) := by decide +kernel
theorem dX12_summedUp_291 : decode cX12_summedUp 291 = .ok (.if_icmp .ge 40, 3) := by decide +kernel
theorem dX12_summedUp_331 : decode cX12_summedUp 331 = .ok (.iload 8, 2) := by decide +kernel
theorem dX12_summedUp_333 : decode cX12_summedUp 333 = .ok (.bipush 20, 2) := by decide +kernel
theorem dX12_summedUp_335 : decode cX12_summedUp 335 = .ok (.if_icmp .ne 32, 3) := by decide +kernel
theorem dX12_summedUp_367 : decode cX12_summedUp 367 = .ok (.iinc 6 (-1), 3) := by decide +kernel
theorem dX12_summedUp_370 : decode cX12_summedUp 370 = .ok (.aload_n 0, 1) := by decide +kernel
theorem dX12_summedUp_371 : decode cX12_summedUp 371 = .ok (.getfield 42, 3) := by decide +kernel
theorem dX12_summedUp_374 : decode cX12_summedUp 374 = .ok (.iload 6, 2) := by decide +kernel
theorem dX12_summedUp_376 : decode cX12_summedUp 376 = .ok (.iconst 1, 1) := by decide +kernel
theorem dX12_summedUp_377 : decode cX12_summedUp 377 = .ok (.isub, 1) := by decide +kernel
theorem dX12_summedUp_378 : decode cX12_summedUp 378 = .ok (.iload 8, 2) := by decide +kernel
theorem dX12_summedUp_380 : decode cX12_summedUp 380 = .ok (.aload_n 0, 1) := by decide +kernel
theorem dX12_summedUp_381 : decode cX12_summedUp 381 = .ok (.getfield 42, 3) := by decide +kernel
theorem dX12_summedUp_384 : decode cX12_summedUp 384 = .ok (.iload 6, 2) := by decide +kernel
theorem dX12_summedUp_386 : decode cX12_summedUp 386 = .ok (.iconst 1, 1) := by decide +kernel
theorem dX12_summedUp_387 : decode cX12_summedUp 387 = .ok (.isub, 1) := by decide +kernel
theorem dX12_summedUp_388 : decode cX12_summedUp 388 = .ok (.baload, 1) := by decide +kernel
theorem dX12_summedUp_389 : decode cX12_summedUp 389 = .ok (.aload_n 0, 1) := by decide +kernel
theorem dX12_summedUp_390 : decode cX12_summedUp 390 = .ok (.getfield 42, 3) := by decide +kernel
theorem dX12_summedUp_393 : decode cX12_summedUp 393 = .ok (.iload 6, 2) := by decide +kernel
theorem dX12_summedUp_395 : decode cX12_summedUp 395 = .ok (.baload, 1) := by decide +kernel
theorem dX12_summedUp_396 : decode cX12_summedUp 396 = .ok (.invokestatic 285, 3) := by decide +kernel
theorem cw_X12_joined : CWs yX12_joined cX12_joined 3 (some .boolean) 3 := ⟨⟨⟨List.mem_of_getElem? (i := 137) (by decide +kernel), by decide +kernel⟩, ⟨List.mem_of_getElem? (i := 1881) (by decide +kernel), by decide +kernel⟩, by decide +kernel⟩, ⟨List.mem_of_getElem? (i := 1880) (by decide +kernel), by decide +kernel⟩⟩
theorem km12_285 : inW (Cond.methodLink RX12 285 yX12_joined) := ⟨List.mem_of_getElem? (i := 1879) (by decide +kernel), by decide +kernel⟩
theorem dX12_summedUp_399 : decode cX12_summedUp 399 = .ok (.bastore, 1) := by decide +kernel
theorem dX12_summedUp_400 : decode cX12_summedUp 400 = .ok (.iinc 7 1, 3) := by decide +kernel
theorem dX12_summedUp_403 : decode cX12_summedUp 403 = .ok (.goto (-365), 3) := by decide +kernel
theorem dX12_summedUp_338 : decode cX12_summedUp 338 = .ok (.aload_n 0, 1) := by decide +kernel
theorem dX12_summedUp_339 : decode cX12_summedUp 339 = .ok (.getfield 42, 3) := by decide +kernel
theorem dX12_summedUp_342 : decode cX12_summedUp 342 = .ok (.iload 6, 2) := by decide +kernel
theorem dX12_summedUp_344 : decode cX12_summedUp 344 = .ok (.iconst 1, 1) := by decide +kernel
theorem dX12_summedUp_345 : decode cX12_summedUp 345 = .ok (.isub, 1) := by decide +kernel
theorem dX12_summedUp_346 : decode cX12_summedUp 346 = .ok (.aload_n 0, 1) := by decide +kernel
theorem dX12_summedUp_347 : decode cX12_summedUp 347 = .ok (.getfield 42, 3) := by decide +kernel
theorem dX12_summedUp_350 : decode cX12_summedUp 350 = .ok (.iload 6, 2) := by decide +kernel
theorem dX12_summedUp_352 : decode cX12_summedUp 352 = .ok (.iconst 1, 1) := by decide +kernel
theorem dX12_summedUp_353 : decode cX12_summedUp 353 = .ok (.isub, 1) := by decide +kernel
theorem dX12_summedUp_354 : decode cX12_summedUp 354 = .ok (.baload, 1) := by decide +kernel
theorem dX12_summedUp_355 : decode cX12_summedUp 355 = .ok (.ifCond .ne 7, 3) := by decide +kernel
theorem dX12_summedUp_362 : decode cX12_summedUp 362 = .ok (.iconst 0, 1) := by decide +kernel
theorem dX12_summedUp_363 : decode cX12_summedUp 363 = .ok (.bastore, 1) := by decide +kernel
theorem dX12_summedUp_364 : decode cX12_summedUp 364 = .ok (.goto 36, 3) := by decide +kernel
theorem dX12_summedUp_358 : decode cX12_summedUp 358 = .ok (.iconst 1, 1) := by decide +kernel
theorem dX12_summedUp_359 : decode cX12_summedUp 359 = .ok (.goto 4, 3) := by decide +kernel
theorem dX12_summedUp_294 : decode cX12_summedUp 294 = .ok (.iinc 5 (-2), 3) := by decide +kernel
theorem dX12_summedUp_297 : decode cX12_summedUp 297 = .ok (.aload_n 0, 1) := by decide +kernel
theorem dX12_summedUp_298 : decode cX12_summedUp 298 = .ok (.getfield 42, 3) := by decide +kernel
theorem dX12_summedUp_301 : decode cX12_summedUp 301 = .ok (.iload 6, 2) := by decide +kernel
theorem dX12_summedUp_303 : decode cX12_summedUp 303 = .ok (.iload 8, 2) := by decide +kernel
theorem dX12_summedUp_305 : decode cX12_summedUp 305 = .ok (.aload_n 0, 1) := by decide +kernel
theorem dX12_summedUp_306 : decode cX12_summedUp 306 = .ok (.getfield 38, 3) := by decide +kernel
theorem dX12_summedUp_309 : decode cX12_summedUp 309 = .ok (.iload 5, 2) := by decide +kernel
theorem dX12_summedUp_311 : decode cX12_summedUp 311 = .ok (.laload, 1) := by decide +kernel
theorem dX12_summedUp_312 : decode cX12_summedUp 312 = .ok (.aload_n 0, 1) := by decide +kernel
theorem dX12_summedUp_313 : decode cX12_summedUp 313 = .ok (.getfield 38, 3) := by decide +kernel
theorem dX12_summedUp_316 : decode cX12_summedUp 316 = .ok (.iload 5, 2) := by decide +kernel
theorem dX12_summedUp_318 : decode cX12_summedUp 318 = .ok (.iconst 1, 1) := by decide +kernel
theorem dX12_summedUp_319 : decode cX12_summedUp 319 = .ok (.iadd, 1) := by decide +kernel
theorem dX12_summedUp_320 : decode cX12_summedUp 320 = .ok (.laload, 1) := by decide +kernel
theorem dX12_summedUp_321 : decode cX12_summedUp 321 = .ok (.invokestatic 281, 3) := by decide +kernel
theorem cw_X12_isAsked : CWs yX12_isAsked cX12_isAsked 5 (some .boolean) 3 := ⟨⟨⟨List.mem_of_getElem? (i := 137) (by decide +kernel), by decide +kernel⟩, ⟨List.mem_of_getElem? (i := 1878) (by decide +kernel), by decide +kernel⟩, by decide +kernel⟩, ⟨List.mem_of_getElem? (i := 1877) (by decide +kernel), by decide +kernel⟩⟩
theorem km12_281 : inW (Cond.methodLink RX12 281 yX12_isAsked) := ⟨List.mem_of_getElem? (i := 1876) (by decide +kernel), by decide +kernel⟩
theorem dX12_summedUp_324 : decode cX12_summedUp 324 = .ok (.bastore, 1) := by decide +kernel
theorem dX12_summedUp_325 : decode cX12_summedUp 325 = .ok (.iinc 6 1, 3) := by decide +kernel
theorem dX12_summedUp_328 : decode cX12_summedUp 328 = .ok (.goto 72, 3) := by decide +kernel
theorem dX12_summedUp_251 : decode cX12_summedUp 251 = .ok (.iinc 5 (-1), 3) := by decide +kernel
theorem dX12_summedUp_254 : decode cX12_summedUp 254 = .ok (.aload_n 0, 1) := by decide +kernel
theorem dX12_summedUp_255 : decode cX12_summedUp 255 = .ok (.getfield 38, 3) := by decide +kernel
theorem dX12_summedUp_258 : decode cX12_summedUp 258 = .ok (.iload 5, 2) := by decide +kernel
theorem dX12_summedUp_260 : decode cX12_summedUp 260 = .ok (.iconst 1, 1) := by decide +kernel
theorem dX12_summedUp_261 : decode cX12_summedUp 261 = .ok (.isub, 1) := by decide +kernel
theorem dX12_summedUp_262 : decode cX12_summedUp 262 = .ok (.iload 8, 2) := by decide +kernel
theorem dX12_summedUp_264 : decode cX12_summedUp 264 = .ok (.aload_n 0, 1) := by decide +kernel
theorem dX12_summedUp_265 : decode cX12_summedUp 265 = .ok (.getfield 38, 3) := by decide +kernel
theorem dX12_summedUp_268 : decode cX12_summedUp 268 = .ok (.iload 5, 2) := by decide +kernel
theorem dX12_summedUp_270 : decode cX12_summedUp 270 = .ok (.iconst 1, 1) := by decide +kernel
theorem dX12_summedUp_271 : decode cX12_summedUp 271 = .ok (.isub, 1) := by decide +kernel
theorem dX12_summedUp_272 : decode cX12_summedUp 272 = .ok (.laload, 1) := by decide +kernel
theorem dX12_summedUp_273 : decode cX12_summedUp 273 = .ok (.aload_n 0, 1) := by decide +kernel
theorem dX12_summedUp_274 : decode cX12_summedUp 274 = .ok (.getfield 38, 3) := by decide +kernel
theorem dX12_summedUp_277 : decode cX12_summedUp 277 = .ok (.iload 5, 2) := by decide +kernel
theorem dX12_summedUp_279 : decode cX12_summedUp 279 = .ok (.laload, 1) := by decide +kernel
theorem dX12_summedUp_280 : decode cX12_summedUp 280 = .ok (.invokestatic 277, 3) := by decide +kernel
theorem cw_X12_two : CWs yX12_two cX12_two 5 (some .long) 3 := ⟨⟨⟨List.mem_of_getElem? (i := 137) (by decide +kernel), by decide +kernel⟩, ⟨List.mem_of_getElem? (i := 1870) (by decide +kernel), by decide +kernel⟩, by decide +kernel⟩, ⟨List.mem_of_getElem? (i := 1869) (by decide +kernel), by decide +kernel⟩⟩
theorem km12_277 : inW (Cond.methodLink RX12 277 yX12_two) := ⟨List.mem_of_getElem? (i := 1868) (by decide +kernel), by decide +kernel⟩
theorem dX12_summedUp_283 : decode cX12_summedUp 283 = .ok (.lastore, 1) := by decide +kernel
theorem dX12_summedUp_284 : decode cX12_summedUp 284 = .ok (.goto 116, 3) := by decide +kernel
theorem dX12_summedUp_200 : decode cX12_summedUp 200 = .ok (.aload_n 0, 1) := by decide +kernel
theorem dX12_summedUp_201 : decode cX12_summedUp 201 = .ok (.getfield 38, 3) := by decide +kernel
theorem dX12_summedUp_204 : decode cX12_summedUp 204 = .ok (.iload 5, 2) := by decide +kernel
theorem dX12_summedUp_206 : decode cX12_summedUp 206 = .ok (.iconst 1, 1) := by decide +kernel
theorem dX12_summedUp_207 : decode cX12_summedUp 207 = .ok (.isub, 1) := by decide +kernel
theorem dX12_summedUp_208 : decode cX12_summedUp 208 = .ok (.iload 8, 2) := by decide +kernel
theorem dX12_summedUp_210 : decode cX12_summedUp 210 = .ok (.iconst 5, 1) := by decide +kernel
theorem dX12_summedUp_211 : decode cX12_summedUp 211 = .ok (.if_icmp .ne 16, 3) := by decide +kernel
theorem dX12_summedUp_227 : decode cX12_summedUp 227 = .ok (.aload_n 0, 1) := by decide +kernel
theorem dX12_summedUp_228 : decode cX12_summedUp 228 = .ok (.aload_n 0, 1) := by decide +kernel
theorem dX12_summedUp_229 : decode cX12_summedUp 229 = .ok (.getfield 38, 3) := by decide +kernel
theorem dX12_summedUp_232 : decode cX12_summedUp 232 = .ok (.iload 5, 2) := by decide +kernel
theorem dX12_summedUp_234 : decode cX12_summedUp 234 = .ok (.iconst 1, 1) := by decide +kernel
theorem dX12_summedUp_235 : decode cX12_summedUp 235 = .ok (.isub, 1) := by decide +kernel
theorem dX12_summedUp_236 : decode cX12_summedUp 236 = .ok (.laload, 1) := by decide +kernel
theorem dX12_summedUp_237 : decode cX12_summedUp 237 = .ok (.invokevirtual 274, 3) := by decide +kernel
theorem cw_X12_marksOf : CWv yX12_marksOf cX12_marksOf 3 (some .long) 1 := ⟨⟨⟨List.mem_of_getElem? (i := 137) (by decide +kernel), by decide +kernel⟩, ⟨List.mem_of_getElem? (i := 1856) (by decide +kernel), by decide +kernel⟩, by decide +kernel⟩, ⟨List.mem_of_getElem? (i := 1855) (by decide +kernel), by decide +kernel⟩, ⟨List.mem_of_getElem? (i := 93) (by decide +kernel), by decide +kernel⟩⟩
theorem km12_274 : inW (Cond.methodLink RX12 274 yX12_marksOf) := ⟨List.mem_of_getElem? (i := 1853) (by decide +kernel), by decide +kernel⟩
theorem dX12_summedUp_240 : decode cX12_summedUp 240 = .ok (.lastore, 1) := by decide +kernel
theorem dX12_summedUp_241 : decode cX12_summedUp 241 = .ok (.goto 159, 3) := by decide +kernel
theorem dX12_summedUp_214 : decode cX12_summedUp 214 = .ok (.aload_n 0, 1) := by decide +kernel
theorem dX12_summedUp_215 : decode cX12_summedUp 215 = .ok (.getfield 38, 3) := by decide +kernel
theorem dX12_summedUp_218 : decode cX12_summedUp 218 = .ok (.iload 5, 2) := by decide +kernel
theorem dX12_summedUp_220 : decode cX12_summedUp 220 = .ok (.iconst 1, 1) := by decide +kernel
theorem dX12_summedUp_221 : decode cX12_summedUp 221 = .ok (.isub, 1) := by decide +kernel
theorem dX12_summedUp_222 : decode cX12_summedUp 222 = .ok (.laload, 1) := by decide +kernel
theorem dX12_summedUp_223 : decode cX12_summedUp 223 = .ok (.lneg, 1) := by decide +kernel
theorem dX12_summedUp_224 : decode cX12_summedUp 224 = .ok (.goto 16, 3) := by decide +kernel
theorem dX12_summedUp_166 : decode cX12_summedUp 166 = .ok (.iload 6, 2) := by decide +kernel
theorem dX12_summedUp_168 : decode cX12_summedUp 168 = .ok (.iload 9, 2) := by decide +kernel
theorem dX12_summedUp_170 : decode cX12_summedUp 170 = .ok (.isub, 1) := by decide +kernel
theorem dX12_summedUp_171 : decode cX12_summedUp 171 = .ok (.istore 6, 2) := by decide +kernel
theorem dX12_summedUp_173 : decode cX12_summedUp 173 = .ok (.aload_n 0, 1) := by decide +kernel
theorem dX12_summedUp_174 : decode cX12_summedUp 174 = .ok (.getfield 42, 3) := by decide +kernel
theorem dX12_summedUp_177 : decode cX12_summedUp 177 = .ok (.iload 6, 2) := by decide +kernel
theorem dX12_summedUp_179 : decode cX12_summedUp 179 = .ok (.aload_n 0, 1) := by decide +kernel
theorem dX12_summedUp_180 : decode cX12_summedUp 180 = .ok (.iload 6, 2) := by decide +kernel
theorem dX12_summedUp_182 : decode cX12_summedUp 182 = .ok (.iload 9, 2) := by decide +kernel
theorem dX12_summedUp_184 : decode cX12_summedUp 184 = .ok (.invokevirtual 271, 3) := by decide +kernel
theorem cw_X12_isJustOne : CWv yX12_isJustOne cX12_isJustOne 5 (some .boolean) 2 := ⟨⟨⟨List.mem_of_getElem? (i := 137) (by decide +kernel), by decide +kernel⟩, ⟨List.mem_of_getElem? (i := 1852) (by decide +kernel), by decide +kernel⟩, by decide +kernel⟩, ⟨List.mem_of_getElem? (i := 1851) (by decide +kernel), by decide +kernel⟩, ⟨List.mem_of_getElem? (i := 92) (by decide +kernel), by decide +kernel⟩⟩
theorem km12_271 : inW (Cond.methodLink RX12 271 yX12_isJustOne) := ⟨List.mem_of_getElem? (i := 1849) (by decide +kernel), by decide +kernel⟩
theorem dX12_summedUp_187 : decode cX12_summedUp 187 = .ok (.bastore, 1) := by decide +kernel
theorem dX12_summedUp_188 : decode cX12_summedUp 188 = .ok (.iinc 6 1, 3) := by decide +kernel
theorem dX12_summedUp_191 : decode cX12_summedUp 191 = .ok (.goto 209, 3) := by decide +kernel
theorem dX12_summedUp_125 : decode cX12_summedUp 125 = .ok (.iinc 5 (-1), 3) := by decide +kernel
theorem dX12_summedUp_128 : decode cX12_summedUp 128 = .ok (.iinc 6 (-1), 3) := by decide +kernel
theorem dX12_summedUp_131 : decode cX12_summedUp 131 = .ok (.aload_n 0, 1) := by decide +kernel
theorem dX12_summedUp_132 : decode cX12_summedUp 132 = .ok (.getfield 42, 3) := by decide +kernel
theorem dX12_summedUp_135 : decode cX12_summedUp 135 = .ok (.iload 6, 2) := by decide +kernel
theorem dX12_summedUp_137 : decode cX12_summedUp 137 = .ok (.baload, 1) := by decide +kernel
theorem dX12_summedUp_138 : decode cX12_summedUp 138 = .ok (.ifCond .ne 262, 3) := by decide +kernel
theorem dX12_summedUp_141 : decode cX12_summedUp 141 = .ok (.aload_n 0, 1) := by decide +kernel
theorem dX12_summedUp_142 : decode cX12_summedUp 142 = .ok (.getfield 38, 3) := by decide +kernel
theorem dX12_summedUp_145 : decode cX12_summedUp 145 = .ok (.iload 5, 2) := by decide +kernel
theorem dX12_summedUp_147 : decode cX12_summedUp 147 = .ok (.iconst 1, 1) := by decide +kernel
theorem dX12_summedUp_148 : decode cX12_summedUp 148 = .ok (.isub, 1) := by decide +kernel
theorem dX12_summedUp_149 : decode cX12_summedUp 149 = .ok (.aload_n 0, 1) := by decide +kernel
theorem dX12_summedUp_150 : decode cX12_summedUp 150 = .ok (.getfield 38, 3) := by decide +kernel
theorem dX12_summedUp_153 : decode cX12_summedUp 153 = .ok (.iload 5, 2) := by decide +kernel
theorem dX12_summedUp_155 : decode cX12_summedUp 155 = .ok (.laload, 1) := by decide +kernel
theorem dX12_summedUp_156 : decode cX12_summedUp 156 = .ok (.lastore, 1) := by decide +kernel
theorem dX12_summedUp_157 : decode cX12_summedUp 157 = .ok (.goto 243, 3) := by decide +kernel
theorem dX12_summedUp_87 : decode cX12_summedUp 87 = .ok (.aload_n 0, 1) := by decide +kernel
theorem dX12_summedUp_88 : decode cX12_summedUp 88 = .ok (.getfield 38, 3) := by decide +kernel
theorem dX12_summedUp_91 : decode cX12_summedUp 91 = .ok (.iload 5, 2) := by decide +kernel
theorem dX12_summedUp_93 : decode cX12_summedUp 93 = .ok (.iload 8, 2) := by decide +kernel
theorem dX12_summedUp_95 : decode cX12_summedUp 95 = .ok (.ifCond .ne 9, 3) := by decide +kernel
theorem dX12_summedUp_104 : decode cX12_summedUp 104 = .ok (.aload_n 0, 1) := by decide +kernel
theorem dX12_summedUp_105 : decode cX12_summedUp 105 = .ok (.getfield 35, 3) := by decide +kernel
theorem kf12_35 : inW (Cond.fieldLink RX12 35 "KneeOathsModel" "named" "[I") := ⟨List.mem_of_getElem? (i := 1520) (by decide +kernel), by decide +kernel⟩
theorem dX12_summedUp_108 : decode cX12_summedUp 108 = .ok (.iload 9, 2) := by decide +kernel
theorem dX12_summedUp_110 : decode cX12_summedUp 110 = .ok (.iaload, 1) := by decide +kernel
theorem dX12_summedUp_111 : decode cX12_summedUp 111 = .ok (.i2l, 1) := by decide +kernel
theorem dX12_summedUp_112 : decode cX12_summedUp 112 = .ok (.lastore, 1) := by decide +kernel
theorem dX12_summedUp_113 : decode cX12_summedUp 113 = .ok (.iinc 5 1, 3) := by decide +kernel
theorem dX12_summedUp_116 : decode cX12_summedUp 116 = .ok (.goto 284, 3) := by decide +kernel
theorem dX12_summedUp_98 : decode cX12_summedUp 98 = .ok (.iload 9, 2) := by decide +kernel
theorem dX12_summedUp_100 : decode cX12_summedUp 100 = .ok (.i2l, 1) := by decide +kernel
theorem dX12_summedUp_101 : decode cX12_summedUp 101 = .ok (.goto 11, 3) := by decide +kernel
theorem jo_ix {a k n : Int32} (ha : bn 0 303 a) (hk : bn 0 302 k) (hs : a.toInt + n.toInt ≤ 303) (c : k < n) : bn 0 302 (a + k) := by
  rw [Int32.lt_iff_toInt_lt] at c
  obtain ⟨h1, h2⟩ := ha; obtain ⟨k1, k2⟩ := hk
  have e := ti_add (a := a) (b := k) (by omega) (by omega)
  exact ⟨by omega, by omega⟩
set_option maxHeartbeats 4000000 in
set_option maxRecDepth 100000 in
theorem x_X12_isJustOne {l : Launch} {G : GG}  {L : List Nat} {f : HF} {ad : Nat → Nat → Nat} {sl : Int} {pl : Int} {oh : Int} {dh : Int} {w : Int × Int} {pi : (Nat → Int32) → Prop} {px : (Nat → Int32) → Prop} {pa : (Nat → Int32) → Prop} {i1 i2 : Int32} (I : SH (spM (IA sl pl oh dh w) pi px pa) nnM G ad L f) (hB : BBp sl pl oh dh w) (b_i1 : bn 0 303 i1) (b_i2 : bn 0 303 i2) (hsum : i1.toInt + i2.toInt ≤ 303) : PMp l yX12_isJustOne cX12_isJustOne 5 .boolean 0 0 0 G [.ref (ad 0 0), .int i1, .int i2] L f (fun r => bn 0 1 r) := by
  refine PMi.of (post := fun r L1 f1 => (bn 0 1 r) ∧ L1 = L ∧ f1 = f) (own := RX12) (by decide) rfl (Nat.le_of_ble_eq_true rfl) (fun sz p e s m args below meth c A ls hA1 hname S Y hl => ?_)
  have hx := S.hx
  have hb := S.hb
  have hl : lv_has ls 5 [(0, .ref (ad 0 0)), (1, .int i1), (2, .int i2)] := hl
  have J_5 : ∀ (n5 : Nat) (y5_3 y5_4 : Int32) (H : Heap) (locs : List Loc) (ls : Array Slot), (bn 0 999 y5_4) → (((999 : Int) - y5_4.toInt).toNat = n5) → (DY G A s [] L f H locs) → (lv_has ls 5 [(0, .ref (ad 0 0)), (1, .int i1), (2, .int i2), (3, .int y5_3), (4, .int y5_4)]) → W p l e (rmD 0 0 0) s m args below meth c H locs (0) (0) (MQ below (va_Qi (fun r (u : List Nat × HF) => (fun r L1 f1 => (bn 0 1 r) ∧ L1 = L ∧ f1 = f) r u.1 u.2) (fun u t => pOut G (va_A (va_pl L f) sz) u.1 u.2 t) (va_A (va_pl L f) sz)) args s 0 0 A) (F0 m 5 ls []) := by
    intro n5
    induction n5 using Nat.strongRecOn with
    | _ n5 ih5 =>
      intro y5_3 y5_4 H locs ls b_y5_4 hm5 Y hl
      refine lv_iload hx hb dX12_isJustOne_5 (lv_at hl 4 rfl) ?_
      refine lv_iload_n hx hb dX12_isJustOne_7 rfl (lv_at hl 2 rfl) ?_
      refine lv_icmp_ge (tgt := 37) hx hb dX12_isJustOne_8 (by decide) (fun c_11431 => ?_) (fun c_11431 => ?_)
      · refine lv_iload_n hx hb dX12_isJustOne_37 rfl (lv_at hl 3 rfl) ?_
        refine lv_iconst (v := 1) hx hb dX12_isJustOne_38 (by decide) ?_
        refine lv_icmp_ne (tgt := 46) hx hb dX12_isJustOne_39 (by decide) (fun c_11434 => ?_) (fun c_11434 => ?_)
        · refine lv_iconst (v := 0) hx hb dX12_isJustOne_46 (by decide) ?_
          exact prI (post := fun r L1 f1 => (bn 0 1 r) ∧ L1 = L ∧ f1 = f) S Y rfl (by decide) (by decide) hA1 ⟨bn_w (show bn 0 0 (0 : Int32) from bn_k (by decide)) (by decide), rfl, rfl⟩ dX12_isJustOne_47
        · have B_11435 : bn 1 1 y5_3 := bn_w (bn_eq c_11434 (show bn 1 1 (1 : Int32) from bn_k (by decide))) (by decide)
          refine lv_iconst (v := 1) hx hb dX12_isJustOne_42 (by decide) ?_
          refine lv_goto (tgt := 47) hx hb dX12_isJustOne_43 (by decide) ?_
          exact prI (post := fun r L1 f1 => (bn 0 1 r) ∧ L1 = L ∧ f1 = f) S Y rfl (by decide) (by decide) hA1 ⟨bn_w (show bn 1 1 (1 : Int32) from bn_k (by decide)) (by decide), rfl, rfl⟩ dX12_isJustOne_47
      · have B_11432 : bn 1 303 i2 := bn_w (bn_gtl c_11431 b_i2 b_y5_4) (by decide)
        have B_11433 : bn 0 302 y5_4 := bn_w (bn_gtr c_11431 b_i2 b_y5_4) (by decide)
        refine lv_iload_n hx hb dX12_isJustOne_11 rfl (lv_at hl 3 rfl) ?_
        refine lv_aload_n hx hb dX12_isJustOne_12 rfl (lv_at hl 0 rfl) ?_
        obtain ⟨v_11436, v_11438, v_11440, v_11442, v_11444, v_11446, v_11448, v_11450, v_11451, v_11453, v_11455, v_11457, v_11459, v_11461, v_11463, v_11465, v_11467, v_11469, p_ad_0_0, b_11437, b_11439, b_11441, b_11443, b_11445, b_11447, b_11449, b_11452, b_11454, b_11456, b_11458, b_11460, b_11462, b_11464, b_11466, b_11468, b_11470⟩ := opnM_0 (j := 0) I (by decide)
        have p_ad_0_0 : pt L f (ad 0 0) (.inr (12, [.ref (ad 1 0), .ref (ad 2 0), .ref (ad 3 0), .ref (ad 4 0), .int v_11436, .int v_11438, .int v_11440, .int v_11442, .int v_11444, .int v_11446, .int v_11448, .long v_11450, .int v_11451, .int v_11453, .int v_11455, .ref (ad 5 0), .ref (ad 6 0), .int v_11457, .int v_11459, .int v_11461, .int v_11463, .int v_11465, .ref (ad 7 0), .ref (ad 8 0), .ref (ad 9 0), .int v_11467, .ref (ad 10 0), .ref (ad 11 0), .ref (ad 12 0), .ref (ad 13 0), .int v_11469, .ref (ad 14 0)])) := p_ad_0_0
        refine pg_get S Y ok_X12 24 (by decide) kf12_42 (v := .ref (ad 9 0)) p_ad_0_0 rfl dX12_isJustOne_13 ?_
        refine lv_iload_n hx hb dX12_isJustOne_16 rfl (lv_at hl 1 rfl) ?_
        refine lv_iload hx hb dX12_isJustOne_17 (lv_at hl 4 rfl) ?_
        refine lv_iadd hx hb dX12_isJustOne_19 ?_
        refine lv_topi (fun x_11471 ex_11471 => ?_)
        obtain ⟨g_11472, p_ad_9_0, o_11473⟩ := I.opi (k := 9) (j := 0) (by decide) rfl
        have p_ad_9_0 : pt L f (ad 9 0) (.inl (G.2 2, 330, .inl g_11472)) := p_ad_9_0
        obtain ⟨v_11474, ev_11474⟩ : ∃ z, z = g_11472 (x_11471 : Int32).toNatClampNeg := ⟨_, rfl⟩
        refine pg_zald S Y p_ad_9_0 (vp_bn (bn_eq ex_11471 (jo_ix (bn_w b_i1 (by decide)) (bn_w B_11433 (by decide)) hsum (Int32.not_le.mp c_11431))) (by decide)) dX12_isJustOne_20 ?_
        refine lv_fold (z := v_11474) ev_11474.symm ?_
        refine lv_if_eq (tgt := 28) hx hb dX12_isJustOne_21 (by decide) (fun c_11475 => ?_) (fun c_11475 => ?_)
        · have B_11476 : bn 0 0 v_11474 := bn_w (bn_eq c_11475 (show bn 0 0 (0 : Int32) from bn_k (by decide))) (by decide)
          refine lv_iconst (v := 0) hx hb dX12_isJustOne_28 (by decide) ?_
          refine lv_iadd hx hb dX12_isJustOne_29 ?_
          refine lv_topi (fun x_11478 ex_11478 => ?_)
          refine lv_istore_n (lv' := [(3, .int x_11478), (0, .ref (ad 0 0)), (1, .int i1), (2, .int i2), (4, .int y5_4)]) hx hb dX12_isJustOne_30 rfl hl (by decide) rfl (fun ls hl => ?_)
          obtain ⟨x_11479, ex_11479⟩ : ∃ z : Int32, z = y5_4 + 1 := ⟨_, rfl⟩
          refine lv_iinc (v := x_11479) (lv' := [(4, .int x_11479), (3, .int x_11478), (0, .ref (ad 0 0)), (1, .int i1), (2, .int i2)]) hx hb dX12_isJustOne_31 hl (k := 4) rfl (by rw [ex_11479]; rfl) (by decide) rfl (fun ls hl => ?_)
          refine lv_goto (tgt := 5) hx hb dX12_isJustOne_34 (by decide) ?_
          exact ih5 _ (by rw [← hm5]; exact ms_up (m := 1) ex_11479 (show bn 1 1 (1 : Int32) from bn_k (by decide)) B_11433 (bn_w (bn_eq ex_11479 (bn_add B_11433 (show bn 1 1 (1 : Int32) from bn_k (by decide)) (by decide))) (by decide) : bn 0 999 x_11479) (by decide)) x_11478 x_11479  _ _ _  (bn_w (bn_eq ex_11479 (bn_add B_11433 (show bn 1 1 (1 : Int32) from bn_k (by decide)) (by decide))) (by decide)) rfl Y (lv_sub hl [2, 3, 4, 1, 0] rfl)
        · have B_11477 : bn 1 1 v_11474 := bn_w (bn_nel c_11475 (bn_eq ev_11474 (o_11473 _)) (show bn 0 0 (0 : Int32) from bn_k (by decide))) (by decide)
          refine lv_iconst (v := 1) hx hb dX12_isJustOne_24 (by decide) ?_
          refine lv_goto (tgt := 29) hx hb dX12_isJustOne_25 (by decide) ?_
          refine lv_iadd hx hb dX12_isJustOne_29 ?_
          refine lv_topi (fun x_11480 ex_11480 => ?_)
          refine lv_istore_n (lv' := [(3, .int x_11480), (0, .ref (ad 0 0)), (1, .int i1), (2, .int i2), (4, .int y5_4)]) hx hb dX12_isJustOne_30 rfl hl (by decide) rfl (fun ls hl => ?_)
          obtain ⟨x_11481, ex_11481⟩ : ∃ z : Int32, z = y5_4 + 1 := ⟨_, rfl⟩
          refine lv_iinc (v := x_11481) (lv' := [(4, .int x_11481), (3, .int x_11480), (0, .ref (ad 0 0)), (1, .int i1), (2, .int i2)]) hx hb dX12_isJustOne_31 hl (k := 4) rfl (by rw [ex_11481]; rfl) (by decide) rfl (fun ls hl => ?_)
          refine lv_goto (tgt := 5) hx hb dX12_isJustOne_34 (by decide) ?_
          exact ih5 _ (by rw [← hm5]; exact ms_up (m := 1) ex_11481 (show bn 1 1 (1 : Int32) from bn_k (by decide)) B_11433 (bn_w (bn_eq ex_11481 (bn_add B_11433 (show bn 1 1 (1 : Int32) from bn_k (by decide)) (by decide))) (by decide) : bn 0 999 x_11481) (by decide)) x_11480 x_11481  _ _ _  (bn_w (bn_eq ex_11481 (bn_add B_11433 (show bn 1 1 (1 : Int32) from bn_k (by decide)) (by decide))) (by decide)) rfl Y (lv_sub hl [2, 3, 4, 1, 0] rfl)
  refine lv_iconst (v := 0) hx hb dX12_isJustOne_0 (by decide) ?_
  refine lv_istore_n (lv' := [(3, .int 0), (0, .ref (ad 0 0)), (1, .int i1), (2, .int i2)]) hx hb dX12_isJustOne_1 rfl hl (by decide) rfl (fun ls hl => ?_)
  refine lv_iconst (v := 0) hx hb dX12_isJustOne_2 (by decide) ?_
  refine lv_istore (lv' := [(4, .int 0), (3, .int 0), (0, .ref (ad 0 0)), (1, .int i1), (2, .int i2)]) hx hb dX12_isJustOne_3 hl (by decide) rfl (fun ls hl => ?_)
  exact J_5 _ 0 0  _ _ _  (bn_w (show bn 0 0 (0 : Int32) from bn_k (by decide)) (by decide)) rfl Y (lv_sub hl [2, 3, 4, 1, 0] rfl)
set_option maxHeartbeats 4000000 in
set_option maxRecDepth 100000 in
theorem x_X12_clip {l : Launch} {G : GG}  {L : List Nat} {f : HF}  {v1 : Int64}  : PMl l yX12_clip cX12_clip 2 0 0 0 G [.long v1] L f (fun r L1 f1 => (True) ∧ L1 = L ∧ f1 = f) := by
  refine PMl.of (post := fun r L1 f1 => (True) ∧ L1 = L ∧ f1 = f) (own := RX12) (by decide) rfl (Nat.le_of_ble_eq_true rfl) (fun sz p e s m args below meth c A ls hA1 hname S Y hl => ?_)
  have hx := S.hx
  have hb := S.hb
  have hl : lv_has ls 2 [(0, .long v1)] := hl
  refine lv_lload_n hx hb dX12_clip_0 rfl (lv_at hl 0 rfl) ?_
  refine lv_ldc2 (v := 1000000) hx hb S.ow (S.w kl12_257) dX12_clip_1 ?_
  refine W.lcmp hx hb dX12_clip_4 ?_
  refine lv_topi (fun x_11498 ex_11498 => ?_)
  refine lv_if_le (tgt := 14) hx hb dX12_clip_5 (by decide) (fun c_11499 => ?_) (fun c_11499 => ?_)
  · have B_11500 : bn (-1) 0 x_11498 := bn_w (bn_lel c_11499 (bn_eq ex_11498 (bn_lc v1 (1000000 : Int64))) (show bn 0 0 (0 : Int32) from bn_k (by decide))) (by decide)
    refine lv_lload_n hx hb dX12_clip_14 rfl (lv_at hl 0 rfl) ?_
    refine lv_ldc2 (v := (-1000000)) hx hb S.ow (S.w kl12_259) dX12_clip_15 ?_
    refine W.lcmp hx hb dX12_clip_18 ?_
    refine lv_topi (fun x_11502 ex_11502 => ?_)
    refine lv_if_ge (tgt := 28) hx hb dX12_clip_19 (by decide) (fun c_11503 => ?_) (fun c_11503 => ?_)
    · have B_11504 : bn 0 1 x_11502 := bn_w (bn_ler c_11503 (show bn 0 0 (0 : Int32) from bn_k (by decide)) (bn_eq ex_11502 (bn_lc v1 ((-1000000) : Int64)))) (by decide)
      refine lv_lload_n hx hb dX12_clip_28 rfl (lv_at hl 0 rfl) ?_
      exact prL (post := fun r L1 f1 => (True) ∧ L1 = L ∧ f1 = f) S Y (by decide) (by decide) hA1 ⟨trivial, rfl, rfl⟩ dX12_clip_29
    · have B_11505 : bn (-1) (-1) x_11502 := bn_w (bn_gtr c_11503 (show bn 0 0 (0 : Int32) from bn_k (by decide)) (bn_eq ex_11502 (bn_lc v1 ((-1000000) : Int64)))) (by decide)
      refine lv_ldc2 (v := (-1000000)) hx hb S.ow (S.w kl12_259) dX12_clip_22 ?_
      refine lv_goto (tgt := 29) hx hb dX12_clip_25 (by decide) ?_
      exact prL (post := fun r L1 f1 => (True) ∧ L1 = L ∧ f1 = f) S Y (by decide) (by decide) hA1 ⟨trivial, rfl, rfl⟩ dX12_clip_29
  · have B_11501 : bn 1 1 x_11498 := bn_w (bn_gtl c_11499 (bn_eq ex_11498 (bn_lc v1 (1000000 : Int64))) (show bn 0 0 (0 : Int32) from bn_k (by decide))) (by decide)
    refine lv_ldc2 (v := 1000000) hx hb S.ow (S.w kl12_257) dX12_clip_8 ?_
    refine lv_goto (tgt := 29) hx hb dX12_clip_11 (by decide) ?_
    exact prL (post := fun r L1 f1 => (True) ∧ L1 = L ∧ f1 = f) S Y (by decide) (by decide) hA1 ⟨trivial, rfl, rfl⟩ dX12_clip_29
set_option maxHeartbeats 4000000 in
set_option maxRecDepth 100000 in
theorem x_X12_two {l : Launch} {G : GG}  {L : List Nat} {f : HF}  {i1 : Int32} {v1 v2 : Int64}  : PMl l yX12_two cX12_two 5 1 0 0 G [.int i1, .long v1, .long v2] L f (fun r L1 f1 => (True) ∧ L1 = L ∧ f1 = f) := by
  refine PMl.of (post := fun r L1 f1 => (True) ∧ L1 = L ∧ f1 = f) (own := RX12) (by decide) rfl (Nat.le_of_ble_eq_true rfl) (fun sz p e s m args below meth c A ls hA1 hname S Y hl => ?_)
  have hx := S.hx
  have hb := S.hb
  have hl : lv_has ls 5 [(0, .int i1), (1, .long v1), (3, .long v2)] := hl
  refine lv_iload_n hx hb dX12_two_0 rfl (lv_at hl 0 rfl) ?_
  rcases sw_6_8 i1 with h_11530 | h_11530 | h_11530 | h_11530
  · refine lv_fold (z := 6) h_11530 ?_
    refine lv_tableIn (off := 27) (tgt := 28) hx hb dX12_two_1 (by decide) (by decide) (by decide) (by decide) ?_
    refine lv_lload_n hx hb dX12_two_28 rfl (lv_at hl 1 rfl) ?_
    refine lv_lload_n hx hb dX12_two_29 rfl (lv_at hl 2 rfl) ?_
    refine lv_ladd hx hb dX12_two_30 ?_
    refine lv_topl (fun x_11531 ex_11531 => ?_)
    refine cSlp (As := [.long x_11531]) (rest := []) S Y (x_X12_clip (l := l) ) cw_X12_clip km12_261 rfl ⟨Nat.le_of_ble_eq_true rfl, Nat.le_of_ble_eq_true rfl⟩ hl.1 rfl (Nat.le_of_ble_eq_true rfl) ⟨Nat.le_of_ble_eq_true rfl, Nat.le_of_ble_eq_true rfl⟩ dX12_two_31 (fun r_11532 H locs er_11532 Y => ?_)
    exact prL (post := fun r L1 f1 => (True) ∧ L1 = L ∧ f1 = f) S Y (by decide) (by decide) hA1 ⟨trivial, rfl, rfl⟩ dX12_two_34
  · refine lv_fold (z := 7) h_11530 ?_
    refine lv_tableIn (off := 34) (tgt := 35) hx hb dX12_two_1 (by decide) (by decide) (by decide) (by decide) ?_
    refine lv_lload_n hx hb dX12_two_35 rfl (lv_at hl 1 rfl) ?_
    refine lv_lload_n hx hb dX12_two_36 rfl (lv_at hl 2 rfl) ?_
    refine lv_lsub hx hb dX12_two_37 ?_
    refine lv_topl (fun x_11533 ex_11533 => ?_)
    refine cSlp (As := [.long x_11533]) (rest := []) S Y (x_X12_clip (l := l) ) cw_X12_clip km12_261 rfl ⟨Nat.le_of_ble_eq_true rfl, Nat.le_of_ble_eq_true rfl⟩ hl.1 rfl (Nat.le_of_ble_eq_true rfl) ⟨Nat.le_of_ble_eq_true rfl, Nat.le_of_ble_eq_true rfl⟩ dX12_two_38 (fun r_11534 H locs er_11534 Y => ?_)
    exact prL (post := fun r L1 f1 => (True) ∧ L1 = L ∧ f1 = f) S Y (by decide) (by decide) hA1 ⟨trivial, rfl, rfl⟩ dX12_two_41
  · refine lv_fold (z := 8) h_11530 ?_
    refine lv_tableIn (off := 41) (tgt := 42) hx hb dX12_two_1 (by decide) (by decide) (by decide) (by decide) ?_
    refine lv_lload_n hx hb dX12_two_42 rfl (lv_at hl 1 rfl) ?_
    refine lv_lload_n hx hb dX12_two_43 rfl (lv_at hl 2 rfl) ?_
    refine lv_lmul hx hb dX12_two_44 ?_
    refine lv_topl (fun x_11535 ex_11535 => ?_)
    refine cSlp (As := [.long x_11535]) (rest := []) S Y (x_X12_clip (l := l) ) cw_X12_clip km12_261 rfl ⟨Nat.le_of_ble_eq_true rfl, Nat.le_of_ble_eq_true rfl⟩ hl.1 rfl (Nat.le_of_ble_eq_true rfl) ⟨Nat.le_of_ble_eq_true rfl, Nat.le_of_ble_eq_true rfl⟩ dX12_two_45 (fun r_11536 H locs er_11536 Y => ?_)
    exact prL (post := fun r L1 f1 => (True) ∧ L1 = L ∧ f1 = f) S Y (by decide) (by decide) hA1 ⟨trivial, rfl, rfl⟩ dX12_two_48
  · refine lv_tableOut (tgt := 49) hx hb dX12_two_1 h_11530 (by decide) ?_
    refine lv_lload_n hx hb dX12_two_49 rfl (lv_at hl 2 rfl) ?_
    refine lv_lconst (v := 0) hx hb dX12_two_50 (by decide) ?_
    refine W.lcmp hx hb dX12_two_51 ?_
    refine lv_topi (fun x_11537 ex_11537 => ?_)
    refine lv_if_ne (tgt := 59) hx hb dX12_two_52 (by decide) (fun c_11538 => ?_) (fun c_11538 => ?_)
    · refine lv_lload_n hx hb dX12_two_59 rfl (lv_at hl 1 rfl) ?_
      refine lv_lload_n hx hb dX12_two_60 rfl (lv_at hl 2 rfl) ?_
      refine lv_ldiv hx hb dX12_two_61 (lc_nz ex_11537 c_11538) ?_
      refine lv_topl (fun x_11540 ex_11540 => ?_)
      refine cSlp (As := [.long x_11540]) (rest := []) S Y (x_X12_clip (l := l) ) cw_X12_clip km12_261 rfl ⟨Nat.le_of_ble_eq_true rfl, Nat.le_of_ble_eq_true rfl⟩ hl.1 rfl (Nat.le_of_ble_eq_true rfl) ⟨Nat.le_of_ble_eq_true rfl, Nat.le_of_ble_eq_true rfl⟩ dX12_two_62 (fun r_11541 H locs er_11541 Y => ?_)
      exact prL (post := fun r L1 f1 => (True) ∧ L1 = L ∧ f1 = f) S Y (by decide) (by decide) hA1 ⟨trivial, rfl, rfl⟩ dX12_two_65
    · have B_11539 : bn 0 0 x_11537 := bn_w (bn_eq c_11538 (show bn 0 0 (0 : Int32) from bn_k (by decide))) (by decide)
      refine lv_lconst (v := 0) hx hb dX12_two_55 (by decide) ?_
      refine lv_goto (tgt := 65) hx hb dX12_two_56 (by decide) ?_
      exact prL (post := fun r L1 f1 => (True) ∧ L1 = L ∧ f1 = f) S Y (by decide) (by decide) hA1 ⟨trivial, rfl, rfl⟩ dX12_two_65
set_option maxHeartbeats 4000000 in
set_option maxRecDepth 100000 in
theorem x_X12_isAsked {l : Launch} {G : GG}  {L : List Nat} {f : HF}  {i1 : Int32} {v1 v2 : Int64}  : PMp l yX12_isAsked cX12_isAsked 5 .boolean 0 0 0 G [.int i1, .long v1, .long v2] L f (fun r => bn 0 1 r) := by
  refine PMi.of (post := fun r L1 f1 => (bn 0 1 r) ∧ L1 = L ∧ f1 = f) (own := RX12) (by decide) rfl (Nat.le_of_ble_eq_true rfl) (fun sz p e s m args below meth c A ls hA1 hname S Y hl => ?_)
  have hx := S.hx
  have hb := S.hb
  have hl : lv_has ls 5 [(0, .int i1), (1, .long v1), (3, .long v2)] := hl
  refine lv_iload_n hx hb dX12_isAsked_0 rfl (lv_at hl 0 rfl) ?_
  refine lv_bipush (v := 10) hx hb dX12_isAsked_1 (by decide) ?_
  refine lv_icmp_ne (tgt := 20) hx hb dX12_isAsked_3 (by decide) (fun c_11606 => ?_) (fun c_11606 => ?_)
  · refine lv_iload_n hx hb dX12_isAsked_20 rfl (lv_at hl 0 rfl) ?_
    refine lv_bipush (v := 11) hx hb dX12_isAsked_21 (by decide) ?_
    refine lv_icmp_ne (tgt := 40) hx hb dX12_isAsked_23 (by decide) (fun c_11608 => ?_) (fun c_11608 => ?_)
    · refine lv_iload_n hx hb dX12_isAsked_40 rfl (lv_at hl 0 rfl) ?_
      refine lv_bipush (v := 12) hx hb dX12_isAsked_41 (by decide) ?_
      refine lv_icmp_ne (tgt := 60) hx hb dX12_isAsked_43 (by decide) (fun c_11610 => ?_) (fun c_11610 => ?_)
      · refine lv_iload_n hx hb dX12_isAsked_60 rfl (lv_at hl 0 rfl) ?_
        refine lv_bipush (v := 13) hx hb dX12_isAsked_61 (by decide) ?_
        refine lv_icmp_ne (tgt := 80) hx hb dX12_isAsked_63 (by decide) (fun c_11612 => ?_) (fun c_11612 => ?_)
        · refine lv_iload_n hx hb dX12_isAsked_80 rfl (lv_at hl 0 rfl) ?_
          refine lv_bipush (v := 14) hx hb dX12_isAsked_81 (by decide) ?_
          refine lv_icmp_ne (tgt := 100) hx hb dX12_isAsked_83 (by decide) (fun c_11614 => ?_) (fun c_11614 => ?_)
          · refine lv_lload_n hx hb dX12_isAsked_100 rfl (lv_at hl 1 rfl) ?_
            refine lv_lload_n hx hb dX12_isAsked_101 rfl (lv_at hl 2 rfl) ?_
            refine W.lcmp hx hb dX12_isAsked_102 ?_
            refine lv_topi (fun x_11616 ex_11616 => ?_)
            refine lv_if_eq (tgt := 110) hx hb dX12_isAsked_103 (by decide) (fun c_11617 => ?_) (fun c_11617 => ?_)
            · have B_11618 : bn 0 0 x_11616 := bn_w (bn_eq c_11617 (show bn 0 0 (0 : Int32) from bn_k (by decide))) (by decide)
              refine lv_iconst (v := 0) hx hb dX12_isAsked_110 (by decide) ?_
              exact prI (post := fun r L1 f1 => (bn 0 1 r) ∧ L1 = L ∧ f1 = f) S Y rfl (by decide) (by decide) hA1 ⟨bn_w (show bn 0 0 (0 : Int32) from bn_k (by decide)) (by decide), rfl, rfl⟩ dX12_isAsked_111
            · refine lv_iconst (v := 1) hx hb dX12_isAsked_106 (by decide) ?_
              refine lv_goto (tgt := 111) hx hb dX12_isAsked_107 (by decide) ?_
              exact prI (post := fun r L1 f1 => (bn 0 1 r) ∧ L1 = L ∧ f1 = f) S Y rfl (by decide) (by decide) hA1 ⟨bn_w (show bn 1 1 (1 : Int32) from bn_k (by decide)) (by decide), rfl, rfl⟩ dX12_isAsked_111
          · have B_11615 : bn 14 14 i1 := bn_w (bn_eq c_11614 (show bn 14 14 (14 : Int32) from bn_k (by decide))) (by decide)
            refine lv_lload_n hx hb dX12_isAsked_86 rfl (lv_at hl 1 rfl) ?_
            refine lv_lload_n hx hb dX12_isAsked_87 rfl (lv_at hl 2 rfl) ?_
            refine W.lcmp hx hb dX12_isAsked_88 ?_
            refine lv_topi (fun x_11619 ex_11619 => ?_)
            refine lv_if_ne (tgt := 96) hx hb dX12_isAsked_89 (by decide) (fun c_11620 => ?_) (fun c_11620 => ?_)
            · refine lv_iconst (v := 0) hx hb dX12_isAsked_96 (by decide) ?_
              refine lv_goto (tgt := 111) hx hb dX12_isAsked_97 (by decide) ?_
              exact prI (post := fun r L1 f1 => (bn 0 1 r) ∧ L1 = L ∧ f1 = f) S Y rfl (by decide) (by decide) hA1 ⟨bn_w (show bn 0 0 (0 : Int32) from bn_k (by decide)) (by decide), rfl, rfl⟩ dX12_isAsked_111
            · have B_11621 : bn 0 0 x_11619 := bn_w (bn_eq c_11620 (show bn 0 0 (0 : Int32) from bn_k (by decide))) (by decide)
              refine lv_iconst (v := 1) hx hb dX12_isAsked_92 (by decide) ?_
              refine lv_goto (tgt := 111) hx hb dX12_isAsked_93 (by decide) ?_
              exact prI (post := fun r L1 f1 => (bn 0 1 r) ∧ L1 = L ∧ f1 = f) S Y rfl (by decide) (by decide) hA1 ⟨bn_w (show bn 1 1 (1 : Int32) from bn_k (by decide)) (by decide), rfl, rfl⟩ dX12_isAsked_111
        · have B_11613 : bn 13 13 i1 := bn_w (bn_eq c_11612 (show bn 13 13 (13 : Int32) from bn_k (by decide))) (by decide)
          refine lv_lload_n hx hb dX12_isAsked_66 rfl (lv_at hl 1 rfl) ?_
          refine lv_lload_n hx hb dX12_isAsked_67 rfl (lv_at hl 2 rfl) ?_
          refine W.lcmp hx hb dX12_isAsked_68 ?_
          refine lv_topi (fun x_11622 ex_11622 => ?_)
          refine lv_if_lt (tgt := 76) hx hb dX12_isAsked_69 (by decide) (fun c_11623 => ?_) (fun c_11623 => ?_)
          · have B_11624 : bn (-1) (-1) x_11622 := bn_w (bn_ltl c_11623 (bn_eq ex_11622 (bn_lc v1 v2)) (show bn 0 0 (0 : Int32) from bn_k (by decide))) (by decide)
            refine lv_iconst (v := 0) hx hb dX12_isAsked_76 (by decide) ?_
            refine lv_goto (tgt := 111) hx hb dX12_isAsked_77 (by decide) ?_
            exact prI (post := fun r L1 f1 => (bn 0 1 r) ∧ L1 = L ∧ f1 = f) S Y rfl (by decide) (by decide) hA1 ⟨bn_w (show bn 0 0 (0 : Int32) from bn_k (by decide)) (by decide), rfl, rfl⟩ dX12_isAsked_111
          · have B_11625 : bn 0 1 x_11622 := bn_w (bn_gel c_11623 (bn_eq ex_11622 (bn_lc v1 v2)) (show bn 0 0 (0 : Int32) from bn_k (by decide))) (by decide)
            refine lv_iconst (v := 1) hx hb dX12_isAsked_72 (by decide) ?_
            refine lv_goto (tgt := 111) hx hb dX12_isAsked_73 (by decide) ?_
            exact prI (post := fun r L1 f1 => (bn 0 1 r) ∧ L1 = L ∧ f1 = f) S Y rfl (by decide) (by decide) hA1 ⟨bn_w (show bn 1 1 (1 : Int32) from bn_k (by decide)) (by decide), rfl, rfl⟩ dX12_isAsked_111
      · have B_11611 : bn 12 12 i1 := bn_w (bn_eq c_11610 (show bn 12 12 (12 : Int32) from bn_k (by decide))) (by decide)
        refine lv_lload_n hx hb dX12_isAsked_46 rfl (lv_at hl 1 rfl) ?_
        refine lv_lload_n hx hb dX12_isAsked_47 rfl (lv_at hl 2 rfl) ?_
        refine W.lcmp hx hb dX12_isAsked_48 ?_
        refine lv_topi (fun x_11626 ex_11626 => ?_)
        refine lv_if_le (tgt := 56) hx hb dX12_isAsked_49 (by decide) (fun c_11627 => ?_) (fun c_11627 => ?_)
        · have B_11628 : bn (-1) 0 x_11626 := bn_w (bn_lel c_11627 (bn_eq ex_11626 (bn_lc v1 v2)) (show bn 0 0 (0 : Int32) from bn_k (by decide))) (by decide)
          refine lv_iconst (v := 0) hx hb dX12_isAsked_56 (by decide) ?_
          refine lv_goto (tgt := 111) hx hb dX12_isAsked_57 (by decide) ?_
          exact prI (post := fun r L1 f1 => (bn 0 1 r) ∧ L1 = L ∧ f1 = f) S Y rfl (by decide) (by decide) hA1 ⟨bn_w (show bn 0 0 (0 : Int32) from bn_k (by decide)) (by decide), rfl, rfl⟩ dX12_isAsked_111
        · have B_11629 : bn 1 1 x_11626 := bn_w (bn_gtl c_11627 (bn_eq ex_11626 (bn_lc v1 v2)) (show bn 0 0 (0 : Int32) from bn_k (by decide))) (by decide)
          refine lv_iconst (v := 1) hx hb dX12_isAsked_52 (by decide) ?_
          refine lv_goto (tgt := 111) hx hb dX12_isAsked_53 (by decide) ?_
          exact prI (post := fun r L1 f1 => (bn 0 1 r) ∧ L1 = L ∧ f1 = f) S Y rfl (by decide) (by decide) hA1 ⟨bn_w (show bn 1 1 (1 : Int32) from bn_k (by decide)) (by decide), rfl, rfl⟩ dX12_isAsked_111
    · have B_11609 : bn 11 11 i1 := bn_w (bn_eq c_11608 (show bn 11 11 (11 : Int32) from bn_k (by decide))) (by decide)
      refine lv_lload_n hx hb dX12_isAsked_26 rfl (lv_at hl 1 rfl) ?_
      refine lv_lload_n hx hb dX12_isAsked_27 rfl (lv_at hl 2 rfl) ?_
      refine W.lcmp hx hb dX12_isAsked_28 ?_
      refine lv_topi (fun x_11630 ex_11630 => ?_)
      refine lv_if_gt (tgt := 36) hx hb dX12_isAsked_29 (by decide) (fun c_11631 => ?_) (fun c_11631 => ?_)
      · have B_11632 : bn 1 1 x_11630 := bn_w (bn_ltr c_11631 (show bn 0 0 (0 : Int32) from bn_k (by decide)) (bn_eq ex_11630 (bn_lc v1 v2))) (by decide)
        refine lv_iconst (v := 0) hx hb dX12_isAsked_36 (by decide) ?_
        refine lv_goto (tgt := 111) hx hb dX12_isAsked_37 (by decide) ?_
        exact prI (post := fun r L1 f1 => (bn 0 1 r) ∧ L1 = L ∧ f1 = f) S Y rfl (by decide) (by decide) hA1 ⟨bn_w (show bn 0 0 (0 : Int32) from bn_k (by decide)) (by decide), rfl, rfl⟩ dX12_isAsked_111
      · have B_11633 : bn (-1) 0 x_11630 := bn_w (bn_ger c_11631 (show bn 0 0 (0 : Int32) from bn_k (by decide)) (bn_eq ex_11630 (bn_lc v1 v2))) (by decide)
        refine lv_iconst (v := 1) hx hb dX12_isAsked_32 (by decide) ?_
        refine lv_goto (tgt := 111) hx hb dX12_isAsked_33 (by decide) ?_
        exact prI (post := fun r L1 f1 => (bn 0 1 r) ∧ L1 = L ∧ f1 = f) S Y rfl (by decide) (by decide) hA1 ⟨bn_w (show bn 1 1 (1 : Int32) from bn_k (by decide)) (by decide), rfl, rfl⟩ dX12_isAsked_111
  · have B_11607 : bn 10 10 i1 := bn_w (bn_eq c_11606 (show bn 10 10 (10 : Int32) from bn_k (by decide))) (by decide)
    refine lv_lload_n hx hb dX12_isAsked_6 rfl (lv_at hl 1 rfl) ?_
    refine lv_lload_n hx hb dX12_isAsked_7 rfl (lv_at hl 2 rfl) ?_
    refine W.lcmp hx hb dX12_isAsked_8 ?_
    refine lv_topi (fun x_11634 ex_11634 => ?_)
    refine lv_if_ge (tgt := 16) hx hb dX12_isAsked_9 (by decide) (fun c_11635 => ?_) (fun c_11635 => ?_)
    · have B_11636 : bn 0 1 x_11634 := bn_w (bn_ler c_11635 (show bn 0 0 (0 : Int32) from bn_k (by decide)) (bn_eq ex_11634 (bn_lc v1 v2))) (by decide)
      refine lv_iconst (v := 0) hx hb dX12_isAsked_16 (by decide) ?_
      refine lv_goto (tgt := 111) hx hb dX12_isAsked_17 (by decide) ?_
      exact prI (post := fun r L1 f1 => (bn 0 1 r) ∧ L1 = L ∧ f1 = f) S Y rfl (by decide) (by decide) hA1 ⟨bn_w (show bn 0 0 (0 : Int32) from bn_k (by decide)) (by decide), rfl, rfl⟩ dX12_isAsked_111
    · have B_11637 : bn (-1) (-1) x_11634 := bn_w (bn_gtr c_11635 (show bn 0 0 (0 : Int32) from bn_k (by decide)) (bn_eq ex_11634 (bn_lc v1 v2))) (by decide)
      refine lv_iconst (v := 1) hx hb dX12_isAsked_12 (by decide) ?_
      refine lv_goto (tgt := 111) hx hb dX12_isAsked_13 (by decide) ?_
      exact prI (post := fun r L1 f1 => (bn 0 1 r) ∧ L1 = L ∧ f1 = f) S Y rfl (by decide) (by decide) hA1 ⟨bn_w (show bn 1 1 (1 : Int32) from bn_k (by decide)) (by decide), rfl, rfl⟩ dX12_isAsked_111
set_option maxHeartbeats 4000000 in
set_option maxRecDepth 100000 in
theorem x_X12_joined {l : Launch} {G : GG}  {L : List Nat} {f : HF}  {i1 i2 i3 : Int32} (b_i2 : bn 0 1 i2) (b_i3 : bn 0 1 i3) : PMp l yX12_joined cX12_joined 3 .boolean 0 0 0 G [.int i1, .int i2, .int i3] L f (fun r => bn 0 1 r) := by
  refine PMi.of (post := fun r L1 f1 => (bn 0 1 r) ∧ L1 = L ∧ f1 = f) (own := RX12) (by decide) rfl (Nat.le_of_ble_eq_true rfl) (fun sz p e s m args below meth c A ls hA1 hname S Y hl => ?_)
  have hx := S.hx
  have hb := S.hb
  have hl : lv_has ls 3 [(0, .int i1), (1, .int i2), (2, .int i3)] := hl
  refine lv_iload_n hx hb dX12_joined_0 rfl (lv_at hl 0 rfl) ?_
  refine lv_bipush (v := 21) hx hb dX12_joined_1 (by decide) ?_
  refine lv_icmp_ne (tgt := 22) hx hb dX12_joined_3 (by decide) (fun c_11666 => ?_) (fun c_11666 => ?_)
  · refine lv_iload_n hx hb dX12_joined_22 rfl (lv_at hl 1 rfl) ?_
    refine lv_if_ne (tgt := 30) hx hb dX12_joined_23 (by decide) (fun c_11668 => ?_) (fun c_11668 => ?_)
    · have B_11669 : bn 1 1 i2 := bn_w (bn_nel c_11668 b_i2 (show bn 0 0 (0 : Int32) from bn_k (by decide))) (by decide)
      refine lv_iconst (v := 1) hx hb dX12_joined_30 (by decide) ?_
      refine lv_goto (tgt := 35) hx hb dX12_joined_31 (by decide) ?_
      exact prI (post := fun r L1 f1 => (bn 0 1 r) ∧ L1 = L ∧ f1 = f) S Y rfl (by decide) (by decide) hA1 ⟨bn_w (show bn 1 1 (1 : Int32) from bn_k (by decide)) (by decide), rfl, rfl⟩ dX12_joined_35
    · have B_11670 : bn 0 0 i2 := bn_w (bn_eq c_11668 (show bn 0 0 (0 : Int32) from bn_k (by decide))) (by decide)
      refine lv_iload_n hx hb dX12_joined_26 rfl (lv_at hl 2 rfl) ?_
      refine lv_if_eq (tgt := 34) hx hb dX12_joined_27 (by decide) (fun c_11671 => ?_) (fun c_11671 => ?_)
      · have B_11672 : bn 0 0 i3 := bn_w (bn_eq c_11671 (show bn 0 0 (0 : Int32) from bn_k (by decide))) (by decide)
        refine lv_iconst (v := 0) hx hb dX12_joined_34 (by decide) ?_
        exact prI (post := fun r L1 f1 => (bn 0 1 r) ∧ L1 = L ∧ f1 = f) S Y rfl (by decide) (by decide) hA1 ⟨bn_w (show bn 0 0 (0 : Int32) from bn_k (by decide)) (by decide), rfl, rfl⟩ dX12_joined_35
      · have B_11673 : bn 1 1 i3 := bn_w (bn_nel c_11671 b_i3 (show bn 0 0 (0 : Int32) from bn_k (by decide))) (by decide)
        refine lv_iconst (v := 1) hx hb dX12_joined_30 (by decide) ?_
        refine lv_goto (tgt := 35) hx hb dX12_joined_31 (by decide) ?_
        exact prI (post := fun r L1 f1 => (bn 0 1 r) ∧ L1 = L ∧ f1 = f) S Y rfl (by decide) (by decide) hA1 ⟨bn_w (show bn 1 1 (1 : Int32) from bn_k (by decide)) (by decide), rfl, rfl⟩ dX12_joined_35
  · have B_11667 : bn 21 21 i1 := bn_w (bn_eq c_11666 (show bn 21 21 (21 : Int32) from bn_k (by decide))) (by decide)
    refine lv_iload_n hx hb dX12_joined_6 rfl (lv_at hl 1 rfl) ?_
    refine lv_if_eq (tgt := 18) hx hb dX12_joined_7 (by decide) (fun c_11674 => ?_) (fun c_11674 => ?_)
    · have B_11675 : bn 0 0 i2 := bn_w (bn_eq c_11674 (show bn 0 0 (0 : Int32) from bn_k (by decide))) (by decide)
      refine lv_iconst (v := 0) hx hb dX12_joined_18 (by decide) ?_
      refine lv_goto (tgt := 35) hx hb dX12_joined_19 (by decide) ?_
      exact prI (post := fun r L1 f1 => (bn 0 1 r) ∧ L1 = L ∧ f1 = f) S Y rfl (by decide) (by decide) hA1 ⟨bn_w (show bn 0 0 (0 : Int32) from bn_k (by decide)) (by decide), rfl, rfl⟩ dX12_joined_35
    · have B_11676 : bn 1 1 i2 := bn_w (bn_nel c_11674 b_i2 (show bn 0 0 (0 : Int32) from bn_k (by decide))) (by decide)
      refine lv_iload_n hx hb dX12_joined_10 rfl (lv_at hl 2 rfl) ?_
      refine lv_if_eq (tgt := 18) hx hb dX12_joined_11 (by decide) (fun c_11677 => ?_) (fun c_11677 => ?_)
      · have B_11678 : bn 0 0 i3 := bn_w (bn_eq c_11677 (show bn 0 0 (0 : Int32) from bn_k (by decide))) (by decide)
        refine lv_iconst (v := 0) hx hb dX12_joined_18 (by decide) ?_
        refine lv_goto (tgt := 35) hx hb dX12_joined_19 (by decide) ?_
        exact prI (post := fun r L1 f1 => (bn 0 1 r) ∧ L1 = L ∧ f1 = f) S Y rfl (by decide) (by decide) hA1 ⟨bn_w (show bn 0 0 (0 : Int32) from bn_k (by decide)) (by decide), rfl, rfl⟩ dX12_joined_35
      · have B_11679 : bn 1 1 i3 := bn_w (bn_nel c_11677 b_i3 (show bn 0 0 (0 : Int32) from bn_k (by decide))) (by decide)
        refine lv_iconst (v := 1) hx hb dX12_joined_14 (by decide) ?_
        refine lv_goto (tgt := 35) hx hb dX12_joined_15 (by decide) ?_
        exact prI (post := fun r L1 f1 => (bn 0 1 r) ∧ L1 = L ∧ f1 = f) S Y rfl (by decide) (by decide) hA1 ⟨bn_w (show bn 1 1 (1 : Int32) from bn_k (by decide)) (by decide), rfl, rfl⟩ dX12_joined_35
set_option maxHeartbeats 4000000 in
set_option maxRecDepth 100000 in
theorem x_X12_marksOf {l : Launch} {G : GG}  {L : List Nat} {f : HF} {ad : Nat → Nat → Nat} {sl : Int} {pl : Int} {oh : Int} {dh : Int} {w : Int × Int} {pi : (Nat → Int32) → Prop} {px : (Nat → Int32) → Prop} {pa : (Nat → Int32) → Prop} {v1 : Int64} (I : SH (spM (IA sl pl oh dh w) pi px pa) nnM G ad L f) (hB : BBp sl pl oh dh w) : PMl l yX12_marksOf cX12_marksOf 3 3 0 0 G [.ref (ad 0 0), .long v1] L f (fun r L1 f1 => (True) ∧ L1 = L ∧ f1 = f) := by
  refine PMl.of (post := fun r L1 f1 => (True) ∧ L1 = L ∧ f1 = f) (own := RX12) (by decide) rfl (Nat.le_of_ble_eq_true rfl) (fun sz p e s m args below meth c A ls hA1 hname S Y hl => ?_)
  have hx := S.hx
  have hb := S.hb
  have hl : lv_has ls 3 [(0, .ref (ad 0 0)), (1, .long v1)] := hl
  refine lv_lload_n hx hb dX12_marksOf_0 rfl (lv_at hl 1 rfl) ?_
  refine lv_lconst (v := 0) hx hb dX12_marksOf_1 (by decide) ?_
  refine W.lcmp hx hb dX12_marksOf_2 ?_
  refine lv_topi (fun x_11782 ex_11782 => ?_)
  refine lv_if_lt (tgt := 31) hx hb dX12_marksOf_3 (by decide) (fun c_11783 => ?_) (fun c_11783 => ?_)
  · have B_11784 : bn (-1) (-1) x_11782 := bn_w (bn_ltl c_11783 (bn_eq ex_11782 (bn_lc v1 (0 : Int64))) (show bn 0 0 (0 : Int32) from bn_k (by decide))) (by decide)
    refine lv_lconst (v := 0) hx hb dX12_marksOf_31 (by decide) ?_
    exact prL (post := fun r L1 f1 => (True) ∧ L1 = L ∧ f1 = f) S Y (by decide) (by decide) hA1 ⟨trivial, rfl, rfl⟩ dX12_marksOf_32
  · have B_11785 : bn 0 1 x_11782 := bn_w (bn_gel c_11783 (bn_eq ex_11782 (bn_lc v1 (0 : Int64))) (show bn 0 0 (0 : Int32) from bn_k (by decide))) (by decide)
    refine lv_lload_n hx hb dX12_marksOf_6 rfl (lv_at hl 1 rfl) ?_
    refine lv_aload_n hx hb dX12_marksOf_7 rfl (lv_at hl 0 rfl) ?_
    obtain ⟨v_11786, v_11788, v_11790, v_11792, v_11794, v_11796, v_11798, v_11800, v_11801, v_11803, v_11805, v_11807, v_11809, v_11811, v_11813, v_11815, v_11817, v_11819, p_ad_0_0, b_11787, b_11789, b_11791, b_11793, b_11795, b_11797, b_11799, b_11802, b_11804, b_11806, b_11808, b_11810, b_11812, b_11814, b_11816, b_11818, b_11820⟩ := opnM_0 (j := 0) I (by decide)
    have p_ad_0_0 : pt L f (ad 0 0) (.inr (12, [.ref (ad 1 0), .ref (ad 2 0), .ref (ad 3 0), .ref (ad 4 0), .int v_11786, .int v_11788, .int v_11790, .int v_11792, .int v_11794, .int v_11796, .int v_11798, .long v_11800, .int v_11801, .int v_11803, .int v_11805, .ref (ad 5 0), .ref (ad 6 0), .int v_11807, .int v_11809, .int v_11811, .int v_11813, .int v_11815, .ref (ad 7 0), .ref (ad 8 0), .ref (ad 9 0), .int v_11817, .ref (ad 10 0), .ref (ad 11 0), .ref (ad 12 0), .ref (ad 13 0), .int v_11819, .ref (ad 14 0)])) := p_ad_0_0
    refine pg_get S Y ok_X12 0 (by decide) kf12_7 (v := .ref (ad 1 0)) p_ad_0_0 rfl dX12_marksOf_8 ?_
    refine lv_iconst (v := 0) hx hb dX12_marksOf_11 (by decide) ?_
    obtain ⟨g_11821, p_ad_1_0, o_11822⟩ := I.opi (k := 1) (j := 0) (by decide) rfl
    have p_ad_1_0 : pt L f (ad 1 0) (.inl (G.2 0, 10568, .inl g_11821)) := p_ad_1_0
    obtain ⟨v_11823, ev_11823⟩ : ∃ z, z = g_11821 (0 : Int32).toNatClampNeg := ⟨_, rfl⟩
    refine pg_iald S Y (v := v_11823) p_ad_1_0 (by unfold vp_in; decide) ev_11823.symm dX12_marksOf_12 ?_
    have bv_11823 : bn 0 6 v_11823 := bn_eq ev_11823 (bn_w (a' := 0) (b' := 6) (IA_0 o_11822) ⟨by have h9 := hB; unfold BBp at h9; omega, by decide⟩)
    refine lv_i2l hx hb dX12_marksOf_13 rfl ?_
    refine lv_topl (fun x_11824 ex_11824 => ?_)
    refine W.lcmp hx hb dX12_marksOf_14 ?_
    refine lv_topi (fun x_11825 ex_11825 => ?_)
    refine lv_if_ge (tgt := 31) hx hb dX12_marksOf_15 (by decide) (fun c_11826 => ?_) (fun c_11826 => ?_)
    · have B_11827 : bn 0 1 x_11825 := bn_w (bn_ler c_11826 (show bn 0 0 (0 : Int32) from bn_k (by decide)) (bn_eq ex_11825 (bn_lc v1 x_11824))) (by decide)
      refine lv_lconst (v := 0) hx hb dX12_marksOf_31 (by decide) ?_
      exact prL (post := fun r L1 f1 => (True) ∧ L1 = L ∧ f1 = f) S Y (by decide) (by decide) hA1 ⟨trivial, rfl, rfl⟩ dX12_marksOf_32
    · have B_11828 : bn (-1) (-1) x_11825 := bn_w (bn_gtr c_11826 (show bn 0 0 (0 : Int32) from bn_k (by decide)) (bn_eq ex_11825 (bn_lc v1 x_11824))) (by decide)
      refine lv_aload_n hx hb dX12_marksOf_18 rfl (lv_at hl 0 rfl) ?_
      refine lv_lload_n hx hb dX12_marksOf_19 rfl (lv_at hl 1 rfl) ?_
      refine lv_l2i hx hb dX12_marksOf_20 rfl ?_
      refine lv_topi (fun x_11829 ex_11829 => ?_)
      refine cVp (As := [.int x_11829]) (rest := []) S Y (x_X12_legibleOn (l := l) I hB) cw_X12_legibleOn km12_265 p_ad_0_0 ok_X12.1 rfl rfl ⟨Nat.le_of_ble_eq_true rfl, Nat.le_of_ble_eq_true rfl⟩ hl.1 rfl (Nat.le_of_ble_eq_true rfl) ⟨Nat.le_of_ble_eq_true rfl, Nat.le_of_ble_eq_true rfl⟩ dX12_marksOf_21 (fun r_11830 H locs er_11830 Y => ?_)
      refine cSp (As := [.int r_11830]) (rest := []) S Y (x_X12_bits (l := l) ) cw_X12_bits km12_268 rfl ⟨Nat.le_of_ble_eq_true rfl, Nat.le_of_ble_eq_true rfl⟩ hl.1 rfl (Nat.le_of_ble_eq_true rfl) ⟨Nat.le_of_ble_eq_true rfl, Nat.le_of_ble_eq_true rfl⟩ dX12_marksOf_24 (fun r_11831 H locs er_11831 Y => ?_)
      refine lv_i2l hx hb dX12_marksOf_27 rfl ?_
      refine lv_topl (fun x_11832 ex_11832 => ?_)
      refine lv_goto (tgt := 32) hx hb dX12_marksOf_28 (by decide) ?_
      exact prL (post := fun r L1 f1 => (True) ∧ L1 = L ∧ f1 = f) S Y (by decide) (by decide) hA1 ⟨trivial, rfl, rfl⟩ dX12_marksOf_32
section HAR
variable {g : Nat → Int32} {b : Nat} {fr i n t : Int32} {X Y : Prop}
theorem HA_5 (h : HT g b fr i n t ∧ X ∧ Y) : bn 0 303 n := HT_5 h.1
theorem HA_6 (h : HT g b fr i n t ∧ X ∧ Y) : bn 0 303 t := HT_6 h.1
theorem HA_7 (h : HT g b fr i n t ∧ X ∧ Y) : bn 0 303 i := HT_7 h.1
end HAR
theorem tnc (x : Int32) : x.toNatClampNeg = x.toInt.toNat := rfl
set_option maxHeartbeats 4000000 in
set_option maxRecDepth 100000 in
theorem x_X12_summedUp {l : Launch} {G : GG}  {L : List Nat} {f : HF} {ad : Nat → Nat → Nat} {sl : Int} {pl : Int} {oh : Int} {dh : Int} {w : Int × Int} {pi : (Nat → Int32) → Prop} {g0 : Nat → Int32} {pa : (Nat → Int32) → Prop} {i1 i2 : Int32} {fr to2 : Int32} (I : SH (spM (IA sl pl oh dh w) pi (EQ g0) pa) nnM G ad L f) (hB : BBp sl pl oh dh w) (hX : TX g0) (b_i1 : bn 0 3 i1) (b_i2 : bn 0 23 i2) (hfr : g0 (729 * i1.toNatClampNeg + 1 + 5 * i2.toNatClampNeg + 1) = fr) (hto : g0 (729 * i1.toNatClampNeg + 1 + 5 * i2.toNatClampNeg + 2) = to2) (hWF : WFc g0 (729 * i1.toNatClampNeg + 121) fr to2) : PMl l yX12_summedUp cX12_summedUp 10 4 0 0 G [.ref (ad 0 0), .int i1, .int i2] L f (fun r L1 f1 => SH (spM (IA sl pl oh dh w) pi (EQ g0) pa) nnM G ad L1 f1) := by
  refine PMl.of (post := fun r L1 f1 => SH (spM (IA sl pl oh dh w) pi (EQ g0) pa) nnM G ad L1 f1) (own := RX12) (by decide) rfl (Nat.le_of_ble_eq_true rfl) (fun sz p e s m args below meth c A ls hA1 hname S Y hl => ?_)
  have hx := S.hx
  have hb := S.hb
  have hl : lv_has ls 10 [(0, .ref (ad 0 0)), (1, .int i1), (2, .int i2)] := hl
  have J_38 : ∀ (n38 : Nat) (y38_3 y38_4 y38_5 y38_6 y38_7 : Int32) (L_38 : List Nat) (f_38 : HF) (H : Heap) (locs : List Loc) (ls : Array Slot), (SH (spM (IA sl pl oh dh w) pi (EQ g0) pa) nnM G ad L_38 f_38) → (bn 1 2303 y38_3) → (bn 121 2308 y38_4) → (bn 0 303 y38_5) → (bn 0 303 y38_6) → (bn 0 303 y38_7) → (HT g0 (729 * i1.toNatClampNeg + 121) fr y38_7 y38_5 y38_6 ∧ y38_3.toInt = 729 * i1.toInt + 1 + 5 * i2.toInt ∧ y38_4.toInt = 729 * i1.toInt + 121) → (((303 : Int) - y38_7.toInt).toNat = n38) → (DY G A s [] L_38 f_38 H locs) → (lv_has ls 10 [(0, .ref (ad 0 0)), (1, .int i1), (2, .int i2), (3, .int y38_3), (4, .int y38_4), (5, .int y38_5), (6, .int y38_6), (7, .int y38_7)]) → W p l e (rmD 4 0 0) s m args below meth c H locs (0) (0) (MQ below (va_Ql (fun r (u : List Nat × HF) => (fun r L1 f1 => SH (spM (IA sl pl oh dh w) pi (EQ g0) pa) nnM G ad L1 f1) r u.1 u.2) (fun u t => pOut G (va_A (va_pl L f) sz) u.1 u.2 t) (va_A (va_pl L f) sz)) args s 0 0 A) (F0 m 38 ls []) := by
    intro n38
    induction n38 using Nat.strongRecOn with
    | _ n38 ih38 =>
      intro y38_3 y38_4 y38_5 y38_6 y38_7 L_38 f_38 H locs ls I b_y38_3 b_y38_4 b_y38_5 b_y38_6 b_y38_7 hHA hm38 Y hl
      obtain ⟨hHT, hX3, hX4⟩ := hHA
      refine lv_iload hx hb dX12_summedUp_38 (lv_at hl 7 rfl) ?_
      refine lv_aload_n hx hb dX12_summedUp_40 rfl (lv_at hl 0 rfl) ?_
      obtain ⟨v_12345, v_12347, v_12349, v_12351, v_12353, v_12355, v_12357, v_12359, v_12360, v_12362, v_12364, v_12366, v_12368, v_12370, v_12372, v_12374, v_12376, v_12378, p_ad_0_0, b_12346, b_12348, b_12350, b_12352, b_12354, b_12356, b_12358, b_12361, b_12363, b_12365, b_12367, b_12369, b_12371, b_12373, b_12375, b_12377, b_12379⟩ := opnM_0 (j := 0) I (by decide)
      have p_ad_0_0 : pt L_38 f_38 (ad 0 0) (.inr (12, [.ref (ad 1 0), .ref (ad 2 0), .ref (ad 3 0), .ref (ad 4 0), .int v_12345, .int v_12347, .int v_12349, .int v_12351, .int v_12353, .int v_12355, .int v_12357, .long v_12359, .int v_12360, .int v_12362, .int v_12364, .ref (ad 5 0), .ref (ad 6 0), .int v_12366, .int v_12368, .int v_12370, .int v_12372, .int v_12374, .ref (ad 7 0), .ref (ad 8 0), .ref (ad 9 0), .int v_12376, .ref (ad 10 0), .ref (ad 11 0), .ref (ad 12 0), .ref (ad 13 0), .int v_12378, .ref (ad 14 0)])) := p_ad_0_0
      refine pg_get S Y ok_X12 2 (by decide) kf12_16 (v := .ref (ad 3 0)) p_ad_0_0 rfl dX12_summedUp_41 ?_
      refine lv_iload_n hx hb dX12_summedUp_44 rfl (lv_at hl 3 rfl) ?_
      refine lv_iconst (v := 2) hx hb dX12_summedUp_45 (by decide) ?_
      refine lv_iadd hx hb dX12_summedUp_46 ?_
      refine lv_topi (fun x_12380 ex_12380 => ?_)
      obtain ⟨g_12381, p_ad_3_0, o_12382⟩ := I.opi (k := 3) (j := 0) (by decide) rfl
      have p_ad_3_0 : pt L_38 f_38 (ad 3 0) (.inl (G.2 0, 2916, .inl g_12381)) := p_ad_3_0
      obtain ⟨v_12383, ev_12383⟩ : ∃ z, z = g_12381 (x_12380 : Int32).toNatClampNeg := ⟨_, rfl⟩
      refine pg_iald S Y (v := v_12383) p_ad_3_0 (vp_bn (bn_eq ex_12380 (bn_add b_y38_3 (show bn 2 2 (2 : Int32) from bn_k (by decide)) (by decide))) (by decide)) ev_12383.symm dX12_summedUp_47 ?_
      have tv_12383 : v_12383 = g0 (x_12380 : Int32).toNatClampNeg := by rw [ev_12383, show g_12381 = g0 from o_12382]
      refine lv_fold (z := to2) (by rw [tv_12383, show (x_12380 : Int32).toNatClampNeg = 729 * i1.toNatClampNeg + 1 + 5 * i2.toNatClampNeg + 2 from (by have z9 := (la_add ex_12380 hX3 (show (2 : Int32).toInt = 2 from rfl) b_y38_3 (show bn 2 2 (2 : Int32) from bn_k (by decide)) (by decide)); have z0 := b_i1.1; have z1 := b_i2.1; simp only [tnc]; omega)]; exact hto) ?_
      refine lv_icmp_ge (tgt := 406) hx hb dX12_summedUp_48 (by decide) (fun c_12384 => ?_) (fun c_12384 => ?_)
      · have B_12385 : bn (-2147483648) 303 to2 := bn_w (bn_lel c_12384 (bn_any to2) b_y38_7) (by decide)
        refine lv_aload_n hx hb dX12_summedUp_406 rfl (lv_at hl 0 rfl) ?_
        refine pg_get S Y ok_X12 23 (by decide) kf12_38 (v := .ref (ad 8 0)) p_ad_0_0 rfl dX12_summedUp_407 ?_
        refine lv_iconst (v := 0) hx hb dX12_summedUp_410 (by decide) ?_
        obtain ⟨g_12387, p_ad_8_0⟩ := I.opl (k := 8) (j := 0) (by decide) rfl
        have p_ad_8_0 : pt L_38 f_38 (ad 8 0) (.inl (G.2 1, 330, .inr (.inl g_12387))) := p_ad_8_0
        refine pg_lald S Y p_ad_8_0 (by unfold vp_in; decide) dX12_summedUp_411 ?_
        refine lv_topl (fun v_12388 ev_12388 => ?_)
        exact prL (post := fun r L1 f1 => SH (spM (IA sl pl oh dh w) pi (EQ g0) pa) nnM G ad L1 f1) S Y (by decide) (by decide) hA1 I dX12_summedUp_412
      · have B_12386 : bn 1 2147483647 to2 := bn_w (bn_gtl c_12384 (bn_any to2) b_y38_7) (by decide)
        obtain ⟨B_12389, B_12390, B_12391⟩ := HT_lt hHT hWF (Int32.not_le.mp c_12384)
        refine lv_aload_n hx hb dX12_summedUp_51 rfl (lv_at hl 0 rfl) ?_
        refine pg_get S Y ok_X12 2 (by decide) kf12_16 (v := .ref (ad 3 0)) p_ad_0_0 rfl dX12_summedUp_52 ?_
        refine lv_iload hx hb dX12_summedUp_55 (lv_at hl 4 rfl) ?_
        refine lv_iconst (v := 2) hx hb dX12_summedUp_57 (by decide) ?_
        refine lv_iload hx hb dX12_summedUp_58 (lv_at hl 7 rfl) ?_
        refine lv_imul hx hb dX12_summedUp_60 ?_
        refine lv_topi (fun x_12392 ex_12392 => ?_)
        refine lv_iadd hx hb dX12_summedUp_61 ?_
        refine lv_topi (fun x_12393 ex_12393 => ?_)
        obtain ⟨v_12394, ev_12394⟩ : ∃ z, z = g_12381 (x_12393 : Int32).toNatClampNeg := ⟨_, rfl⟩
        refine pg_iald S Y (v := v_12394) p_ad_3_0 (vp_bn (bn_eq ex_12393 (bn_add b_y38_4 (bn_eq ex_12392 (bn_mul (show bn 2 2 (2 : Int32) from bn_k (by decide)) B_12389 (by decide))) (by decide))) (by decide)) ev_12394.symm dX12_summedUp_62 ?_
        have tv_12394 : v_12394 = g0 (x_12393 : Int32).toNatClampNeg := by rw [ev_12394, show g_12381 = g0 from o_12382]
        refine lv_istore (lv' := [(8, .int v_12394), (0, .ref (ad 0 0)), (1, .int i1), (2, .int i2), (3, .int y38_3), (4, .int y38_4), (5, .int y38_5), (6, .int y38_6), (7, .int y38_7)]) hx hb dX12_summedUp_63 hl (by decide) rfl (fun ls hl => ?_)
        refine lv_aload_n hx hb dX12_summedUp_65 rfl (lv_at hl 1 rfl) ?_
        refine pg_get S Y ok_X12 2 (by decide) kf12_16 (v := .ref (ad 3 0)) p_ad_0_0 rfl dX12_summedUp_66 ?_
        refine lv_iload hx hb dX12_summedUp_69 (lv_at hl 5 rfl) ?_
        refine lv_iconst (v := 2) hx hb dX12_summedUp_71 (by decide) ?_
        refine lv_iload hx hb dX12_summedUp_72 (lv_at hl 8 rfl) ?_
        refine lv_imul hx hb dX12_summedUp_74 ?_
        refine lv_topi (fun x_12395 ex_12395 => ?_)
        refine lv_iadd hx hb dX12_summedUp_75 ?_
        refine lv_topi (fun x_12396 ex_12396 => ?_)
        refine lv_iconst (v := 1) hx hb dX12_summedUp_76 (by decide) ?_
        refine lv_iadd hx hb dX12_summedUp_77 ?_
        refine lv_topi (fun x_12397 ex_12397 => ?_)
        obtain ⟨v_12398, ev_12398⟩ : ∃ z, z = g_12381 (x_12397 : Int32).toNatClampNeg := ⟨_, rfl⟩
        refine pg_iald S Y (v := v_12398) p_ad_3_0 (vp_bn (bn_eq ex_12397 (bn_add (bn_eq ex_12396 (bn_add b_y38_4 (bn_eq ex_12395 (bn_mul (show bn 2 2 (2 : Int32) from bn_k (by decide)) B_12389 (by decide))) (by decide))) (show bn 1 1 (1 : Int32) from bn_k (by decide)) (by decide))) (by decide)) ev_12398.symm dX12_summedUp_78 ?_
        have tv_12398 : v_12398 = g0 (x_12397 : Int32).toNatClampNeg := by rw [ev_12398, show g_12381 = g0 from o_12382]
        refine lv_istore (lv' := [(9, .int v_12398), (8, .int v_12394), (0, .ref (ad 0 0)), (1, .int i1), (2, .int i2), (3, .int y38_3), (4, .int y38_4), (5, .int y38_5), (6, .int y38_6), (7, .int y38_7)]) hx hb dX12_summedUp_79 hl (by decide) rfl (fun ls hl => ?_)
        obtain ⟨q_12399, h_12400, h_12401⟩ := HT_st (o := v_12394) (v := v_12398) hHT hWF (Int32.not_le.mp c_12384) (by rw [tv_12394, show (x_12393 : Int32).toNatClampNeg = (729 * i1.toNatClampNeg + 121) + 2 * y38_7.toInt.toNat from (by have z9 := (la_add ex_12393 hX4 (la_mul ex_12392 (show (2 : Int32).toInt = 2 from rfl) (rfl : y38_7.toInt = y38_7.toInt) (show bn 2 2 (2 : Int32) from bn_k (by decide)) B_12389 (by decide)) b_y38_4 (bn_eq ex_12392 (bn_mul (show bn 2 2 (2 : Int32) from bn_k (by decide)) B_12389 (by decide))) (by decide)); have z0 := b_i1.1; have z1 := b_i2.1; have z2 := B_12389.1; simp only [tnc]; omega)]) (by rw [tv_12398, show (x_12397 : Int32).toNatClampNeg = (729 * i1.toNatClampNeg + 121) + 2 * y38_7.toInt.toNat + 1 from (by have z9 := (la_add ex_12397 (la_add ex_12396 hX4 (la_mul ex_12395 (show (2 : Int32).toInt = 2 from rfl) (rfl : y38_7.toInt = y38_7.toInt) (show bn 2 2 (2 : Int32) from bn_k (by decide)) B_12389 (by decide)) b_y38_4 (bn_eq ex_12395 (bn_mul (show bn 2 2 (2 : Int32) from bn_k (by decide)) B_12389 (by decide))) (by decide)) (show (1 : Int32).toInt = 1 from rfl) (bn_eq ex_12396 (bn_add b_y38_4 (bn_eq ex_12395 (bn_mul (show bn 2 2 (2 : Int32) from bn_k (by decide)) B_12389 (by decide))) (by decide))) (show bn 1 1 (1 : Int32) from bn_k (by decide)) (by decide)); have z0 := b_i1.1; have z1 := b_i2.1; have z2 := B_12389.1; simp only [tnc]; omega)])
        refine lv_iload hx hb dX12_summedUp_81 (lv_at hl 1 rfl) ?_
        refine lv_iconst (v := 1) hx hb dX12_summedUp_83 (by decide) ?_
        refine lv_icmp_gt (tgt := 119) hx hb dX12_summedUp_84 (by decide) (fun c_12402 => ?_) (fun c_12402 => ?_)
        · have B_12403 : bn 2 2147483647 v_12394 := bn_w (bn_ltr c_12402 (show bn 1 1 (1 : Int32) from bn_k (by decide)) (bn_any v_12394)) (by decide)
          refine lv_iload hx hb dX12_summedUp_119 (lv_at hl 1 rfl) ?_
          refine lv_iconst (v := 3) hx hb dX12_summedUp_121 (by decide) ?_
          refine lv_icmp_ne (tgt := 160) hx hb dX12_summedUp_122 (by decide) (fun c_12405 => ?_) (fun c_12405 => ?_)
          · refine lv_iload hx hb dX12_summedUp_160 (lv_at hl 1 rfl) ?_
            refine lv_iconst (v := 4) hx hb dX12_summedUp_162 (by decide) ?_
            refine lv_icmp_ne (tgt := 194) hx hb dX12_summedUp_163 (by decide) (fun c_12407 => ?_) (fun c_12407 => ?_)
            · refine lv_iload hx hb dX12_summedUp_194 (lv_at hl 1 rfl) ?_
              refine lv_iconst (v := 5) hx hb dX12_summedUp_196 (by decide) ?_
              refine lv_icmp_gt (tgt := 244) hx hb dX12_summedUp_197 (by decide) (fun c_12409 => ?_) (fun c_12409 => ?_)
              · have B_12410 : bn 6 2147483647 v_12394 := bn_w (bn_ltr c_12409 (show bn 5 5 (5 : Int32) from bn_k (by decide)) B_12403) (by decide)
                refine lv_iload hx hb dX12_summedUp_244 (lv_at hl 1 rfl) ?_
                refine lv_bipush (v := 10) hx hb dX12_summedUp_246 (by decide) ?_
                refine lv_icmp_ge (tgt := 287) hx hb dX12_summedUp_248 (by decide) (fun c_12412 => ?_) (fun c_12412 => ?_)
                · have B_12413 : bn 10 2147483647 v_12394 := bn_w (bn_ler c_12412 (show bn 10 10 (10 : Int32) from bn_k (by decide)) B_12410) (by decide)
                  refine lv_iload hx hb dX12_summedUp_287 (lv_at hl 1 rfl) ?_
                  refine lv_bipush (v := 20) hx hb dX12_summedUp_289 (by decide) ?_
                  refine lv_icmp_ge (tgt := 331) hx hb dX12_summedUp_291 (by decide) (fun c_12415 => ?_) (fun c_12415 => ?_)
                  · have B_12416 : bn 20 2147483647 v_12394 := bn_w (bn_ler c_12415 (show bn 20 20 (20 : Int32) from bn_k (by decide)) B_12413) (by decide)
                    refine lv_iload hx hb dX12_summedUp_331 (lv_at hl 1 rfl) ?_
                    refine lv_bipush (v := 20) hx hb dX12_summedUp_333 (by decide) ?_
                    refine lv_icmp_ne (tgt := 367) hx hb dX12_summedUp_335 (by decide) (fun c_12418 => ?_) (fun c_12418 => ?_)
                    · have B_12419 : bn 21 2147483647 v_12394 := bn_w (bn_nel c_12418 B_12416 (show bn 20 20 (20 : Int32) from bn_k (by decide))) (by decide)
                      have h_12421 := sh21 h_12400 (by have h9 := B_12419.1; have h8 := B_12419.2; omega)
                      have B_12422 : bn 2 302 y38_6 := ⟨by have h9 := h_12421.1; omega, B_12391.2⟩
                      obtain ⟨x_12423, ex_12423⟩ : ∃ z : Int32, z = y38_6 + (-1) := ⟨_, rfl⟩
                      refine lv_iinc (v := x_12423) (lv' := [(6, .int x_12423), (9, .int v_12398), (8, .int v_12394), (0, .ref (ad 0 0)), (1, .int i1), (2, .int i2), (3, .int y38_3), (4, .int y38_4), (5, .int y38_5), (7, .int y38_7)]) hx hb dX12_summedUp_367 hl (k := 8) rfl (by rw [ex_12423]; rfl) (by decide) rfl (fun ls hl => ?_)
                      refine lv_aload_n hx hb dX12_summedUp_370 rfl (lv_at hl 3 rfl) ?_
                      refine pg_get S Y ok_X12 24 (by decide) kf12_42 (v := .ref (ad 9 0)) p_ad_0_0 rfl dX12_summedUp_371 ?_
                      refine lv_iload hx hb dX12_summedUp_374 (lv_at hl 0 rfl) ?_
                      refine lv_iconst (v := 1) hx hb dX12_summedUp_376 (by decide) ?_
                      refine lv_isub hx hb dX12_summedUp_377 ?_
                      refine lv_topi (fun x_12424 ex_12424 => ?_)
                      refine lv_iload hx hb dX12_summedUp_378 (lv_at hl 2 rfl) ?_
                      refine lv_aload_n hx hb dX12_summedUp_380 rfl (lv_at hl 3 rfl) ?_
                      refine pg_get S Y ok_X12 24 (by decide) kf12_42 (v := .ref (ad 9 0)) p_ad_0_0 rfl dX12_summedUp_381 ?_
                      refine lv_iload hx hb dX12_summedUp_384 (lv_at hl 0 rfl) ?_
                      refine lv_iconst (v := 1) hx hb dX12_summedUp_386 (by decide) ?_
                      refine lv_isub hx hb dX12_summedUp_387 ?_
                      refine lv_topi (fun x_12425 ex_12425 => ?_)
                      obtain ⟨g_12426, p_ad_9_0, o_12427⟩ := I.opi (k := 9) (j := 0) (by decide) rfl
                      have p_ad_9_0 : pt L_38 f_38 (ad 9 0) (.inl (G.2 2, 330, .inl g_12426)) := p_ad_9_0
                      obtain ⟨v_12428, ev_12428⟩ : ∃ z, z = g_12426 (x_12425 : Int32).toNatClampNeg := ⟨_, rfl⟩
                      refine pg_zald S Y p_ad_9_0 (vp_bn (bn_eq ex_12425 (bn_sub (bn_eq ex_12423 (bn_add B_12422 (show bn (-1) (-1) ((-1) : Int32) from bn_k (by decide)) (by decide))) (show bn 1 1 (1 : Int32) from bn_k (by decide)) (by decide))) (by decide)) dX12_summedUp_388 ?_
                      refine lv_fold (z := v_12428) ev_12428.symm ?_
                      refine lv_aload_n hx hb dX12_summedUp_389 rfl (lv_at hl 3 rfl) ?_
                      refine pg_get S Y ok_X12 24 (by decide) kf12_42 (v := .ref (ad 9 0)) p_ad_0_0 rfl dX12_summedUp_390 ?_
                      refine lv_iload hx hb dX12_summedUp_393 (lv_at hl 0 rfl) ?_
                      obtain ⟨v_12429, ev_12429⟩ : ∃ z, z = g_12426 (x_12423 : Int32).toNatClampNeg := ⟨_, rfl⟩
                      refine pg_zald S Y p_ad_9_0 (vp_bn (bn_eq ex_12423 (bn_add B_12422 (show bn (-1) (-1) ((-1) : Int32) from bn_k (by decide)) (by decide))) (by decide)) dX12_summedUp_395 ?_
                      refine lv_fold (z := v_12429) ev_12429.symm ?_
                      refine cSp (As := [.int v_12394, .int v_12428, .int v_12429]) (rest := [.int x_12424, .ref (ad 9 0)]) S Y (x_X12_joined (l := l) (bn_w (bn_eq ev_12428 (o_12427 _)) (by decide)) (bn_w (bn_eq ev_12429 (o_12427 _)) (by decide))) cw_X12_joined km12_285 rfl ⟨Nat.le_of_ble_eq_true rfl, Nat.le_of_ble_eq_true rfl⟩ hl.1 rfl (Nat.le_of_ble_eq_true rfl) ⟨Nat.le_of_ble_eq_true rfl, Nat.le_of_ble_eq_true rfl⟩ dX12_summedUp_396 (fun r_12430 H locs er_12430 Y => ?_)
                      refine pg_zast S Y p_ad_9_0 (vp_bn (bn_eq ex_12424 (bn_sub (bn_eq ex_12423 (bn_add B_12422 (show bn (-1) (-1) ((-1) : Int32) from bn_k (by decide)) (by decide))) (show bn 1 1 (1 : Int32) from bn_k (by decide)) (by decide))) (by decide)) dX12_summedUp_399 (fun f_12432 H locs ef_12432 Y => ?_)
                      obtain ⟨g_12431, eg_12431⟩ : ∃ z, z = upd (g_12426) (x_12424 : Int32).toNatClampNeg (vp_nar .boolean r_12430) := ⟨_, rfl⟩
                      rw [← eg_12431] at ef_12432
                      have p_ad_0_0 := p_ad_0_0.up ef_12432 (I.ne (k := 0) (j := 0) (k' := 9) (j' := 0) (by decide) (by decide) (Or.inl (by decide)))
                      have p_ad_3_0 := p_ad_3_0.up ef_12432 (I.ne (k := 3) (j := 0) (k' := 9) (j' := 0) (by decide) (by decide) (Or.inl (by decide)))
                      have p_ad_9_0 := p_ad_9_0.me ef_12432
                      have o_12433 : ∀ i, bn 0 1 (g_12431 i) := by rw [eg_12431]; exact upz o_12427 (nar01 (bn_w er_12430 (by decide)))
                      have I := I.up (k := 9) (j := 0) (by decide) ef_12432 (okE_a (g := g_12431) o_12433)
                      obtain ⟨x_12434, ex_12434⟩ : ∃ z : Int32, z = y38_7 + 1 := ⟨_, rfl⟩
                      refine lv_iinc (v := x_12434) (lv' := [(7, .int x_12434), (6, .int x_12423), (9, .int v_12398), (8, .int v_12394), (0, .ref (ad 0 0)), (1, .int i1), (2, .int i2), (3, .int y38_3), (4, .int y38_4), (5, .int y38_5)]) hx hb dX12_summedUp_400 hl (k := 9) rfl (by rw [ex_12434]; rfl) (by decide) rfl (fun ls hl => ?_)
                      refine lv_goto (tgt := 38) hx hb dX12_summedUp_403 (by decide) ?_
                      have z_12436 : x_12434.toInt = (y38_7.toInt + 1) := (la_add ex_12434 (rfl : y38_7.toInt = y38_7.toInt) (show (1 : Int32).toInt = 1 from rfl) B_12389 (show bn 1 1 (1 : Int32) from bn_k (by decide)) (by decide))
                      have z_12437 : y38_5.toInt = y38_5.toInt := (rfl : y38_5.toInt = y38_5.toInt)
                      have z_12438 : x_12423.toInt = (y38_6.toInt + (-1)) := (la_add ex_12423 (rfl : y38_6.toInt = y38_6.toInt) (show ((-1) : Int32).toInt = (-1) from rfl) B_12422 (show bn (-1) (-1) ((-1) : Int32) from bn_k (by decide)) (by decide))
                      have z_12439 := B_12390
                      have z_12440 := z_12439.1
                      have z_12441 := z_12439.2
                      have z_12442 := B_12422
                      have z_12443 := z_12442.1
                      have z_12444 := z_12442.2
                      have z_12445 := B_12389
                      have z_12446 := z_12445.1
                      have z_12447 := z_12445.2
                      have p_12435 : HT g0 (729 * i1.toNatClampNeg + 121) fr x_12434 y38_5 x_12423 := HT_nx hHT h_12401 (by omega) (by omega) (h_12421.2.trans (Prod.ext (by first | rfl | (dsimp only; omega) | omega) (by first | rfl | (dsimp only; omega) | omega))) (by omega) (by omega) (by omega) (by omega)
                      exact ih38 _ (by rw [← hm38]; exact ms_up (m := 1) ex_12434 (show bn 1 1 (1 : Int32) from bn_k (by decide)) B_12389 (bn_w (bn_eq ex_12434 (bn_add B_12389 (show bn 1 1 (1 : Int32) from bn_k (by decide)) (by decide))) (by decide) : bn 0 303 x_12434) (by decide)) y38_3 y38_4 y38_5 x_12423 x_12434 _ _  _ _ _ I (bn_w b_y38_3 (by decide)) (bn_w b_y38_4 (by decide)) (HA_5 ⟨p_12435, (by have z9 := hX3; omega), (by have z9 := hX4; omega)⟩) (HA_6 ⟨p_12435, (by have z9 := hX3; omega), (by have z9 := hX4; omega)⟩) (HA_7 ⟨p_12435, (by have z9 := hX3; omega), (by have z9 := hX4; omega)⟩) ⟨p_12435, (by have z9 := hX3; omega), (by have z9 := hX4; omega)⟩ rfl Y (lv_sub hl [4, 5, 6, 7, 8, 9, 1, 0] rfl)
                    · have B_12420 : bn 20 20 v_12394 := bn_w (bn_eq c_12418 (show bn 20 20 (20 : Int32) from bn_k (by decide))) (by decide)
                      have h_12449 : stH 20 v_12398.toInt (y38_5.toInt.toNat, y38_6.toInt.toNat) = some q_12399 := by have e9 : v_12394.toInt = 20 := Int.le_antisymm B_12420.2 B_12420.1; rw [← e9]; exact h_12400
                      have h_12448 := sh20 h_12449
                      have B_12450 : bn 1 302 y38_6 := ⟨by have h9 := h_12448.1; omega, B_12391.2⟩
                      refine lv_aload_n hx hb dX12_summedUp_338 rfl (lv_at hl 2 rfl) ?_
                      refine pg_get S Y ok_X12 24 (by decide) kf12_42 (v := .ref (ad 9 0)) p_ad_0_0 rfl dX12_summedUp_339 ?_
                      refine lv_iload hx hb dX12_summedUp_342 (lv_at hl 8 rfl) ?_
                      refine lv_iconst (v := 1) hx hb dX12_summedUp_344 (by decide) ?_
                      refine lv_isub hx hb dX12_summedUp_345 ?_
                      refine lv_topi (fun x_12451 ex_12451 => ?_)
                      refine lv_aload_n hx hb dX12_summedUp_346 rfl (lv_at hl 2 rfl) ?_
                      refine pg_get S Y ok_X12 24 (by decide) kf12_42 (v := .ref (ad 9 0)) p_ad_0_0 rfl dX12_summedUp_347 ?_
                      refine lv_iload hx hb dX12_summedUp_350 (lv_at hl 8 rfl) ?_
                      refine lv_iconst (v := 1) hx hb dX12_summedUp_352 (by decide) ?_
                      refine lv_isub hx hb dX12_summedUp_353 ?_
                      refine lv_topi (fun x_12452 ex_12452 => ?_)
                      obtain ⟨g_12453, p_ad_9_0, o_12454⟩ := I.opi (k := 9) (j := 0) (by decide) rfl
                      have p_ad_9_0 : pt L_38 f_38 (ad 9 0) (.inl (G.2 2, 330, .inl g_12453)) := p_ad_9_0
                      obtain ⟨v_12455, ev_12455⟩ : ∃ z, z = g_12453 (x_12452 : Int32).toNatClampNeg := ⟨_, rfl⟩
                      refine pg_zald S Y p_ad_9_0 (vp_bn (bn_eq ex_12452 (bn_sub B_12450 (show bn 1 1 (1 : Int32) from bn_k (by decide)) (by decide))) (by decide)) dX12_summedUp_354 ?_
                      refine lv_fold (z := v_12455) ev_12455.symm ?_
                      refine lv_if_ne (tgt := 362) hx hb dX12_summedUp_355 (by decide) (fun c_12456 => ?_) (fun c_12456 => ?_)
                      · have B_12457 : bn 1 1 v_12455 := bn_w (bn_nel c_12456 (bn_eq ev_12455 (o_12454 _)) (show bn 0 0 (0 : Int32) from bn_k (by decide))) (by decide)
                        refine lv_iconst (v := 0) hx hb dX12_summedUp_362 (by decide) ?_
                        refine pg_zast S Y p_ad_9_0 (vp_bn (bn_eq ex_12451 (bn_sub B_12450 (show bn 1 1 (1 : Int32) from bn_k (by decide)) (by decide))) (by decide)) dX12_summedUp_363 (fun f_12460 H locs ef_12460 Y => ?_)
                        obtain ⟨g_12459, eg_12459⟩ : ∃ z, z = upd (g_12453) (x_12451 : Int32).toNatClampNeg (vp_nar .boolean 0) := ⟨_, rfl⟩
                        rw [← eg_12459] at ef_12460
                        have p_ad_0_0 := p_ad_0_0.up ef_12460 (I.ne (k := 0) (j := 0) (k' := 9) (j' := 0) (by decide) (by decide) (Or.inl (by decide)))
                        have p_ad_3_0 := p_ad_3_0.up ef_12460 (I.ne (k := 3) (j := 0) (k' := 9) (j' := 0) (by decide) (by decide) (Or.inl (by decide)))
                        have p_ad_9_0 := p_ad_9_0.me ef_12460
                        have o_12461 : ∀ i, bn 0 1 (g_12459 i) := by rw [eg_12459]; exact upz o_12454 (nar01 (bn_w (show bn 0 0 (0 : Int32) from bn_k (by decide)) (by decide)))
                        have I := I.up (k := 9) (j := 0) (by decide) ef_12460 (okE_a (g := g_12459) o_12461)
                        refine lv_goto (tgt := 400) hx hb dX12_summedUp_364 (by decide) ?_
                        obtain ⟨x_12462, ex_12462⟩ : ∃ z : Int32, z = y38_7 + 1 := ⟨_, rfl⟩
                        refine lv_iinc (v := x_12462) (lv' := [(7, .int x_12462), (9, .int v_12398), (8, .int v_12394), (0, .ref (ad 0 0)), (1, .int i1), (2, .int i2), (3, .int y38_3), (4, .int y38_4), (5, .int y38_5), (6, .int y38_6)]) hx hb dX12_summedUp_400 hl (k := 9) rfl (by rw [ex_12462]; rfl) (by decide) rfl (fun ls hl => ?_)
                        refine lv_goto (tgt := 38) hx hb dX12_summedUp_403 (by decide) ?_
                        have z_12464 : x_12462.toInt = (y38_7.toInt + 1) := (la_add ex_12462 (rfl : y38_7.toInt = y38_7.toInt) (show (1 : Int32).toInt = 1 from rfl) B_12389 (show bn 1 1 (1 : Int32) from bn_k (by decide)) (by decide))
                        have z_12465 : y38_5.toInt = y38_5.toInt := (rfl : y38_5.toInt = y38_5.toInt)
                        have z_12466 : y38_6.toInt = y38_6.toInt := (rfl : y38_6.toInt = y38_6.toInt)
                        have z_12467 := B_12390
                        have z_12468 := z_12467.1
                        have z_12469 := z_12467.2
                        have z_12470 := B_12450
                        have z_12471 := z_12470.1
                        have z_12472 := z_12470.2
                        have z_12473 := B_12389
                        have z_12474 := z_12473.1
                        have z_12475 := z_12473.2
                        have p_12463 : HT g0 (729 * i1.toNatClampNeg + 121) fr x_12462 y38_5 y38_6 := HT_nx hHT h_12401 (by omega) (by omega) (h_12448.2.trans (Prod.ext (by first | rfl | (dsimp only; omega) | omega) (by first | rfl | (dsimp only; omega) | omega))) (by omega) (by omega) (by omega) (by omega)
                        exact ih38 _ (by rw [← hm38]; exact ms_up (m := 1) ex_12462 (show bn 1 1 (1 : Int32) from bn_k (by decide)) B_12389 (bn_w (bn_eq ex_12462 (bn_add B_12389 (show bn 1 1 (1 : Int32) from bn_k (by decide)) (by decide))) (by decide) : bn 0 303 x_12462) (by decide)) y38_3 y38_4 y38_5 y38_6 x_12462 _ _  _ _ _ I (bn_w b_y38_3 (by decide)) (bn_w b_y38_4 (by decide)) (HA_5 ⟨p_12463, (by have z9 := hX3; omega), (by have z9 := hX4; omega)⟩) (HA_6 ⟨p_12463, (by have z9 := hX3; omega), (by have z9 := hX4; omega)⟩) (HA_7 ⟨p_12463, (by have z9 := hX3; omega), (by have z9 := hX4; omega)⟩) ⟨p_12463, (by have z9 := hX3; omega), (by have z9 := hX4; omega)⟩ rfl Y (lv_sub hl [3, 4, 5, 6, 7, 8, 9, 0] rfl)
                      · have B_12458 : bn 0 0 v_12455 := bn_w (bn_eq c_12456 (show bn 0 0 (0 : Int32) from bn_k (by decide))) (by decide)
                        refine lv_iconst (v := 1) hx hb dX12_summedUp_358 (by decide) ?_
                        refine lv_goto (tgt := 363) hx hb dX12_summedUp_359 (by decide) ?_
                        refine pg_zast S Y p_ad_9_0 (vp_bn (bn_eq ex_12451 (bn_sub B_12450 (show bn 1 1 (1 : Int32) from bn_k (by decide)) (by decide))) (by decide)) dX12_summedUp_363 (fun f_12477 H locs ef_12477 Y => ?_)
                        obtain ⟨g_12476, eg_12476⟩ : ∃ z, z = upd (g_12453) (x_12451 : Int32).toNatClampNeg (vp_nar .boolean 1) := ⟨_, rfl⟩
                        rw [← eg_12476] at ef_12477
                        have p_ad_0_0 := p_ad_0_0.up ef_12477 (I.ne (k := 0) (j := 0) (k' := 9) (j' := 0) (by decide) (by decide) (Or.inl (by decide)))
                        have p_ad_3_0 := p_ad_3_0.up ef_12477 (I.ne (k := 3) (j := 0) (k' := 9) (j' := 0) (by decide) (by decide) (Or.inl (by decide)))
                        have p_ad_9_0 := p_ad_9_0.me ef_12477
                        have o_12478 : ∀ i, bn 0 1 (g_12476 i) := by rw [eg_12476]; exact upz o_12454 (nar01 (bn_w (show bn 1 1 (1 : Int32) from bn_k (by decide)) (by decide)))
                        have I := I.up (k := 9) (j := 0) (by decide) ef_12477 (okE_a (g := g_12476) o_12478)
                        refine lv_goto (tgt := 400) hx hb dX12_summedUp_364 (by decide) ?_
                        obtain ⟨x_12479, ex_12479⟩ : ∃ z : Int32, z = y38_7 + 1 := ⟨_, rfl⟩
                        refine lv_iinc (v := x_12479) (lv' := [(7, .int x_12479), (9, .int v_12398), (8, .int v_12394), (0, .ref (ad 0 0)), (1, .int i1), (2, .int i2), (3, .int y38_3), (4, .int y38_4), (5, .int y38_5), (6, .int y38_6)]) hx hb dX12_summedUp_400 hl (k := 9) rfl (by rw [ex_12479]; rfl) (by decide) rfl (fun ls hl => ?_)
                        refine lv_goto (tgt := 38) hx hb dX12_summedUp_403 (by decide) ?_
                        have z_12481 : x_12479.toInt = (y38_7.toInt + 1) := (la_add ex_12479 (rfl : y38_7.toInt = y38_7.toInt) (show (1 : Int32).toInt = 1 from rfl) B_12389 (show bn 1 1 (1 : Int32) from bn_k (by decide)) (by decide))
                        have z_12482 : y38_5.toInt = y38_5.toInt := (rfl : y38_5.toInt = y38_5.toInt)
                        have z_12483 : y38_6.toInt = y38_6.toInt := (rfl : y38_6.toInt = y38_6.toInt)
                        have z_12484 := B_12390
                        have z_12485 := z_12484.1
                        have z_12486 := z_12484.2
                        have z_12487 := B_12450
                        have z_12488 := z_12487.1
                        have z_12489 := z_12487.2
                        have z_12490 := B_12389
                        have z_12491 := z_12490.1
                        have z_12492 := z_12490.2
                        have p_12480 : HT g0 (729 * i1.toNatClampNeg + 121) fr x_12479 y38_5 y38_6 := HT_nx hHT h_12401 (by omega) (by omega) (h_12448.2.trans (Prod.ext (by first | rfl | (dsimp only; omega) | omega) (by first | rfl | (dsimp only; omega) | omega))) (by omega) (by omega) (by omega) (by omega)
                        exact ih38 _ (by rw [← hm38]; exact ms_up (m := 1) ex_12479 (show bn 1 1 (1 : Int32) from bn_k (by decide)) B_12389 (bn_w (bn_eq ex_12479 (bn_add B_12389 (show bn 1 1 (1 : Int32) from bn_k (by decide)) (by decide))) (by decide) : bn 0 303 x_12479) (by decide)) y38_3 y38_4 y38_5 y38_6 x_12479 _ _  _ _ _ I (bn_w b_y38_3 (by decide)) (bn_w b_y38_4 (by decide)) (HA_5 ⟨p_12480, (by have z9 := hX3; omega), (by have z9 := hX4; omega)⟩) (HA_6 ⟨p_12480, (by have z9 := hX3; omega), (by have z9 := hX4; omega)⟩) (HA_7 ⟨p_12480, (by have z9 := hX3; omega), (by have z9 := hX4; omega)⟩) ⟨p_12480, (by have z9 := hX3; omega), (by have z9 := hX4; omega)⟩ rfl Y (lv_sub hl [3, 4, 5, 6, 7, 8, 9, 0] rfl)
                  · have B_12417 : bn 10 19 v_12394 := bn_w (bn_gtr c_12415 (show bn 20 20 (20 : Int32) from bn_k (by decide)) B_12413) (by decide)
                    have h_12493 := sh10 h_12400 (by have h9 := B_12417.1; have h8 := B_12417.2; omega)
                    have B_12494 : bn 2 302 y38_5 := ⟨by have h9 := h_12493.1; omega, B_12390.2⟩
                    obtain ⟨x_12495, ex_12495⟩ : ∃ z : Int32, z = y38_5 + (-2) := ⟨_, rfl⟩
                    refine lv_iinc (v := x_12495) (lv' := [(5, .int x_12495), (9, .int v_12398), (8, .int v_12394), (0, .ref (ad 0 0)), (1, .int i1), (2, .int i2), (3, .int y38_3), (4, .int y38_4), (6, .int y38_6), (7, .int y38_7)]) hx hb dX12_summedUp_294 hl (k := 7) rfl (by rw [ex_12495]; rfl) (by decide) rfl (fun ls hl => ?_)
                    refine lv_aload_n hx hb dX12_summedUp_297 rfl (lv_at hl 3 rfl) ?_
                    refine pg_get S Y ok_X12 24 (by decide) kf12_42 (v := .ref (ad 9 0)) p_ad_0_0 rfl dX12_summedUp_298 ?_
                    refine lv_iload hx hb dX12_summedUp_301 (lv_at hl 8 rfl) ?_
                    refine lv_iload hx hb dX12_summedUp_303 (lv_at hl 2 rfl) ?_
                    refine lv_aload_n hx hb dX12_summedUp_305 rfl (lv_at hl 3 rfl) ?_
                    refine pg_get S Y ok_X12 23 (by decide) kf12_38 (v := .ref (ad 8 0)) p_ad_0_0 rfl dX12_summedUp_306 ?_
                    refine lv_iload hx hb dX12_summedUp_309 (lv_at hl 0 rfl) ?_
                    obtain ⟨g_12496, p_ad_8_0⟩ := I.opl (k := 8) (j := 0) (by decide) rfl
                    have p_ad_8_0 : pt L_38 f_38 (ad 8 0) (.inl (G.2 1, 330, .inr (.inl g_12496))) := p_ad_8_0
                    refine pg_lald S Y p_ad_8_0 (vp_bn (bn_eq ex_12495 (bn_add B_12494 (show bn (-2) (-2) ((-2) : Int32) from bn_k (by decide)) (by decide))) (by decide)) dX12_summedUp_311 ?_
                    refine lv_topl (fun v_12497 ev_12497 => ?_)
                    refine lv_aload_n hx hb dX12_summedUp_312 rfl (lv_at hl 3 rfl) ?_
                    refine pg_get S Y ok_X12 23 (by decide) kf12_38 (v := .ref (ad 8 0)) p_ad_0_0 rfl dX12_summedUp_313 ?_
                    refine lv_iload hx hb dX12_summedUp_316 (lv_at hl 0 rfl) ?_
                    refine lv_iconst (v := 1) hx hb dX12_summedUp_318 (by decide) ?_
                    refine lv_iadd hx hb dX12_summedUp_319 ?_
                    refine lv_topi (fun x_12498 ex_12498 => ?_)
                    refine pg_lald S Y p_ad_8_0 (vp_bn (bn_eq ex_12498 (bn_add (bn_eq ex_12495 (bn_add B_12494 (show bn (-2) (-2) ((-2) : Int32) from bn_k (by decide)) (by decide))) (show bn 1 1 (1 : Int32) from bn_k (by decide)) (by decide))) (by decide)) dX12_summedUp_320 ?_
                    refine lv_topl (fun v_12499 ev_12499 => ?_)
                    refine cSp (As := [.int v_12394, .long v_12497, .long v_12499]) (rest := [.int y38_6, .ref (ad 9 0)]) S Y (x_X12_isAsked (l := l) ) cw_X12_isAsked km12_281 rfl ⟨Nat.le_of_ble_eq_true rfl, Nat.le_of_ble_eq_true rfl⟩ hl.1 rfl (Nat.le_of_ble_eq_true rfl) ⟨Nat.le_of_ble_eq_true rfl, Nat.le_of_ble_eq_true rfl⟩ dX12_summedUp_321 (fun r_12500 H locs er_12500 Y => ?_)
                    obtain ⟨g_12501, p_ad_9_0, o_12502⟩ := I.opi (k := 9) (j := 0) (by decide) rfl
                    have p_ad_9_0 : pt L_38 f_38 (ad 9 0) (.inl (G.2 2, 330, .inl g_12501)) := p_ad_9_0
                    refine pg_zast S Y p_ad_9_0 (vp_bn B_12391 (by decide)) dX12_summedUp_324 (fun f_12504 H locs ef_12504 Y => ?_)
                    obtain ⟨g_12503, eg_12503⟩ : ∃ z, z = upd (g_12501) (y38_6 : Int32).toNatClampNeg (vp_nar .boolean r_12500) := ⟨_, rfl⟩
                    rw [← eg_12503] at ef_12504
                    have p_ad_0_0 := p_ad_0_0.up ef_12504 (I.ne (k := 0) (j := 0) (k' := 9) (j' := 0) (by decide) (by decide) (Or.inl (by decide)))
                    have p_ad_3_0 := p_ad_3_0.up ef_12504 (I.ne (k := 3) (j := 0) (k' := 9) (j' := 0) (by decide) (by decide) (Or.inl (by decide)))
                    have p_ad_8_0 := p_ad_8_0.up ef_12504 (I.ne (k := 8) (j := 0) (k' := 9) (j' := 0) (by decide) (by decide) (Or.inl (by decide)))
                    have p_ad_9_0 := p_ad_9_0.me ef_12504
                    have o_12505 : ∀ i, bn 0 1 (g_12503 i) := by rw [eg_12503]; exact upz o_12502 (nar01 (bn_w er_12500 (by decide)))
                    have I := I.up (k := 9) (j := 0) (by decide) ef_12504 (okE_a (g := g_12503) o_12505)
                    obtain ⟨x_12506, ex_12506⟩ : ∃ z : Int32, z = y38_6 + 1 := ⟨_, rfl⟩
                    refine lv_iinc (v := x_12506) (lv' := [(6, .int x_12506), (5, .int x_12495), (9, .int v_12398), (8, .int v_12394), (0, .ref (ad 0 0)), (1, .int i1), (2, .int i2), (3, .int y38_3), (4, .int y38_4), (7, .int y38_7)]) hx hb dX12_summedUp_325 hl (k := 8) rfl (by rw [ex_12506]; rfl) (by decide) rfl (fun ls hl => ?_)
                    refine lv_goto (tgt := 400) hx hb dX12_summedUp_328 (by decide) ?_
                    obtain ⟨x_12507, ex_12507⟩ : ∃ z : Int32, z = y38_7 + 1 := ⟨_, rfl⟩
                    refine lv_iinc (v := x_12507) (lv' := [(7, .int x_12507), (6, .int x_12506), (5, .int x_12495), (9, .int v_12398), (8, .int v_12394), (0, .ref (ad 0 0)), (1, .int i1), (2, .int i2), (3, .int y38_3), (4, .int y38_4)]) hx hb dX12_summedUp_400 hl (k := 9) rfl (by rw [ex_12507]; rfl) (by decide) rfl (fun ls hl => ?_)
                    refine lv_goto (tgt := 38) hx hb dX12_summedUp_403 (by decide) ?_
                    have z_12509 : x_12507.toInt = (y38_7.toInt + 1) := (la_add ex_12507 (rfl : y38_7.toInt = y38_7.toInt) (show (1 : Int32).toInt = 1 from rfl) B_12389 (show bn 1 1 (1 : Int32) from bn_k (by decide)) (by decide))
                    have z_12510 : x_12495.toInt = (y38_5.toInt + (-2)) := (la_add ex_12495 (rfl : y38_5.toInt = y38_5.toInt) (show ((-2) : Int32).toInt = (-2) from rfl) B_12494 (show bn (-2) (-2) ((-2) : Int32) from bn_k (by decide)) (by decide))
                    have z_12511 : x_12506.toInt = (y38_6.toInt + 1) := (la_add ex_12506 (rfl : y38_6.toInt = y38_6.toInt) (show (1 : Int32).toInt = 1 from rfl) B_12391 (show bn 1 1 (1 : Int32) from bn_k (by decide)) (by decide))
                    have z_12512 := B_12494
                    have z_12513 := z_12512.1
                    have z_12514 := z_12512.2
                    have z_12515 := B_12391
                    have z_12516 := z_12515.1
                    have z_12517 := z_12515.2
                    have z_12518 := B_12389
                    have z_12519 := z_12518.1
                    have z_12520 := z_12518.2
                    have p_12508 : HT g0 (729 * i1.toNatClampNeg + 121) fr x_12507 x_12495 x_12506 := HT_nx hHT h_12401 (by omega) (by omega) (h_12493.2.trans (Prod.ext (by first | rfl | (dsimp only; omega) | omega) (by first | rfl | (dsimp only; omega) | omega))) (by omega) (by omega) (by omega) (by omega)
                    exact ih38 _ (by rw [← hm38]; exact ms_up (m := 1) ex_12507 (show bn 1 1 (1 : Int32) from bn_k (by decide)) B_12389 (bn_w (bn_eq ex_12507 (bn_add B_12389 (show bn 1 1 (1 : Int32) from bn_k (by decide)) (by decide))) (by decide) : bn 0 303 x_12507) (by decide)) y38_3 y38_4 x_12495 x_12506 x_12507 _ _  _ _ _ I (bn_w b_y38_3 (by decide)) (bn_w b_y38_4 (by decide)) (HA_5 ⟨p_12508, (by have z9 := hX3; omega), (by have z9 := hX4; omega)⟩) (HA_6 ⟨p_12508, (by have z9 := hX3; omega), (by have z9 := hX4; omega)⟩) (HA_7 ⟨p_12508, (by have z9 := hX3; omega), (by have z9 := hX4; omega)⟩) ⟨p_12508, (by have z9 := hX3; omega), (by have z9 := hX4; omega)⟩ rfl Y (lv_sub hl [5, 6, 7, 8, 9, 2, 1, 0] rfl)
                · have B_12414 : bn 6 9 v_12394 := bn_w (bn_gtr c_12412 (show bn 10 10 (10 : Int32) from bn_k (by decide)) B_12410) (by decide)
                  have h_12521 := sh6 h_12400 (by have h9 := B_12414.1; have h8 := B_12414.2; omega)
                  have B_12522 : bn 2 302 y38_5 := ⟨by have h9 := h_12521.1; omega, B_12390.2⟩
                  obtain ⟨x_12523, ex_12523⟩ : ∃ z : Int32, z = y38_5 + (-1) := ⟨_, rfl⟩
                  refine lv_iinc (v := x_12523) (lv' := [(5, .int x_12523), (9, .int v_12398), (8, .int v_12394), (0, .ref (ad 0 0)), (1, .int i1), (2, .int i2), (3, .int y38_3), (4, .int y38_4), (6, .int y38_6), (7, .int y38_7)]) hx hb dX12_summedUp_251 hl (k := 7) rfl (by rw [ex_12523]; rfl) (by decide) rfl (fun ls hl => ?_)
                  refine lv_aload_n hx hb dX12_summedUp_254 rfl (lv_at hl 3 rfl) ?_
                  refine pg_get S Y ok_X12 23 (by decide) kf12_38 (v := .ref (ad 8 0)) p_ad_0_0 rfl dX12_summedUp_255 ?_
                  refine lv_iload hx hb dX12_summedUp_258 (lv_at hl 0 rfl) ?_
                  refine lv_iconst (v := 1) hx hb dX12_summedUp_260 (by decide) ?_
                  refine lv_isub hx hb dX12_summedUp_261 ?_
                  refine lv_topi (fun x_12524 ex_12524 => ?_)
                  refine lv_iload hx hb dX12_summedUp_262 (lv_at hl 2 rfl) ?_
                  refine lv_aload_n hx hb dX12_summedUp_264 rfl (lv_at hl 3 rfl) ?_
                  refine pg_get S Y ok_X12 23 (by decide) kf12_38 (v := .ref (ad 8 0)) p_ad_0_0 rfl dX12_summedUp_265 ?_
                  refine lv_iload hx hb dX12_summedUp_268 (lv_at hl 0 rfl) ?_
                  refine lv_iconst (v := 1) hx hb dX12_summedUp_270 (by decide) ?_
                  refine lv_isub hx hb dX12_summedUp_271 ?_
                  refine lv_topi (fun x_12525 ex_12525 => ?_)
                  obtain ⟨g_12526, p_ad_8_0⟩ := I.opl (k := 8) (j := 0) (by decide) rfl
                  have p_ad_8_0 : pt L_38 f_38 (ad 8 0) (.inl (G.2 1, 330, .inr (.inl g_12526))) := p_ad_8_0
                  refine pg_lald S Y p_ad_8_0 (vp_bn (bn_eq ex_12525 (bn_sub (bn_eq ex_12523 (bn_add B_12522 (show bn (-1) (-1) ((-1) : Int32) from bn_k (by decide)) (by decide))) (show bn 1 1 (1 : Int32) from bn_k (by decide)) (by decide))) (by decide)) dX12_summedUp_272 ?_
                  refine lv_topl (fun v_12527 ev_12527 => ?_)
                  refine lv_aload_n hx hb dX12_summedUp_273 rfl (lv_at hl 3 rfl) ?_
                  refine pg_get S Y ok_X12 23 (by decide) kf12_38 (v := .ref (ad 8 0)) p_ad_0_0 rfl dX12_summedUp_274 ?_
                  refine lv_iload hx hb dX12_summedUp_277 (lv_at hl 0 rfl) ?_
                  refine pg_lald S Y p_ad_8_0 (vp_bn (bn_eq ex_12523 (bn_add B_12522 (show bn (-1) (-1) ((-1) : Int32) from bn_k (by decide)) (by decide))) (by decide)) dX12_summedUp_279 ?_
                  refine lv_topl (fun v_12528 ev_12528 => ?_)
                  refine cSlp (As := [.int v_12394, .long v_12527, .long v_12528]) (rest := [.int x_12524, .ref (ad 8 0)]) S Y (x_X12_two (l := l) ) cw_X12_two km12_277 rfl ⟨Nat.le_of_ble_eq_true rfl, Nat.le_of_ble_eq_true rfl⟩ hl.1 rfl (Nat.le_of_ble_eq_true rfl) ⟨Nat.le_of_ble_eq_true rfl, Nat.le_of_ble_eq_true rfl⟩ dX12_summedUp_280 (fun r_12529 H locs er_12529 Y => ?_)
                  refine pg_last S Y p_ad_8_0 (vp_bn (bn_eq ex_12524 (bn_sub (bn_eq ex_12523 (bn_add B_12522 (show bn (-1) (-1) ((-1) : Int32) from bn_k (by decide)) (by decide))) (show bn 1 1 (1 : Int32) from bn_k (by decide)) (by decide))) (by decide)) dX12_summedUp_283 (fun f_12531 H locs ef_12531 Y => ?_)
                  obtain ⟨g_12530, eg_12530⟩ : ∃ z, z = vp_updL (g_12526) (x_12524 : Int32).toNatClampNeg r_12529 := ⟨_, rfl⟩
                  rw [← eg_12530] at ef_12531
                  have p_ad_0_0 := p_ad_0_0.up ef_12531 (I.ne (k := 0) (j := 0) (k' := 8) (j' := 0) (by decide) (by decide) (Or.inl (by decide)))
                  have p_ad_3_0 := p_ad_3_0.up ef_12531 (I.ne (k := 3) (j := 0) (k' := 8) (j' := 0) (by decide) (by decide) (Or.inl (by decide)))
                  have p_ad_8_0 := p_ad_8_0.me ef_12531
                  have I := I.up (k := 8) (j := 0) (by decide) ef_12531 (okE_l (g := g_12530))
                  refine lv_goto (tgt := 400) hx hb dX12_summedUp_284 (by decide) ?_
                  obtain ⟨x_12532, ex_12532⟩ : ∃ z : Int32, z = y38_7 + 1 := ⟨_, rfl⟩
                  refine lv_iinc (v := x_12532) (lv' := [(7, .int x_12532), (5, .int x_12523), (9, .int v_12398), (8, .int v_12394), (0, .ref (ad 0 0)), (1, .int i1), (2, .int i2), (3, .int y38_3), (4, .int y38_4), (6, .int y38_6)]) hx hb dX12_summedUp_400 hl (k := 9) rfl (by rw [ex_12532]; rfl) (by decide) rfl (fun ls hl => ?_)
                  refine lv_goto (tgt := 38) hx hb dX12_summedUp_403 (by decide) ?_
                  have z_12534 : x_12532.toInt = (y38_7.toInt + 1) := (la_add ex_12532 (rfl : y38_7.toInt = y38_7.toInt) (show (1 : Int32).toInt = 1 from rfl) B_12389 (show bn 1 1 (1 : Int32) from bn_k (by decide)) (by decide))
                  have z_12535 : x_12523.toInt = (y38_5.toInt + (-1)) := (la_add ex_12523 (rfl : y38_5.toInt = y38_5.toInt) (show ((-1) : Int32).toInt = (-1) from rfl) B_12522 (show bn (-1) (-1) ((-1) : Int32) from bn_k (by decide)) (by decide))
                  have z_12536 : y38_6.toInt = y38_6.toInt := (rfl : y38_6.toInt = y38_6.toInt)
                  have z_12537 := B_12522
                  have z_12538 := z_12537.1
                  have z_12539 := z_12537.2
                  have z_12540 := B_12391
                  have z_12541 := z_12540.1
                  have z_12542 := z_12540.2
                  have z_12543 := B_12389
                  have z_12544 := z_12543.1
                  have z_12545 := z_12543.2
                  have p_12533 : HT g0 (729 * i1.toNatClampNeg + 121) fr x_12532 x_12523 y38_6 := HT_nx hHT h_12401 (by omega) (by omega) (h_12521.2.trans (Prod.ext (by first | rfl | (dsimp only; omega) | omega) (by first | rfl | (dsimp only; omega) | omega))) (by omega) (by omega) (by omega) (by omega)
                  exact ih38 _ (by rw [← hm38]; exact ms_up (m := 1) ex_12532 (show bn 1 1 (1 : Int32) from bn_k (by decide)) B_12389 (bn_w (bn_eq ex_12532 (bn_add B_12389 (show bn 1 1 (1 : Int32) from bn_k (by decide)) (by decide))) (by decide) : bn 0 303 x_12532) (by decide)) y38_3 y38_4 x_12523 y38_6 x_12532 _ _  _ _ _ I (bn_w b_y38_3 (by decide)) (bn_w b_y38_4 (by decide)) (HA_5 ⟨p_12533, (by have z9 := hX3; omega), (by have z9 := hX4; omega)⟩) (HA_6 ⟨p_12533, (by have z9 := hX3; omega), (by have z9 := hX4; omega)⟩) (HA_7 ⟨p_12533, (by have z9 := hX3; omega), (by have z9 := hX4; omega)⟩) ⟨p_12533, (by have z9 := hX3; omega), (by have z9 := hX4; omega)⟩ rfl Y (lv_sub hl [4, 5, 6, 7, 8, 1, 9, 0] rfl)
              · have B_12411 : bn 2 5 v_12394 := bn_w (bn_ger c_12409 (show bn 5 5 (5 : Int32) from bn_k (by decide)) B_12403) (by decide)
                have h_12546 := sh5 h_12400 (by have h9 := B_12411.1; have h8 := B_12411.2; have g1 : ¬ v_12394.toInt = 3 := fun z => c_12405 (Int32.toInt_inj.mp (z.trans rfl)); have g2 : ¬ v_12394.toInt = 4 := fun z => c_12407 (Int32.toInt_inj.mp (z.trans rfl)); omega)
                have B_12547 : bn 1 302 y38_5 := ⟨by have h9 := h_12546.1; omega, B_12390.2⟩
                refine lv_aload_n hx hb dX12_summedUp_200 rfl (lv_at hl 2 rfl) ?_
                refine pg_get S Y ok_X12 23 (by decide) kf12_38 (v := .ref (ad 8 0)) p_ad_0_0 rfl dX12_summedUp_201 ?_
                refine lv_iload hx hb dX12_summedUp_204 (lv_at hl 7 rfl) ?_
                refine lv_iconst (v := 1) hx hb dX12_summedUp_206 (by decide) ?_
                refine lv_isub hx hb dX12_summedUp_207 ?_
                refine lv_topi (fun x_12548 ex_12548 => ?_)
                refine lv_iload hx hb dX12_summedUp_208 (lv_at hl 1 rfl) ?_
                refine lv_iconst (v := 5) hx hb dX12_summedUp_210 (by decide) ?_
                refine lv_icmp_ne (tgt := 227) hx hb dX12_summedUp_211 (by decide) (fun c_12549 => ?_) (fun c_12549 => ?_)
                · have B_12550 : bn 2 4 v_12394 := bn_w (bn_neu c_12549 B_12411 (show bn 5 5 (5 : Int32) from bn_k (by decide))) (by decide)
                  refine lv_aload_n hx hb dX12_summedUp_227 rfl (lv_at hl 2 rfl) ?_
                  refine lv_aload_n hx hb dX12_summedUp_228 rfl (lv_at hl 2 rfl) ?_
                  refine pg_get S Y ok_X12 23 (by decide) kf12_38 (v := .ref (ad 8 0)) p_ad_0_0 rfl dX12_summedUp_229 ?_
                  refine lv_iload hx hb dX12_summedUp_232 (lv_at hl 7 rfl) ?_
                  refine lv_iconst (v := 1) hx hb dX12_summedUp_234 (by decide) ?_
                  refine lv_isub hx hb dX12_summedUp_235 ?_
                  refine lv_topi (fun x_12552 ex_12552 => ?_)
                  obtain ⟨g_12553, p_ad_8_0⟩ := I.opl (k := 8) (j := 0) (by decide) rfl
                  have p_ad_8_0 : pt L_38 f_38 (ad 8 0) (.inl (G.2 1, 330, .inr (.inl g_12553))) := p_ad_8_0
                  refine pg_lald S Y p_ad_8_0 (vp_bn (bn_eq ex_12552 (bn_sub B_12547 (show bn 1 1 (1 : Int32) from bn_k (by decide)) (by decide))) (by decide)) dX12_summedUp_236 ?_
                  refine lv_topl (fun v_12554 ev_12554 => ?_)
                  refine cVlp (As := [.long v_12554]) (rest := [.int x_12548, .ref (ad 8 0)]) S Y (x_X12_marksOf (l := l) I hB) cw_X12_marksOf km12_274 p_ad_0_0 ok_X12.1 rfl rfl ⟨Nat.le_of_ble_eq_true rfl, Nat.le_of_ble_eq_true rfl⟩ hl.1 rfl (Nat.le_of_ble_eq_true rfl) ⟨Nat.le_of_ble_eq_true rfl, Nat.le_of_ble_eq_true rfl⟩ dX12_summedUp_237 (fun r_12555 H locs er_12555 Y => ?_)
                  refine pg_last S Y p_ad_8_0 (vp_bn (bn_eq ex_12548 (bn_sub B_12547 (show bn 1 1 (1 : Int32) from bn_k (by decide)) (by decide))) (by decide)) dX12_summedUp_240 (fun f_12557 H locs ef_12557 Y => ?_)
                  obtain ⟨g_12556, eg_12556⟩ : ∃ z, z = vp_updL (g_12553) (x_12548 : Int32).toNatClampNeg r_12555 := ⟨_, rfl⟩
                  rw [← eg_12556] at ef_12557
                  have p_ad_0_0 := p_ad_0_0.up ef_12557 (I.ne (k := 0) (j := 0) (k' := 8) (j' := 0) (by decide) (by decide) (Or.inl (by decide)))
                  have p_ad_3_0 := p_ad_3_0.up ef_12557 (I.ne (k := 3) (j := 0) (k' := 8) (j' := 0) (by decide) (by decide) (Or.inl (by decide)))
                  have p_ad_8_0 := p_ad_8_0.me ef_12557
                  have I := I.up (k := 8) (j := 0) (by decide) ef_12557 (okE_l (g := g_12556))
                  refine lv_goto (tgt := 400) hx hb dX12_summedUp_241 (by decide) ?_
                  obtain ⟨x_12558, ex_12558⟩ : ∃ z : Int32, z = y38_7 + 1 := ⟨_, rfl⟩
                  refine lv_iinc (v := x_12558) (lv' := [(7, .int x_12558), (9, .int v_12398), (8, .int v_12394), (0, .ref (ad 0 0)), (1, .int i1), (2, .int i2), (3, .int y38_3), (4, .int y38_4), (5, .int y38_5), (6, .int y38_6)]) hx hb dX12_summedUp_400 hl (k := 9) rfl (by rw [ex_12558]; rfl) (by decide) rfl (fun ls hl => ?_)
                  refine lv_goto (tgt := 38) hx hb dX12_summedUp_403 (by decide) ?_
                  have z_12560 : x_12558.toInt = (y38_7.toInt + 1) := (la_add ex_12558 (rfl : y38_7.toInt = y38_7.toInt) (show (1 : Int32).toInt = 1 from rfl) B_12389 (show bn 1 1 (1 : Int32) from bn_k (by decide)) (by decide))
                  have z_12561 : y38_5.toInt = y38_5.toInt := (rfl : y38_5.toInt = y38_5.toInt)
                  have z_12562 : y38_6.toInt = y38_6.toInt := (rfl : y38_6.toInt = y38_6.toInt)
                  have z_12563 := B_12547
                  have z_12564 := z_12563.1
                  have z_12565 := z_12563.2
                  have z_12566 := B_12391
                  have z_12567 := z_12566.1
                  have z_12568 := z_12566.2
                  have z_12569 := B_12389
                  have z_12570 := z_12569.1
                  have z_12571 := z_12569.2
                  have p_12559 : HT g0 (729 * i1.toNatClampNeg + 121) fr x_12558 y38_5 y38_6 := HT_nx hHT h_12401 (by omega) (by omega) (h_12546.2.trans (Prod.ext (by first | rfl | (dsimp only; omega) | omega) (by first | rfl | (dsimp only; omega) | omega))) (by omega) (by omega) (by omega) (by omega)
                  exact ih38 _ (by rw [← hm38]; exact ms_up (m := 1) ex_12558 (show bn 1 1 (1 : Int32) from bn_k (by decide)) B_12389 (bn_w (bn_eq ex_12558 (bn_add B_12389 (show bn 1 1 (1 : Int32) from bn_k (by decide)) (by decide))) (by decide) : bn 0 303 x_12558) (by decide)) y38_3 y38_4 y38_5 y38_6 x_12558 _ _  _ _ _ I (bn_w b_y38_3 (by decide)) (bn_w b_y38_4 (by decide)) (HA_5 ⟨p_12559, (by have z9 := hX3; omega), (by have z9 := hX4; omega)⟩) (HA_6 ⟨p_12559, (by have z9 := hX3; omega), (by have z9 := hX4; omega)⟩) (HA_7 ⟨p_12559, (by have z9 := hX3; omega), (by have z9 := hX4; omega)⟩) ⟨p_12559, (by have z9 := hX3; omega), (by have z9 := hX4; omega)⟩ rfl Y (lv_sub hl [3, 4, 5, 6, 7, 8, 9, 0] rfl)
                · have B_12551 : bn 5 5 v_12394 := bn_w (bn_eq c_12549 (show bn 5 5 (5 : Int32) from bn_k (by decide))) (by decide)
                  refine lv_aload_n hx hb dX12_summedUp_214 rfl (lv_at hl 2 rfl) ?_
                  refine pg_get S Y ok_X12 23 (by decide) kf12_38 (v := .ref (ad 8 0)) p_ad_0_0 rfl dX12_summedUp_215 ?_
                  refine lv_iload hx hb dX12_summedUp_218 (lv_at hl 7 rfl) ?_
                  refine lv_iconst (v := 1) hx hb dX12_summedUp_220 (by decide) ?_
                  refine lv_isub hx hb dX12_summedUp_221 ?_
                  refine lv_topi (fun x_12572 ex_12572 => ?_)
                  obtain ⟨g_12573, p_ad_8_0⟩ := I.opl (k := 8) (j := 0) (by decide) rfl
                  have p_ad_8_0 : pt L_38 f_38 (ad 8 0) (.inl (G.2 1, 330, .inr (.inl g_12573))) := p_ad_8_0
                  refine pg_lald S Y p_ad_8_0 (vp_bn (bn_eq ex_12572 (bn_sub B_12547 (show bn 1 1 (1 : Int32) from bn_k (by decide)) (by decide))) (by decide)) dX12_summedUp_222 ?_
                  refine lv_topl (fun v_12574 ev_12574 => ?_)
                  refine lv_lneg hx hb dX12_summedUp_223 ?_
                  refine lv_topl (fun x_12575 ex_12575 => ?_)
                  refine lv_goto (tgt := 240) hx hb dX12_summedUp_224 (by decide) ?_
                  refine pg_last S Y p_ad_8_0 (vp_bn (bn_eq ex_12548 (bn_sub B_12547 (show bn 1 1 (1 : Int32) from bn_k (by decide)) (by decide))) (by decide)) dX12_summedUp_240 (fun f_12577 H locs ef_12577 Y => ?_)
                  obtain ⟨g_12576, eg_12576⟩ : ∃ z, z = vp_updL (g_12573) (x_12548 : Int32).toNatClampNeg x_12575 := ⟨_, rfl⟩
                  rw [← eg_12576] at ef_12577
                  have p_ad_0_0 := p_ad_0_0.up ef_12577 (I.ne (k := 0) (j := 0) (k' := 8) (j' := 0) (by decide) (by decide) (Or.inl (by decide)))
                  have p_ad_3_0 := p_ad_3_0.up ef_12577 (I.ne (k := 3) (j := 0) (k' := 8) (j' := 0) (by decide) (by decide) (Or.inl (by decide)))
                  have p_ad_8_0 := p_ad_8_0.me ef_12577
                  have I := I.up (k := 8) (j := 0) (by decide) ef_12577 (okE_l (g := g_12576))
                  refine lv_goto (tgt := 400) hx hb dX12_summedUp_241 (by decide) ?_
                  obtain ⟨x_12578, ex_12578⟩ : ∃ z : Int32, z = y38_7 + 1 := ⟨_, rfl⟩
                  refine lv_iinc (v := x_12578) (lv' := [(7, .int x_12578), (9, .int v_12398), (8, .int v_12394), (0, .ref (ad 0 0)), (1, .int i1), (2, .int i2), (3, .int y38_3), (4, .int y38_4), (5, .int y38_5), (6, .int y38_6)]) hx hb dX12_summedUp_400 hl (k := 9) rfl (by rw [ex_12578]; rfl) (by decide) rfl (fun ls hl => ?_)
                  refine lv_goto (tgt := 38) hx hb dX12_summedUp_403 (by decide) ?_
                  have z_12580 : x_12578.toInt = (y38_7.toInt + 1) := (la_add ex_12578 (rfl : y38_7.toInt = y38_7.toInt) (show (1 : Int32).toInt = 1 from rfl) B_12389 (show bn 1 1 (1 : Int32) from bn_k (by decide)) (by decide))
                  have z_12581 : y38_5.toInt = y38_5.toInt := (rfl : y38_5.toInt = y38_5.toInt)
                  have z_12582 : y38_6.toInt = y38_6.toInt := (rfl : y38_6.toInt = y38_6.toInt)
                  have z_12583 := B_12547
                  have z_12584 := z_12583.1
                  have z_12585 := z_12583.2
                  have z_12586 := B_12391
                  have z_12587 := z_12586.1
                  have z_12588 := z_12586.2
                  have z_12589 := B_12389
                  have z_12590 := z_12589.1
                  have z_12591 := z_12589.2
                  have p_12579 : HT g0 (729 * i1.toNatClampNeg + 121) fr x_12578 y38_5 y38_6 := HT_nx hHT h_12401 (by omega) (by omega) (h_12546.2.trans (Prod.ext (by first | rfl | (dsimp only; omega) | omega) (by first | rfl | (dsimp only; omega) | omega))) (by omega) (by omega) (by omega) (by omega)
                  exact ih38 _ (by rw [← hm38]; exact ms_up (m := 1) ex_12578 (show bn 1 1 (1 : Int32) from bn_k (by decide)) B_12389 (bn_w (bn_eq ex_12578 (bn_add B_12389 (show bn 1 1 (1 : Int32) from bn_k (by decide)) (by decide))) (by decide) : bn 0 303 x_12578) (by decide)) y38_3 y38_4 y38_5 y38_6 x_12578 _ _  _ _ _ I (bn_w b_y38_3 (by decide)) (bn_w b_y38_4 (by decide)) (HA_5 ⟨p_12579, (by have z9 := hX3; omega), (by have z9 := hX4; omega)⟩) (HA_6 ⟨p_12579, (by have z9 := hX3; omega), (by have z9 := hX4; omega)⟩) (HA_7 ⟨p_12579, (by have z9 := hX3; omega), (by have z9 := hX4; omega)⟩) ⟨p_12579, (by have z9 := hX3; omega), (by have z9 := hX4; omega)⟩ rfl Y (lv_sub hl [3, 4, 5, 6, 7, 8, 9, 0] rfl)
            · have B_12408 : bn 4 4 v_12394 := bn_w (bn_eq c_12407 (show bn 4 4 (4 : Int32) from bn_k (by decide))) (by decide)
              have h_12593 : stH 4 v_12398.toInt (y38_5.toInt.toNat, y38_6.toInt.toNat) = some q_12399 := by have e9 : v_12394.toInt = 4 := Int.le_antisymm B_12408.2 B_12408.1; rw [← e9]; exact h_12400
              have h_12592 := sh4 h_12593
              have B_12594 : bn 0 302 v_12398 := ⟨h_12592.1, by have h9 := h_12592.2.1; have h8 := B_12391; have h7 := h8.1; have h6 := h8.2; simp only at h9; omega⟩
              refine lv_iload hx hb dX12_summedUp_166 (lv_at hl 8 rfl) ?_
              refine lv_iload hx hb dX12_summedUp_168 (lv_at hl 0 rfl) ?_
              refine lv_isub hx hb dX12_summedUp_170 ?_
              refine lv_topi (fun x_12595 ex_12595 => ?_)
              have B_12596 : bn 0 302 x_12595 := bn_w (bn_eq ex_12595 (show bn 0 302 (y38_6 - v_12398) from by have h9 := h_12592.2.1; have h8 := B_12391; have h7 := B_12594; obtain ⟨a1, a2⟩ := h8; obtain ⟨b1, b2⟩ := h7; simp only at h9; have e9 := ti_sub (a := y38_6) (b := v_12398) (by omega) (by omega); exact ⟨by omega, by omega⟩)) (by decide)
              refine lv_istore (lv' := [(6, .int x_12595), (9, .int v_12398), (8, .int v_12394), (0, .ref (ad 0 0)), (1, .int i1), (2, .int i2), (3, .int y38_3), (4, .int y38_4), (5, .int y38_5), (7, .int y38_7)]) hx hb dX12_summedUp_171 hl (by decide) rfl (fun ls hl => ?_)
              refine lv_aload_n hx hb dX12_summedUp_173 rfl (lv_at hl 3 rfl) ?_
              refine pg_get S Y ok_X12 24 (by decide) kf12_42 (v := .ref (ad 9 0)) p_ad_0_0 rfl dX12_summedUp_174 ?_
              refine lv_iload hx hb dX12_summedUp_177 (lv_at hl 0 rfl) ?_
              refine lv_aload_n hx hb dX12_summedUp_179 rfl (lv_at hl 3 rfl) ?_
              refine lv_iload hx hb dX12_summedUp_180 (lv_at hl 0 rfl) ?_
              refine lv_iload hx hb dX12_summedUp_182 (lv_at hl 1 rfl) ?_
              refine cVp (As := [.int x_12595, .int v_12398]) (rest := [.int x_12595, .ref (ad 9 0)]) S Y (x_X12_isJustOne (l := l) I hB (bn_w B_12596 (by decide)) (bn_w B_12594 (by decide)) (by have h9 := la_sub ex_12595 rfl rfl B_12391 B_12594 (by decide); have h8 := B_12391.2; omega)) cw_X12_isJustOne km12_271 p_ad_0_0 ok_X12.1 rfl rfl ⟨Nat.le_of_ble_eq_true rfl, Nat.le_of_ble_eq_true rfl⟩ hl.1 rfl (Nat.le_of_ble_eq_true rfl) ⟨Nat.le_of_ble_eq_true rfl, Nat.le_of_ble_eq_true rfl⟩ dX12_summedUp_184 (fun r_12597 H locs er_12597 Y => ?_)
              obtain ⟨g_12598, p_ad_9_0, o_12599⟩ := I.opi (k := 9) (j := 0) (by decide) rfl
              have p_ad_9_0 : pt L_38 f_38 (ad 9 0) (.inl (G.2 2, 330, .inl g_12598)) := p_ad_9_0
              refine pg_zast S Y p_ad_9_0 (vp_bn B_12596 (by decide)) dX12_summedUp_187 (fun f_12601 H locs ef_12601 Y => ?_)
              obtain ⟨g_12600, eg_12600⟩ : ∃ z, z = upd (g_12598) (x_12595 : Int32).toNatClampNeg (vp_nar .boolean r_12597) := ⟨_, rfl⟩
              rw [← eg_12600] at ef_12601
              have p_ad_0_0 := p_ad_0_0.up ef_12601 (I.ne (k := 0) (j := 0) (k' := 9) (j' := 0) (by decide) (by decide) (Or.inl (by decide)))
              have p_ad_3_0 := p_ad_3_0.up ef_12601 (I.ne (k := 3) (j := 0) (k' := 9) (j' := 0) (by decide) (by decide) (Or.inl (by decide)))
              have p_ad_9_0 := p_ad_9_0.me ef_12601
              have o_12602 : ∀ i, bn 0 1 (g_12600 i) := by rw [eg_12600]; exact upz o_12599 (nar01 (bn_w er_12597 (by decide)))
              have I := I.up (k := 9) (j := 0) (by decide) ef_12601 (okE_a (g := g_12600) o_12602)
              obtain ⟨x_12603, ex_12603⟩ : ∃ z : Int32, z = x_12595 + 1 := ⟨_, rfl⟩
              refine lv_iinc (v := x_12603) (lv' := [(6, .int x_12603), (9, .int v_12398), (8, .int v_12394), (0, .ref (ad 0 0)), (1, .int i1), (2, .int i2), (3, .int y38_3), (4, .int y38_4), (5, .int y38_5), (7, .int y38_7)]) hx hb dX12_summedUp_188 hl (k := 0) rfl (by rw [ex_12603]; rfl) (by decide) rfl (fun ls hl => ?_)
              refine lv_goto (tgt := 400) hx hb dX12_summedUp_191 (by decide) ?_
              obtain ⟨x_12604, ex_12604⟩ : ∃ z : Int32, z = y38_7 + 1 := ⟨_, rfl⟩
              refine lv_iinc (v := x_12604) (lv' := [(7, .int x_12604), (6, .int x_12603), (9, .int v_12398), (8, .int v_12394), (0, .ref (ad 0 0)), (1, .int i1), (2, .int i2), (3, .int y38_3), (4, .int y38_4), (5, .int y38_5)]) hx hb dX12_summedUp_400 hl (k := 9) rfl (by rw [ex_12604]; rfl) (by decide) rfl (fun ls hl => ?_)
              refine lv_goto (tgt := 38) hx hb dX12_summedUp_403 (by decide) ?_
              have z_12606 : x_12604.toInt = (y38_7.toInt + 1) := (la_add ex_12604 (rfl : y38_7.toInt = y38_7.toInt) (show (1 : Int32).toInt = 1 from rfl) B_12389 (show bn 1 1 (1 : Int32) from bn_k (by decide)) (by decide))
              have z_12607 : y38_5.toInt = y38_5.toInt := (rfl : y38_5.toInt = y38_5.toInt)
              have z_12608 : x_12603.toInt = ((y38_6.toInt - v_12398.toInt) + 1) := (la_add ex_12603 (la_sub ex_12595 (rfl : y38_6.toInt = y38_6.toInt) (rfl : v_12398.toInt = v_12398.toInt) B_12391 B_12594 (by decide)) (show (1 : Int32).toInt = 1 from rfl) B_12596 (show bn 1 1 (1 : Int32) from bn_k (by decide)) (by decide))
              have z_12609 := B_12390
              have z_12610 := z_12609.1
              have z_12611 := z_12609.2
              have z_12612 := B_12391
              have z_12613 := z_12612.1
              have z_12614 := z_12612.2
              have z_12615 := B_12389
              have z_12616 := z_12615.1
              have z_12617 := z_12615.2
              have z_12618 := B_12594
              have z_12619 := z_12618.1
              have z_12620 := z_12618.2
              have z_12621 := h_12592.2.1
              simp only at z_12621
              have p_12605 : HT g0 (729 * i1.toNatClampNeg + 121) fr x_12604 y38_5 x_12603 := HT_nx hHT h_12401 (by omega) (by omega) (h_12592.2.2.trans (Prod.ext (by first | rfl | (dsimp only; omega) | omega) (by first | rfl | (dsimp only; omega) | omega))) (by omega) (by omega) (by omega) (by omega)
              exact ih38 _ (by rw [← hm38]; exact ms_up (m := 1) ex_12604 (show bn 1 1 (1 : Int32) from bn_k (by decide)) B_12389 (bn_w (bn_eq ex_12604 (bn_add B_12389 (show bn 1 1 (1 : Int32) from bn_k (by decide)) (by decide))) (by decide) : bn 0 303 x_12604) (by decide)) y38_3 y38_4 y38_5 x_12603 x_12604 _ _  _ _ _ I (bn_w b_y38_3 (by decide)) (bn_w b_y38_4 (by decide)) (HA_5 ⟨p_12605, (by have z9 := hX3; omega), (by have z9 := hX4; omega)⟩) (HA_6 ⟨p_12605, (by have z9 := hX3; omega), (by have z9 := hX4; omega)⟩) (HA_7 ⟨p_12605, (by have z9 := hX3; omega), (by have z9 := hX4; omega)⟩) ⟨p_12605, (by have z9 := hX3; omega), (by have z9 := hX4; omega)⟩ rfl Y (lv_sub hl [4, 5, 6, 7, 8, 9, 1, 0] rfl)
          · have B_12406 : bn 3 3 v_12394 := bn_w (bn_eq c_12405 (show bn 3 3 (3 : Int32) from bn_k (by decide))) (by decide)
            have h_12623 : stH 3 v_12398.toInt (y38_5.toInt.toNat, y38_6.toInt.toNat) = some q_12399 := by have e9 : v_12394.toInt = 3 := Int.le_antisymm B_12406.2 B_12406.1; rw [← e9]; exact h_12400
            have h_12622 := sh3 h_12623
            have B_12624 : bn 2 302 y38_5 := ⟨by have h9 := h_12622.1; omega, B_12390.2⟩
            have B_12625 : bn 1 302 y38_6 := ⟨by have h9 := h_12622.2.1; omega, B_12391.2⟩
            obtain ⟨x_12626, ex_12626⟩ : ∃ z : Int32, z = y38_5 + (-1) := ⟨_, rfl⟩
            refine lv_iinc (v := x_12626) (lv' := [(5, .int x_12626), (9, .int v_12398), (8, .int v_12394), (0, .ref (ad 0 0)), (1, .int i1), (2, .int i2), (3, .int y38_3), (4, .int y38_4), (6, .int y38_6), (7, .int y38_7)]) hx hb dX12_summedUp_125 hl (k := 7) rfl (by rw [ex_12626]; rfl) (by decide) rfl (fun ls hl => ?_)
            obtain ⟨x_12627, ex_12627⟩ : ∃ z : Int32, z = y38_6 + (-1) := ⟨_, rfl⟩
            refine lv_iinc (v := x_12627) (lv' := [(6, .int x_12627), (5, .int x_12626), (9, .int v_12398), (8, .int v_12394), (0, .ref (ad 0 0)), (1, .int i1), (2, .int i2), (3, .int y38_3), (4, .int y38_4), (7, .int y38_7)]) hx hb dX12_summedUp_128 hl (k := 8) rfl (by rw [ex_12627]; rfl) (by decide) rfl (fun ls hl => ?_)
            refine lv_aload_n hx hb dX12_summedUp_131 rfl (lv_at hl 4 rfl) ?_
            refine pg_get S Y ok_X12 24 (by decide) kf12_42 (v := .ref (ad 9 0)) p_ad_0_0 rfl dX12_summedUp_132 ?_
            refine lv_iload hx hb dX12_summedUp_135 (lv_at hl 0 rfl) ?_
            obtain ⟨g_12628, p_ad_9_0, o_12629⟩ := I.opi (k := 9) (j := 0) (by decide) rfl
            have p_ad_9_0 : pt L_38 f_38 (ad 9 0) (.inl (G.2 2, 330, .inl g_12628)) := p_ad_9_0
            obtain ⟨v_12630, ev_12630⟩ : ∃ z, z = g_12628 (x_12627 : Int32).toNatClampNeg := ⟨_, rfl⟩
            refine pg_zald S Y p_ad_9_0 (vp_bn (bn_eq ex_12627 (bn_add B_12625 (show bn (-1) (-1) ((-1) : Int32) from bn_k (by decide)) (by decide))) (by decide)) dX12_summedUp_137 ?_
            refine lv_fold (z := v_12630) ev_12630.symm ?_
            refine lv_if_ne (tgt := 400) hx hb dX12_summedUp_138 (by decide) (fun c_12631 => ?_) (fun c_12631 => ?_)
            · have B_12632 : bn 1 1 v_12630 := bn_w (bn_nel c_12631 (bn_eq ev_12630 (o_12629 _)) (show bn 0 0 (0 : Int32) from bn_k (by decide))) (by decide)
              obtain ⟨x_12634, ex_12634⟩ : ∃ z : Int32, z = y38_7 + 1 := ⟨_, rfl⟩
              refine lv_iinc (v := x_12634) (lv' := [(7, .int x_12634), (6, .int x_12627), (5, .int x_12626), (9, .int v_12398), (8, .int v_12394), (0, .ref (ad 0 0)), (1, .int i1), (2, .int i2), (3, .int y38_3), (4, .int y38_4)]) hx hb dX12_summedUp_400 hl (k := 9) rfl (by rw [ex_12634]; rfl) (by decide) rfl (fun ls hl => ?_)
              refine lv_goto (tgt := 38) hx hb dX12_summedUp_403 (by decide) ?_
              have z_12636 : x_12634.toInt = (y38_7.toInt + 1) := (la_add ex_12634 (rfl : y38_7.toInt = y38_7.toInt) (show (1 : Int32).toInt = 1 from rfl) B_12389 (show bn 1 1 (1 : Int32) from bn_k (by decide)) (by decide))
              have z_12637 : x_12626.toInt = (y38_5.toInt + (-1)) := (la_add ex_12626 (rfl : y38_5.toInt = y38_5.toInt) (show ((-1) : Int32).toInt = (-1) from rfl) B_12624 (show bn (-1) (-1) ((-1) : Int32) from bn_k (by decide)) (by decide))
              have z_12638 : x_12627.toInt = (y38_6.toInt + (-1)) := (la_add ex_12627 (rfl : y38_6.toInt = y38_6.toInt) (show ((-1) : Int32).toInt = (-1) from rfl) B_12625 (show bn (-1) (-1) ((-1) : Int32) from bn_k (by decide)) (by decide))
              have z_12639 := B_12624
              have z_12640 := z_12639.1
              have z_12641 := z_12639.2
              have z_12642 := B_12625
              have z_12643 := z_12642.1
              have z_12644 := z_12642.2
              have z_12645 := B_12389
              have z_12646 := z_12645.1
              have z_12647 := z_12645.2
              have p_12635 : HT g0 (729 * i1.toNatClampNeg + 121) fr x_12634 x_12626 x_12627 := HT_nx hHT h_12401 (by omega) (by omega) (h_12622.2.2.trans (Prod.ext (by first | rfl | (dsimp only; omega) | omega) (by first | rfl | (dsimp only; omega) | omega))) (by omega) (by omega) (by omega) (by omega)
              exact ih38 _ (by rw [← hm38]; exact ms_up (m := 1) ex_12634 (show bn 1 1 (1 : Int32) from bn_k (by decide)) B_12389 (bn_w (bn_eq ex_12634 (bn_add B_12389 (show bn 1 1 (1 : Int32) from bn_k (by decide)) (by decide))) (by decide) : bn 0 303 x_12634) (by decide)) y38_3 y38_4 x_12626 x_12627 x_12634 _ _  _ _ _ I (bn_w b_y38_3 (by decide)) (bn_w b_y38_4 (by decide)) (HA_5 ⟨p_12635, (by have z9 := hX3; omega), (by have z9 := hX4; omega)⟩) (HA_6 ⟨p_12635, (by have z9 := hX3; omega), (by have z9 := hX4; omega)⟩) (HA_7 ⟨p_12635, (by have z9 := hX3; omega), (by have z9 := hX4; omega)⟩) ⟨p_12635, (by have z9 := hX3; omega), (by have z9 := hX4; omega)⟩ rfl Y (lv_sub hl [5, 6, 7, 8, 9, 2, 1, 0] rfl)
            · have B_12633 : bn 0 0 v_12630 := bn_w (bn_eq c_12631 (show bn 0 0 (0 : Int32) from bn_k (by decide))) (by decide)
              refine lv_aload_n hx hb dX12_summedUp_141 rfl (lv_at hl 4 rfl) ?_
              refine pg_get S Y ok_X12 23 (by decide) kf12_38 (v := .ref (ad 8 0)) p_ad_0_0 rfl dX12_summedUp_142 ?_
              refine lv_iload hx hb dX12_summedUp_145 (lv_at hl 1 rfl) ?_
              refine lv_iconst (v := 1) hx hb dX12_summedUp_147 (by decide) ?_
              refine lv_isub hx hb dX12_summedUp_148 ?_
              refine lv_topi (fun x_12648 ex_12648 => ?_)
              refine lv_aload_n hx hb dX12_summedUp_149 rfl (lv_at hl 4 rfl) ?_
              refine pg_get S Y ok_X12 23 (by decide) kf12_38 (v := .ref (ad 8 0)) p_ad_0_0 rfl dX12_summedUp_150 ?_
              refine lv_iload hx hb dX12_summedUp_153 (lv_at hl 1 rfl) ?_
              obtain ⟨g_12649, p_ad_8_0⟩ := I.opl (k := 8) (j := 0) (by decide) rfl
              have p_ad_8_0 : pt L_38 f_38 (ad 8 0) (.inl (G.2 1, 330, .inr (.inl g_12649))) := p_ad_8_0
              refine pg_lald S Y p_ad_8_0 (vp_bn (bn_eq ex_12626 (bn_add B_12624 (show bn (-1) (-1) ((-1) : Int32) from bn_k (by decide)) (by decide))) (by decide)) dX12_summedUp_155 ?_
              refine lv_topl (fun v_12650 ev_12650 => ?_)
              refine pg_last S Y p_ad_8_0 (vp_bn (bn_eq ex_12648 (bn_sub (bn_eq ex_12626 (bn_add B_12624 (show bn (-1) (-1) ((-1) : Int32) from bn_k (by decide)) (by decide))) (show bn 1 1 (1 : Int32) from bn_k (by decide)) (by decide))) (by decide)) dX12_summedUp_156 (fun f_12652 H locs ef_12652 Y => ?_)
              obtain ⟨g_12651, eg_12651⟩ : ∃ z, z = vp_updL (g_12649) (x_12648 : Int32).toNatClampNeg v_12650 := ⟨_, rfl⟩
              rw [← eg_12651] at ef_12652
              have p_ad_0_0 := p_ad_0_0.up ef_12652 (I.ne (k := 0) (j := 0) (k' := 8) (j' := 0) (by decide) (by decide) (Or.inl (by decide)))
              have p_ad_3_0 := p_ad_3_0.up ef_12652 (I.ne (k := 3) (j := 0) (k' := 8) (j' := 0) (by decide) (by decide) (Or.inl (by decide)))
              have p_ad_9_0 := p_ad_9_0.up ef_12652 (I.ne (k := 9) (j := 0) (k' := 8) (j' := 0) (by decide) (by decide) (Or.inl (by decide)))
              have p_ad_8_0 := p_ad_8_0.me ef_12652
              have I := I.up (k := 8) (j := 0) (by decide) ef_12652 (okE_l (g := g_12651))
              refine lv_goto (tgt := 400) hx hb dX12_summedUp_157 (by decide) ?_
              obtain ⟨x_12653, ex_12653⟩ : ∃ z : Int32, z = y38_7 + 1 := ⟨_, rfl⟩
              refine lv_iinc (v := x_12653) (lv' := [(7, .int x_12653), (6, .int x_12627), (5, .int x_12626), (9, .int v_12398), (8, .int v_12394), (0, .ref (ad 0 0)), (1, .int i1), (2, .int i2), (3, .int y38_3), (4, .int y38_4)]) hx hb dX12_summedUp_400 hl (k := 9) rfl (by rw [ex_12653]; rfl) (by decide) rfl (fun ls hl => ?_)
              refine lv_goto (tgt := 38) hx hb dX12_summedUp_403 (by decide) ?_
              have z_12655 : x_12653.toInt = (y38_7.toInt + 1) := (la_add ex_12653 (rfl : y38_7.toInt = y38_7.toInt) (show (1 : Int32).toInt = 1 from rfl) B_12389 (show bn 1 1 (1 : Int32) from bn_k (by decide)) (by decide))
              have z_12656 : x_12626.toInt = (y38_5.toInt + (-1)) := (la_add ex_12626 (rfl : y38_5.toInt = y38_5.toInt) (show ((-1) : Int32).toInt = (-1) from rfl) B_12624 (show bn (-1) (-1) ((-1) : Int32) from bn_k (by decide)) (by decide))
              have z_12657 : x_12627.toInt = (y38_6.toInt + (-1)) := (la_add ex_12627 (rfl : y38_6.toInt = y38_6.toInt) (show ((-1) : Int32).toInt = (-1) from rfl) B_12625 (show bn (-1) (-1) ((-1) : Int32) from bn_k (by decide)) (by decide))
              have z_12658 := B_12624
              have z_12659 := z_12658.1
              have z_12660 := z_12658.2
              have z_12661 := B_12625
              have z_12662 := z_12661.1
              have z_12663 := z_12661.2
              have z_12664 := B_12389
              have z_12665 := z_12664.1
              have z_12666 := z_12664.2
              have p_12654 : HT g0 (729 * i1.toNatClampNeg + 121) fr x_12653 x_12626 x_12627 := HT_nx hHT h_12401 (by omega) (by omega) (h_12622.2.2.trans (Prod.ext (by first | rfl | (dsimp only; omega) | omega) (by first | rfl | (dsimp only; omega) | omega))) (by omega) (by omega) (by omega) (by omega)
              exact ih38 _ (by rw [← hm38]; exact ms_up (m := 1) ex_12653 (show bn 1 1 (1 : Int32) from bn_k (by decide)) B_12389 (bn_w (bn_eq ex_12653 (bn_add B_12389 (show bn 1 1 (1 : Int32) from bn_k (by decide)) (by decide))) (by decide) : bn 0 303 x_12653) (by decide)) y38_3 y38_4 x_12626 x_12627 x_12653 _ _  _ _ _ I (bn_w b_y38_3 (by decide)) (bn_w b_y38_4 (by decide)) (HA_5 ⟨p_12654, (by have z9 := hX3; omega), (by have z9 := hX4; omega)⟩) (HA_6 ⟨p_12654, (by have z9 := hX3; omega), (by have z9 := hX4; omega)⟩) (HA_7 ⟨p_12654, (by have z9 := hX3; omega), (by have z9 := hX4; omega)⟩) ⟨p_12654, (by have z9 := hX3; omega), (by have z9 := hX4; omega)⟩ rfl Y (lv_sub hl [5, 6, 7, 8, 9, 2, 1, 0] rfl)
        · have B_12404 : bn (-2147483648) 1 v_12394 := bn_w (bn_ger c_12402 (show bn 1 1 (1 : Int32) from bn_k (by decide)) (bn_any v_12394)) (by decide)
          have h_12667 := sh1 h_12400 (by have h9 := B_12404.2; omega)
          have B_12668 : bn 0 1 v_12394 := ⟨h_12667.1, B_12404.2⟩
          refine lv_aload_n hx hb dX12_summedUp_87 rfl (lv_at hl 2 rfl) ?_
          refine pg_get S Y ok_X12 23 (by decide) kf12_38 (v := .ref (ad 8 0)) p_ad_0_0 rfl dX12_summedUp_88 ?_
          refine lv_iload hx hb dX12_summedUp_91 (lv_at hl 7 rfl) ?_
          refine lv_iload hx hb dX12_summedUp_93 (lv_at hl 1 rfl) ?_
          refine lv_if_ne (tgt := 104) hx hb dX12_summedUp_95 (by decide) (fun c_12669 => ?_) (fun c_12669 => ?_)
          · have B_12670 : bn 1 1 v_12394 := bn_w (bn_nel c_12669 B_12668 (show bn 0 0 (0 : Int32) from bn_k (by decide))) (by decide)
            have h_12672 := h_12667.2.1 (by have h9 := B_12670; exact Int.le_antisymm h9.2 h9.1)
            have B_12673 : bn 0 9 v_12398 := ⟨h_12672.1, h_12672.2⟩
            refine lv_aload_n hx hb dX12_summedUp_104 rfl (lv_at hl 2 rfl) ?_
            refine pg_get S Y ok_X12 22 (by decide) kf12_35 (v := .ref (ad 7 0)) p_ad_0_0 rfl dX12_summedUp_105 ?_
            refine lv_iload hx hb dX12_summedUp_108 (lv_at hl 0 rfl) ?_
            obtain ⟨g_12674, p_ad_7_0, o_12675⟩ := I.opi (k := 7) (j := 0) (by decide) rfl
            have p_ad_7_0 : pt L_38 f_38 (ad 7 0) (.inl (G.2 0, 10, .inl g_12674)) := p_ad_7_0
            obtain ⟨v_12676, ev_12676⟩ : ∃ z, z = g_12674 (v_12398 : Int32).toNatClampNeg := ⟨_, rfl⟩
            refine pg_iald S Y (v := v_12676) p_ad_7_0 (vp_bn B_12673 (by decide)) ev_12676.symm dX12_summedUp_110 ?_
            refine lv_i2l hx hb dX12_summedUp_111 rfl ?_
            refine lv_topl (fun x_12677 ex_12677 => ?_)
            obtain ⟨g_12678, p_ad_8_0⟩ := I.opl (k := 8) (j := 0) (by decide) rfl
            have p_ad_8_0 : pt L_38 f_38 (ad 8 0) (.inl (G.2 1, 330, .inr (.inl g_12678))) := p_ad_8_0
            refine pg_last S Y p_ad_8_0 (vp_bn B_12390 (by decide)) dX12_summedUp_112 (fun f_12680 H locs ef_12680 Y => ?_)
            obtain ⟨g_12679, eg_12679⟩ : ∃ z, z = vp_updL (g_12678) (y38_5 : Int32).toNatClampNeg x_12677 := ⟨_, rfl⟩
            rw [← eg_12679] at ef_12680
            have p_ad_0_0 := p_ad_0_0.up ef_12680 (I.ne (k := 0) (j := 0) (k' := 8) (j' := 0) (by decide) (by decide) (Or.inl (by decide)))
            have p_ad_3_0 := p_ad_3_0.up ef_12680 (I.ne (k := 3) (j := 0) (k' := 8) (j' := 0) (by decide) (by decide) (Or.inl (by decide)))
            have p_ad_7_0 := p_ad_7_0.up ef_12680 (I.ne (k := 7) (j := 0) (k' := 8) (j' := 0) (by decide) (by decide) (Or.inl (by decide)))
            have p_ad_8_0 := p_ad_8_0.me ef_12680
            have I := I.up (k := 8) (j := 0) (by decide) ef_12680 (okE_l (g := g_12679))
            obtain ⟨x_12681, ex_12681⟩ : ∃ z : Int32, z = y38_5 + 1 := ⟨_, rfl⟩
            refine lv_iinc (v := x_12681) (lv' := [(5, .int x_12681), (9, .int v_12398), (8, .int v_12394), (0, .ref (ad 0 0)), (1, .int i1), (2, .int i2), (3, .int y38_3), (4, .int y38_4), (6, .int y38_6), (7, .int y38_7)]) hx hb dX12_summedUp_113 hl (k := 7) rfl (by rw [ex_12681]; rfl) (by decide) rfl (fun ls hl => ?_)
            refine lv_goto (tgt := 400) hx hb dX12_summedUp_116 (by decide) ?_
            obtain ⟨x_12682, ex_12682⟩ : ∃ z : Int32, z = y38_7 + 1 := ⟨_, rfl⟩
            refine lv_iinc (v := x_12682) (lv' := [(7, .int x_12682), (5, .int x_12681), (9, .int v_12398), (8, .int v_12394), (0, .ref (ad 0 0)), (1, .int i1), (2, .int i2), (3, .int y38_3), (4, .int y38_4), (6, .int y38_6)]) hx hb dX12_summedUp_400 hl (k := 9) rfl (by rw [ex_12682]; rfl) (by decide) rfl (fun ls hl => ?_)
            refine lv_goto (tgt := 38) hx hb dX12_summedUp_403 (by decide) ?_
            have z_12684 : x_12682.toInt = (y38_7.toInt + 1) := (la_add ex_12682 (rfl : y38_7.toInt = y38_7.toInt) (show (1 : Int32).toInt = 1 from rfl) B_12389 (show bn 1 1 (1 : Int32) from bn_k (by decide)) (by decide))
            have z_12685 : x_12681.toInt = (y38_5.toInt + 1) := (la_add ex_12681 (rfl : y38_5.toInt = y38_5.toInt) (show (1 : Int32).toInt = 1 from rfl) B_12390 (show bn 1 1 (1 : Int32) from bn_k (by decide)) (by decide))
            have z_12686 : y38_6.toInt = y38_6.toInt := (rfl : y38_6.toInt = y38_6.toInt)
            have z_12687 := B_12390
            have z_12688 := z_12687.1
            have z_12689 := z_12687.2
            have z_12690 := B_12391
            have z_12691 := z_12690.1
            have z_12692 := z_12690.2
            have z_12693 := B_12389
            have z_12694 := z_12693.1
            have z_12695 := z_12693.2
            have p_12683 : HT g0 (729 * i1.toNatClampNeg + 121) fr x_12682 x_12681 y38_6 := HT_nx hHT h_12401 (by omega) (by omega) (h_12667.2.2.trans (Prod.ext (by first | rfl | (dsimp only; omega) | omega) (by first | rfl | (dsimp only; omega) | omega))) (by omega) (by omega) (by omega) (by omega)
            exact ih38 _ (by rw [← hm38]; exact ms_up (m := 1) ex_12682 (show bn 1 1 (1 : Int32) from bn_k (by decide)) B_12389 (bn_w (bn_eq ex_12682 (bn_add B_12389 (show bn 1 1 (1 : Int32) from bn_k (by decide)) (by decide))) (by decide) : bn 0 303 x_12682) (by decide)) y38_3 y38_4 x_12681 y38_6 x_12682 _ _  _ _ _ I (bn_w b_y38_3 (by decide)) (bn_w b_y38_4 (by decide)) (HA_5 ⟨p_12683, (by have z9 := hX3; omega), (by have z9 := hX4; omega)⟩) (HA_6 ⟨p_12683, (by have z9 := hX3; omega), (by have z9 := hX4; omega)⟩) (HA_7 ⟨p_12683, (by have z9 := hX3; omega), (by have z9 := hX4; omega)⟩) ⟨p_12683, (by have z9 := hX3; omega), (by have z9 := hX4; omega)⟩ rfl Y (lv_sub hl [4, 5, 6, 7, 8, 1, 9, 0] rfl)
          · have B_12671 : bn 0 0 v_12394 := bn_w (bn_eq c_12669 (show bn 0 0 (0 : Int32) from bn_k (by decide))) (by decide)
            refine lv_iload hx hb dX12_summedUp_98 (lv_at hl 0 rfl) ?_
            refine lv_i2l hx hb dX12_summedUp_100 rfl ?_
            refine lv_topl (fun x_12696 ex_12696 => ?_)
            refine lv_goto (tgt := 112) hx hb dX12_summedUp_101 (by decide) ?_
            obtain ⟨g_12697, p_ad_8_0⟩ := I.opl (k := 8) (j := 0) (by decide) rfl
            have p_ad_8_0 : pt L_38 f_38 (ad 8 0) (.inl (G.2 1, 330, .inr (.inl g_12697))) := p_ad_8_0
            refine pg_last S Y p_ad_8_0 (vp_bn B_12390 (by decide)) dX12_summedUp_112 (fun f_12699 H locs ef_12699 Y => ?_)
            obtain ⟨g_12698, eg_12698⟩ : ∃ z, z = vp_updL (g_12697) (y38_5 : Int32).toNatClampNeg x_12696 := ⟨_, rfl⟩
            rw [← eg_12698] at ef_12699
            have p_ad_0_0 := p_ad_0_0.up ef_12699 (I.ne (k := 0) (j := 0) (k' := 8) (j' := 0) (by decide) (by decide) (Or.inl (by decide)))
            have p_ad_3_0 := p_ad_3_0.up ef_12699 (I.ne (k := 3) (j := 0) (k' := 8) (j' := 0) (by decide) (by decide) (Or.inl (by decide)))
            have p_ad_8_0 := p_ad_8_0.me ef_12699
            have I := I.up (k := 8) (j := 0) (by decide) ef_12699 (okE_l (g := g_12698))
            obtain ⟨x_12700, ex_12700⟩ : ∃ z : Int32, z = y38_5 + 1 := ⟨_, rfl⟩
            refine lv_iinc (v := x_12700) (lv' := [(5, .int x_12700), (9, .int v_12398), (8, .int v_12394), (0, .ref (ad 0 0)), (1, .int i1), (2, .int i2), (3, .int y38_3), (4, .int y38_4), (6, .int y38_6), (7, .int y38_7)]) hx hb dX12_summedUp_113 hl (k := 7) rfl (by rw [ex_12700]; rfl) (by decide) rfl (fun ls hl => ?_)
            refine lv_goto (tgt := 400) hx hb dX12_summedUp_116 (by decide) ?_
            obtain ⟨x_12701, ex_12701⟩ : ∃ z : Int32, z = y38_7 + 1 := ⟨_, rfl⟩
            refine lv_iinc (v := x_12701) (lv' := [(7, .int x_12701), (5, .int x_12700), (9, .int v_12398), (8, .int v_12394), (0, .ref (ad 0 0)), (1, .int i1), (2, .int i2), (3, .int y38_3), (4, .int y38_4), (6, .int y38_6)]) hx hb dX12_summedUp_400 hl (k := 9) rfl (by rw [ex_12701]; rfl) (by decide) rfl (fun ls hl => ?_)
            refine lv_goto (tgt := 38) hx hb dX12_summedUp_403 (by decide) ?_
            have z_12703 : x_12701.toInt = (y38_7.toInt + 1) := (la_add ex_12701 (rfl : y38_7.toInt = y38_7.toInt) (show (1 : Int32).toInt = 1 from rfl) B_12389 (show bn 1 1 (1 : Int32) from bn_k (by decide)) (by decide))
            have z_12704 : x_12700.toInt = (y38_5.toInt + 1) := (la_add ex_12700 (rfl : y38_5.toInt = y38_5.toInt) (show (1 : Int32).toInt = 1 from rfl) B_12390 (show bn 1 1 (1 : Int32) from bn_k (by decide)) (by decide))
            have z_12705 : y38_6.toInt = y38_6.toInt := (rfl : y38_6.toInt = y38_6.toInt)
            have z_12706 := B_12390
            have z_12707 := z_12706.1
            have z_12708 := z_12706.2
            have z_12709 := B_12391
            have z_12710 := z_12709.1
            have z_12711 := z_12709.2
            have z_12712 := B_12389
            have z_12713 := z_12712.1
            have z_12714 := z_12712.2
            have p_12702 : HT g0 (729 * i1.toNatClampNeg + 121) fr x_12701 x_12700 y38_6 := HT_nx hHT h_12401 (by omega) (by omega) (h_12667.2.2.trans (Prod.ext (by first | rfl | (dsimp only; omega) | omega) (by first | rfl | (dsimp only; omega) | omega))) (by omega) (by omega) (by omega) (by omega)
            exact ih38 _ (by rw [← hm38]; exact ms_up (m := 1) ex_12701 (show bn 1 1 (1 : Int32) from bn_k (by decide)) B_12389 (bn_w (bn_eq ex_12701 (bn_add B_12389 (show bn 1 1 (1 : Int32) from bn_k (by decide)) (by decide))) (by decide) : bn 0 303 x_12701) (by decide)) y38_3 y38_4 x_12700 y38_6 x_12701 _ _  _ _ _ I (bn_w b_y38_3 (by decide)) (bn_w b_y38_4 (by decide)) (HA_5 ⟨p_12702, (by have z9 := hX3; omega), (by have z9 := hX4; omega)⟩) (HA_6 ⟨p_12702, (by have z9 := hX3; omega), (by have z9 := hX4; omega)⟩) (HA_7 ⟨p_12702, (by have z9 := hX3; omega), (by have z9 := hX4; omega)⟩) ⟨p_12702, (by have z9 := hX3; omega), (by have z9 := hX4; omega)⟩ rfl Y (lv_sub hl [4, 5, 6, 7, 8, 1, 9, 0] rfl)
  refine lv_sipush (v := 729) hx hb dX12_summedUp_0 (by decide) ?_
  refine lv_iload_n hx hb dX12_summedUp_3 rfl (lv_at hl 1 rfl) ?_
  refine lv_imul hx hb dX12_summedUp_4 ?_
  refine lv_topi (fun x_12715 ex_12715 => ?_)
  refine lv_iconst (v := 1) hx hb dX12_summedUp_5 (by decide) ?_
  refine lv_iadd hx hb dX12_summedUp_6 ?_
  refine lv_topi (fun x_12716 ex_12716 => ?_)
  refine lv_iconst (v := 5) hx hb dX12_summedUp_7 (by decide) ?_
  refine lv_iload_n hx hb dX12_summedUp_8 rfl (lv_at hl 2 rfl) ?_
  refine lv_imul hx hb dX12_summedUp_9 ?_
  refine lv_topi (fun x_12717 ex_12717 => ?_)
  refine lv_iadd hx hb dX12_summedUp_10 ?_
  refine lv_topi (fun x_12718 ex_12718 => ?_)
  have B_12719 : bn 1 2303 x_12718 := bn_w (bn_eq ex_12718 (bn_add (bn_eq ex_12716 (bn_add (bn_eq ex_12715 (bn_mul (show bn 729 729 (729 : Int32) from bn_k (by decide)) b_i1 (by decide))) (show bn 1 1 (1 : Int32) from bn_k (by decide)) (by decide))) (bn_eq ex_12717 (bn_mul (show bn 5 5 (5 : Int32) from bn_k (by decide)) b_i2 (by decide))) (by decide))) (by decide)
  refine lv_istore_n (lv' := [(3, .int x_12718), (0, .ref (ad 0 0)), (1, .int i1), (2, .int i2)]) hx hb dX12_summedUp_11 rfl hl (by decide) rfl (fun ls hl => ?_)
  refine lv_sipush (v := 729) hx hb dX12_summedUp_12 (by decide) ?_
  refine lv_iload_n hx hb dX12_summedUp_15 rfl (lv_at hl 2 rfl) ?_
  refine lv_imul hx hb dX12_summedUp_16 ?_
  refine lv_topi (fun x_12720 ex_12720 => ?_)
  refine lv_bipush (v := 121) hx hb dX12_summedUp_17 (by decide) ?_
  refine lv_iadd hx hb dX12_summedUp_19 ?_
  refine lv_topi (fun x_12721 ex_12721 => ?_)
  refine lv_istore (lv' := [(4, .int x_12721), (3, .int x_12718), (0, .ref (ad 0 0)), (1, .int i1), (2, .int i2)]) hx hb dX12_summedUp_20 hl (by decide) rfl (fun ls hl => ?_)
  refine lv_iconst (v := 0) hx hb dX12_summedUp_22 (by decide) ?_
  refine lv_istore (lv' := [(5, .int 0), (4, .int x_12721), (3, .int x_12718), (0, .ref (ad 0 0)), (1, .int i1), (2, .int i2)]) hx hb dX12_summedUp_23 hl (by decide) rfl (fun ls hl => ?_)
  refine lv_iconst (v := 0) hx hb dX12_summedUp_25 (by decide) ?_
  refine lv_istore (lv' := [(6, .int 0), (5, .int 0), (4, .int x_12721), (3, .int x_12718), (0, .ref (ad 0 0)), (1, .int i1), (2, .int i2)]) hx hb dX12_summedUp_26 hl (by decide) rfl (fun ls hl => ?_)
  refine lv_aload_n hx hb dX12_summedUp_28 rfl (lv_at hl 4 rfl) ?_
  obtain ⟨v_12722, v_12724, v_12726, v_12728, v_12730, v_12732, v_12734, v_12736, v_12737, v_12739, v_12741, v_12743, v_12745, v_12747, v_12749, v_12751, v_12753, v_12755, p_ad_0_0, b_12723, b_12725, b_12727, b_12729, b_12731, b_12733, b_12735, b_12738, b_12740, b_12742, b_12744, b_12746, b_12748, b_12750, b_12752, b_12754, b_12756⟩ := opnM_0 (j := 0) I (by decide)
  have p_ad_0_0 : pt L f (ad 0 0) (.inr (12, [.ref (ad 1 0), .ref (ad 2 0), .ref (ad 3 0), .ref (ad 4 0), .int v_12722, .int v_12724, .int v_12726, .int v_12728, .int v_12730, .int v_12732, .int v_12734, .long v_12736, .int v_12737, .int v_12739, .int v_12741, .ref (ad 5 0), .ref (ad 6 0), .int v_12743, .int v_12745, .int v_12747, .int v_12749, .int v_12751, .ref (ad 7 0), .ref (ad 8 0), .ref (ad 9 0), .int v_12753, .ref (ad 10 0), .ref (ad 11 0), .ref (ad 12 0), .ref (ad 13 0), .int v_12755, .ref (ad 14 0)])) := p_ad_0_0
  refine pg_get S Y ok_X12 2 (by decide) kf12_16 (v := .ref (ad 3 0)) p_ad_0_0 rfl dX12_summedUp_29 ?_
  refine lv_iload_n hx hb dX12_summedUp_32 rfl (lv_at hl 3 rfl) ?_
  refine lv_iconst (v := 1) hx hb dX12_summedUp_33 (by decide) ?_
  refine lv_iadd hx hb dX12_summedUp_34 ?_
  refine lv_topi (fun x_12757 ex_12757 => ?_)
  obtain ⟨g_12758, p_ad_3_0, o_12759⟩ := I.opi (k := 3) (j := 0) (by decide) rfl
  have p_ad_3_0 : pt L f (ad 3 0) (.inl (G.2 0, 2916, .inl g_12758)) := p_ad_3_0
  obtain ⟨v_12760, ev_12760⟩ : ∃ z, z = g_12758 (x_12757 : Int32).toNatClampNeg := ⟨_, rfl⟩
  refine pg_iald S Y (v := v_12760) p_ad_3_0 (vp_bn (bn_eq ex_12757 (bn_add B_12719 (show bn 1 1 (1 : Int32) from bn_k (by decide)) (by decide))) (by decide)) ev_12760.symm dX12_summedUp_35 ?_
  have tv_12760 : v_12760 = g0 (x_12757 : Int32).toNatClampNeg := by rw [ev_12760, show g_12758 = g0 from o_12759]
  refine lv_fold (z := fr) (by rw [tv_12760, show (x_12757 : Int32).toNatClampNeg = 729 * i1.toNatClampNeg + 1 + 5 * i2.toNatClampNeg + 1 from (by have z9 := (la_add ex_12757 (la_add ex_12718 (la_add ex_12716 (la_mul ex_12715 (show (729 : Int32).toInt = 729 from rfl) (rfl : i1.toInt = i1.toInt) (show bn 729 729 (729 : Int32) from bn_k (by decide)) b_i1 (by decide)) (show (1 : Int32).toInt = 1 from rfl) (bn_eq ex_12715 (bn_mul (show bn 729 729 (729 : Int32) from bn_k (by decide)) b_i1 (by decide))) (show bn 1 1 (1 : Int32) from bn_k (by decide)) (by decide)) (la_mul ex_12717 (show (5 : Int32).toInt = 5 from rfl) (rfl : i2.toInt = i2.toInt) (show bn 5 5 (5 : Int32) from bn_k (by decide)) b_i2 (by decide)) (bn_eq ex_12716 (bn_add (bn_eq ex_12715 (bn_mul (show bn 729 729 (729 : Int32) from bn_k (by decide)) b_i1 (by decide))) (show bn 1 1 (1 : Int32) from bn_k (by decide)) (by decide))) (bn_eq ex_12717 (bn_mul (show bn 5 5 (5 : Int32) from bn_k (by decide)) b_i2 (by decide))) (by decide)) (show (1 : Int32).toInt = 1 from rfl) B_12719 (show bn 1 1 (1 : Int32) from bn_k (by decide)) (by decide)); have z0 := b_i1.1; have z1 := b_i2.1; simp only [tnc]; omega)]; exact hfr) ?_
  refine lv_istore (lv' := [(7, .int fr), (6, .int 0), (5, .int 0), (4, .int x_12721), (3, .int x_12718), (0, .ref (ad 0 0)), (1, .int i1), (2, .int i2)]) hx hb dX12_summedUp_36 hl (by decide) rfl (fun ls hl => ?_)
  exact J_38 _ x_12718 x_12721 0 0 fr _ _  _ _ _ I (bn_w B_12719 (by decide)) (bn_w (bn_eq ex_12721 (bn_add (bn_eq ex_12720 (bn_mul (show bn 729 729 (729 : Int32) from bn_k (by decide)) b_i1 (by decide))) (show bn 121 121 (121 : Int32) from bn_k (by decide)) (by decide))) (by decide)) (HA_6 ⟨HT_0 hWF, (by have z9 := (la_add ex_12718 (la_add ex_12716 (la_mul ex_12715 (show (729 : Int32).toInt = 729 from rfl) (rfl : i1.toInt = i1.toInt) (show bn 729 729 (729 : Int32) from bn_k (by decide)) b_i1 (by decide)) (show (1 : Int32).toInt = 1 from rfl) (bn_eq ex_12715 (bn_mul (show bn 729 729 (729 : Int32) from bn_k (by decide)) b_i1 (by decide))) (show bn 1 1 (1 : Int32) from bn_k (by decide)) (by decide)) (la_mul ex_12717 (show (5 : Int32).toInt = 5 from rfl) (rfl : i2.toInt = i2.toInt) (show bn 5 5 (5 : Int32) from bn_k (by decide)) b_i2 (by decide)) (bn_eq ex_12716 (bn_add (bn_eq ex_12715 (bn_mul (show bn 729 729 (729 : Int32) from bn_k (by decide)) b_i1 (by decide))) (show bn 1 1 (1 : Int32) from bn_k (by decide)) (by decide))) (bn_eq ex_12717 (bn_mul (show bn 5 5 (5 : Int32) from bn_k (by decide)) b_i2 (by decide))) (by decide)); omega), (by have z9 := (la_add ex_12721 (la_mul ex_12720 (show (729 : Int32).toInt = 729 from rfl) (rfl : i1.toInt = i1.toInt) (show bn 729 729 (729 : Int32) from bn_k (by decide)) b_i1 (by decide)) (show (121 : Int32).toInt = 121 from rfl) (bn_eq ex_12720 (bn_mul (show bn 729 729 (729 : Int32) from bn_k (by decide)) b_i1 (by decide))) (show bn 121 121 (121 : Int32) from bn_k (by decide)) (by decide)); omega)⟩) (HA_6 ⟨HT_0 hWF, (by have z9 := (la_add ex_12718 (la_add ex_12716 (la_mul ex_12715 (show (729 : Int32).toInt = 729 from rfl) (rfl : i1.toInt = i1.toInt) (show bn 729 729 (729 : Int32) from bn_k (by decide)) b_i1 (by decide)) (show (1 : Int32).toInt = 1 from rfl) (bn_eq ex_12715 (bn_mul (show bn 729 729 (729 : Int32) from bn_k (by decide)) b_i1 (by decide))) (show bn 1 1 (1 : Int32) from bn_k (by decide)) (by decide)) (la_mul ex_12717 (show (5 : Int32).toInt = 5 from rfl) (rfl : i2.toInt = i2.toInt) (show bn 5 5 (5 : Int32) from bn_k (by decide)) b_i2 (by decide)) (bn_eq ex_12716 (bn_add (bn_eq ex_12715 (bn_mul (show bn 729 729 (729 : Int32) from bn_k (by decide)) b_i1 (by decide))) (show bn 1 1 (1 : Int32) from bn_k (by decide)) (by decide))) (bn_eq ex_12717 (bn_mul (show bn 5 5 (5 : Int32) from bn_k (by decide)) b_i2 (by decide))) (by decide)); omega), (by have z9 := (la_add ex_12721 (la_mul ex_12720 (show (729 : Int32).toInt = 729 from rfl) (rfl : i1.toInt = i1.toInt) (show bn 729 729 (729 : Int32) from bn_k (by decide)) b_i1 (by decide)) (show (121 : Int32).toInt = 121 from rfl) (bn_eq ex_12720 (bn_mul (show bn 729 729 (729 : Int32) from bn_k (by decide)) b_i1 (by decide))) (show bn 121 121 (121 : Int32) from bn_k (by decide)) (by decide)); omega)⟩) (HA_7 ⟨HT_0 hWF, (by have z9 := (la_add ex_12718 (la_add ex_12716 (la_mul ex_12715 (show (729 : Int32).toInt = 729 from rfl) (rfl : i1.toInt = i1.toInt) (show bn 729 729 (729 : Int32) from bn_k (by decide)) b_i1 (by decide)) (show (1 : Int32).toInt = 1 from rfl) (bn_eq ex_12715 (bn_mul (show bn 729 729 (729 : Int32) from bn_k (by decide)) b_i1 (by decide))) (show bn 1 1 (1 : Int32) from bn_k (by decide)) (by decide)) (la_mul ex_12717 (show (5 : Int32).toInt = 5 from rfl) (rfl : i2.toInt = i2.toInt) (show bn 5 5 (5 : Int32) from bn_k (by decide)) b_i2 (by decide)) (bn_eq ex_12716 (bn_add (bn_eq ex_12715 (bn_mul (show bn 729 729 (729 : Int32) from bn_k (by decide)) b_i1 (by decide))) (show bn 1 1 (1 : Int32) from bn_k (by decide)) (by decide))) (bn_eq ex_12717 (bn_mul (show bn 5 5 (5 : Int32) from bn_k (by decide)) b_i2 (by decide))) (by decide)); omega), (by have z9 := (la_add ex_12721 (la_mul ex_12720 (show (729 : Int32).toInt = 729 from rfl) (rfl : i1.toInt = i1.toInt) (show bn 729 729 (729 : Int32) from bn_k (by decide)) b_i1 (by decide)) (show (121 : Int32).toInt = 121 from rfl) (bn_eq ex_12720 (bn_mul (show bn 729 729 (729 : Int32) from bn_k (by decide)) b_i1 (by decide))) (show bn 121 121 (121 : Int32) from bn_k (by decide)) (by decide)); omega)⟩) ⟨HT_0 hWF, (by have z9 := (la_add ex_12718 (la_add ex_12716 (la_mul ex_12715 (show (729 : Int32).toInt = 729 from rfl) (rfl : i1.toInt = i1.toInt) (show bn 729 729 (729 : Int32) from bn_k (by decide)) b_i1 (by decide)) (show (1 : Int32).toInt = 1 from rfl) (bn_eq ex_12715 (bn_mul (show bn 729 729 (729 : Int32) from bn_k (by decide)) b_i1 (by decide))) (show bn 1 1 (1 : Int32) from bn_k (by decide)) (by decide)) (la_mul ex_12717 (show (5 : Int32).toInt = 5 from rfl) (rfl : i2.toInt = i2.toInt) (show bn 5 5 (5 : Int32) from bn_k (by decide)) b_i2 (by decide)) (bn_eq ex_12716 (bn_add (bn_eq ex_12715 (bn_mul (show bn 729 729 (729 : Int32) from bn_k (by decide)) b_i1 (by decide))) (show bn 1 1 (1 : Int32) from bn_k (by decide)) (by decide))) (bn_eq ex_12717 (bn_mul (show bn 5 5 (5 : Int32) from bn_k (by decide)) b_i2 (by decide))) (by decide)); omega), (by have z9 := (la_add ex_12721 (la_mul ex_12720 (show (729 : Int32).toInt = 729 from rfl) (rfl : i1.toInt = i1.toInt) (show bn 729 729 (729 : Int32) from bn_k (by decide)) b_i1 (by decide)) (show (121 : Int32).toInt = 121 from rfl) (bn_eq ex_12720 (bn_mul (show bn 729 729 (729 : Int32) from bn_k (by decide)) b_i1 (by decide))) (show bn 121 121 (121 : Int32) from bn_k (by decide)) (by decide)); omega)⟩ rfl Y (lv_sub hl [5, 6, 7, 4, 3, 2, 1, 0] rfl)
