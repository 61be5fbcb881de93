theorem dX12_isJustOne_0 : decode cX12_isJustOne 0 = .ok (.iconst 0, 1) := by decide +kernel
theorem dX12_isJustOne_1 : decode cX12_isJustOne 1 = .ok (.istore_n 3, 1) := by decide +kernel
theorem dX12_isJustOne_2 : decode cX12_isJustOne 2 = .ok (.iconst 0, 1) := by decide +kernel
theorem dX12_isJustOne_3 : decode cX12_isJustOne 3 = .ok (.istore 4, 2) := by decide +kernel
theorem dX12_isJustOne_5 : decode cX12_isJustOne 5 = .ok (.iload 4, 2) := by decide +kernel
theorem dX12_isJustOne_7 : decode cX12_isJustOne 7 = .ok (.iload_n 2, 1) := by decide +kernel
theorem dX12_isJustOne_8 : decode cX12_isJustOne 8 = .ok (.if_icmp .ge 29, 3) := by decide +kernel
theorem dX12_isJustOne_37 : decode cX12_isJustOne 37 = .ok (.iload_n 3, 1) := by decide +kernel
theorem dX12_isJustOne_38 : decode cX12_isJustOne 38 = .ok (.iconst 1, 1) := by decide +kernel
theorem dX12_isJustOne_39 : decode cX12_isJustOne 39 = .ok (.if_icmp .ne 7, 3) := by decide +kernel
theorem dX12_isJustOne_46 : decode cX12_isJustOne 46 = .ok (.iconst 0, 1) := by decide +kernel
theorem dX12_isJustOne_47 : decode cX12_isJustOne 47 = .ok (.ireturn, 1) := by decide +kernel
theorem dX12_isJustOne_11 : decode cX12_isJustOne 11 = .ok (.iload_n 3, 1) := by decide +kernel
theorem dX12_isJustOne_12 : decode cX12_isJustOne 12 = .ok (.aload_n 0, 1) := by decide +kernel
theorem dX12_isJustOne_13 : decode cX12_isJustOne 13 = .ok (.getfield 42, 3) := by decide +kernel
theorem kf12_42 : inW (Cond.fieldLink RX12 42 "KneeOathsModel" "truth" "[Z") := ⟨List.mem_of_getElem? (i := 1522) (by decide +kernel), by decide +kernel⟩
theorem dX12_isJustOne_16 : decode cX12_isJustOne 16 = .ok (.iload_n 1, 1) := by decide +kernel
theorem dX12_isJustOne_17 : decode cX12_isJustOne 17 = .ok (.iload 4, 2) := by decide +kernel
theorem dX12_isJustOne_19 : decode cX12_isJustOne 19 = .ok (.iadd, 1) := by decide +kernel
theorem dX12_isJustOne_20 : decode cX12_isJustOne 20 = .ok (.baload, 1) := by decide +kernel
theorem dX12_isJustOne_21 : decode cX12_isJustOne 21 = .ok (.ifCond .eq 7, 3) := by decide +kernel
theorem dX12_isJustOne_28 : decode cX12_isJustOne 28 = .ok (.iconst 0, 1) := by decide +kernel
theorem dX12_isJustOne_29 : decode cX12_isJustOne 29 = .ok (.iadd, 1) := by decide +kernel
theorem dX12_isJustOne_30 : decode cX12_isJustOne 30 = .ok (.istore_n 3, 1) := by decide +kernel
theorem dX12_isJustOne_31 : decode cX12_isJustOne 31 = .ok (.iinc 4 1, 3) := by decide +kernel
theorem dX12_isJustOne_34 : decode cX12_isJustOne 34 = .ok (.goto (-29), 3) := by decide +kernel
theorem dX12_isJustOne_24 : decode cX12_isJustOne 24 = .ok (.iconst 1, 1) := by decide +kernel
theorem dX12_isJustOne_25 : decode cX12_isJustOne 25 = .ok (.goto 4, 3) := by decide +kernel
theorem dX12_isJustOne_42 : decode cX12_isJustOne 42 = .ok (.iconst 1, 1) := by decide +kernel
theorem dX12_isJustOne_43 : decode cX12_isJustOne 43 = .ok (.goto 4, 3) := by decide +kernel
theorem dX12_clip_0 : decode cX12_clip 0 = .ok (.lload_n 0, 1) := by decide +kernel
theorem dX12_clip_1 : decode cX12_clip 1 = .ok (.ldc2_w 257, 3) := by decide +kernel
theorem kl12_257 : inW (Cond.constantLong RX12 257 (1000000)) := ⟨List.mem_of_getElem? (i := 1874) (by decide +kernel), by decide +kernel⟩
theorem dX12_clip_4 : decode cX12_clip 4 = .ok (.lcmp, 1) := by decide +kernel
theorem dX12_clip_5 : decode cX12_clip 5 = .ok (.ifCond .le 9, 3) := by decide +kernel
theorem dX12_clip_14 : decode cX12_clip 14 = .ok (.lload_n 0, 1) := by decide +kernel
theorem dX12_clip_15 : decode cX12_clip 15 = .ok (.ldc2_w 259, 3) := by decide +kernel
theorem kl12_259 : inW (Cond.constantLong RX12 259 (-1000000)) := ⟨List.mem_of_getElem? (i := 1875) (by decide +kernel), by decide +kernel⟩
theorem dX12_clip_18 : decode cX12_clip 18 = .ok (.lcmp, 1) := by decide +kernel
theorem dX12_clip_19 : decode cX12_clip 19 = .ok (.ifCond .ge 9, 3) := by decide +kernel
theorem dX12_clip_28 : decode cX12_clip 28 = .ok (.lload_n 0, 1) := by decide +kernel
theorem dX12_clip_29 : decode cX12_clip 29 = .ok (.lreturn, 1) := by decide +kernel
theorem dX12_clip_22 : decode cX12_clip 22 = .ok (.ldc2_w 259, 3) := by decide +kernel
theorem dX12_clip_25 : decode cX12_clip 25 = .ok (.goto 4, 3) := by decide +kernel
theorem dX12_clip_8 : decode cX12_clip 8 = .ok (.ldc2_w 257, 3) := by decide +kernel
theorem dX12_clip_11 : decode cX12_clip 11 = .ok (.goto 18, 3) := by decide +kernel
theorem dX12_two_0 : decode cX12_two 0 = .ok (.iload_n 0, 1) := by decide +kernel
theorem dX12_two_1 : decode cX12_two 1 = .ok (.tableswitch 48 6 8 #[27, 34, 41], 27) := by decide +kernel
theorem swM_6_8 (x : Int32) : x = 6 ∨ x = 7 ∨ x = 8 ∨ (x.toInt < 6 ∨ 8 < x.toInt) := by
  have key : ∀ k : Int32, x.toInt = k.toInt → x = k := fun k h => Int32.toInt_inj.mp h
  by_cases h1 : x.toInt < 6
  · simp [h1]
  by_cases h2 : 8 < x.toInt
  · simp [h2]
  have h3 : x.toInt = 6 ∨ x.toInt = 7 ∨ x.toInt = 8 := by omega
  rcases h3 with h | h | h
  · rw [key 6 (h.trans (by decide))]; decide
  · rw [key 7 (h.trans (by decide))]; decide
  · rw [key 8 (h.trans (by decide))]; decide
theorem dX12_two_28 : decode cX12_two 28 = .ok (.lload_n 1, 1) := by decide +kernel
theorem dX12_two_29 : decode cX12_two 29 = .ok (.lload_n 3, 1) := by decide +kernel
theorem dX12_two_30 : decode cX12_two 30 = .ok (.ladd, 1) := by decide +kernel
theorem dX12_two_31 : decode cX12_two 31 = .ok (.invokestatic 261, 3) := by decide +kernel
theorem cw_X12_clip : CWs yX12_clip cX12_clip 2 (some .long) 1 := ⟨⟨⟨List.mem_of_getElem? (i := 137) (by decide +kernel), by decide +kernel⟩, ⟨List.mem_of_getElem? (i := 1873) (by decide +kernel), by decide +kernel⟩, by decide +kernel⟩, ⟨List.mem_of_getElem? (i := 1872) (by decide +kernel), by decide +kernel⟩⟩
theorem km12_261 : inW (Cond.methodLink RX12 261 yX12_clip) := ⟨List.mem_of_getElem? (i := 1871) (by decide +kernel), by decide +kernel⟩
theorem dX12_two_34 : decode cX12_two 34 = .ok (.lreturn, 1) := by decide +kernel
theorem dX12_two_35 : decode cX12_two 35 = .ok (.lload_n 1, 1) := by decide +kernel
theorem dX12_two_36 : decode cX12_two 36 = .ok (.lload_n 3, 1) := by decide +kernel
theorem dX12_two_37 : decode cX12_two 37 = .ok (.lsub, 1) := by decide +kernel
theorem dX12_two_38 : decode cX12_two 38 = .ok (.invokestatic 261, 3) := by decide +kernel
theorem dX12_two_41 : decode cX12_two 41 = .ok (.lreturn, 1) := by decide +kernel
theorem dX12_two_42 : decode cX12_two 42 = .ok (.lload_n 1, 1) := by decide +kernel
theorem dX12_two_43 : decode cX12_two 43 = .ok (.lload_n 3, 1) := by decide +kernel
theorem dX12_two_44 : decode cX12_two 44 = .ok (.lmul, 1) := by decide +kernel
theorem dX12_two_45 : decode cX12_two 45 = .ok (.invokestatic 261, 3) := by decide +kernel
theorem dX12_two_48 : decode cX12_two 48 = .ok (.lreturn, 1) := by decide +kernel
theorem dX12_two_49 : decode cX12_two 49 = .ok (.lload_n 3, 1) := by decide +kernel
theorem dX12_two_50 : decode cX12_two 50 = .ok (.lconst 0, 1) := by decide +kernel
theorem dX12_two_51 : decode cX12_two 51 = .ok (.lcmp, 1) := by decide +kernel
theorem dX12_two_52 : decode cX12_two 52 = .ok (.ifCond .ne 7, 3) := by decide +kernel
theorem dX12_two_59 : decode cX12_two 59 = .ok (.lload_n 1, 1) := by decide +kernel
theorem dX12_two_60 : decode cX12_two 60 = .ok (.lload_n 3, 1) := by decide +kernel
theorem dX12_two_61 : decode cX12_two 61 = .ok (.ldiv, 1) := by decide +kernel
theorem dX12_two_62 : decode cX12_two 62 = .ok (.invokestatic 261, 3) := by decide +kernel
theorem dX12_two_65 : decode cX12_two 65 = .ok (.lreturn, 1) := by decide +kernel
theorem dX12_two_55 : decode cX12_two 55 = .ok (.lconst 0, 1) := by decide +kernel
theorem dX12_two_56 : decode cX12_two 56 = .ok (.goto 9, 3) := by decide +kernel
theorem dX12_isAsked_0 : decode cX12_isAsked 0 = .ok (.iload_n 0, 1) := by decide +kernel
theorem dX12_isAsked_1 : decode cX12_isAsked 1 = .ok (.bipush 10, 2) := by decide +kernel
theorem dX12_isAsked_3 : decode cX12_isAsked 3 = .ok (.if_icmp .ne 17, 3) := by decide +kernel
theorem dX12_isAsked_20 : decode cX12_isAsked 20 = .ok (.iload_n 0, 1) := by decide +kernel
theorem dX12_isAsked_21 : decode cX12_isAsked 21 = .ok (.bipush 11, 2) := by decide +kernel
theorem dX12_isAsked_23 : decode cX12_isAsked 23 = .ok (.if_icmp .ne 17, 3) := by decide +kernel
theorem dX12_isAsked_40 : decode cX12_isAsked 40 = .ok (.iload_n 0, 1) := by decide +kernel
theorem dX12_isAsked_41 : decode cX12_isAsked 41 = .ok (.bipush 12, 2) := by decide +kernel
theorem dX12_isAsked_43 : decode cX12_isAsked 43 = .ok (.if_icmp .ne 17, 3) := by decide +kernel
theorem dX12_isAsked_60 : decode cX12_isAsked 60 = .ok (.iload_n 0, 1) := by decide +kernel
theorem dX12_isAsked_61 : decode cX12_isAsked 61 = .ok (.bipush 13, 2) := by decide +kernel
theorem dX12_isAsked_63 : decode cX12_isAsked 63 = .ok (.if_icmp .ne 17, 3) := by decide +kernel
theorem dX12_isAsked_80 : decode cX12_isAsked 80 = .ok (.iload_n 0, 1) := by decide +kernel
theorem dX12_isAsked_81 : decode cX12_isAsked 81 = .ok (.bipush 14, 2) := by decide +kernel
theorem dX12_isAsked_83 : decode cX12_isAsked 83 = .ok (.if_icmp .ne 17, 3) := by decide +kernel
theorem dX12_isAsked_100 : decode cX12_isAsked 100 = .ok (.lload_n 1, 1) := by decide +kernel
theorem dX12_isAsked_101 : decode cX12_isAsked 101 = .ok (.lload_n 3, 1) := by decide +kernel
theorem dX12_isAsked_102 : decode cX12_isAsked 102 = .ok (.lcmp, 1) := by decide +kernel
theorem dX12_isAsked_103 : decode cX12_isAsked 103 = .ok (.ifCond .eq 7, 3) := by decide +kernel
theorem dX12_isAsked_110 : decode cX12_isAsked 110 = .ok (.iconst 0, 1) := by decide +kernel
theorem dX12_isAsked_111 : decode cX12_isAsked 111 = .ok (.ireturn, 1) := by decide +kernel
theorem dX12_isAsked_106 : decode cX12_isAsked 106 = .ok (.iconst 1, 1) := by decide +kernel
theorem dX12_isAsked_107 : decode cX12_isAsked 107 = .ok (.goto 4, 3) := by decide +kernel
theorem dX12_isAsked_86 : decode cX12_isAsked 86 = .ok (.lload_n 1, 1) := by decide +kernel
theorem dX12_isAsked_87 : decode cX12_isAsked 87 = .ok (.lload_n 3, 1) := by decide +kernel
theorem dX12_isAsked_88 : decode cX12_isAsked 88 = .ok (.lcmp, 1) := by decide +kernel
theorem dX12_isAsked_89 : decode cX12_isAsked 89 = .ok (.ifCond .ne 7, 3) := by decide +kernel
theorem dX12_isAsked_96 : decode cX12_isAsked 96 = .ok (.iconst 0, 1) := by decide +kernel
theorem dX12_isAsked_97 : decode cX12_isAsked 97 = .ok (.goto 14, 3) := by decide +kernel
theorem dX12_isAsked_92 : decode cX12_isAsked 92 = .ok (.iconst 1, 1) := by decide +kernel
theorem dX12_isAsked_93 : decode cX12_isAsked 93 = .ok (.goto 18, 3) := by decide +kernel
theorem dX12_isAsked_66 : decode cX12_isAsked 66 = .ok (.lload_n 1, 1) := by decide +kernel
theorem dX12_isAsked_67 : decode cX12_isAsked 67 = .ok (.lload_n 3, 1) := by decide +kernel
theorem dX12_isAsked_68 : decode cX12_isAsked 68 = .ok (.lcmp, 1) := by decide +kernel
theorem dX12_isAsked_69 : decode cX12_isAsked 69 = .ok (.ifCond .lt 7, 3) := by decide +kernel
theorem dX12_isAsked_76 : decode cX12_isAsked 76 = .ok (.iconst 0, 1) := by decide +kernel
theorem dX12_isAsked_77 : decode cX12_isAsked 77 = .ok (.goto 34, 3) := by decide +kernel
theorem dX12_isAsked_72 : decode cX12_isAsked 72 = .ok (.iconst 1, 1) := by decide +kernel
theorem dX12_isAsked_73 : decode cX12_isAsked 73 = .ok (.goto 38, 3) := by decide +kernel
theorem dX12_isAsked_46 : decode cX12_isAsked 46 = .ok (.lload_n 1, 1) := by decide +kernel
theorem dX12_isAsked_47 : decode cX12_isAsked 47 = .ok (.lload_n 3, 1) := by decide +kernel
theorem dX12_isAsked_48 : decode cX12_isAsked 48 = .ok (.lcmp, 1) := by decide +kernel
theorem dX12_isAsked_49 : decode cX12_isAsked 49 = .ok (.ifCond .le 7, 3) := by decide +kernel
theorem dX12_isAsked_56 : decode cX12_isAsked 56 = .ok (.iconst 0, 1) := by decide +kernel
theorem dX12_isAsked_57 : decode cX12_isAsked 57 = .ok (.goto 54, 3) := by decide +kernel
theorem dX12_isAsked_52 : decode cX12_isAsked 52 = .ok (.iconst 1, 1) := by decide +kernel
theorem dX12_isAsked_53 : decode cX12_isAsked 53 = .ok (.goto 58, 3) := by decide +kernel
theorem dX12_isAsked_26 : decode cX12_isAsked 26 = .ok (.lload_n 1, 1) := by decide +kernel
theorem dX12_isAsked_27 : decode cX12_isAsked 27 = .ok (.lload_n 3, 1) := by decide +kernel
theorem dX12_isAsked_28 : decode cX12_isAsked 28 = .ok (.lcmp, 1) := by decide +kernel
theorem dX12_isAsked_29 : decode cX12_isAsked 29 = .ok (.ifCond .gt 7, 3) := by decide +kernel
theorem dX12_isAsked_36 : decode cX12_isAsked 36 = .ok (.iconst 0, 1) := by decide +kernel
theorem dX12_isAsked_37 : decode cX12_isAsked 37 = .ok (.goto 74, 3) := by decide +kernel
theorem dX12_isAsked_32 : decode cX12_isAsked 32 = .ok (.iconst 1, 1) := by decide +kernel
theorem dX12_isAsked_33 : decode cX12_isAsked 33 = .ok (.goto 78, 3) := by decide +kernel
theorem dX12_isAsked_6 : decode cX12_isAsked 6 = .ok (.lload_n 1, 1) := by decide +kernel
theorem dX12_isAsked_7 : decode cX12_isAsked 7 = .ok (.lload_n 3, 1) := by decide +kernel
theorem dX12_isAsked_8 : decode cX12_isAsked 8 = .ok (.lcmp, 1) := by decide +kernel
theorem dX12_isAsked_9 : decode cX12_isAsked 9 = .ok (.ifCond .ge 7, 3) := by decide +kernel
theorem dX12_isAsked_16 : decode cX12_isAsked 16 = .ok (.iconst 0, 1) := by decide +kernel
theorem dX12_isAsked_17 : decode cX12_isAsked 17 = .ok (.goto 94, 3) := by decide +kernel
theorem dX12_isAsked_12 : decode cX12_isAsked 12 = .ok (.iconst 1, 1) := by decide +kernel
theorem dX12_isAsked_13 : decode cX12_isAsked 13 = .ok (.goto 98, 3) := by decide +kernel
theorem dX12_joined_0 : decode cX12_joined 0 = .ok (.iload_n 0, 1) := by decide +kernel
theorem dX12_joined_1 : decode cX12_joined 1 = .ok (.bipush 21, 2) := by decide +kernel
theorem dX12_joined_3 : decode cX12_joined 3 = .ok (.if_icmp .ne 19, 3) := by decide +kernel
theorem dX12_joined_22 : decode cX12_joined 22 = .ok (.iload_n 1, 1) := by decide +kernel
theorem dX12_joined_23 : decode cX12_joined 23 = .ok (.ifCond .ne 7, 3) := by decide +kernel
theorem dX12_joined_30 : decode cX12_joined 30 = .ok (.iconst 1, 1) := by decide +kernel
theorem dX12_joined_31 : decode cX12_joined 31 = .ok (.goto 4, 3) := by decide +kernel
theorem dX12_joined_35 : decode cX12_joined 35 = .ok (.ireturn, 1) := by decide +kernel
theorem dX12_joined_26 : decode cX12_joined 26 = .ok (.iload_n 2, 1) := by decide +kernel
theorem dX12_joined_27 : decode cX12_joined 27 = .ok (.ifCond .eq 7, 3) := by decide +kernel
theorem dX12_joined_34 : decode cX12_joined 34 = .ok (.iconst 0, 1) := by decide +kernel
theorem dX12_joined_6 : decode cX12_joined 6 = .ok (.iload_n 1, 1) := by decide +kernel
theorem dX12_joined_7 : decode cX12_joined 7 = .ok (.ifCond .eq 11, 3) := by decide +kernel
theorem dX12_joined_18 : decode cX12_joined 18 = .ok (.iconst 0, 1) := by decide +kernel
theorem dX12_joined_19 : decode cX12_joined 19 = .ok (.goto 16, 3) := by decide +kernel
theorem dX12_joined_10 : decode cX12_joined 10 = .ok (.iload_n 2, 1) := by decide +kernel
theorem dX12_joined_11 : decode cX12_joined 11 = .ok (.ifCond .eq 7, 3) := by decide +kernel
theorem dX12_joined_14 : decode cX12_joined 14 = .ok (.iconst 1, 1) := by decide +kernel
theorem dX12_joined_15 : decode cX12_joined 15 = .ok (.goto 20, 3) := by decide +kernel
theorem dX12_marksOf_0 : decode cX12_marksOf 0 = .ok (.lload_n 1, 1) := by decide +kernel
theorem dX12_marksOf_1 : decode cX12_marksOf 1 = .ok (.lconst 0, 1) := by decide +kernel
theorem dX12_marksOf_2 : decode cX12_marksOf 2 = .ok (.lcmp, 1) := by decide +kernel
theorem dX12_marksOf_3 : decode cX12_marksOf 3 = .ok (.ifCond .lt 28, 3) := by decide +kernel
theorem dX12_marksOf_31 : decode cX12_marksOf 31 = .ok (.lconst 0, 1) := by decide +kernel
theorem dX12_marksOf_32 : decode cX12_marksOf 32 = .ok (.lreturn, 1) := by decide +kernel
theorem dX12_marksOf_6 : decode cX12_marksOf 6 = .ok (.lload_n 1, 1) := by decide +kernel
theorem dX12_marksOf_7 : decode cX12_marksOf 7 = .ok (.aload_n 0, 1) := by decide +kernel
theorem dX12_marksOf_8 : decode cX12_marksOf 8 = .ok (.getfield 7, 3) := by decide +kernel
theorem dX12_marksOf_11 : decode cX12_marksOf 11 = .ok (.iconst 0, 1) := by decide +kernel
theorem dX12_marksOf_12 : decode cX12_marksOf 12 = .ok (.iaload, 1) := by decide +kernel
theorem dX12_marksOf_13 : decode cX12_marksOf 13 = .ok (.i2l, 1) := by decide +kernel
theorem dX12_marksOf_14 : decode cX12_marksOf 14 = .ok (.lcmp, 1) := by decide +kernel
theorem dX12_marksOf_15 : decode cX12_marksOf 15 = .ok (.ifCond .ge 16, 3) := by decide +kernel
theorem dX12_marksOf_18 : decode cX12_marksOf 18 = .ok (.aload_n 0, 1) := by decide +kernel
theorem dX12_marksOf_19 : decode cX12_marksOf 19 = .ok (.lload_n 1, 1) := by decide +kernel
theorem dX12_marksOf_20 : decode cX12_marksOf 20 = .ok (.l2i, 1) := by decide +kernel
theorem dX12_marksOf_21 : decode cX12_marksOf 21 = .ok (.invokevirtual 265, 3) := by decide +kernel
theorem dX12_marksOf_24 : decode cX12_marksOf 24 = .ok (.invokestatic 268, 3) := by decide +kernel
theorem cw_X12_bits : CWs yX12_bits cX12_bits 3 (some .int) 1 := ⟨⟨⟨List.mem_of_getElem? (i := 137) (by decide +kernel), by decide +kernel⟩, ⟨List.mem_of_getElem? (i := 1867) (by decide +kernel), by decide +kernel⟩, by decide +kernel⟩, ⟨List.mem_of_getElem? (i := 1866) (by decide +kernel), by decide +kernel⟩⟩
theorem km12_268 : inW (Cond.methodLink RX12 268 yX12_bits) := ⟨List.mem_of_getElem? (i := 1865) (by decide +kernel), by decide +kernel⟩
theorem dX12_marksOf_27 : decode cX12_marksOf 27 = .ok (.i2l, 1) := by decide +kernel
theorem dX12_marksOf_28 : decode cX12_marksOf 28 = .ok (.goto 4, 3) := by decide +kernel
theorem dX12_summedUp_0 : decode cX12_summedUp 0 = .ok (.sipush 729, 3) := by decide +kernel
theorem dX12_summedUp_3 : decode cX12_summedUp 3 = .ok (.iload_n 1, 1) := by decide +kernel
theorem dX12_summedUp_4 : decode cX12_summedUp 4 = .ok (.imul, 1) := by decide +kernel
theorem dX12_summedUp_5 : decode cX12_summedUp 5 = .ok (.iconst 1, 1) := by decide +kernel
theorem dX12_summedUp_6 : decode cX12_summedUp 6 = .ok (.iadd, 1) := by decide +kernel
theorem dX12_summedUp_7 : decode cX12_summedUp 7 = .ok (.iconst 5, 1) := by decide +kernel
theorem dX12_summedUp_8 : decode cX12_summedUp 8 = .ok (.iload_n 2, 1) := by decide +kernel
theorem dX12_summedUp_9 : decode cX12_summedUp 9 = .ok (.imul, 1) := by decide +kernel
theorem dX12_summedUp_10 : decode cX12_summedUp 10 = .ok (.iadd, 1) := by decide +kernel
theorem dX12_summedUp_11 : decode cX12_summedUp 11 = .ok (.istore_n 3, 1) := by decide +kernel
theorem dX12_summedUp_12 : decode cX12_summedUp 12 = .ok (.sipush 729, 3) := by decide +kernel
theorem dX12_summedUp_15 : decode cX12_summedUp 15 = .ok (.iload_n 1, 1) := by decide +kernel
theorem dX12_summedUp_16 : decode cX12_summedUp 16 = .ok (.imul, 1) := by decide +kernel
theorem dX12_summedUp_17 : decode cX12_summedUp 17 = .ok (.bipush 121, 2) := by decide +kernel
theorem dX12_summedUp_19 : decode cX12_summedUp 19 = .ok (.iadd, 1) := by decide +kernel
theorem dX12_summedUp_20 : decode cX12_summedUp 20 = .ok (.istore 4, 2) := by decide +kernel
theorem dX12_summedUp_22 : decode cX12_summedUp 22 = .ok (.iconst 0, 1) := by decide +kernel
theorem dX12_summedUp_23 : decode cX12_summedUp 23 = .ok (.istore 5, 2) := by decide +kernel
theorem dX12_summedUp_25 : decode cX12_summedUp 25 = .ok (.iconst 0, 1) := by decide +kernel
theorem dX12_summedUp_26 : decode cX12_summedUp 26 = .ok (.istore 6, 2) := by decide +kernel
theorem dX12_summedUp_28 : decode cX12_summedUp 28 = .ok (.aload_n 0, 1) := by decide +kernel
theorem dX12_summedUp_29 : decode cX12_summedUp 29 = .ok (.getfield 16, 3) := by decide +kernel
theorem kf12_16 : inW (Cond.fieldLink RX12 16 "KneeOathsModel" "texts" "[I") := ⟨List.mem_of_getElem? (i := 1500) (by decide +kernel), by decide +kernel⟩
theorem dX12_summedUp_32 : decode cX12_summedUp 32 = .ok (.iload_n 3, 1) := by decide +kernel
theorem dX12_summedUp_33 : decode cX12_summedUp 33 = .ok (.iconst 1, 1) := by decide +kernel
theorem dX12_summedUp_34 : decode cX12_summedUp 34 = .ok (.iadd, 1) := by decide +kernel
theorem dX12_summedUp_35 : decode cX12_summedUp 35 = .ok (.iaload, 1) := by decide +kernel
theorem dX12_summedUp_36 : decode cX12_summedUp 36 = .ok (.istore 7, 2) := by decide +kernel
theorem dX12_summedUp_38 : decode cX12_summedUp 38 = .ok (.iload 7, 2) := by decide +kernel
theorem dX12_summedUp_40 : decode cX12_summedUp 40 = .ok (.aload_n 0, 1) := by decide +kernel
theorem dX12_summedUp_41 : decode cX12_summedUp 41 = .ok (.getfield 16, 3) := by decide +kernel
theorem dX12_summedUp_44 : decode cX12_summedUp 44 = .ok (.iload_n 3, 1) := by decide +kernel
theorem dX12_summedUp_45 : decode cX12_summedUp 45 = .ok (.iconst 2, 1) := by decide +kernel
theorem dX12_summedUp_46 : decode cX12_summedUp 46 = .ok (.iadd, 1) := by decide +kernel
theorem dX12_summedUp_47 : decode cX12_summedUp 47 = .ok (.iaload, 1) := by decide +kernel
theorem dX12_summedUp_48 : decode cX12_summedUp 48 = .ok (.if_icmp .ge 358, 3) := by decide +kernel
theorem dX12_summedUp_406 : decode cX12_summedUp 406 = .ok (.aload_n 0, 1) := by decide +kernel
theorem dX12_summedUp_407 : decode cX12_summedUp 407 = .ok (.getfield 38, 3) := by decide +kernel
theorem kf12_38 : inW (Cond.fieldLink RX12 38 "KneeOathsModel" "values" "[J") := ⟨List.mem_of_getElem? (i := 1521) (by decide +kernel), by decide +kernel⟩
theorem dX12_summedUp_410 : decode cX12_summedUp 410 = .ok (.iconst 0, 1) := by decide +kernel
theorem dX12_summedUp_411 : decode cX12_summedUp 411 = .ok (.laload, 1) := by decide +kernel
theorem dX12_summedUp_412 : decode cX12_summedUp 412 = .ok (.lreturn, 1) := by decide +kernel
theorem dX12_summedUp_51 : decode cX12_summedUp 51 = .ok (.aload_n 0, 1) := by decide +kernel
theorem dX12_summedUp_52 : decode cX12_summedUp 52 = .ok (.getfield 16, 3) := by decide +kernel
theorem dX12_summedUp_55 : decode cX12_summedUp 55 = .ok (.iload 4, 2) := by decide +kernel
theorem dX12_summedUp_57 : decode cX12_summedUp 57 = .ok (.iconst 2, 1) := by decide +kernel
theorem dX12_summedUp_58 : decode cX12_summedUp 58 = .ok (.iload 7, 2) := by decide +kernel
theorem dX12_summedUp_60 : decode cX12_summedUp 60 = .ok (.imul, 1) := by decide +kernel
theorem dX12_summedUp_61 : decode cX12_summedUp 61 = .ok (.iadd, 1) := by decide +kernel
theorem dX12_summedUp_62 : decode cX12_summedUp 62 = .ok (.iaload, 1) := by decide +kernel
theorem dX12_summedUp_63 : decode cX12_summedUp 63 = .ok (.istore 8, 2) := by decide +kernel
theorem dX12_summedUp_65 : decode cX12_summedUp 65 = .ok (.aload_n 0, 1) := by decide +kernel
theorem dX12_summedUp_66 : decode cX12_summedUp 66 = .ok (.getfield 16, 3) := by decide +kernel
theorem dX12_summedUp_69 : decode cX12_summedUp 69 = .ok (.iload 4, 2) := by decide +kernel
theorem dX12_summedUp_71 : decode cX12_summedUp 71 = .ok (.iconst 2, 1) := by decide +kernel
theorem dX12_summedUp_72 : decode cX12_summedUp 72 = .ok (.iload 7, 2) := by decide +kernel
theorem dX12_summedUp_74 : decode cX12_summedUp 74 = .ok (.imul, 1) := by decide +kernel
theorem dX12_summedUp_75 : decode cX12_summedUp 75 = .ok (.iadd, 1) := by decide +kernel
theorem dX12_summedUp_76 : decode cX12_summedUp 76 = .ok (.iconst 1, 1) := by decide +kernel
theorem dX12_summedUp_77 : decode cX12_summedUp 77 = .ok (.iadd, 1) := by decide +kernel
theorem dX12_summedUp_78 : decode cX12_summedUp 78 = .ok (.iaload, 1) := by decide +kernel
theorem dX12_summedUp_79 : decode cX12_summedUp 79 = .ok (.istore 9, 2) := by decide +kernel
theorem dX12_summedUp_81 : decode cX12_summedUp 81 = .ok (.iload 8, 2) := by decide +kernel
theorem dX12_summedUp_83 : decode cX12_summedUp 83 = .ok (.iconst 1, 1) := by decide +kernel
theorem dX12_summedUp_84 : decode cX12_summedUp 84 = .ok (.if_icmp .gt 35, 3) := by decide +kernel
theorem dX12_summedUp_119 : decode cX12_summedUp 119 = .ok (.iload 8, 2) := by decide +kernel
theorem dX12_summedUp_121 : decode cX12_summedUp 121 = .ok (.iconst 3, 1) := by decide +kernel
theorem dX12_summedUp_122 : decode cX12_summedUp 122 = .ok (.if_icmp .ne 38, 3) := by decide +kernel
theorem dX12_summedUp_160 : decode cX12_summedUp 160 = .ok (.iload 8, 2) := by decide +kernel
theorem dX12_summedUp_162 : decode cX12_summedUp 162 = .ok (.iconst 4, 1) := by decide +kernel
theorem dX12_summedUp_163 : decode cX12_summedUp 163 = .ok (.if_icmp .ne 31, 3) := by decide +kernel
theorem dX12_summedUp_194 : decode cX12_summedUp 194 = .ok (.iload 8, 2) := by decide +kernel
theorem dX12_summedUp_196 : decode cX12_summedUp 196 = .ok (.iconst 5, 1) := by decide +kernel
theorem dX12_summedUp_197 : decode cX12_summedUp 197 = .ok (.if_icmp .gt 47, 3) := by decide +kernel
theorem dX12_summedUp_244 : decode cX12_summedUp 244 = .ok (.iload 8, 2) := by decide +kernel
theorem dX12_summedUp_246 : decode cX12_summedUp 246 = .ok (.bipush 10, 2) := by decide +kernel
theorem dX12_summedUp_248 : decode cX12_summedUp 248 = .ok (.if_icmp .ge 39, 3) := by decide +kernel
theorem dX12_summedUp_287 : decode cX12_summedUp 287 = .ok (.iload 8, 2) := by decide +kernel
theorem dX12_summedUp_289 : decode cX12_summedUp 289 = .ok (.bipush 20, 2) := by decide +kernel
theorem dX12_summedUp_291 : decode cX12_summedUp 291 = .ok (.if_icmp .ge 40, 3) := by decide +kernel
theorem dX12_summedUp_331 : decode cX12_summedUp 331 = .ok (.iload 8, 2) := by decide +kernel
theorem dX12_summedUp_333 : decode cX12_summedUp 333 = .ok (.bipush 20, 2) := by decide +kernel
theorem dX12_summedUp_335 : decode cX12_summedUp 335 = .ok (.if_icmp .ne 32, 3) := by decide +kernel
theorem dX12_summedUp_367 : decode cX12_summedUp 367 = .ok (.iinc 6 (-1), 3) := by decide +kernel
theorem dX12_summedUp_370 : decode cX12_summedUp 370 = .ok (.aload_n 0, 1) := by decide +kernel
theorem dX12_summedUp_371 : decode cX12_summedUp 371 = .ok (.getfield 42, 3) := by decide +kernel
theorem dX12_summedUp_374 : decode cX12_summedUp 374 = .ok (.iload 6, 2) := by decide +kernel
theorem dX12_summedUp_376 : decode cX12_summedUp 376 = .ok (.iconst 1, 1) := by decide +kernel
theorem dX12_summedUp_377 : decode cX12_summedUp 377 = .ok (.isub, 1) := by decide +kernel
theorem dX12_summedUp_378 : decode cX12_summedUp 378 = .ok (.iload 8, 2) := by decide +kernel
theorem dX12_summedUp_380 : decode cX12_summedUp 380 = .ok (.aload_n 0, 1) := by decide +kernel
theorem dX12_summedUp_381 : decode cX12_summedUp 381 = .ok (.getfield 42, 3) := by decide +kernel
theorem dX12_summedUp_384 : decode cX12_summedUp 384 = .ok (.iload 6, 2) := by decide +kernel
theorem dX12_summedUp_386 : decode cX12_summedUp 386 = .ok (.iconst 1, 1) := by decide +kernel
theorem dX12_summedUp_387 : decode cX12_summedUp 387 = .ok (.isub, 1) := by decide +kernel
theorem dX12_summedUp_388 : decode cX12_summedUp 388 = .ok (.baload, 1) := by decide +kernel
theorem dX12_summedUp_389 : decode cX12_summedUp 389 = .ok (.aload_n 0, 1) := by decide +kernel
theorem dX12_summedUp_390 : decode cX12_summedUp 390 = .ok (.getfield 42, 3) := by decide +kernel
theorem dX12_summedUp_393 : decode cX12_summedUp 393 = .ok (.iload 6, 2) := by decide +kernel
theorem dX12_summedUp_395 : decode cX12_summedUp 395 = .ok (.baload, 1) := by decide +kernel
theorem dX12_summedUp_396 : decode cX12_summedUp 396 = .ok (.invokestatic 285, 3) := by decide +kernel
theorem cw_X12_joined : CWs yX12_joined cX12_joined 3 (some .boolean) 3 := ⟨⟨⟨List.mem_of_getElem? (i := 137) (by decide +kernel), by decide +kernel⟩, ⟨List.mem_of_getElem? (i := 1881) (by decide +kernel), by decide +kernel⟩, by decide +kernel⟩, ⟨List.mem_of_getElem? (i := 1880) (by decide +kernel), by decide +kernel⟩⟩
theorem km12_285 : inW (Cond.methodLink RX12 285 yX12_joined) := ⟨List.mem_of_getElem? (i := 1879) (by decide +kernel), by decide +kernel⟩
theorem dX12_summedUp_399 : decode cX12_summedUp 399 = .ok (.bastore, 1) := by decide +kernel
theorem dX12_summedUp_400 : decode cX12_summedUp 400 = .ok (.iinc 7 1, 3) := by decide +kernel
theorem dX12_summedUp_403 : decode cX12_summedUp 403 = .ok (.goto (-365), 3) := by decide +kernel
theorem dX12_summedUp_338 : decode cX12_summedUp 338 = .ok (.aload_n 0, 1) := by decide +kernel
theorem dX12_summedUp_339 : decode cX12_summedUp 339 = .ok (.getfield 42, 3) := by decide +kernel
theorem dX12_summedUp_342 : decode cX12_summedUp 342 = .ok (.iload 6, 2) := by decide +kernel
theorem dX12_summedUp_344 : decode cX12_summedUp 344 = .ok (.iconst 1, 1) := by decide +kernel
theorem dX12_summedUp_345 : decode cX12_summedUp 345 = .ok (.isub, 1) := by decide +kernel
theorem dX12_summedUp_346 : decode cX12_summedUp 346 = .ok (.aload_n 0, 1) := by decide +kernel
theorem dX12_summedUp_347 : decode cX12_summedUp 347 = .ok (.getfield 42, 3) := by decide +kernel
theorem dX12_summedUp_350 : decode cX12_summedUp 350 = .ok (.iload 6, 2) := by decide +kernel
theorem dX12_summedUp_352 : decode cX12_summedUp 352 = .ok (.iconst 1, 1) := by decide +kernel
theorem dX12_summedUp_353 : decode cX12_summedUp 353 = .ok (.isub, 1) := by decide +kernel
theorem dX12_summedUp_354 : decode cX12_summedUp 354 = .ok (.baload, 1) := by decide +kernel
theorem dX12_summedUp_355 : decode cX12_summedUp 355 = .ok (.ifCond .ne 7, 3) := by decide +kernel
theorem dX12_summedUp_362 : decode cX12_summedUp 362 = .ok (.iconst 0, 1) := by decide +kernel
theorem dX12_summedUp_363 : decode cX12_summedUp 363 = .ok (.bastore, 1) := by decide +kernel
theorem dX12_summedUp_364 : decode cX12_summedUp 364 = .ok (.goto 36, 3) := by decide +kernel
theorem dX12_summedUp_358 : decode cX12_summedUp 358 = .ok (.iconst 1, 1) := by decide +kernel
theorem dX12_summedUp_359 : decode cX12_summedUp 359 = .ok (.goto 4, 3) := by decide +kernel
theorem dX12_summedUp_294 : decode cX12_summedUp 294 = .ok (.iinc 5 (-2), 3) := by decide +kernel
theorem dX12_summedUp_297 : decode cX12_summedUp 297 = .ok (.aload_n 0, 1) := by decide +kernel
theorem dX12_summedUp_298 : decode cX12_summedUp 298 = .ok (.getfield 42, 3) := by decide +kernel
theorem dX12_summedUp_301 : decode cX12_summedUp 301 = .ok (.iload 6, 2) := by decide +kernel
theorem dX12_summedUp_303 : decode cX12_summedUp 303 = .ok (.iload 8, 2) := by decide +kernel
theorem dX12_summedUp_305 : decode cX12_summedUp 305 = .ok (.aload_n 0, 1) := by decide +kernel
theorem dX12_summedUp_306 : decode cX12_summedUp 306 = .ok (.getfield 38, 3) := by decide +kernel
theorem dX12_summedUp_309 : decode cX12_summedUp 309 = .ok (.iload 5, 2) := by decide +kernel
theorem dX12_summedUp_311 : decode cX12_summedUp 311 = .ok (.laload, 1) := by decide +kernel
theorem dX12_summedUp_312 : decode cX12_summedUp 312 = .ok (.aload_n 0, 1) := by decide +kernel
theorem dX12_summedUp_313 : decode cX12_summedUp 313 = .ok (.getfield 38, 3) := by decide +kernel
theorem dX12_summedUp_316 : decode cX12_summedUp 316 = .ok (.iload 5, 2) := by decide +kernel
theorem dX12_summedUp_318 : decode cX12_summedUp 318 = .ok (.iconst 1, 1) := by decide +kernel
theorem dX12_summedUp_319 : decode cX12_summedUp 319 = .ok (.iadd, 1) := by decide +kernel
theorem dX12_summedUp_320 : decode cX12_summedUp 320 = .ok (.laload, 1) := by decide +kernel
theorem dX12_summedUp_321 : decode cX12_summedUp 321 = .ok (.invokestatic 281, 3) := by decide +kernel
theorem cw_X12_isAsked : CWs yX12_isAsked cX12_isAsked 5 (some .boolean) 3 := ⟨⟨⟨List.mem_of_getElem? (i := 137) (by decide +kernel), by decide +kernel⟩, ⟨List.mem_of_getElem? (i := 1878) (by decide +kernel), by decide +kernel⟩, by decide +kernel⟩, ⟨List.mem_of_getElem? (i := 1877) (by decide +kernel), by decide +kernel⟩⟩
theorem km12_281 : inW (Cond.methodLink RX12 281 yX12_isAsked) := ⟨List.mem_of_getElem? (i := 1876) (by decide +kernel), by decide +kernel⟩
theorem dX12_summedUp_324 : decode cX12_summedUp 324 = .ok (.bastore, 1) := by decide +kernel
theorem dX12_summedUp_325 : decode cX12_summedUp 325 = .ok (.iinc 6 1, 3) := by decide +kernel
theorem dX12_summedUp_328 : decode cX12_summedUp 328 = .ok (.goto 72, 3) := by decide +kernel
theorem dX12_summedUp_251 : decode cX12_summedUp 251 = .ok (.iinc 5 (-1), 3) := by decide +kernel
theorem dX12_summedUp_254 : decode cX12_summedUp 254 = .ok (.aload_n 0, 1) := by decide +kernel
theorem dX12_summedUp_255 : decode cX12_summedUp 255 = .ok (.getfield 38, 3) := by decide +kernel
theorem dX12_summedUp_258 : decode cX12_summedUp 258 = .ok (.iload 5, 2) := by decide +kernel
theorem dX12_summedUp_260 : decode cX12_summedUp 260 = .ok (.iconst 1, 1) := by decide +kernel
theorem dX12_summedUp_261 : decode cX12_summedUp 261 = .ok (.isub, 1) := by decide +kernel
theorem dX12_summedUp_262 : decode cX12_summedUp 262 = .ok (.iload 8, 2) := by decide +kernel
theorem dX12_summedUp_264 : decode cX12_summedUp 264 = .ok (.aload_n 0, 1) := by decide +kernel
theorem dX12_summedUp_265 : decode cX12_summedUp 265 = .ok (.getfield 38, 3) := by decide +kernel
theorem dX12_summedUp_268 : decode cX12_summedUp 268 = .ok (.iload 5, 2) := by decide +kernel
theorem dX12_summedUp_270 : decode cX12_summedUp 270 = .ok (.iconst 1, 1) := by decide +kernel
theorem dX12_summedUp_271 : decode cX12_summedUp 271 = .ok (.isub, 1) := by decide +kernel
theorem dX12_summedUp_272 : decode cX12_summedUp 272 = .ok (.laload, 1) := by decide +kernel
theorem dX12_summedUp_273 : decode cX12_summedUp 273 = .ok (.aload_n 0, 1) := by decide +kernel
theorem dX12_summedUp_274 : decode cX12_summedUp 274 = .ok (.getfield 38, 3) := by decide +kernel
theorem dX12_summedUp_277 : decode cX12_summedUp 277 = .ok (.iload 5, 2) := by decide +kernel
theorem dX12_summedUp_279 : decode cX12_summedUp 279 = .ok (.laload, 1) := by decide +kernel
theorem dX12_summedUp_280 : decode cX12_summedUp 280 = .ok (.invokestatic 277, 3) := by decide +kernel
theorem cw_X12_two : CWs yX12_two cX12_two 5 (some .long) 3 := ⟨⟨⟨List.mem_of_getElem? (i := 137) (by decide +kernel), by decide +kernel⟩, ⟨List.mem_of_getElem? (i := 1870) (by decide +kernel), by decide +kernel⟩, by decide +kernel⟩, ⟨List.mem_of_getElem? (i := 1869) (by decide +kernel), by decide +kernel⟩⟩
theorem km12_277 : inW (Cond.methodLink RX12 277 yX12_two) := ⟨List.mem_of_getElem? (i := 1868) (by decide +kernel), by decide +kernel⟩
theorem dX12_summedUp_283 : decode cX12_summedUp 283 = .ok (.lastore, 1) := by decide +kernel
theorem dX12_summedUp_284 : decode cX12_summedUp 284 = .ok (.goto 116, 3) := by decide +kernel
theorem dX12_summedUp_200 : decode cX12_summedUp 200 = .ok (.aload_n 0, 1) := by decide +kernel
theorem dX12_summedUp_201 : decode cX12_summedUp 201 = .ok (.getfield 38, 3) := by decide +kernel
theorem dX12_summedUp_204 : decode cX12_summedUp 204 = .ok (.iload 5, 2) := by decide +kernel
theorem dX12_summedUp_206 : decode cX12_summedUp 206 = .ok (.iconst 1, 1) := by decide +kernel
theorem dX12_summedUp_207 : decode cX12_summedUp 207 = .ok (.isub, 1) := by decide +kernel
theorem dX12_summedUp_208 : decode cX12_summedUp 208 = .ok (.iload 8, 2) := by decide +kernel
theorem dX12_summedUp_210 : decode cX12_summedUp 210 = .ok (.iconst 5, 1) := by decide +kernel
theorem dX12_summedUp_211 : decode cX12_summedUp 211 = .ok (.if_icmp .ne 16, 3) := by decide +kernel
theorem dX12_summedUp_227 : decode cX12_summedUp 227 = .ok (.aload_n 0, 1) := by decide +kernel
theorem dX12_summedUp_228 : decode cX12_summedUp 228 = .ok (.aload_n 0, 1) := by decide +kernel
theorem dX12_summedUp_229 : decode cX12_summedUp 229 = .ok (.getfield 38, 3) := by decide +kernel
theorem dX12_summedUp_232 : decode cX12_summedUp 232 = .ok (.iload 5, 2) := by decide +kernel
theorem dX12_summedUp_234 : decode cX12_summedUp 234 = .ok (.iconst 1, 1) := by decide +kernel
theorem dX12_summedUp_235 : decode cX12_summedUp 235 = .ok (.isub, 1) := by decide +kernel
theorem dX12_summedUp_236 : decode cX12_summedUp 236 = .ok (.laload, 1) := by decide +kernel
theorem dX12_summedUp_237 : decode cX12_summedUp 237 = .ok (.invokevirtual 274, 3) := by decide +kernel
theorem cw_X12_marksOf : CWv yX12_marksOf cX12_marksOf 3 (some .long) 1 := ⟨⟨⟨List.mem_of_getElem? (i := 137) (by decide +kernel), by decide +kernel⟩, ⟨List.mem_of_getElem? (i := 1856) (by decide +kernel), by decide +kernel⟩, by decide +kernel⟩, ⟨List.mem_of_getElem? (i := 1855) (by decide +kernel), by decide +kernel⟩, ⟨List.mem_of_getElem? (i := 93) (by decide +kernel), by decide +kernel⟩⟩
theorem km12_274 : inW (Cond.methodLink RX12 274 yX12_marksOf) := ⟨List.mem_of_getElem? (i := 1853) (by decide +kernel), by decide +kernel⟩
theorem dX12_summedUp_240 : decode cX12_summedUp 240 = .ok (.lastore, 1) := by decide +kernel
theorem dX12_summedUp_241 : decode cX12_summedUp 241 = .ok (.goto 159, 3) := by decide +kernel
theorem dX12_summedUp_214 : decode cX12_summedUp 214 = .ok (.aload_n 0, 1) := by decide +kernel
theorem dX12_summedUp_215 : decode cX12_summedUp 215 = .ok (.getfield 38, 3) := by decide +kernel
theorem dX12_summedUp_218 : decode cX12_summedUp 218 = .ok (.iload 5, 2) := by decide +kernel
theorem dX12_summedUp_220 : decode cX12_summedUp 220 = .ok (.iconst 1, 1) := by decide +kernel
theorem dX12_summedUp_221 : decode cX12_summedUp 221 = .ok (.isub, 1) := by decide +kernel
theorem dX12_summedUp_222 : decode cX12_summedUp 222 = .ok (.laload, 1) := by decide +kernel
theorem dX12_summedUp_223 : decode cX12_summedUp 223 = .ok (.lneg, 1) := by decide +kernel
theorem dX12_summedUp_224 : decode cX12_summedUp 224 = .ok (.goto 16, 3) := by decide +kernel
theorem dX12_summedUp_166 : decode cX12_summedUp 166 = .ok (.iload 6, 2) := by decide +kernel
theorem dX12_summedUp_168 : decode cX12_summedUp 168 = .ok (.iload 9, 2) := by decide +kernel
theorem dX12_summedUp_170 : decode cX12_summedUp 170 = .ok (.isub, 1) := by decide +kernel
theorem dX12_summedUp_171 : decode cX12_summedUp 171 = .ok (.istore 6, 2) := by decide +kernel
theorem dX12_summedUp_173 : decode cX12_summedUp 173 = .ok (.aload_n 0, 1) := by decide +kernel
theorem dX12_summedUp_174 : decode cX12_summedUp 174 = .ok (.getfield 42, 3) := by decide +kernel
theorem dX12_summedUp_177 : decode cX12_summedUp 177 = .ok (.iload 6, 2) := by decide +kernel
theorem dX12_summedUp_179 : decode cX12_summedUp 179 = .ok (.aload_n 0, 1) := by decide +kernel
theorem dX12_summedUp_180 : decode cX12_summedUp 180 = .ok (.iload 6, 2) := by decide +kernel
theorem dX12_summedUp_182 : decode cX12_summedUp 182 = .ok (.iload 9, 2) := by decide +kernel
theorem dX12_summedUp_184 : decode cX12_summedUp 184 = .ok (.invokevirtual 271, 3) := by decide +kernel
theorem cw_X12_isJustOne : CWv yX12_isJustOne cX12_isJustOne 5 (some .boolean) 2 := ⟨⟨⟨List.mem_of_getElem? (i := 137) (by decide +kernel), by decide +kernel⟩, ⟨List.mem_of_getElem? (i := 1852) (by decide +kernel), by decide +kernel⟩, by decide +kernel⟩, ⟨List.mem_of_getElem? (i := 1851) (by decide +kernel), by decide +kernel⟩, ⟨List.mem_of_getElem? (i := 92) (by decide +kernel), by decide +kernel⟩⟩
theorem km12_271 : inW (Cond.methodLink RX12 271 yX12_isJustOne) := ⟨List.mem_of_getElem? (i := 1849) (by decide +kernel), by decide +kernel⟩
theorem dX12_summedUp_187 : decode cX12_summedUp 187 = .ok (.bastore, 1) := by decide +kernel
theorem dX12_summedUp_188 : decode cX12_summedUp 188 = .ok (.iinc 6 1, 3) := by decide +kernel
theorem dX12_summedUp_191 : decode cX12_summedUp 191 = .ok (.goto 209, 3) := by decide +kernel
theorem dX12_summedUp_125 : decode cX12_summedUp 125 = .ok (.iinc 5 (-1), 3) := by decide +kernel
theorem dX12_summedUp_128 : decode cX12_summedUp 128 = .ok (.iinc 6 (-1), 3) := by decide +kernel
theorem dX12_summedUp_131 : decode cX12_summedUp 131 = .ok (.aload_n 0, 1) := by decide +kernel
theorem dX12_summedUp_132 : decode cX12_summedUp 132 = .ok (.getfield 42, 3) := by decide +kernel
theorem dX12_summedUp_135 : decode cX12_summedUp 135 = .ok (.iload 6, 2) := by decide +kernel
theorem dX12_summedUp_137 : decode cX12_summedUp 137 = .ok (.baload, 1) := by decide +kernel
theorem dX12_summedUp_138 : decode cX12_summedUp 138 = .ok (.ifCond .ne 262, 3) := by decide +kernel
theorem dX12_summedUp_141 : decode cX12_summedUp 141 = .ok (.aload_n 0, 1) := by decide +kernel
theorem dX12_summedUp_142 : decode cX12_summedUp 142 = .ok (.getfield 38, 3) := by decide +kernel
theorem dX12_summedUp_145 : decode cX12_summedUp 145 = .ok (.iload 5, 2) := by decide +kernel
theorem dX12_summedUp_147 : decode cX12_summedUp 147 = .ok (.iconst 1, 1) := by decide +kernel
theorem dX12_summedUp_148 : decode cX12_summedUp 148 = .ok (.isub, 1) := by decide +kernel
theorem dX12_summedUp_149 : decode cX12_summedUp 149 = .ok (.aload_n 0, 1) := by decide +kernel
theorem dX12_summedUp_150 : decode cX12_summedUp 150 = .ok (.getfield 38, 3) := by decide +kernel
theorem dX12_summedUp_153 : decode cX12_summedUp 153 = .ok (.iload 5, 2) := by decide +kernel
theorem dX12_summedUp_155 : decode cX12_summedUp 155 = .ok (.laload, 1) := by decide +kernel
theorem dX12_summedUp_156 : decode cX12_summedUp 156 = .ok (.lastore, 1) := by decide +kernel
theorem dX12_summedUp_157 : decode cX12_summedUp 157 = .ok (.goto 243, 3) := by decide +kernel
theorem dX12_summedUp_87 : decode cX12_summedUp 87 = .ok (.aload_n 0, 1) := by decide +kernel
theorem dX12_summedUp_88 : decode cX12_summedUp 88 = .ok (.getfield 38, 3) := by decide +kernel
theorem dX12_summedUp_91 : decode cX12_summedUp 91 = .ok (.iload 5, 2) := by decide +kernel
theorem dX12_summedUp_93 : decode cX12_summedUp 93 = .ok (.iload 8, 2) := by decide +kernel
theorem dX12_summedUp_95 : decode cX12_summedUp 95 = .ok (.ifCond .ne 9, 3) := by decide +kernel
theorem dX12_summedUp_104 : decode cX12_summedUp 104 = .ok (.aload_n 0, 1) := by decide +kernel
theorem dX12_summedUp_105 : decode cX12_summedUp 105 = .ok (.getfield 35, 3) := by decide +kernel
theorem kf12_35 : inW (Cond.fieldLink RX12 35 "KneeOathsModel" "named" "[I") := ⟨List.mem_of_getElem? (i := 1520) (by decide +kernel), by decide +kernel⟩
theorem dX12_summedUp_108 : decode cX12_summedUp 108 = .ok (.iload 9, 2) := by decide +kernel
theorem dX12_summedUp_110 : decode cX12_summedUp 110 = .ok (.iaload, 1) := by decide +kernel
theorem dX12_summedUp_111 : decode cX12_summedUp 111 = .ok (.i2l, 1) := by decide +kernel
theorem dX12_summedUp_112 : decode cX12_summedUp 112 = .ok (.lastore, 1) := by decide +kernel
theorem dX12_summedUp_113 : decode cX12_summedUp 113 = .ok (.iinc 5 1, 3) := by decide +kernel
theorem dX12_summedUp_116 : decode cX12_summedUp 116 = .ok (.goto 284, 3) := by decide +kernel
theorem dX12_summedUp_98 : decode cX12_summedUp 98 = .ok (.iload 9, 2) := by decide +kernel
theorem dX12_summedUp_100 : decode cX12_summedUp 100 = .ok (.i2l, 1) := by decide +kernel
theorem dX12_summedUp_101 : decode cX12_summedUp 101 = .ok (.goto 11, 3) := by decide +kernel
theorem jo_ix {a k n : Int32} (ha : bn 0 303 a) (hk : bn 0 302 k) (hs : a.toInt + n.toInt ≤ 303) (c : k < n) : bn 0 302 (a + k) := by
  rw [Int32.lt_iff_toInt_lt] at c
  obtain ⟨h1, h2⟩ := ha; obtain ⟨k1, k2⟩ := hk
  have e := ti_add (a := a) (b := k) (by omega) (by omega)
  exact ⟨by omega, by omega⟩
set_option maxHeartbeats 4000000 in
set_option maxRecDepth 100000 in
theorem x_X12_isJustOne {l : Launch} {G : GG}  {L : List Nat} {f : HF} {ad : Nat → Nat → Nat} {sl : Int} {pl : Int} {oh : Int} {dh : Int} {w : WW} {pi : PIT} {px : (Nat → Int32) → Prop} {pa : (Nat → Int32) → Prop} {i1 i2 : Int32} (I : SH (spM (IA sl pl oh dh w) pi px pa) nnM G ad L f) (hB : BBp sl pl oh dh w) (b_i1 : bn 0 303 i1) (b_i2 : bn 0 303 i2) (hsum : i1.toInt + i2.toInt ≤ 303) : PMp l yX12_isJustOne cX12_isJustOne 5 .boolean 0 0 0 G [.ref (ad 0 0), .int i1, .int i2] L f (fun r => bn 0 1 r) := by
  refine PMi.of (post := fun r L1 f1 => (bn 0 1 r) ∧ L1 = L ∧ f1 = f) (own := RX12) (by decide) rfl (Nat.le_of_ble_eq_true rfl) (fun sz p e s m args below meth c A ls hA1 hname S Y hl => ?_)
  have hx := S.hx
  have hb := S.hb
  have hl : lv_has ls 5 [(0, .ref (ad 0 0)), (1, .int i1), (2, .int i2)] := hl
  have J_5 : ∀ (n5 : Nat) (y5_3 y5_4 : Int32) (H : Heap) (locs : List Loc) (ls : Array Slot), (bn 0 999 y5_4) → (((999 : Int) - y5_4.toInt).toNat = n5) → (DY G A s [] L f H locs) → (lv_has ls 5 [(0, .ref (ad 0 0)), (1, .int i1), (2, .int i2), (3, .int y5_3), (4, .int y5_4)]) → W p l e (rmD 0 0 0) s m args below meth c H locs (0) (0) (MQ below (va_Qi (fun r (u : List Nat × HF) => (fun r L1 f1 => (bn 0 1 r) ∧ L1 = L ∧ f1 = f) r u.1 u.2) (fun u t => pOut G (va_A (va_pl L f) sz) u.1 u.2 t) (va_A (va_pl L f) sz)) args s 0 0 A) (F0 m 5 ls []) := by
    intro n5
    induction n5 using Nat.strongRecOn with
    | _ n5 ih5 =>
      intro y5_3 y5_4 H locs ls b_y5_4 hm5 Y hl
      refine lv_iload hx hb dX12_isJustOne_5 (lv_at hl 4 rfl) ?_
      refine lv_iload_n hx hb dX12_isJustOne_7 rfl (lv_at hl 2 rfl) ?_
      refine lv_icmp_ge (tgt := 37) hx hb dX12_isJustOne_8 (by decide) (fun c_11879 => ?_) (fun c_11879 => ?_)
      · refine lv_iload_n hx hb dX12_isJustOne_37 rfl (lv_at hl 3 rfl) ?_
        refine lv_iconst (v := 1) hx hb dX12_isJustOne_38 (by decide) ?_
        refine lv_icmp_ne (tgt := 46) hx hb dX12_isJustOne_39 (by decide) (fun c_11882 => ?_) (fun c_11882 => ?_)
        · refine lv_iconst (v := 0) hx hb dX12_isJustOne_46 (by decide) ?_
          exact prI (post := fun r L1 f1 => (bn 0 1 r) ∧ L1 = L ∧ f1 = f) S Y rfl (by decide) (by decide) hA1 ⟨bn_w (show bn 0 0 (0 : Int32) from bn_k (by decide)) (by decide), rfl, rfl⟩ dX12_isJustOne_47
        · have B_11883 : bn 1 1 y5_3 := bn_w (bn_eq c_11882 (show bn 1 1 (1 : Int32) from bn_k (by decide))) (by decide)
          refine lv_iconst (v := 1) hx hb dX12_isJustOne_42 (by decide) ?_
          refine lv_goto (tgt := 47) hx hb dX12_isJustOne_43 (by decide) ?_
          exact prI (post := fun r L1 f1 => (bn 0 1 r) ∧ L1 = L ∧ f1 = f) S Y rfl (by decide) (by decide) hA1 ⟨bn_w (show bn 1 1 (1 : Int32) from bn_k (by decide)) (by decide), rfl, rfl⟩ dX12_isJustOne_47
      · have B_11880 : bn 1 303 i2 := bn_w (bn_gtl c_11879 b_i2 b_y5_4) (by decide)
        have B_11881 : bn 0 302 y5_4 := bn_w (bn_gtr c_11879 b_i2 b_y5_4) (by decide)
        refine lv_iload_n hx hb dX12_isJustOne_11 rfl (lv_at hl 3 rfl) ?_
        refine lv_aload_n hx hb dX12_isJustOne_12 rfl (lv_at hl 0 rfl) ?_
        obtain ⟨v_11884, v_11886, v_11888, v_11890, v_11892, v_11894, v_11896, v_11898, v_11899, v_11901, v_11903, v_11905, v_11907, v_11909, v_11911, v_11913, v_11915, v_11917, p_ad_0_0, b_11885, b_11887, b_11889, b_11891, b_11893, b_11895, b_11897, b_11900, b_11902, b_11904, b_11906, b_11908, b_11910, b_11912, b_11914, b_11916, b_11918⟩ := opnM_0 (j := 0) I (by decide)
        have p_ad_0_0 : pt L f (ad 0 0) (.inr (12, [.ref (ad 1 0), .ref (ad 2 0), .ref (ad 3 0), .ref (ad 4 0), .int v_11884, .int v_11886, .int v_11888, .int v_11890, .int v_11892, .int v_11894, .int v_11896, .long v_11898, .int v_11899, .int v_11901, .int v_11903, .ref (ad 5 0), .ref (ad 6 0), .int v_11905, .int v_11907, .int v_11909, .int v_11911, .int v_11913, .ref (ad 7 0), .ref (ad 8 0), .ref (ad 9 0), .int v_11915, .ref (ad 10 0), .ref (ad 11 0), .ref (ad 12 0), .ref (ad 13 0), .int v_11917, .ref (ad 14 0)])) := p_ad_0_0
        refine pg_get S Y ok_X12 24 (by decide) kf12_42 (v := .ref (ad 9 0)) p_ad_0_0 rfl dX12_isJustOne_13 ?_
        refine lv_iload_n hx hb dX12_isJustOne_16 rfl (lv_at hl 1 rfl) ?_
        refine lv_iload hx hb dX12_isJustOne_17 (lv_at hl 4 rfl) ?_
        refine lv_iadd hx hb dX12_isJustOne_19 ?_
        refine lv_topi (fun x_11919 ex_11919 => ?_)
        obtain ⟨g_11920, p_ad_9_0, o_11921⟩ := I.opi (k := 9) (j := 0) (by decide) rfl
        have p_ad_9_0 : pt L f (ad 9 0) (.inl (G.2 2, 330, .inl g_11920)) := p_ad_9_0
        obtain ⟨v_11922, ev_11922⟩ : ∃ z, z = g_11920 (x_11919 : Int32).toNatClampNeg := ⟨_, rfl⟩
        refine pg_zald S Y p_ad_9_0 (vp_bn (bn_eq ex_11919 (jo_ix (bn_w b_i1 (by decide)) (bn_w B_11881 (by decide)) hsum (Int32.not_le.mp c_11879))) (by decide)) dX12_isJustOne_20 ?_
        refine lv_fold (z := v_11922) ev_11922.symm ?_
        refine lv_if_eq (tgt := 28) hx hb dX12_isJustOne_21 (by decide) (fun c_11923 => ?_) (fun c_11923 => ?_)
        · have B_11924 : bn 0 0 v_11922 := bn_w (bn_eq c_11923 (show bn 0 0 (0 : Int32) from bn_k (by decide))) (by decide)
          refine lv_iconst (v := 0) hx hb dX12_isJustOne_28 (by decide) ?_
          refine lv_iadd hx hb dX12_isJustOne_29 ?_
          refine lv_topi (fun x_11926 ex_11926 => ?_)
          refine lv_istore_n (lv' := [(3, .int x_11926), (0, .ref (ad 0 0)), (1, .int i1), (2, .int i2), (4, .int y5_4)]) hx hb dX12_isJustOne_30 rfl hl (by decide) rfl (fun ls hl => ?_)
          obtain ⟨x_11927, ex_11927⟩ : ∃ z : Int32, z = y5_4 + 1 := ⟨_, rfl⟩
          refine lv_iinc (v := x_11927) (lv' := [(4, .int x_11927), (3, .int x_11926), (0, .ref (ad 0 0)), (1, .int i1), (2, .int i2)]) hx hb dX12_isJustOne_31 hl (k := 4) rfl (by rw [ex_11927]; rfl) (by decide) rfl (fun ls hl => ?_)
          refine lv_goto (tgt := 5) hx hb dX12_isJustOne_34 (by decide) ?_
          exact ih5 _ (by rw [← hm5]; exact ms_up (m := 1) ex_11927 (show bn 1 1 (1 : Int32) from bn_k (by decide)) B_11881 (bn_w (bn_eq ex_11927 (bn_add B_11881 (show bn 1 1 (1 : Int32) from bn_k (by decide)) (by decide))) (by decide) : bn 0 999 x_11927) (by decide)) x_11926 x_11927  _ _ _  (bn_w (bn_eq ex_11927 (bn_add B_11881 (show bn 1 1 (1 : Int32) from bn_k (by decide)) (by decide))) (by decide)) rfl Y (lv_sub hl [2, 3, 4, 1, 0] rfl)
        · have B_11925 : bn 1 1 v_11922 := bn_w (bn_nel c_11923 (bn_eq ev_11922 (o_11921 _)) (show bn 0 0 (0 : Int32) from bn_k (by decide))) (by decide)
          refine lv_iconst (v := 1) hx hb dX12_isJustOne_24 (by decide) ?_
          refine lv_goto (tgt := 29) hx hb dX12_isJustOne_25 (by decide) ?_
          refine lv_iadd hx hb dX12_isJustOne_29 ?_
          refine lv_topi (fun x_11928 ex_11928 => ?_)
          refine lv_istore_n (lv' := [(3, .int x_11928), (0, .ref (ad 0 0)), (1, .int i1), (2, .int i2), (4, .int y5_4)]) hx hb dX12_isJustOne_30 rfl hl (by decide) rfl (fun ls hl => ?_)
          obtain ⟨x_11929, ex_11929⟩ : ∃ z : Int32, z = y5_4 + 1 := ⟨_, rfl⟩
          refine lv_iinc (v := x_11929) (lv' := [(4, .int x_11929), (3, .int x_11928), (0, .ref (ad 0 0)), (1, .int i1), (2, .int i2)]) hx hb dX12_isJustOne_31 hl (k := 4) rfl (by rw [ex_11929]; rfl) (by decide) rfl (fun ls hl => ?_)
          refine lv_goto (tgt := 5) hx hb dX12_isJustOne_34 (by decide) ?_
          exact ih5 _ (by rw [← hm5]; exact ms_up (m := 1) ex_11929 (show bn 1 1 (1 : Int32) from bn_k (by decide)) B_11881 (bn_w (bn_eq ex_11929 (bn_add B_11881 (show bn 1 1 (1 : Int32) from bn_k (by decide)) (by decide))) (by decide) : bn 0 999 x_11929) (by decide)) x_11928 x_11929  _ _ _  (bn_w (bn_eq ex_11929 (bn_add B_11881 (show bn 1 1 (1 : Int32) from bn_k (by decide)) (by decide))) (by decide)) rfl Y (lv_sub hl [2, 3, 4, 1, 0] rfl)
  refine lv_iconst (v := 0) hx hb dX12_isJustOne_0 (by decide) ?_
  refine lv_istore_n (lv' := [(3, .int 0), (0, .ref (ad 0 0)), (1, .int i1), (2, .int i2)]) hx hb dX12_isJustOne_1 rfl hl (by decide) rfl (fun ls hl => ?_)
  refine lv_iconst (v := 0) hx hb dX12_isJustOne_2 (by decide) ?_
  refine lv_istore (lv' := [(4, .int 0), (3, .int 0), (0, .ref (ad 0 0)), (1, .int i1), (2, .int i2)]) hx hb dX12_isJustOne_3 hl (by decide) rfl (fun ls hl => ?_)
  exact J_5 _ 0 0  _ _ _  (bn_w (show bn 0 0 (0 : Int32) from bn_k (by decide)) (by decide)) rfl Y (lv_sub hl [2, 3, 4, 1, 0] rfl)
set_option maxHeartbeats 4000000 in
set_option maxRecDepth 100000 in
theorem x_X12_clip {l : Launch} {G : GG}  {L : List Nat} {f : HF}  {v1 : Int64}  : PMl l yX12_clip cX12_clip 2 0 0 0 G [.long v1] L f (fun r L1 f1 => (True) ∧ L1 = L ∧ f1 = f) := by
  refine PMl.of (post := fun r L1 f1 => (True) ∧ L1 = L ∧ f1 = f) (own := RX12) (by decide) rfl (Nat.le_of_ble_eq_true rfl) (fun sz p e s m args below meth c A ls hA1 hname S Y hl => ?_)
  have hx := S.hx
  have hb := S.hb
  have hl : lv_has ls 2 [(0, .long v1)] := hl
  refine lv_lload_n hx hb dX12_clip_0 rfl (lv_at hl 0 rfl) ?_
  refine lv_ldc2 (v := 1000000) hx hb S.ow (S.w kl12_257) dX12_clip_1 ?_
  refine W.lcmp hx hb dX12_clip_4 ?_
  refine lv_topi (fun x_11946 ex_11946 => ?_)
  refine lv_if_le (tgt := 14) hx hb dX12_clip_5 (by decide) (fun c_11947 => ?_) (fun c_11947 => ?_)
  · have B_11948 : bn (-1) 0 x_11946 := bn_w (bn_lel c_11947 (bn_eq ex_11946 (bn_lc v1 (1000000 : Int64))) (show bn 0 0 (0 : Int32) from bn_k (by decide))) (by decide)
    refine lv_lload_n hx hb dX12_clip_14 rfl (lv_at hl 0 rfl) ?_
    refine lv_ldc2 (v := (-1000000)) hx hb S.ow (S.w kl12_259) dX12_clip_15 ?_
    refine W.lcmp hx hb dX12_clip_18 ?_
    refine lv_topi (fun x_11950 ex_11950 => ?_)
    refine lv_if_ge (tgt := 28) hx hb dX12_clip_19 (by decide) (fun c_11951 => ?_) (fun c_11951 => ?_)
    · have B_11952 : bn 0 1 x_11950 := bn_w (bn_ler c_11951 (show bn 0 0 (0 : Int32) from bn_k (by decide)) (bn_eq ex_11950 (bn_lc v1 ((-1000000) : Int64)))) (by decide)
      refine lv_lload_n hx hb dX12_clip_28 rfl (lv_at hl 0 rfl) ?_
      exact prL (post := fun r L1 f1 => (True) ∧ L1 = L ∧ f1 = f) S Y (by decide) (by decide) hA1 ⟨trivial, rfl, rfl⟩ dX12_clip_29
    · have B_11953 : bn (-1) (-1) x_11950 := bn_w (bn_gtr c_11951 (show bn 0 0 (0 : Int32) from bn_k (by decide)) (bn_eq ex_11950 (bn_lc v1 ((-1000000) : Int64)))) (by decide)
      refine lv_ldc2 (v := (-1000000)) hx hb S.ow (S.w kl12_259) dX12_clip_22 ?_
      refine lv_goto (tgt := 29) hx hb dX12_clip_25 (by decide) ?_
      exact prL (post := fun r L1 f1 => (True) ∧ L1 = L ∧ f1 = f) S Y (by decide) (by decide) hA1 ⟨trivial, rfl, rfl⟩ dX12_clip_29
  · have B_11949 : bn 1 1 x_11946 := bn_w (bn_gtl c_11947 (bn_eq ex_11946 (bn_lc v1 (1000000 : Int64))) (show bn 0 0 (0 : Int32) from bn_k (by decide))) (by decide)
    refine lv_ldc2 (v := 1000000) hx hb S.ow (S.w kl12_257) dX12_clip_8 ?_
    refine lv_goto (tgt := 29) hx hb dX12_clip_11 (by decide) ?_
    exact prL (post := fun r L1 f1 => (True) ∧ L1 = L ∧ f1 = f) S Y (by decide) (by decide) hA1 ⟨trivial, rfl, rfl⟩ dX12_clip_29
set_option maxHeartbeats 4000000 in
set_option maxRecDepth 100000 in
theorem x_X12_two {l : Launch} {G : GG}  {L : List Nat} {f : HF}  {i1 : Int32} {v1 v2 : Int64}  : PMl l yX12_two cX12_two 5 1 0 0 G [.int i1, .long v1, .long v2] L f (fun r L1 f1 => (True) ∧ L1 = L ∧ f1 = f) := by
  refine PMl.of (post := fun r L1 f1 => (True) ∧ L1 = L ∧ f1 = f) (own := RX12) (by decide) rfl (Nat.le_of_ble_eq_true rfl) (fun sz p e s m args below meth c A ls hA1 hname S Y hl => ?_)
  have hx := S.hx
  have hb := S.hb
  have hl : lv_has ls 5 [(0, .int i1), (1, .long v1), (3, .long v2)] := hl
  refine lv_iload_n hx hb dX12_two_0 rfl (lv_at hl 0 rfl) ?_
  rcases swM_6_8 i1 with h_11978 | h_11978 | h_11978 | h_11978
  · refine lv_fold (z := 6) h_11978 ?_
    refine lv_tableIn (off := 27) (tgt := 28) hx hb dX12_two_1 (by decide) (by decide) (by decide) (by decide) ?_
    refine lv_lload_n hx hb dX12_two_28 rfl (lv_at hl 1 rfl) ?_
    refine lv_lload_n hx hb dX12_two_29 rfl (lv_at hl 2 rfl) ?_
    refine lv_ladd hx hb dX12_two_30 ?_
    refine lv_topl (fun x_11979 ex_11979 => ?_)
    refine cSlp (As := [.long x_11979]) (rest := []) S Y (x_X12_clip (l := l) ) cw_X12_clip km12_261 rfl ⟨Nat.le_of_ble_eq_true rfl, Nat.le_of_ble_eq_true rfl⟩ hl.1 rfl (Nat.le_of_ble_eq_true rfl) ⟨Nat.le_of_ble_eq_true rfl, Nat.le_of_ble_eq_true rfl⟩ dX12_two_31 (fun r_11980 H locs er_11980 Y => ?_)
    exact prL (post := fun r L1 f1 => (True) ∧ L1 = L ∧ f1 = f) S Y (by decide) (by decide) hA1 ⟨trivial, rfl, rfl⟩ dX12_two_34
  · refine lv_fold (z := 7) h_11978 ?_
    refine lv_tableIn (off := 34) (tgt := 35) hx hb dX12_two_1 (by decide) (by decide) (by decide) (by decide) ?_
    refine lv_lload_n hx hb dX12_two_35 rfl (lv_at hl 1 rfl) ?_
    refine lv_lload_n hx hb dX12_two_36 rfl (lv_at hl 2 rfl) ?_
    refine lv_lsub hx hb dX12_two_37 ?_
    refine lv_topl (fun x_11981 ex_11981 => ?_)
    refine cSlp (As := [.long x_11981]) (rest := []) S Y (x_X12_clip (l := l) ) cw_X12_clip km12_261 rfl ⟨Nat.le_of_ble_eq_true rfl, Nat.le_of_ble_eq_true rfl⟩ hl.1 rfl (Nat.le_of_ble_eq_true rfl) ⟨Nat.le_of_ble_eq_true rfl, Nat.le_of_ble_eq_true rfl⟩ dX12_two_38 (fun r_11982 H locs er_11982 Y => ?_)
    exact prL (post := fun r L1 f1 => (True) ∧ L1 = L ∧ f1 = f) S Y (by decide) (by decide) hA1 ⟨trivial, rfl, rfl⟩ dX12_two_41
  · refine lv_fold (z := 8) h_11978 ?_
    refine lv_tableIn (off := 41) (tgt := 42) hx hb dX12_two_1 (by decide) (by decide) (by decide) (by decide) ?_
    refine lv_lload_n hx hb dX12_two_42 rfl (lv_at hl 1 rfl) ?_
    refine lv_lload_n hx hb dX12_two_43 rfl (lv_at hl 2 rfl) ?_
    refine lv_lmul hx hb dX12_two_44 ?_
    refine lv_topl (fun x_11983 ex_11983 => ?_)
    refine cSlp (As := [.long x_11983]) (rest := []) S Y (x_X12_clip (l := l) ) cw_X12_clip km12_261 rfl ⟨Nat.le_of_ble_eq_true rfl, Nat.le_of_ble_eq_true rfl⟩ hl.1 rfl (Nat.le_of_ble_eq_true rfl) ⟨Nat.le_of_ble_eq_true rfl, Nat.le_of_ble_eq_true rfl⟩ dX12_two_45 (fun r_11984 H locs er_11984 Y => ?_)
    exact prL (post := fun r L1 f1 => (True) ∧ L1 = L ∧ f1 = f) S Y (by decide) (by decide) hA1 ⟨trivial, rfl, rfl⟩ dX12_two_48
  · refine lv_tableOut (tgt := 49) hx hb dX12_two_1 h_11978 (by decide) ?_
    refine lv_lload_n hx hb dX12_two_49 rfl (lv_at hl 2 rfl) ?_
    refine lv_lconst (v := 0) hx hb dX12_two_50 (by decide) ?_
    refine W.lcmp hx hb dX12_two_51 ?_
    refine lv_topi (fun x_11985 ex_11985 => ?_)
    refine lv_if_ne (tgt := 59) hx hb dX12_two_52 (by decide) (fun c_11986 => ?_) (fun c_11986 => ?_)
    · refine lv_lload_n hx hb dX12_two_59 rfl (lv_at hl 1 rfl) ?_
      refine lv_lload_n hx hb dX12_two_60 rfl (lv_at hl 2 rfl) ?_
      refine lv_ldiv hx hb dX12_two_61 (lc_nz ex_11985 c_11986) ?_
      refine lv_topl (fun x_11988 ex_11988 => ?_)
      refine cSlp (As := [.long x_11988]) (rest := []) S Y (x_X12_clip (l := l) ) cw_X12_clip km12_261 rfl ⟨Nat.le_of_ble_eq_true rfl, Nat.le_of_ble_eq_true rfl⟩ hl.1 rfl (Nat.le_of_ble_eq_true rfl) ⟨Nat.le_of_ble_eq_true rfl, Nat.le_of_ble_eq_true rfl⟩ dX12_two_62 (fun r_11989 H locs er_11989 Y => ?_)
      exact prL (post := fun r L1 f1 => (True) ∧ L1 = L ∧ f1 = f) S Y (by decide) (by decide) hA1 ⟨trivial, rfl, rfl⟩ dX12_two_65
    · have B_11987 : bn 0 0 x_11985 := bn_w (bn_eq c_11986 (show bn 0 0 (0 : Int32) from bn_k (by decide))) (by decide)
      refine lv_lconst (v := 0) hx hb dX12_two_55 (by decide) ?_
      refine lv_goto (tgt := 65) hx hb dX12_two_56 (by decide) ?_
      exact prL (post := fun r L1 f1 => (True) ∧ L1 = L ∧ f1 = f) S Y (by decide) (by decide) hA1 ⟨trivial, rfl, rfl⟩ dX12_two_65
set_option maxHeartbeats 4000000 in
set_option maxRecDepth 100000 in
theorem x_X12_isAsked {l : Launch} {G : GG}  {L : List Nat} {f : HF}  {i1 : Int32} {v1 v2 : Int64}  : PMp l yX12_isAsked cX12_isAsked 5 .boolean 0 0 0 G [.int i1, .long v1, .long v2] L f (fun r => bn 0 1 r) := by
  refine PMi.of (post := fun r L1 f1 => (bn 0 1 r) ∧ L1 = L ∧ f1 = f) (own := RX12) (by decide) rfl (Nat.le_of_ble_eq_true rfl) (fun sz p e s m args below meth c A ls hA1 hname S Y hl => ?_)
  have hx := S.hx
  have hb := S.hb
  have hl : lv_has ls 5 [(0, .int i1), (1, .long v1), (3, .long v2)] := hl
  refine lv_iload_n hx hb dX12_isAsked_0 rfl (lv_at hl 0 rfl) ?_
  refine lv_bipush (v := 10) hx hb dX12_isAsked_1 (by decide) ?_
  refine lv_icmp_ne (tgt := 20) hx hb dX12_isAsked_3 (by decide) (fun c_12054 => ?_) (fun c_12054 => ?_)
  · refine lv_iload_n hx hb dX12_isAsked_20 rfl (lv_at hl 0 rfl) ?_
    refine lv_bipush (v := 11) hx hb dX12_isAsked_21 (by decide) ?_
    refine lv_icmp_ne (tgt := 40) hx hb dX12_isAsked_23 (by decide) (fun c_12056 => ?_) (fun c_12056 => ?_)
    · refine lv_iload_n hx hb dX12_isAsked_40 rfl (lv_at hl 0 rfl) ?_
      refine lv_bipush (v := 12) hx hb dX12_isAsked_41 (by decide) ?_
      refine lv_icmp_ne (tgt := 60) hx hb dX12_isAsked_43 (by decide) (fun c_12058 => ?_) (fun c_12058 => ?_)
      · refine lv_iload_n hx hb dX12_isAsked_60 rfl (lv_at hl 0 rfl) ?_
        refine lv_bipush (v := 13) hx hb dX12_isAsked_61 (by decide) ?_
        refine lv_icmp_ne (tgt := 80) hx hb dX12_isAsked_63 (by decide) (fun c_12060 => ?_) (fun c_12060 => ?_)
        · refine lv_iload_n hx hb dX12_isAsked_80 rfl (lv_at hl 0 rfl) ?_
          refine lv_bipush (v := 14) hx hb dX12_isAsked_81 (by decide) ?_
          refine lv_icmp_ne (tgt := 100) hx hb dX12_isAsked_83 (by decide) (fun c_12062 => ?_) (fun c_12062 => ?_)
          · refine lv_lload_n hx hb dX12_isAsked_100 rfl (lv_at hl 1 rfl) ?_
            refine lv_lload_n hx hb dX12_isAsked_101 rfl (lv_at hl 2 rfl) ?_
            refine W.lcmp hx hb dX12_isAsked_102 ?_
            refine lv_topi (fun x_12064 ex_12064 => ?_)
            refine lv_if_eq (tgt := 110) hx hb dX12_isAsked_103 (by decide) (fun c_12065 => ?_) (fun c_12065 => ?_)
            · have B_12066 : bn 0 0 x_12064 := bn_w (bn_eq c_12065 (show bn 0 0 (0 : Int32) from bn_k (by decide))) (by decide)
              refine lv_iconst (v := 0) hx hb dX12_isAsked_110 (by decide) ?_
              exact prI (post := fun r L1 f1 => (bn 0 1 r) ∧ L1 = L ∧ f1 = f) S Y rfl (by decide) (by decide) hA1 ⟨bn_w (show bn 0 0 (0 : Int32) from bn_k (by decide)) (by decide), rfl, rfl⟩ dX12_isAsked_111
            · refine lv_iconst (v := 1) hx hb dX12_isAsked_106 (by decide) ?_
              refine lv_goto (tgt := 111) hx hb dX12_isAsked_107 (by decide) ?_
              exact prI (post := fun r L1 f1 => (bn 0 1 r) ∧ L1 = L ∧ f1 = f) S Y rfl (by decide) (by decide) hA1 ⟨bn_w (show bn 1 1 (1 : Int32) from bn_k (by decide)) (by decide), rfl, rfl⟩ dX12_isAsked_111
          · have B_12063 : bn 14 14 i1 := bn_w (bn_eq c_12062 (show bn 14 14 (14 : Int32) from bn_k (by decide))) (by decide)
            refine lv_lload_n hx hb dX12_isAsked_86 rfl (lv_at hl 1 rfl) ?_
            refine lv_lload_n hx hb dX12_isAsked_87 rfl (lv_at hl 2 rfl) ?_
            refine W.lcmp hx hb dX12_isAsked_88 ?_
            refine lv_topi (fun x_12067 ex_12067 => ?_)
            refine lv_if_ne (tgt := 96) hx hb dX12_isAsked_89 (by decide) (fun c_12068 => ?_) (fun c_12068 => ?_)
            · refine lv_iconst (v := 0) hx hb dX12_isAsked_96 (by decide) ?_
              refine lv_goto (tgt := 111) hx hb dX12_isAsked_97 (by decide) ?_
              exact prI (post := fun r L1 f1 => (bn 0 1 r) ∧ L1 = L ∧ f1 = f) S Y rfl (by decide) (by decide) hA1 ⟨bn_w (show bn 0 0 (0 : Int32) from bn_k (by decide)) (by decide), rfl, rfl⟩ dX12_isAsked_111
            · have B_12069 : bn 0 0 x_12067 := bn_w (bn_eq c_12068 (show bn 0 0 (0 : Int32) from bn_k (by decide))) (by decide)
              refine lv_iconst (v := 1) hx hb dX12_isAsked_92 (by decide) ?_
              refine lv_goto (tgt := 111) hx hb dX12_isAsked_93 (by decide) ?_
              exact prI (post := fun r L1 f1 => (bn 0 1 r) ∧ L1 = L ∧ f1 = f) S Y rfl (by decide) (by decide) hA1 ⟨bn_w (show bn 1 1 (1 : Int32) from bn_k (by decide)) (by decide), rfl, rfl⟩ dX12_isAsked_111
        · have B_12061 : bn 13 13 i1 := bn_w (bn_eq c_12060 (show bn 13 13 (13 : Int32) from bn_k (by decide))) (by decide)
          refine lv_lload_n hx hb dX12_isAsked_66 rfl (lv_at hl 1 rfl) ?_
          refine lv_lload_n hx hb dX12_isAsked_67 rfl (lv_at hl 2 rfl) ?_
          refine W.lcmp hx hb dX12_isAsked_68 ?_
          refine lv_topi (fun x_12070 ex_12070 => ?_)
          refine lv_if_lt (tgt := 76) hx hb dX12_isAsked_69 (by decide) (fun c_12071 => ?_) (fun c_12071 => ?_)
          · have B_12072 : bn (-1) (-1) x_12070 := bn_w (bn_ltl c_12071 (bn_eq ex_12070 (bn_lc v1 v2)) (show bn 0 0 (0 : Int32) from bn_k (by decide))) (by decide)
            refine lv_iconst (v := 0) hx hb dX12_isAsked_76 (by decide) ?_
            refine lv_goto (tgt := 111) hx hb dX12_isAsked_77 (by decide) ?_
            exact prI (post := fun r L1 f1 => (bn 0 1 r) ∧ L1 = L ∧ f1 = f) S Y rfl (by decide) (by decide) hA1 ⟨bn_w (show bn 0 0 (0 : Int32) from bn_k (by decide)) (by decide), rfl, rfl⟩ dX12_isAsked_111
          · have B_12073 : bn 0 1 x_12070 := bn_w (bn_gel c_12071 (bn_eq ex_12070 (bn_lc v1 v2)) (show bn 0 0 (0 : Int32) from bn_k (by decide))) (by decide)
            refine lv_iconst (v := 1) hx hb dX12_isAsked_72 (by decide) ?_
            refine lv_goto (tgt := 111) hx hb dX12_isAsked_73 (by decide) ?_
            exact prI (post := fun r L1 f1 => (bn 0 1 r) ∧ L1 = L ∧ f1 = f) S Y rfl (by decide) (by decide) hA1 ⟨bn_w (show bn 1 1 (1 : Int32) from bn_k (by decide)) (by decide), rfl, rfl⟩ dX12_isAsked_111
      · have B_12059 : bn 12 12 i1 := bn_w (bn_eq c_12058 (show bn 12 12 (12 : Int32) from bn_k (by decide))) (by decide)
        refine lv_lload_n hx hb dX12_isAsked_46 rfl (lv_at hl 1 rfl) ?_
        refine lv_lload_n hx hb dX12_isAsked_47 rfl (lv_at hl 2 rfl) ?_
        refine W.lcmp hx hb dX12_isAsked_48 ?_
        refine lv_topi (fun x_12074 ex_12074 => ?_)
        refine lv_if_le (tgt := 56) hx hb dX12_isAsked_49 (by decide) (fun c_12075 => ?_) (fun c_12075 => ?_)
        · have B_12076 : bn (-1) 0 x_12074 := bn_w (bn_lel c_12075 (bn_eq ex_12074 (bn_lc v1 v2)) (show bn 0 0 (0 : Int32) from bn_k (by decide))) (by decide)
          refine lv_iconst (v := 0) hx hb dX12_isAsked_56 (by decide) ?_
          refine lv_goto (tgt := 111) hx hb dX12_isAsked_57 (by decide) ?_
          exact prI (post := fun r L1 f1 => (bn 0 1 r) ∧ L1 = L ∧ f1 = f) S Y rfl (by decide) (by decide) hA1 ⟨bn_w (show bn 0 0 (0 : Int32) from bn_k (by decide)) (by decide), rfl, rfl⟩ dX12_isAsked_111
        · have B_12077 : bn 1 1 x_12074 := bn_w (bn_gtl c_12075 (bn_eq ex_12074 (bn_lc v1 v2)) (show bn 0 0 (0 : Int32) from bn_k (by decide))) (by decide)
          refine lv_iconst (v := 1) hx hb dX12_isAsked_52 (by decide) ?_
          refine lv_goto (tgt := 111) hx hb dX12_isAsked_53 (by decide) ?_
          exact prI (post := fun r L1 f1 => (bn 0 1 r) ∧ L1 = L ∧ f1 = f) S Y rfl (by decide) (by decide) hA1 ⟨bn_w (show bn 1 1 (1 : Int32) from bn_k (by decide)) (by decide), rfl, rfl⟩ dX12_isAsked_111
    · have B_12057 : bn 11 11 i1 := bn_w (bn_eq c_12056 (show bn 11 11 (11 : Int32) from bn_k (by decide))) (by decide)
      refine lv_lload_n hx hb dX12_isAsked_26 rfl (lv_at hl 1 rfl) ?_
      refine lv_lload_n hx hb dX12_isAsked_27 rfl (lv_at hl 2 rfl) ?_
      refine W.lcmp hx hb dX12_isAsked_28 ?_
      refine lv_topi (fun x_12078 ex_12078 => ?_)
      refine lv_if_gt (tgt := 36) hx hb dX12_isAsked_29 (by decide) (fun c_12079 => ?_) (fun c_12079 => ?_)
      · have B_12080 : bn 1 1 x_12078 := bn_w (bn_ltr c_12079 (show bn 0 0 (0 : Int32) from bn_k (by decide)) (bn_eq ex_12078 (bn_lc v1 v2))) (by decide)
        refine lv_iconst (v := 0) hx hb dX12_isAsked_36 (by decide) ?_
        refine lv_goto (tgt := 111) hx hb dX12_isAsked_37 (by decide) ?_
        exact prI (post := fun r L1 f1 => (bn 0 1 r) ∧ L1 = L ∧ f1 = f) S Y rfl (by decide) (by decide) hA1 ⟨bn_w (show bn 0 0 (0 : Int32) from bn_k (by decide)) (by decide), rfl, rfl⟩ dX12_isAsked_111
      · have B_12081 : bn (-1) 0 x_12078 := bn_w (bn_ger c_12079 (show bn 0 0 (0 : Int32) from bn_k (by decide)) (bn_eq ex_12078 (bn_lc v1 v2))) (by decide)
        refine lv_iconst (v := 1) hx hb dX12_isAsked_32 (by decide) ?_
        refine lv_goto (tgt := 111) hx hb dX12_isAsked_33 (by decide) ?_
        exact prI (post := fun r L1 f1 => (bn 0 1 r) ∧ L1 = L ∧ f1 = f) S Y rfl (by decide) (by decide) hA1 ⟨bn_w (show bn 1 1 (1 : Int32) from bn_k (by decide)) (by decide), rfl, rfl⟩ dX12_isAsked_111
  · have B_12055 : bn 10 10 i1 := bn_w (bn_eq c_12054 (show bn 10 10 (10 : Int32) from bn_k (by decide))) (by decide)
    refine lv_lload_n hx hb dX12_isAsked_6 rfl (lv_at hl 1 rfl) ?_
    refine lv_lload_n hx hb dX12_isAsked_7 rfl (lv_at hl 2 rfl) ?_
    refine W.lcmp hx hb dX12_isAsked_8 ?_
    refine lv_topi (fun x_12082 ex_12082 => ?_)
    refine lv_if_ge (tgt := 16) hx hb dX12_isAsked_9 (by decide) (fun c_12083 => ?_) (fun c_12083 => ?_)
    · have B_12084 : bn 0 1 x_12082 := bn_w (bn_ler c_12083 (show bn 0 0 (0 : Int32) from bn_k (by decide)) (bn_eq ex_12082 (bn_lc v1 v2))) (by decide)
      refine lv_iconst (v := 0) hx hb dX12_isAsked_16 (by decide) ?_
      refine lv_goto (tgt := 111) hx hb dX12_isAsked_17 (by decide) ?_
      exact prI (post := fun r L1 f1 => (bn 0 1 r) ∧ L1 = L ∧ f1 = f) S Y rfl (by decide) (by decide) hA1 ⟨bn_w (show bn 0 0 (0 : Int32) from bn_k (by decide)) (by decide), rfl, rfl⟩ dX12_isAsked_111
    · have B_12085 : bn (-1) (-1) x_12082 := bn_w (bn_gtr c_12083 (show bn 0 0 (0 : Int32) from bn_k (by decide)) (bn_eq ex_12082 (bn_lc v1 v2))) (by decide)
      refine lv_iconst (v := 1) hx hb dX12_isAsked_12 (by decide) ?_
      refine lv_goto (tgt := 111) hx hb dX12_isAsked_13 (by decide) ?_
      exact prI (post := fun r L1 f1 => (bn 0 1 r) ∧ L1 = L ∧ f1 = f) S Y rfl (by decide) (by decide) hA1 ⟨bn_w (show bn 1 1 (1 : Int32) from bn_k (by decide)) (by decide), rfl, rfl⟩ dX12_isAsked_111
set_option maxHeartbeats 4000000 in
set_option maxRecDepth 100000 in
theorem x_X12_joined {l : Launch} {G : GG}  {L : List Nat} {f : HF}  {i1 i2 i3 : Int32} (b_i2 : bn 0 1 i2) (b_i3 : bn 0 1 i3) : PMp l yX12_joined cX12_joined 3 .boolean 0 0 0 G [.int i1, .int i2, .int i3] L f (fun r => bn 0 1 r) := by
  refine PMi.of (post := fun r L1 f1 => (bn 0 1 r) ∧ L1 = L ∧ f1 = f) (own := RX12) (by decide) rfl (Nat.le_of_ble_eq_true rfl) (fun sz p e s m args below meth c A ls hA1 hname S Y hl => ?_)
  have hx := S.hx
  have hb := S.hb
  have hl : lv_has ls 3 [(0, .int i1), (1, .int i2), (2, .int i3)] := hl
  refine lv_iload_n hx hb dX12_joined_0 rfl (lv_at hl 0 rfl) ?_
  refine lv_bipush (v := 21) hx hb dX12_joined_1 (by decide) ?_
  refine lv_icmp_ne (tgt := 22) hx hb dX12_joined_3 (by decide) (fun c_12114 => ?_) (fun c_12114 => ?_)
  · refine lv_iload_n hx hb dX12_joined_22 rfl (lv_at hl 1 rfl) ?_
    refine lv_if_ne (tgt := 30) hx hb dX12_joined_23 (by decide) (fun c_12116 => ?_) (fun c_12116 => ?_)
    · have B_12117 : bn 1 1 i2 := bn_w (bn_nel c_12116 b_i2 (show bn 0 0 (0 : Int32) from bn_k (by decide))) (by decide)
      refine lv_iconst (v := 1) hx hb dX12_joined_30 (by decide) ?_
      refine lv_goto (tgt := 35) hx hb dX12_joined_31 (by decide) ?_
      exact prI (post := fun r L1 f1 => (bn 0 1 r) ∧ L1 = L ∧ f1 = f) S Y rfl (by decide) (by decide) hA1 ⟨bn_w (show bn 1 1 (1 : Int32) from bn_k (by decide)) (by decide), rfl, rfl⟩ dX12_joined_35
    · have B_12118 : bn 0 0 i2 := bn_w (bn_eq c_12116 (show bn 0 0 (0 : Int32) from bn_k (by decide))) (by decide)
      refine lv_iload_n hx hb dX12_joined_26 rfl (lv_at hl 2 rfl) ?_
      refine lv_if_eq (tgt := 34) hx hb dX12_joined_27 (by decide) (fun c_12119 => ?_) (fun c_12119 => ?_)
      · have B_12120 : bn 0 0 i3 := bn_w (bn_eq c_12119 (show bn 0 0 (0 : Int32) from bn_k (by decide))) (by decide)
        refine lv_iconst (v := 0) hx hb dX12_joined_34 (by decide) ?_
        exact prI (post := fun r L1 f1 => (bn 0 1 r) ∧ L1 = L ∧ f1 = f) S Y rfl (by decide) (by decide) hA1 ⟨bn_w (show bn 0 0 (0 : Int32) from bn_k (by decide)) (by decide), rfl, rfl⟩ dX12_joined_35
      · have B_12121 : bn 1 1 i3 := bn_w (bn_nel c_12119 b_i3 (show bn 0 0 (0 : Int32) from bn_k (by decide))) (by decide)
        refine lv_iconst (v := 1) hx hb dX12_joined_30 (by decide) ?_
        refine lv_goto (tgt := 35) hx hb dX12_joined_31 (by decide) ?_
        exact prI (post := fun r L1 f1 => (bn 0 1 r) ∧ L1 = L ∧ f1 = f) S Y rfl (by decide) (by decide) hA1 ⟨bn_w (show bn 1 1 (1 : Int32) from bn_k (by decide)) (by decide), rfl, rfl⟩ dX12_joined_35
  · have B_12115 : bn 21 21 i1 := bn_w (bn_eq c_12114 (show bn 21 21 (21 : Int32) from bn_k (by decide))) (by decide)
    refine lv_iload_n hx hb dX12_joined_6 rfl (lv_at hl 1 rfl) ?_
    refine lv_if_eq (tgt := 18) hx hb dX12_joined_7 (by decide) (fun c_12122 => ?_) (fun c_12122 => ?_)
    · have B_12123 : bn 0 0 i2 := bn_w (bn_eq c_12122 (show bn 0 0 (0 : Int32) from bn_k (by decide))) (by decide)
      refine lv_iconst (v := 0) hx hb dX12_joined_18 (by decide) ?_
      refine lv_goto (tgt := 35) hx hb dX12_joined_19 (by decide) ?_
      exact prI (post := fun r L1 f1 => (bn 0 1 r) ∧ L1 = L ∧ f1 = f) S Y rfl (by decide) (by decide) hA1 ⟨bn_w (show bn 0 0 (0 : Int32) from bn_k (by decide)) (by decide), rfl, rfl⟩ dX12_joined_35
    · have B_12124 : bn 1 1 i2 := bn_w (bn_nel c_12122 b_i2 (show bn 0 0 (0 : Int32) from bn_k (by decide))) (by decide)
      refine lv_iload_n hx hb dX12_joined_10 rfl (lv_at hl 2 rfl) ?_
      refine lv_if_eq (tgt := 18) hx hb dX12_joined_11 (by decide) (fun c_12125 => ?_) (fun c_12125 => ?_)
      · have B_12126 : bn 0 0 i3 := bn_w (bn_eq c_12125 (show bn 0 0 (0 : Int32) from bn_k (by decide))) (by decide)
        refine lv_iconst (v := 0) hx hb dX12_joined_18 (by decide) ?_
        refine lv_goto (tgt := 35) hx hb dX12_joined_19 (by decide) ?_
        exact prI (post := fun r L1 f1 => (bn 0 1 r) ∧ L1 = L ∧ f1 = f) S Y rfl (by decide) (by decide) hA1 ⟨bn_w (show bn 0 0 (0 : Int32) from bn_k (by decide)) (by decide), rfl, rfl⟩ dX12_joined_35
      · have B_12127 : bn 1 1 i3 := bn_w (bn_nel c_12125 b_i3 (show bn 0 0 (0 : Int32) from bn_k (by decide))) (by decide)
        refine lv_iconst (v := 1) hx hb dX12_joined_14 (by decide) ?_
        refine lv_goto (tgt := 35) hx hb dX12_joined_15 (by decide) ?_
        exact prI (post := fun r L1 f1 => (bn 0 1 r) ∧ L1 = L ∧ f1 = f) S Y rfl (by decide) (by decide) hA1 ⟨bn_w (show bn 1 1 (1 : Int32) from bn_k (by decide)) (by decide), rfl, rfl⟩ dX12_joined_35
set_option maxHeartbeats 4000000 in
set_option maxRecDepth 100000 in
theorem x_X12_marksOf {l : Launch} {G : GG}  {L : List Nat} {f : HF} {ad : Nat → Nat → Nat} {sl : Int} {pl : Int} {oh : Int} {dh : Int} {w : WW} {pi : PIT} {px : (Nat → Int32) → Prop} {pa : (Nat → Int32) → Prop} {v1 : Int64} (I : SH (spM (IA sl pl oh dh w) pi px pa) nnM G ad L f) (hB : BBp sl pl oh dh w) : PMl l yX12_marksOf cX12_marksOf 3 3 0 0 G [.ref (ad 0 0), .long v1] L f (fun r L1 f1 => (True) ∧ L1 = L ∧ f1 = f) := by
  refine PMl.of (post := fun r L1 f1 => (True) ∧ L1 = L ∧ f1 = f) (own := RX12) (by decide) rfl (Nat.le_of_ble_eq_true rfl) (fun sz p e s m args below meth c A ls hA1 hname S Y hl => ?_)
  have hx := S.hx
  have hb := S.hb
  have hl : lv_has ls 3 [(0, .ref (ad 0 0)), (1, .long v1)] := hl
  refine lv_lload_n hx hb dX12_marksOf_0 rfl (lv_at hl 1 rfl) ?_
  refine lv_lconst (v := 0) hx hb dX12_marksOf_1 (by decide) ?_
  refine W.lcmp hx hb dX12_marksOf_2 ?_
  refine lv_topi (fun x_12230 ex_12230 => ?_)
  refine lv_if_lt (tgt := 31) hx hb dX12_marksOf_3 (by decide) (fun c_12231 => ?_) (fun c_12231 => ?_)
  · have B_12232 : bn (-1) (-1) x_12230 := bn_w (bn_ltl c_12231 (bn_eq ex_12230 (bn_lc v1 (0 : Int64))) (show bn 0 0 (0 : Int32) from bn_k (by decide))) (by decide)
    refine lv_lconst (v := 0) hx hb dX12_marksOf_31 (by decide) ?_
    exact prL (post := fun r L1 f1 => (True) ∧ L1 = L ∧ f1 = f) S Y (by decide) (by decide) hA1 ⟨trivial, rfl, rfl⟩ dX12_marksOf_32
  · have B_12233 : bn 0 1 x_12230 := bn_w (bn_gel c_12231 (bn_eq ex_12230 (bn_lc v1 (0 : Int64))) (show bn 0 0 (0 : Int32) from bn_k (by decide))) (by decide)
    refine lv_lload_n hx hb dX12_marksOf_6 rfl (lv_at hl 1 rfl) ?_
    refine lv_aload_n hx hb dX12_marksOf_7 rfl (lv_at hl 0 rfl) ?_
    obtain ⟨v_12234, v_12236, v_12238, v_12240, v_12242, v_12244, v_12246, v_12248, v_12249, v_12251, v_12253, v_12255, v_12257, v_12259, v_12261, v_12263, v_12265, v_12267, p_ad_0_0, b_12235, b_12237, b_12239, b_12241, b_12243, b_12245, b_12247, b_12250, b_12252, b_12254, b_12256, b_12258, b_12260, b_12262, b_12264, b_12266, b_12268⟩ := opnM_0 (j := 0) I (by decide)
    have p_ad_0_0 : pt L f (ad 0 0) (.inr (12, [.ref (ad 1 0), .ref (ad 2 0), .ref (ad 3 0), .ref (ad 4 0), .int v_12234, .int v_12236, .int v_12238, .int v_12240, .int v_12242, .int v_12244, .int v_12246, .long v_12248, .int v_12249, .int v_12251, .int v_12253, .ref (ad 5 0), .ref (ad 6 0), .int v_12255, .int v_12257, .int v_12259, .int v_12261, .int v_12263, .ref (ad 7 0), .ref (ad 8 0), .ref (ad 9 0), .int v_12265, .ref (ad 10 0), .ref (ad 11 0), .ref (ad 12 0), .ref (ad 13 0), .int v_12267, .ref (ad 14 0)])) := p_ad_0_0
    refine pg_get S Y ok_X12 0 (by decide) kf12_7 (v := .ref (ad 1 0)) p_ad_0_0 rfl dX12_marksOf_8 ?_
    refine lv_iconst (v := 0) hx hb dX12_marksOf_11 (by decide) ?_
    obtain ⟨g_12269, p_ad_1_0, o_12270⟩ := I.opi (k := 1) (j := 0) (by decide) rfl
    have p_ad_1_0 : pt L f (ad 1 0) (.inl (G.2 0, 10568, .inl g_12269)) := p_ad_1_0
    obtain ⟨v_12271, ev_12271⟩ : ∃ z, z = g_12269 (0 : Int32).toNatClampNeg := ⟨_, rfl⟩
    refine pg_iald S Y (v := v_12271) p_ad_1_0 (by unfold vp_in; decide) ev_12271.symm dX12_marksOf_12 ?_
    have bv_12271 : bn 0 6 v_12271 := bn_eq ev_12271 (bn_w (a' := 0) (b' := 6) (IA_0 o_12270) ⟨by have h9 := hB; unfold BBp at h9; omega, by decide⟩)
    refine lv_i2l hx hb dX12_marksOf_13 rfl ?_
    refine lv_topl (fun x_12272 ex_12272 => ?_)
    refine W.lcmp hx hb dX12_marksOf_14 ?_
    refine lv_topi (fun x_12273 ex_12273 => ?_)
    refine lv_if_ge (tgt := 31) hx hb dX12_marksOf_15 (by decide) (fun c_12274 => ?_) (fun c_12274 => ?_)
    · have B_12275 : bn 0 1 x_12273 := bn_w (bn_ler c_12274 (show bn 0 0 (0 : Int32) from bn_k (by decide)) (bn_eq ex_12273 (bn_lc v1 x_12272))) (by decide)
      refine lv_lconst (v := 0) hx hb dX12_marksOf_31 (by decide) ?_
      exact prL (post := fun r L1 f1 => (True) ∧ L1 = L ∧ f1 = f) S Y (by decide) (by decide) hA1 ⟨trivial, rfl, rfl⟩ dX12_marksOf_32
    · have B_12276 : bn (-1) (-1) x_12273 := bn_w (bn_gtr c_12274 (show bn 0 0 (0 : Int32) from bn_k (by decide)) (bn_eq ex_12273 (bn_lc v1 x_12272))) (by decide)
      refine lv_aload_n hx hb dX12_marksOf_18 rfl (lv_at hl 0 rfl) ?_
      refine lv_lload_n hx hb dX12_marksOf_19 rfl (lv_at hl 1 rfl) ?_
      refine lv_l2i hx hb dX12_marksOf_20 rfl ?_
      refine lv_topi (fun x_12277 ex_12277 => ?_)
      refine cVp (As := [.int x_12277]) (rest := []) S Y (x_X12_legibleOn (l := l) I hB) cw_X12_legibleOn km12_265 p_ad_0_0 ok_X12.1 rfl rfl ⟨Nat.le_of_ble_eq_true rfl, Nat.le_of_ble_eq_true rfl⟩ hl.1 rfl (Nat.le_of_ble_eq_true rfl) ⟨Nat.le_of_ble_eq_true rfl, Nat.le_of_ble_eq_true rfl⟩ dX12_marksOf_21 (fun r_12278 H locs er_12278 Y => ?_)
      refine cSp (As := [.int r_12278]) (rest := []) S Y (x_X12_bits (l := l) ) cw_X12_bits km12_268 rfl ⟨Nat.le_of_ble_eq_true rfl, Nat.le_of_ble_eq_true rfl⟩ hl.1 rfl (Nat.le_of_ble_eq_true rfl) ⟨Nat.le_of_ble_eq_true rfl, Nat.le_of_ble_eq_true rfl⟩ dX12_marksOf_24 (fun r_12279 H locs er_12279 Y => ?_)
      refine lv_i2l hx hb dX12_marksOf_27 rfl ?_
      refine lv_topl (fun x_12280 ex_12280 => ?_)
      refine lv_goto (tgt := 32) hx hb dX12_marksOf_28 (by decide) ?_
      exact prL (post := fun r L1 f1 => (True) ∧ L1 = L ∧ f1 = f) S Y (by decide) (by decide) hA1 ⟨trivial, rfl, rfl⟩ dX12_marksOf_32
section HAR
variable {g : Nat → Int32} {b : Nat} {fr i n t : Int32} {X Y : Prop}
theorem HA_5 (h : HT g b fr i n t ∧ X ∧ Y) : bn 0 303 n := HT_5 h.1
theorem HA_6 (h : HT g b fr i n t ∧ X ∧ Y) : bn 0 303 t := HT_6 h.1
theorem HA_7 (h : HT g b fr i n t ∧ X ∧ Y) : bn 0 303 i := HT_7 h.1
end HAR
theorem tnc (x : Int32) : x.toNatClampNeg = x.toInt.toNat := rfl
set_option maxHeartbeats 4000000 in
set_option maxRecDepth 100000 in
theorem x_X12_summedUp {l : Launch} {G : GG}  {L : List Nat} {f : HF} {ad : Nat → Nat → Nat} {sl : Int} {pl : Int} {oh : Int} {dh : Int} {w : WW} {pi : PIT} {g0 : Nat → Int32} {pa : (Nat → Int32) → Prop} {i1 i2 : Int32} {fr to2 : Int32} (I : SH (spM (IA sl pl oh dh w) pi (EQ g0) pa) nnM G ad L f) (hB : BBp sl pl oh dh w) (hX : TX g0) (b_i1 : bn 0 3 i1) (b_i2 : bn 0 23 i2) (hfr : g0 (729 * i1.toNatClampNeg + 1 + 5 * i2.toNatClampNeg + 1) = fr) (hto : g0 (729 * i1.toNatClampNeg + 1 + 5 * i2.toNatClampNeg + 2) = to2) (hWF : WFc g0 (729 * i1.toNatClampNeg + 121) fr to2) : PMl l yX12_summedUp cX12_summedUp 10 4 0 0 G [.ref (ad 0 0), .int i1, .int i2] L f (fun r L1 f1 => SH (spM (IA sl pl oh dh w) pi (EQ g0) pa) nnM G ad L1 f1) := by
  refine PMl.of (post := fun r L1 f1 => SH (spM (IA sl pl oh dh w) pi (EQ g0) pa) nnM G ad L1 f1) (own := RX12) (by decide) rfl (Nat.le_of_ble_eq_true rfl) (fun sz p e s m args below meth c A ls hA1 hname S Y hl => ?_)
  have hx := S.hx
  have hb := S.hb
  have hl : lv_has ls 10 [(0, .ref (ad 0 0)), (1, .int i1), (2, .int i2)] := hl
  have J_38 : ∀ (n38 : Nat) (y38_3 y38_4 y38_5 y38_6 y38_7 : Int32) (L_38 : List Nat) (f_38 : HF) (H : Heap) (locs : List Loc) (ls : Array Slot), (SH (spM (IA sl pl oh dh w) pi (EQ g0) pa) nnM G ad L_38 f_38) → (bn 1 2303 y38_3) → (bn 121 2308 y38_4) → (bn 0 303 y38_5) → (bn 0 303 y38_6) → (bn 0 303 y38_7) → (HT g0 (729 * i1.toNatClampNeg + 121) fr y38_7 y38_5 y38_6 ∧ y38_3.toInt = 729 * i1.toInt + 1 + 5 * i2.toInt ∧ y38_4.toInt = 729 * i1.toInt + 121) → (((303 : Int) - y38_7.toInt).toNat = n38) → (DY G A s [] L_38 f_38 H locs) → (lv_has ls 10 [(0, .ref (ad 0 0)), (1, .int i1), (2, .int i2), (3, .int y38_3), (4, .int y38_4), (5, .int y38_5), (6, .int y38_6), (7, .int y38_7)]) → W p l e (rmD 4 0 0) s m args below meth c H locs (0) (0) (MQ below (va_Ql (fun r (u : List Nat × HF) => (fun r L1 f1 => SH (spM (IA sl pl oh dh w) pi (EQ g0) pa) nnM G ad L1 f1) r u.1 u.2) (fun u t => pOut G (va_A (va_pl L f) sz) u.1 u.2 t) (va_A (va_pl L f) sz)) args s 0 0 A) (F0 m 38 ls []) := by
    intro n38
    induction n38 using Nat.strongRecOn with
    | _ n38 ih38 =>
      intro y38_3 y38_4 y38_5 y38_6 y38_7 L_38 f_38 H locs ls I b_y38_3 b_y38_4 b_y38_5 b_y38_6 b_y38_7 hHA hm38 Y hl
      obtain ⟨hHT, hX3, hX4⟩ := hHA
      refine lv_iload hx hb dX12_summedUp_38 (lv_at hl 7 rfl) ?_
      refine lv_aload_n hx hb dX12_summedUp_40 rfl (lv_at hl 0 rfl) ?_
      obtain ⟨v_12793, v_12795, v_12797, v_12799, v_12801, v_12803, v_12805, v_12807, v_12808, v_12810, v_12812, v_12814, v_12816, v_12818, v_12820, v_12822, v_12824, v_12826, p_ad_0_0, b_12794, b_12796, b_12798, b_12800, b_12802, b_12804, b_12806, b_12809, b_12811, b_12813, b_12815, b_12817, b_12819, b_12821, b_12823, b_12825, b_12827⟩ := opnM_0 (j := 0) I (by decide)
      have p_ad_0_0 : pt L_38 f_38 (ad 0 0) (.inr (12, [.ref (ad 1 0), .ref (ad 2 0), .ref (ad 3 0), .ref (ad 4 0), .int v_12793, .int v_12795, .int v_12797, .int v_12799, .int v_12801, .int v_12803, .int v_12805, .long v_12807, .int v_12808, .int v_12810, .int v_12812, .ref (ad 5 0), .ref (ad 6 0), .int v_12814, .int v_12816, .int v_12818, .int v_12820, .int v_12822, .ref (ad 7 0), .ref (ad 8 0), .ref (ad 9 0), .int v_12824, .ref (ad 10 0), .ref (ad 11 0), .ref (ad 12 0), .ref (ad 13 0), .int v_12826, .ref (ad 14 0)])) := p_ad_0_0
      refine pg_get S Y ok_X12 2 (by decide) kf12_16 (v := .ref (ad 3 0)) p_ad_0_0 rfl dX12_summedUp_41 ?_
      refine lv_iload_n hx hb dX12_summedUp_44 rfl (lv_at hl 3 rfl) ?_
      refine lv_iconst (v := 2) hx hb dX12_summedUp_45 (by decide) ?_
      refine lv_iadd hx hb dX12_summedUp_46 ?_
      refine lv_topi (fun x_12828 ex_12828 => ?_)
      obtain ⟨g_12829, p_ad_3_0, o_12830⟩ := I.opi (k := 3) (j := 0) (by decide) rfl
      have p_ad_3_0 : pt L_38 f_38 (ad 3 0) (.inl (G.2 0, 2916, .inl g_12829)) := p_ad_3_0
      obtain ⟨v_12831, ev_12831⟩ : ∃ z, z = g_12829 (x_12828 : Int32).toNatClampNeg := ⟨_, rfl⟩
      refine pg_iald S Y (v := v_12831) p_ad_3_0 (vp_bn (bn_eq ex_12828 (bn_add b_y38_3 (show bn 2 2 (2 : Int32) from bn_k (by decide)) (by decide))) (by decide)) ev_12831.symm dX12_summedUp_47 ?_
      have tv_12831 : v_12831 = g0 (x_12828 : Int32).toNatClampNeg := by rw [ev_12831, show g_12829 = g0 from o_12830]
      refine lv_fold (z := to2) (by rw [tv_12831, show (x_12828 : Int32).toNatClampNeg = 729 * i1.toNatClampNeg + 1 + 5 * i2.toNatClampNeg + 2 from (by have z9 := (la_add ex_12828 hX3 (show (2 : Int32).toInt = 2 from rfl) b_y38_3 (show bn 2 2 (2 : Int32) from bn_k (by decide)) (by decide)); have z0 := b_i1.1; have z1 := b_i2.1; simp only [tnc]; omega)]; exact hto) ?_
      refine lv_icmp_ge (tgt := 406) hx hb dX12_summedUp_48 (by decide) (fun c_12832 => ?_) (fun c_12832 => ?_)
      · have B_12833 : bn (-2147483648) 303 to2 := bn_w (bn_lel c_12832 (bn_any to2) b_y38_7) (by decide)
        refine lv_aload_n hx hb dX12_summedUp_406 rfl (lv_at hl 0 rfl) ?_
        refine pg_get S Y ok_X12 23 (by decide) kf12_38 (v := .ref (ad 8 0)) p_ad_0_0 rfl dX12_summedUp_407 ?_
        refine lv_iconst (v := 0) hx hb dX12_summedUp_410 (by decide) ?_
        obtain ⟨g_12835, p_ad_8_0⟩ := I.opl (k := 8) (j := 0) (by decide) rfl
        have p_ad_8_0 : pt L_38 f_38 (ad 8 0) (.inl (G.2 1, 330, .inr (.inl g_12835))) := p_ad_8_0
        refine pg_lald S Y p_ad_8_0 (by unfold vp_in; decide) dX12_summedUp_411 ?_
        refine lv_topl (fun v_12836 ev_12836 => ?_)
        exact prL (post := fun r L1 f1 => SH (spM (IA sl pl oh dh w) pi (EQ g0) pa) nnM G ad L1 f1) S Y (by decide) (by decide) hA1 I dX12_summedUp_412
      · have B_12834 : bn 1 2147483647 to2 := bn_w (bn_gtl c_12832 (bn_any to2) b_y38_7) (by decide)
        obtain ⟨B_12837, B_12838, B_12839⟩ := HT_lt hHT hWF (Int32.not_le.mp c_12832)
        refine lv_aload_n hx hb dX12_summedUp_51 rfl (lv_at hl 0 rfl) ?_
        refine pg_get S Y ok_X12 2 (by decide) kf12_16 (v := .ref (ad 3 0)) p_ad_0_0 rfl dX12_summedUp_52 ?_
        refine lv_iload hx hb dX12_summedUp_55 (lv_at hl 4 rfl) ?_
        refine lv_iconst (v := 2) hx hb dX12_summedUp_57 (by decide) ?_
        refine lv_iload hx hb dX12_summedUp_58 (lv_at hl 7 rfl) ?_
        refine lv_imul hx hb dX12_summedUp_60 ?_
        refine lv_topi (fun x_12840 ex_12840 => ?_)
        refine lv_iadd hx hb dX12_summedUp_61 ?_
        refine lv_topi (fun x_12841 ex_12841 => ?_)
        obtain ⟨v_12842, ev_12842⟩ : ∃ z, z = g_12829 (x_12841 : Int32).toNatClampNeg := ⟨_, rfl⟩
        refine pg_iald S Y (v := v_12842) p_ad_3_0 (vp_bn (bn_eq ex_12841 (bn_add b_y38_4 (bn_eq ex_12840 (bn_mul (show bn 2 2 (2 : Int32) from bn_k (by decide)) B_12837 (by decide))) (by decide))) (by decide)) ev_12842.symm dX12_summedUp_62 ?_
        have tv_12842 : v_12842 = g0 (x_12841 : Int32).toNatClampNeg := by rw [ev_12842, show g_12829 = g0 from o_12830]
        refine lv_istore (lv' := [(8, .int v_12842), (0, .ref (ad 0 0)), (1, .int i1), (2, .int i2), (3, .int y38_3), (4, .int y38_4), (5, .int y38_5), (6, .int y38_6), (7, .int y38_7)]) hx hb dX12_summedUp_63 hl (by decide) rfl (fun ls hl => ?_)
        refine lv_aload_n hx hb dX12_summedUp_65 rfl (lv_at hl 1 rfl) ?_
        refine pg_get S Y ok_X12 2 (by decide) kf12_16 (v := .ref (ad 3 0)) p_ad_0_0 rfl dX12_summedUp_66 ?_
        refine lv_iload hx hb dX12_summedUp_69 (lv_at hl 5 rfl) ?_
        refine lv_iconst (v := 2) hx hb dX12_summedUp_71 (by decide) ?_
        refine lv_iload hx hb dX12_summedUp_72 (lv_at hl 8 rfl) ?_
        refine lv_imul hx hb dX12_summedUp_74 ?_
        refine lv_topi (fun x_12843 ex_12843 => ?_)
        refine lv_iadd hx hb dX12_summedUp_75 ?_
        refine lv_topi (fun x_12844 ex_12844 => ?_)
        refine lv_iconst (v := 1) hx hb dX12_summedUp_76 (by decide) ?_
        refine lv_iadd hx hb dX12_summedUp_77 ?_
        refine lv_topi (fun x_12845 ex_12845 => ?_)
        obtain ⟨v_12846, ev_12846⟩ : ∃ z, z = g_12829 (x_12845 : Int32).toNatClampNeg := ⟨_, rfl⟩
        refine pg_iald S Y (v := v_12846) p_ad_3_0 (vp_bn (bn_eq ex_12845 (bn_add (bn_eq ex_12844 (bn_add b_y38_4 (bn_eq ex_12843 (bn_mul (show bn 2 2 (2 : Int32) from bn_k (by decide)) B_12837 (by decide))) (by decide))) (show bn 1 1 (1 : Int32) from bn_k (by decide)) (by decide))) (by decide)) ev_12846.symm dX12_summedUp_78 ?_
        have tv_12846 : v_12846 = g0 (x_12845 : Int32).toNatClampNeg := by rw [ev_12846, show g_12829 = g0 from o_12830]
        refine lv_istore (lv' := [(9, .int v_12846), (8, .int v_12842), (0, .ref (ad 0 0)), (1, .int i1), (2, .int i2), (3, .int y38_3), (4, .int y38_4), (5, .int y38_5), (6, .int y38_6), (7, .int y38_7)]) hx hb dX12_summedUp_79 hl (by decide) rfl (fun ls hl => ?_)
        obtain ⟨q_12847, h_12848, h_12849⟩ := HT_st (o := v_12842) (v := v_12846) hHT hWF (Int32.not_le.mp c_12832) (by rw [tv_12842, show (x_12841 : Int32).toNatClampNeg = (729 * i1.toNatClampNeg + 121) + 2 * y38_7.toInt.toNat from (by have z9 := (la_add ex_12841 hX4 (la_mul ex_12840 (show (2 : Int32).toInt = 2 from rfl) (rfl : y38_7.toInt = y38_7.toInt) (show bn 2 2 (2 : Int32) from bn_k (by decide)) B_12837 (by decide)) b_y38_4 (bn_eq ex_12840 (bn_mul (show bn 2 2 (2 : Int32) from bn_k (by decide)) B_12837 (by decide))) (by decide)); have z0 := b_i1.1; have z1 := b_i2.1; have z2 := B_12837.1; simp only [tnc]; omega)]) (by rw [tv_12846, show (x_12845 : Int32).toNatClampNeg = (729 * i1.toNatClampNeg + 121) + 2 * y38_7.toInt.toNat + 1 from (by have z9 := (la_add ex_12845 (la_add ex_12844 hX4 (la_mul ex_12843 (show (2 : Int32).toInt = 2 from rfl) (rfl : y38_7.toInt = y38_7.toInt) (show bn 2 2 (2 : Int32) from bn_k (by decide)) B_12837 (by decide)) b_y38_4 (bn_eq ex_12843 (bn_mul (show bn 2 2 (2 : Int32) from bn_k (by decide)) B_12837 (by decide))) (by decide)) (show (1 : Int32).toInt = 1 from rfl) (bn_eq ex_12844 (bn_add b_y38_4 (bn_eq ex_12843 (bn_mul (show bn 2 2 (2 : Int32) from bn_k (by decide)) B_12837 (by decide))) (by decide))) (show bn 1 1 (1 : Int32) from bn_k (by decide)) (by decide)); have z0 := b_i1.1; have z1 := b_i2.1; have z2 := B_12837.1; simp only [tnc]; omega)])
        refine lv_iload hx hb dX12_summedUp_81 (lv_at hl 1 rfl) ?_
        refine lv_iconst (v := 1) hx hb dX12_summedUp_83 (by decide) ?_
        refine lv_icmp_gt (tgt := 119) hx hb dX12_summedUp_84 (by decide) (fun c_12850 => ?_) (fun c_12850 => ?_)
        · have B_12851 : bn 2 2147483647 v_12842 := bn_w (bn_ltr c_12850 (show bn 1 1 (1 : Int32) from bn_k (by decide)) (bn_any v_12842)) (by decide)
          refine lv_iload hx hb dX12_summedUp_119 (lv_at hl 1 rfl) ?_
          refine lv_iconst (v := 3) hx hb dX12_summedUp_121 (by decide) ?_
          refine lv_icmp_ne (tgt := 160) hx hb dX12_summedUp_122 (by decide) (fun c_12853 => ?_) (fun c_12853 => ?_)
          · refine lv_iload hx hb dX12_summedUp_160 (lv_at hl 1 rfl) ?_
            refine lv_iconst (v := 4) hx hb dX12_summedUp_162 (by decide) ?_
            refine lv_icmp_ne (tgt := 194) hx hb dX12_summedUp_163 (by decide) (fun c_12855 => ?_) (fun c_12855 => ?_)
            · refine lv_iload hx hb dX12_summedUp_194 (lv_at hl 1 rfl) ?_
              refine lv_iconst (v := 5) hx hb dX12_summedUp_196 (by decide) ?_
              refine lv_icmp_gt (tgt := 244) hx hb dX12_summedUp_197 (by decide) (fun c_12857 => ?_) (fun c_12857 => ?_)
              · have B_12858 : bn 6 2147483647 v_12842 := bn_w (bn_ltr c_12857 (show bn 5 5 (5 : Int32) from bn_k (by decide)) B_12851) (by decide)
                refine lv_iload hx hb dX12_summedUp_244 (lv_at hl 1 rfl) ?_
                refine lv_bipush (v := 10) hx hb dX12_summedUp_246 (by decide) ?_
                refine lv_icmp_ge (tgt := 287) hx hb dX12_summedUp_248 (by decide) (fun c_12860 => ?_) (fun c_12860 => ?_)
                · have B_12861 : bn 10 2147483647 v_12842 := bn_w (bn_ler c_12860 (show bn 10 10 (10 : Int32) from bn_k (by decide)) B_12858) (by decide)
                  refine lv_iload hx hb dX12_summedUp_287 (lv_at hl 1 rfl) ?_
                  refine lv_bipush (v := 20) hx hb dX12_summedUp_289 (by decide) ?_
                  refine lv_icmp_ge (tgt := 331) hx hb dX12_summedUp_291 (by decide) (fun c_12863 => ?_) (fun c_12863 => ?_)
                  · have B_12864 : bn 20 2147483647 v_12842 := bn_w (bn_ler c_12863 (show bn 20 20 (20 : Int32) from bn_k (by decide)) B_12861) (by decide)
                    refine lv_iload hx hb dX12_summedUp_331 (lv_at hl 1 rfl) ?_
                    refine lv_bipush (v := 20) hx hb dX12_summedUp_333 (by decide) ?_
                    refine lv_icmp_ne (tgt := 367) hx hb dX12_summedUp_335 (by decide) (fun c_12866 => ?_) (fun c_12866 => ?_)
                    · have B_12867 : bn 21 2147483647 v_12842 := bn_w (bn_nel c_12866 B_12864 (show bn 20 20 (20 : Int32) from bn_k (by decide))) (by decide)
                      have h_12869 := sh21 h_12848 (by have h9 := B_12867.1; have h8 := B_12867.2; omega)
                      have B_12870 : bn 2 302 y38_6 := ⟨by have h9 := h_12869.1; omega, B_12839.2⟩
                      obtain ⟨x_12871, ex_12871⟩ : ∃ z : Int32, z = y38_6 + (-1) := ⟨_, rfl⟩
                      refine lv_iinc (v := x_12871) (lv' := [(6, .int x_12871), (9, .int v_12846), (8, .int v_12842), (0, .ref (ad 0 0)), (1, .int i1), (2, .int i2), (3, .int y38_3), (4, .int y38_4), (5, .int y38_5), (7, .int y38_7)]) hx hb dX12_summedUp_367 hl (k := 8) rfl (by rw [ex_12871]; rfl) (by decide) rfl (fun ls hl => ?_)
                      refine lv_aload_n hx hb dX12_summedUp_370 rfl (lv_at hl 3 rfl) ?_
                      refine pg_get S Y ok_X12 24 (by decide) kf12_42 (v := .ref (ad 9 0)) p_ad_0_0 rfl dX12_summedUp_371 ?_
                      refine lv_iload hx hb dX12_summedUp_374 (lv_at hl 0 rfl) ?_
                      refine lv_iconst (v := 1) hx hb dX12_summedUp_376 (by decide) ?_
                      refine lv_isub hx hb dX12_summedUp_377 ?_
                      refine lv_topi (fun x_12872 ex_12872 => ?_)
                      refine lv_iload hx hb dX12_summedUp_378 (lv_at hl 2 rfl) ?_
                      refine lv_aload_n hx hb dX12_summedUp_380 rfl (lv_at hl 3 rfl) ?_
                      refine pg_get S Y ok_X12 24 (by decide) kf12_42 (v := .ref (ad 9 0)) p_ad_0_0 rfl dX12_summedUp_381 ?_
                      refine lv_iload hx hb dX12_summedUp_384 (lv_at hl 0 rfl) ?_
                      refine lv_iconst (v := 1) hx hb dX12_summedUp_386 (by decide) ?_
                      refine lv_isub hx hb dX12_summedUp_387 ?_
                      refine lv_topi (fun x_12873 ex_12873 => ?_)
                      obtain ⟨g_12874, p_ad_9_0, o_12875⟩ := I.opi (k := 9) (j := 0) (by decide) rfl
                      have p_ad_9_0 : pt L_38 f_38 (ad 9 0) (.inl (G.2 2, 330, .inl g_12874)) := p_ad_9_0
                      obtain ⟨v_12876, ev_12876⟩ : ∃ z, z = g_12874 (x_12873 : Int32).toNatClampNeg := ⟨_, rfl⟩
                      refine pg_zald S Y p_ad_9_0 (vp_bn (bn_eq ex_12873 (bn_sub (bn_eq ex_12871 (bn_add B_12870 (show bn (-1) (-1) ((-1) : Int32) from bn_k (by decide)) (by decide))) (show bn 1 1 (1 : Int32) from bn_k (by decide)) (by decide))) (by decide)) dX12_summedUp_388 ?_
                      refine lv_fold (z := v_12876) ev_12876.symm ?_
                      refine lv_aload_n hx hb dX12_summedUp_389 rfl (lv_at hl 3 rfl) ?_
                      refine pg_get S Y ok_X12 24 (by decide) kf12_42 (v := .ref (ad 9 0)) p_ad_0_0 rfl dX12_summedUp_390 ?_
                      refine lv_iload hx hb dX12_summedUp_393 (lv_at hl 0 rfl) ?_
                      obtain ⟨v_12877, ev_12877⟩ : ∃ z, z = g_12874 (x_12871 : Int32).toNatClampNeg := ⟨_, rfl⟩
                      refine pg_zald S Y p_ad_9_0 (vp_bn (bn_eq ex_12871 (bn_add B_12870 (show bn (-1) (-1) ((-1) : Int32) from bn_k (by decide)) (by decide))) (by decide)) dX12_summedUp_395 ?_
                      refine lv_fold (z := v_12877) ev_12877.symm ?_
                      refine cSp (As := [.int v_12842, .int v_12876, .int v_12877]) (rest := [.int x_12872, .ref (ad 9 0)]) S Y (x_X12_joined (l := l) (bn_w (bn_eq ev_12876 (o_12875 _)) (by decide)) (bn_w (bn_eq ev_12877 (o_12875 _)) (by decide))) cw_X12_joined km12_285 rfl ⟨Nat.le_of_ble_eq_true rfl, Nat.le_of_ble_eq_true rfl⟩ hl.1 rfl (Nat.le_of_ble_eq_true rfl) ⟨Nat.le_of_ble_eq_true rfl, Nat.le_of_ble_eq_true rfl⟩ dX12_summedUp_396 (fun r_12878 H locs er_12878 Y => ?_)
                      refine pg_zast S Y p_ad_9_0 (vp_bn (bn_eq ex_12872 (bn_sub (bn_eq ex_12871 (bn_add B_12870 (show bn (-1) (-1) ((-1) : Int32) from bn_k (by decide)) (by decide))) (show bn 1 1 (1 : Int32) from bn_k (by decide)) (by decide))) (by decide)) dX12_summedUp_399 (fun f_12880 H locs ef_12880 Y => ?_)
                      obtain ⟨g_12879, eg_12879⟩ : ∃ z, z = upd (g_12874) (x_12872 : Int32).toNatClampNeg (vp_nar .boolean r_12878) := ⟨_, rfl⟩
                      rw [← eg_12879] at ef_12880
                      have p_ad_0_0 := p_ad_0_0.up ef_12880 (I.ne (k := 0) (j := 0) (k' := 9) (j' := 0) (by decide) (by decide) (Or.inl (by decide)))
                      have p_ad_3_0 := p_ad_3_0.up ef_12880 (I.ne (k := 3) (j := 0) (k' := 9) (j' := 0) (by decide) (by decide) (Or.inl (by decide)))
                      have p_ad_9_0 := p_ad_9_0.me ef_12880
                      have o_12881 : ∀ i, bn 0 1 (g_12879 i) := by rw [eg_12879]; exact upz o_12875 (nar01 (bn_w er_12878 (by decide)))
                      have I := I.up (k := 9) (j := 0) (by decide) ef_12880 (okE_a (g := g_12879) o_12881)
                      obtain ⟨x_12882, ex_12882⟩ : ∃ z : Int32, z = y38_7 + 1 := ⟨_, rfl⟩
                      refine lv_iinc (v := x_12882) (lv' := [(7, .int x_12882), (6, .int x_12871), (9, .int v_12846), (8, .int v_12842), (0, .ref (ad 0 0)), (1, .int i1), (2, .int i2), (3, .int y38_3), (4, .int y38_4), (5, .int y38_5)]) hx hb dX12_summedUp_400 hl (k := 9) rfl (by rw [ex_12882]; rfl) (by decide) rfl (fun ls hl => ?_)
                      refine lv_goto (tgt := 38) hx hb dX12_summedUp_403 (by decide) ?_
                      have z_12884 : x_12882.toInt = (y38_7.toInt + 1) := (la_add ex_12882 (rfl : y38_7.toInt = y38_7.toInt) (show (1 : Int32).toInt = 1 from rfl) B_12837 (show bn 1 1 (1 : Int32) from bn_k (by decide)) (by decide))
                      have z_12885 : y38_5.toInt = y38_5.toInt := (rfl : y38_5.toInt = y38_5.toInt)
                      have z_12886 : x_12871.toInt = (y38_6.toInt + (-1)) := (la_add ex_12871 (rfl : y38_6.toInt = y38_6.toInt) (show ((-1) : Int32).toInt = (-1) from rfl) B_12870 (show bn (-1) (-1) ((-1) : Int32) from bn_k (by decide)) (by decide))
                      have z_12887 := B_12838
                      have z_12888 := z_12887.1
                      have z_12889 := z_12887.2
                      have z_12890 := B_12870
                      have z_12891 := z_12890.1
                      have z_12892 := z_12890.2
                      have z_12893 := B_12837
                      have z_12894 := z_12893.1
                      have z_12895 := z_12893.2
                      have p_12883 : HT g0 (729 * i1.toNatClampNeg + 121) fr x_12882 y38_5 x_12871 := HT_nx hHT h_12849 (by omega) (by omega) (h_12869.2.trans (Prod.ext (by first | rfl | (dsimp only; omega) | omega) (by first | rfl | (dsimp only; omega) | omega))) (by omega) (by omega) (by omega) (by omega)
                      exact ih38 _ (by rw [← hm38]; exact ms_up (m := 1) ex_12882 (show bn 1 1 (1 : Int32) from bn_k (by decide)) B_12837 (bn_w (bn_eq ex_12882 (bn_add B_12837 (show bn 1 1 (1 : Int32) from bn_k (by decide)) (by decide))) (by decide) : bn 0 303 x_12882) (by decide)) y38_3 y38_4 y38_5 x_12871 x_12882 _ _  _ _ _ I (bn_w b_y38_3 (by decide)) (bn_w b_y38_4 (by decide)) (HA_5 ⟨p_12883, (by have z9 := hX3; omega), (by have z9 := hX4; omega)⟩) (HA_6 ⟨p_12883, (by have z9 := hX3; omega), (by have z9 := hX4; omega)⟩) (HA_7 ⟨p_12883, (by have z9 := hX3; omega), (by have z9 := hX4; omega)⟩) ⟨p_12883, (by have z9 := hX3; omega), (by have z9 := hX4; omega)⟩ rfl Y (lv_sub hl [4, 5, 6, 7, 8, 9, 1, 0] rfl)
                    · have B_12868 : bn 20 20 v_12842 := bn_w (bn_eq c_12866 (show bn 20 20 (20 : Int32) from bn_k (by decide))) (by decide)
                      have h_12897 : stH 20 v_12846.toInt (y38_5.toInt.toNat, y38_6.toInt.toNat) = some q_12847 := by have e9 : v_12842.toInt = 20 := Int.le_antisymm B_12868.2 B_12868.1; rw [← e9]; exact h_12848
                      have h_12896 := sh20 h_12897
                      have B_12898 : bn 1 302 y38_6 := ⟨by have h9 := h_12896.1; omega, B_12839.2⟩
                      refine lv_aload_n hx hb dX12_summedUp_338 rfl (lv_at hl 2 rfl) ?_
                      refine pg_get S Y ok_X12 24 (by decide) kf12_42 (v := .ref (ad 9 0)) p_ad_0_0 rfl dX12_summedUp_339 ?_
                      refine lv_iload hx hb dX12_summedUp_342 (lv_at hl 8 rfl) ?_
                      refine lv_iconst (v := 1) hx hb dX12_summedUp_344 (by decide) ?_
                      refine lv_isub hx hb dX12_summedUp_345 ?_
                      refine lv_topi (fun x_12899 ex_12899 => ?_)
                      refine lv_aload_n hx hb dX12_summedUp_346 rfl (lv_at hl 2 rfl) ?_
                      refine pg_get S Y ok_X12 24 (by decide) kf12_42 (v := .ref (ad 9 0)) p_ad_0_0 rfl dX12_summedUp_347 ?_
                      refine lv_iload hx hb dX12_summedUp_350 (lv_at hl 8 rfl) ?_
                      refine lv_iconst (v := 1) hx hb dX12_summedUp_352 (by decide) ?_
                      refine lv_isub hx hb dX12_summedUp_353 ?_
                      refine lv_topi (fun x_12900 ex_12900 => ?_)
                      obtain ⟨g_12901, p_ad_9_0, o_12902⟩ := I.opi (k := 9) (j := 0) (by decide) rfl
                      have p_ad_9_0 : pt L_38 f_38 (ad 9 0) (.inl (G.2 2, 330, .inl g_12901)) := p_ad_9_0
                      obtain ⟨v_12903, ev_12903⟩ : ∃ z, z = g_12901 (x_12900 : Int32).toNatClampNeg := ⟨_, rfl⟩
                      refine pg_zald S Y p_ad_9_0 (vp_bn (bn_eq ex_12900 (bn_sub B_12898 (show bn 1 1 (1 : Int32) from bn_k (by decide)) (by decide))) (by decide)) dX12_summedUp_354 ?_
                      refine lv_fold (z := v_12903) ev_12903.symm ?_
                      refine lv_if_ne (tgt := 362) hx hb dX12_summedUp_355 (by decide) (fun c_12904 => ?_) (fun c_12904 => ?_)
                      · have B_12905 : bn 1 1 v_12903 := bn_w (bn_nel c_12904 (bn_eq ev_12903 (o_12902 _)) (show bn 0 0 (0 : Int32) from bn_k (by decide))) (by decide)
                        refine lv_iconst (v := 0) hx hb dX12_summedUp_362 (by decide) ?_
                        refine pg_zast S Y p_ad_9_0 (vp_bn (bn_eq ex_12899 (bn_sub B_12898 (show bn 1 1 (1 : Int32) from bn_k (by decide)) (by decide))) (by decide)) dX12_summedUp_363 (fun f_12908 H locs ef_12908 Y => ?_)
                        obtain ⟨g_12907, eg_12907⟩ : ∃ z, z = upd (g_12901) (x_12899 : Int32).toNatClampNeg (vp_nar .boolean 0) := ⟨_, rfl⟩
                        rw [← eg_12907] at ef_12908
                        have p_ad_0_0 := p_ad_0_0.up ef_12908 (I.ne (k := 0) (j := 0) (k' := 9) (j' := 0) (by decide) (by decide) (Or.inl (by decide)))
                        have p_ad_3_0 := p_ad_3_0.up ef_12908 (I.ne (k := 3) (j := 0) (k' := 9) (j' := 0) (by decide) (by decide) (Or.inl (by decide)))
                        have p_ad_9_0 := p_ad_9_0.me ef_12908
                        have o_12909 : ∀ i, bn 0 1 (g_12907 i) := by rw [eg_12907]; exact upz o_12902 (nar01 (bn_w (show bn 0 0 (0 : Int32) from bn_k (by decide)) (by decide)))
                        have I := I.up (k := 9) (j := 0) (by decide) ef_12908 (okE_a (g := g_12907) o_12909)
                        refine lv_goto (tgt := 400) hx hb dX12_summedUp_364 (by decide) ?_
                        obtain ⟨x_12910, ex_12910⟩ : ∃ z : Int32, z = y38_7 + 1 := ⟨_, rfl⟩
                        refine lv_iinc (v := x_12910) (lv' := [(7, .int x_12910), (9, .int v_12846), (8, .int v_12842), (0, .ref (ad 0 0)), (1, .int i1), (2, .int i2), (3, .int y38_3), (4, .int y38_4), (5, .int y38_5), (6, .int y38_6)]) hx hb dX12_summedUp_400 hl (k := 9) rfl (by rw [ex_12910]; rfl) (by decide) rfl (fun ls hl => ?_)
                        refine lv_goto (tgt := 38) hx hb dX12_summedUp_403 (by decide) ?_
                        have z_12912 : x_12910.toInt = (y38_7.toInt + 1) := (la_add ex_12910 (rfl : y38_7.toInt = y38_7.toInt) (show (1 : Int32).toInt = 1 from rfl) B_12837 (show bn 1 1 (1 : Int32) from bn_k (by decide)) (by decide))
                        have z_12913 : y38_5.toInt = y38_5.toInt := (rfl : y38_5.toInt = y38_5.toInt)
                        have z_12914 : y38_6.toInt = y38_6.toInt := (rfl : y38_6.toInt = y38_6.toInt)
                        have z_12915 := B_12838
                        have z_12916 := z_12915.1
                        have z_12917 := z_12915.2
                        have z_12918 := B_12898
                        have z_12919 := z_12918.1
                        have z_12920 := z_12918.2
                        have z_12921 := B_12837
                        have z_12922 := z_12921.1
                        have z_12923 := z_12921.2
                        have p_12911 : HT g0 (729 * i1.toNatClampNeg + 121) fr x_12910 y38_5 y38_6 := HT_nx hHT h_12849 (by omega) (by omega) (h_12896.2.trans (Prod.ext (by first | rfl | (dsimp only; omega) | omega) (by first | rfl | (dsimp only; omega) | omega))) (by omega) (by omega) (by omega) (by omega)
                        exact ih38 _ (by rw [← hm38]; exact ms_up (m := 1) ex_12910 (show bn 1 1 (1 : Int32) from bn_k (by decide)) B_12837 (bn_w (bn_eq ex_12910 (bn_add B_12837 (show bn 1 1 (1 : Int32) from bn_k (by decide)) (by decide))) (by decide) : bn 0 303 x_12910) (by decide)) y38_3 y38_4 y38_5 y38_6 x_12910 _ _  _ _ _ I (bn_w b_y38_3 (by decide)) (bn_w b_y38_4 (by decide)) (HA_5 ⟨p_12911, (by have z9 := hX3; omega), (by have z9 := hX4; omega)⟩) (HA_6 ⟨p_12911, (by have z9 := hX3; omega), (by have z9 := hX4; omega)⟩) (HA_7 ⟨p_12911, (by have z9 := hX3; omega), (by have z9 := hX4; omega)⟩) ⟨p_12911, (by have z9 := hX3; omega), (by have z9 := hX4; omega)⟩ rfl Y (lv_sub hl [3, 4, 5, 6, 7, 8, 9, 0] rfl)
                      · have B_12906 : bn 0 0 v_12903 := bn_w (bn_eq c_12904 (show bn 0 0 (0 : Int32) from bn_k (by decide))) (by decide)
                        refine lv_iconst (v := 1) hx hb dX12_summedUp_358 (by decide) ?_
                        refine lv_goto (tgt := 363) hx hb dX12_summedUp_359 (by decide) ?_
                        refine pg_zast S Y p_ad_9_0 (vp_bn (bn_eq ex_12899 (bn_sub B_12898 (show bn 1 1 (1 : Int32) from bn_k (by decide)) (by decide))) (by decide)) dX12_summedUp_363 (fun f_12925 H locs ef_12925 Y => ?_)
                        obtain ⟨g_12924, eg_12924⟩ : ∃ z, z = upd (g_12901) (x_12899 : Int32).toNatClampNeg (vp_nar .boolean 1) := ⟨_, rfl⟩
                        rw [← eg_12924] at ef_12925
                        have p_ad_0_0 := p_ad_0_0.up ef_12925 (I.ne (k := 0) (j := 0) (k' := 9) (j' := 0) (by decide) (by decide) (Or.inl (by decide)))
                        have p_ad_3_0 := p_ad_3_0.up ef_12925 (I.ne (k := 3) (j := 0) (k' := 9) (j' := 0) (by decide) (by decide) (Or.inl (by decide)))
                        have p_ad_9_0 := p_ad_9_0.me ef_12925
                        have o_12926 : ∀ i, bn 0 1 (g_12924 i) := by rw [eg_12924]; exact upz o_12902 (nar01 (bn_w (show bn 1 1 (1 : Int32) from bn_k (by decide)) (by decide)))
                        have I := I.up (k := 9) (j := 0) (by decide) ef_12925 (okE_a (g := g_12924) o_12926)
                        refine lv_goto (tgt := 400) hx hb dX12_summedUp_364 (by decide) ?_
                        obtain ⟨x_12927, ex_12927⟩ : ∃ z : Int32, z = y38_7 + 1 := ⟨_, rfl⟩
                        refine lv_iinc (v := x_12927) (lv' := [(7, .int x_12927), (9, .int v_12846), (8, .int v_12842), (0, .ref (ad 0 0)), (1, .int i1), (2, .int i2), (3, .int y38_3), (4, .int y38_4), (5, .int y38_5), (6, .int y38_6)]) hx hb dX12_summedUp_400 hl (k := 9) rfl (by rw [ex_12927]; rfl) (by decide) rfl (fun ls hl => ?_)
                        refine lv_goto (tgt := 38) hx hb dX12_summedUp_403 (by decide) ?_
                        have z_12929 : x_12927.toInt = (y38_7.toInt + 1) := (la_add ex_12927 (rfl : y38_7.toInt = y38_7.toInt) (show (1 : Int32).toInt = 1 from rfl) B_12837 (show bn 1 1 (1 : Int32) from bn_k (by decide)) (by decide))
                        have z_12930 : y38_5.toInt = y38_5.toInt := (rfl : y38_5.toInt = y38_5.toInt)
                        have z_12931 : y38_6.toInt = y38_6.toInt := (rfl : y38_6.toInt = y38_6.toInt)
                        have z_12932 := B_12838
                        have z_12933 := z_12932.1
                        have z_12934 := z_12932.2
                        have z_12935 := B_12898
                        have z_12936 := z_12935.1
                        have z_12937 := z_12935.2
                        have z_12938 := B_12837
                        have z_12939 := z_12938.1
                        have z_12940 := z_12938.2
                        have p_12928 : HT g0 (729 * i1.toNatClampNeg + 121) fr x_12927 y38_5 y38_6 := HT_nx hHT h_12849 (by omega) (by omega) (h_12896.2.trans (Prod.ext (by first | rfl | (dsimp only; omega) | omega) (by first | rfl | (dsimp only; omega) | omega))) (by omega) (by omega) (by omega) (by omega)
                        exact ih38 _ (by rw [← hm38]; exact ms_up (m := 1) ex_12927 (show bn 1 1 (1 : Int32) from bn_k (by decide)) B_12837 (bn_w (bn_eq ex_12927 (bn_add B_12837 (show bn 1 1 (1 : Int32) from bn_k (by decide)) (by decide))) (by decide) : bn 0 303 x_12927) (by decide)) y38_3 y38_4 y38_5 y38_6 x_12927 _ _  _ _ _ I (bn_w b_y38_3 (by decide)) (bn_w b_y38_4 (by decide)) (HA_5 ⟨p_12928, (by have z9 := hX3; omega), (by have z9 := hX4; omega)⟩) (HA_6 ⟨p_12928, (by have z9 := hX3; omega), (by have z9 := hX4; omega)⟩) (HA_7 ⟨p_12928, (by have z9 := hX3; omega), (by have z9 := hX4; omega)⟩) ⟨p_12928, (by have z9 := hX3; omega), (by have z9 := hX4; omega)⟩ rfl Y (lv_sub hl [3, 4, 5, 6, 7, 8, 9, 0] rfl)
                  · have B_12865 : bn 10 19 v_12842 := bn_w (bn_gtr c_12863 (show bn 20 20 (20 : Int32) from bn_k (by decide)) B_12861) (by decide)
                    have h_12941 := sh10 h_12848 (by have h9 := B_12865.1; have h8 := B_12865.2; omega)
                    have B_12942 : bn 2 302 y38_5 := ⟨by have h9 := h_12941.1; omega, B_12838.2⟩
                    obtain ⟨x_12943, ex_12943⟩ : ∃ z : Int32, z = y38_5 + (-2) := ⟨_, rfl⟩
                    refine lv_iinc (v := x_12943) (lv' := [(5, .int x_12943), (9, .int v_12846), (8, .int v_12842), (0, .ref (ad 0 0)), (1, .int i1), (2, .int i2), (3, .int y38_3), (4, .int y38_4), (6, .int y38_6), (7, .int y38_7)]) hx hb dX12_summedUp_294 hl (k := 7) rfl (by rw [ex_12943]; rfl) (by decide) rfl (fun ls hl => ?_)
                    refine lv_aload_n hx hb dX12_summedUp_297 rfl (lv_at hl 3 rfl) ?_
                    refine pg_get S Y ok_X12 24 (by decide) kf12_42 (v := .ref (ad 9 0)) p_ad_0_0 rfl dX12_summedUp_298 ?_
                    refine lv_iload hx hb dX12_summedUp_301 (lv_at hl 8 rfl) ?_
                    refine lv_iload hx hb dX12_summedUp_303 (lv_at hl 2 rfl) ?_
                    refine lv_aload_n hx hb dX12_summedUp_305 rfl (lv_at hl 3 rfl) ?_
                    refine pg_get S Y ok_X12 23 (by decide) kf12_38 (v := .ref (ad 8 0)) p_ad_0_0 rfl dX12_summedUp_306 ?_
                    refine lv_iload hx hb dX12_summedUp_309 (lv_at hl 0 rfl) ?_
                    obtain ⟨g_12944, p_ad_8_0⟩ := I.opl (k := 8) (j := 0) (by decide) rfl
                    have p_ad_8_0 : pt L_38 f_38 (ad 8 0) (.inl (G.2 1, 330, .inr (.inl g_12944))) := p_ad_8_0
                    refine pg_lald S Y p_ad_8_0 (vp_bn (bn_eq ex_12943 (bn_add B_12942 (show bn (-2) (-2) ((-2) : Int32) from bn_k (by decide)) (by decide))) (by decide)) dX12_summedUp_311 ?_
                    refine lv_topl (fun v_12945 ev_12945 => ?_)
                    refine lv_aload_n hx hb dX12_summedUp_312 rfl (lv_at hl 3 rfl) ?_
                    refine pg_get S Y ok_X12 23 (by decide) kf12_38 (v := .ref (ad 8 0)) p_ad_0_0 rfl dX12_summedUp_313 ?_
                    refine lv_iload hx hb dX12_summedUp_316 (lv_at hl 0 rfl) ?_
                    refine lv_iconst (v := 1) hx hb dX12_summedUp_318 (by decide) ?_
                    refine lv_iadd hx hb dX12_summedUp_319 ?_
                    refine lv_topi (fun x_12946 ex_12946 => ?_)
                    refine pg_lald S Y p_ad_8_0 (vp_bn (bn_eq ex_12946 (bn_add (bn_eq ex_12943 (bn_add B_12942 (show bn (-2) (-2) ((-2) : Int32) from bn_k (by decide)) (by decide))) (show bn 1 1 (1 : Int32) from bn_k (by decide)) (by decide))) (by decide)) dX12_summedUp_320 ?_
                    refine lv_topl (fun v_12947 ev_12947 => ?_)
                    refine cSp (As := [.int v_12842, .long v_12945, .long v_12947]) (rest := [.int y38_6, .ref (ad 9 0)]) S Y (x_X12_isAsked (l := l) ) cw_X12_isAsked km12_281 rfl ⟨Nat.le_of_ble_eq_true rfl, Nat.le_of_ble_eq_true rfl⟩ hl.1 rfl (Nat.le_of_ble_eq_true rfl) ⟨Nat.le_of_ble_eq_true rfl, Nat.le_of_ble_eq_true rfl⟩ dX12_summedUp_321 (fun r_12948 H locs er_12948 Y => ?_)
                    obtain ⟨g_12949, p_ad_9_0, o_12950⟩ := I.opi (k := 9) (j := 0) (by decide) rfl
                    have p_ad_9_0 : pt L_38 f_38 (ad 9 0) (.inl (G.2 2, 330, .inl g_12949)) := p_ad_9_0
                    refine pg_zast S Y p_ad_9_0 (vp_bn B_12839 (by decide)) dX12_summedUp_324 (fun f_12952 H locs ef_12952 Y => ?_)
                    obtain ⟨g_12951, eg_12951⟩ : ∃ z, z = upd (g_12949) (y38_6 : Int32).toNatClampNeg (vp_nar .boolean r_12948) := ⟨_, rfl⟩
                    rw [← eg_12951] at ef_12952
                    have p_ad_0_0 := p_ad_0_0.up ef_12952 (I.ne (k := 0) (j := 0) (k' := 9) (j' := 0) (by decide) (by decide) (Or.inl (by decide)))
                    have p_ad_3_0 := p_ad_3_0.up ef_12952 (I.ne (k := 3) (j := 0) (k' := 9) (j' := 0) (by decide) (by decide) (Or.inl (by decide)))
                    have p_ad_8_0 := p_ad_8_0.up ef_12952 (I.ne (k := 8) (j := 0) (k' := 9) (j' := 0) (by decide) (by decide) (Or.inl (by decide)))
                    have p_ad_9_0 := p_ad_9_0.me ef_12952
                    have o_12953 : ∀ i, bn 0 1 (g_12951 i) := by rw [eg_12951]; exact upz o_12950 (nar01 (bn_w er_12948 (by decide)))
                    have I := I.up (k := 9) (j := 0) (by decide) ef_12952 (okE_a (g := g_12951) o_12953)
                    obtain ⟨x_12954, ex_12954⟩ : ∃ z : Int32, z = y38_6 + 1 := ⟨_, rfl⟩
                    refine lv_iinc (v := x_12954) (lv' := [(6, .int x_12954), (5, .int x_12943), (9, .int v_12846), (8, .int v_12842), (0, .ref (ad 0 0)), (1, .int i1), (2, .int i2), (3, .int y38_3), (4, .int y38_4), (7, .int y38_7)]) hx hb dX12_summedUp_325 hl (k := 8) rfl (by rw [ex_12954]; rfl) (by decide) rfl (fun ls hl => ?_)
                    refine lv_goto (tgt := 400) hx hb dX12_summedUp_328 (by decide) ?_
                    obtain ⟨x_12955, ex_12955⟩ : ∃ z : Int32, z = y38_7 + 1 := ⟨_, rfl⟩
                    refine lv_iinc (v := x_12955) (lv' := [(7, .int x_12955), (6, .int x_12954), (5, .int x_12943), (9, .int v_12846), (8, .int v_12842), (0, .ref (ad 0 0)), (1, .int i1), (2, .int i2), (3, .int y38_3), (4, .int y38_4)]) hx hb dX12_summedUp_400 hl (k := 9) rfl (by rw [ex_12955]; rfl) (by decide) rfl (fun ls hl => ?_)
                    refine lv_goto (tgt := 38) hx hb dX12_summedUp_403 (by decide) ?_
                    have z_12957 : x_12955.toInt = (y38_7.toInt + 1) := (la_add ex_12955 (rfl : y38_7.toInt = y38_7.toInt) (show (1 : Int32).toInt = 1 from rfl) B_12837 (show bn 1 1 (1 : Int32) from bn_k (by decide)) (by decide))
                    have z_12958 : x_12943.toInt = (y38_5.toInt + (-2)) := (la_add ex_12943 (rfl : y38_5.toInt = y38_5.toInt) (show ((-2) : Int32).toInt = (-2) from rfl) B_12942 (show bn (-2) (-2) ((-2) : Int32) from bn_k (by decide)) (by decide))
                    have z_12959 : x_12954.toInt = (y38_6.toInt + 1) := (la_add ex_12954 (rfl : y38_6.toInt = y38_6.toInt) (show (1 : Int32).toInt = 1 from rfl) B_12839 (show bn 1 1 (1 : Int32) from bn_k (by decide)) (by decide))
                    have z_12960 := B_12942
                    have z_12961 := z_12960.1
                    have z_12962 := z_12960.2
                    have z_12963 := B_12839
                    have z_12964 := z_12963.1
                    have z_12965 := z_12963.2
                    have z_12966 := B_12837
                    have z_12967 := z_12966.1
                    have z_12968 := z_12966.2
                    have p_12956 : HT g0 (729 * i1.toNatClampNeg + 121) fr x_12955 x_12943 x_12954 := HT_nx hHT h_12849 (by omega) (by omega) (h_12941.2.trans (Prod.ext (by first | rfl | (dsimp only; omega) | omega) (by first | rfl | (dsimp only; omega) | omega))) (by omega) (by omega) (by omega) (by omega)
                    exact ih38 _ (by rw [← hm38]; exact ms_up (m := 1) ex_12955 (show bn 1 1 (1 : Int32) from bn_k (by decide)) B_12837 (bn_w (bn_eq ex_12955 (bn_add B_12837 (show bn 1 1 (1 : Int32) from bn_k (by decide)) (by decide))) (by decide) : bn 0 303 x_12955) (by decide)) y38_3 y38_4 x_12943 x_12954 x_12955 _ _  _ _ _ I (bn_w b_y38_3 (by decide)) (bn_w b_y38_4 (by decide)) (HA_5 ⟨p_12956, (by have z9 := hX3; omega), (by have z9 := hX4; omega)⟩) (HA_6 ⟨p_12956, (by have z9 := hX3; omega), (by have z9 := hX4; omega)⟩) (HA_7 ⟨p_12956, (by have z9 := hX3; omega), (by have z9 := hX4; omega)⟩) ⟨p_12956, (by have z9 := hX3; omega), (by have z9 := hX4; omega)⟩ rfl Y (lv_sub hl [5, 6, 7, 8, 9, 2, 1, 0] rfl)
                · have B_12862 : bn 6 9 v_12842 := bn_w (bn_gtr c_12860 (show bn 10 10 (10 : Int32) from bn_k (by decide)) B_12858) (by decide)
                  have h_12969 := sh6 h_12848 (by have h9 := B_12862.1; have h8 := B_12862.2; omega)
                  have B_12970 : bn 2 302 y38_5 := ⟨by have h9 := h_12969.1; omega, B_12838.2⟩
                  obtain ⟨x_12971, ex_12971⟩ : ∃ z : Int32, z = y38_5 + (-1) := ⟨_, rfl⟩
                  refine lv_iinc (v := x_12971) (lv' := [(5, .int x_12971), (9, .int v_12846), (8, .int v_12842), (0, .ref (ad 0 0)), (1, .int i1), (2, .int i2), (3, .int y38_3), (4, .int y38_4), (6, .int y38_6), (7, .int y38_7)]) hx hb dX12_summedUp_251 hl (k := 7) rfl (by rw [ex_12971]; rfl) (by decide) rfl (fun ls hl => ?_)
                  refine lv_aload_n hx hb dX12_summedUp_254 rfl (lv_at hl 3 rfl) ?_
                  refine pg_get S Y ok_X12 23 (by decide) kf12_38 (v := .ref (ad 8 0)) p_ad_0_0 rfl dX12_summedUp_255 ?_
                  refine lv_iload hx hb dX12_summedUp_258 (lv_at hl 0 rfl) ?_
                  refine lv_iconst (v := 1) hx hb dX12_summedUp_260 (by decide) ?_
                  refine lv_isub hx hb dX12_summedUp_261 ?_
                  refine lv_topi (fun x_12972 ex_12972 => ?_)
                  refine lv_iload hx hb dX12_summedUp_262 (lv_at hl 2 rfl) ?_
                  refine lv_aload_n hx hb dX12_summedUp_264 rfl (lv_at hl 3 rfl) ?_
                  refine pg_get S Y ok_X12 23 (by decide) kf12_38 (v := .ref (ad 8 0)) p_ad_0_0 rfl dX12_summedUp_265 ?_
                  refine lv_iload hx hb dX12_summedUp_268 (lv_at hl 0 rfl) ?_
                  refine lv_iconst (v := 1) hx hb dX12_summedUp_270 (by decide) ?_
                  refine lv_isub hx hb dX12_summedUp_271 ?_
                  refine lv_topi (fun x_12973 ex_12973 => ?_)
                  obtain ⟨g_12974, p_ad_8_0⟩ := I.opl (k := 8) (j := 0) (by decide) rfl
                  have p_ad_8_0 : pt L_38 f_38 (ad 8 0) (.inl (G.2 1, 330, .inr (.inl g_12974))) := p_ad_8_0
                  refine pg_lald S Y p_ad_8_0 (vp_bn (bn_eq ex_12973 (bn_sub (bn_eq ex_12971 (bn_add B_12970 (show bn (-1) (-1) ((-1) : Int32) from bn_k (by decide)) (by decide))) (show bn 1 1 (1 : Int32) from bn_k (by decide)) (by decide))) (by decide)) dX12_summedUp_272 ?_
                  refine lv_topl (fun v_12975 ev_12975 => ?_)
                  refine lv_aload_n hx hb dX12_summedUp_273 rfl (lv_at hl 3 rfl) ?_
                  refine pg_get S Y ok_X12 23 (by decide) kf12_38 (v := .ref (ad 8 0)) p_ad_0_0 rfl dX12_summedUp_274 ?_
                  refine lv_iload hx hb dX12_summedUp_277 (lv_at hl 0 rfl) ?_
                  refine pg_lald S Y p_ad_8_0 (vp_bn (bn_eq ex_12971 (bn_add B_12970 (show bn (-1) (-1) ((-1) : Int32) from bn_k (by decide)) (by decide))) (by decide)) dX12_summedUp_279 ?_
                  refine lv_topl (fun v_12976 ev_12976 => ?_)
                  refine cSlp (As := [.int v_12842, .long v_12975, .long v_12976]) (rest := [.int x_12972, .ref (ad 8 0)]) S Y (x_X12_two (l := l) ) cw_X12_two km12_277 rfl ⟨Nat.le_of_ble_eq_true rfl, Nat.le_of_ble_eq_true rfl⟩ hl.1 rfl (Nat.le_of_ble_eq_true rfl) ⟨Nat.le_of_ble_eq_true rfl, Nat.le_of_ble_eq_true rfl⟩ dX12_summedUp_280 (fun r_12977 H locs er_12977 Y => ?_)
                  refine pg_last S Y p_ad_8_0 (vp_bn (bn_eq ex_12972 (bn_sub (bn_eq ex_12971 (bn_add B_12970 (show bn (-1) (-1) ((-1) : Int32) from bn_k (by decide)) (by decide))) (show bn 1 1 (1 : Int32) from bn_k (by decide)) (by decide))) (by decide)) dX12_summedUp_283 (fun f_12979 H locs ef_12979 Y => ?_)
                  obtain ⟨g_12978, eg_12978⟩ : ∃ z, z = vp_updL (g_12974) (x_12972 : Int32).toNatClampNeg r_12977 := ⟨_, rfl⟩
                  rw [← eg_12978] at ef_12979
                  have p_ad_0_0 := p_ad_0_0.up ef_12979 (I.ne (k := 0) (j := 0) (k' := 8) (j' := 0) (by decide) (by decide) (Or.inl (by decide)))
                  have p_ad_3_0 := p_ad_3_0.up ef_12979 (I.ne (k := 3) (j := 0) (k' := 8) (j' := 0) (by decide) (by decide) (Or.inl (by decide)))
                  have p_ad_8_0 := p_ad_8_0.me ef_12979
                  have I := I.up (k := 8) (j := 0) (by decide) ef_12979 (okE_l (g := g_12978))
                  refine lv_goto (tgt := 400) hx hb dX12_summedUp_284 (by decide) ?_
                  obtain ⟨x_12980, ex_12980⟩ : ∃ z : Int32, z = y38_7 + 1 := ⟨_, rfl⟩
                  refine lv_iinc (v := x_12980) (lv' := [(7, .int x_12980), (5, .int x_12971), (9, .int v_12846), (8, .int v_12842), (0, .ref (ad 0 0)), (1, .int i1), (2, .int i2), (3, .int y38_3), (4, .int y38_4), (6, .int y38_6)]) hx hb dX12_summedUp_400 hl (k := 9) rfl (by rw [ex_12980]; rfl) (by decide) rfl (fun ls hl => ?_)
                  refine lv_goto (tgt := 38) hx hb dX12_summedUp_403 (by decide) ?_
                  have z_12982 : x_12980.toInt = (y38_7.toInt + 1) := (la_add ex_12980 (rfl : y38_7.toInt = y38_7.toInt) (show (1 : Int32).toInt = 1 from rfl) B_12837 (show bn 1 1 (1 : Int32) from bn_k (by decide)) (by decide))
                  have z_12983 : x_12971.toInt = (y38_5.toInt + (-1)) := (la_add ex_12971 (rfl : y38_5.toInt = y38_5.toInt) (show ((-1) : Int32).toInt = (-1) from rfl) B_12970 (show bn (-1) (-1) ((-1) : Int32) from bn_k (by decide)) (by decide))
                  have z_12984 : y38_6.toInt = y38_6.toInt := (rfl : y38_6.toInt = y38_6.toInt)
                  have z_12985 := B_12970
                  have z_12986 := z_12985.1
                  have z_12987 := z_12985.2
                  have z_12988 := B_12839
                  have z_12989 := z_12988.1
                  have z_12990 := z_12988.2
                  have z_12991 := B_12837
                  have z_12992 := z_12991.1
                  have z_12993 := z_12991.2
                  have p_12981 : HT g0 (729 * i1.toNatClampNeg + 121) fr x_12980 x_12971 y38_6 := HT_nx hHT h_12849 (by omega) (by omega) (h_12969.2.trans (Prod.ext (by first | rfl | (dsimp only; omega) | omega) (by first | rfl | (dsimp only; omega) | omega))) (by omega) (by omega) (by omega) (by omega)
                  exact ih38 _ (by rw [← hm38]; exact ms_up (m := 1) ex_12980 (show bn 1 1 (1 : Int32) from bn_k (by decide)) B_12837 (bn_w (bn_eq ex_12980 (bn_add B_12837 (show bn 1 1 (1 : Int32) from bn_k (by decide)) (by decide))) (by decide) : bn 0 303 x_12980) (by decide)) y38_3 y38_4 x_12971 y38_6 x_12980 _ _  _ _ _ I (bn_w b_y38_3 (by decide)) (bn_w b_y38_4 (by decide)) (HA_5 ⟨p_12981, (by have z9 := hX3; omega), (by have z9 := hX4; omega)⟩) (HA_6 ⟨p_12981, (by have z9 := hX3; omega), (by have z9 := hX4; omega)⟩) (HA_7 ⟨p_12981, (by have z9 := hX3; omega), (by have z9 := hX4; omega)⟩) ⟨p_12981, (by have z9 := hX3; omega), (by have z9 := hX4; omega)⟩ rfl Y (lv_sub hl [4, 5, 6, 7, 8, 1, 9, 0] rfl)
              · have B_12859 : bn 2 5 v_12842 := bn_w (bn_ger c_12857 (show bn 5 5 (5 : Int32) from bn_k (by decide)) B_12851) (by decide)
                have h_12994 := sh5 h_12848 (by have h9 := B_12859.1; have h8 := B_12859.2; have g1 : ¬ v_12842.toInt = 3 := fun z => c_12853 (Int32.toInt_inj.mp (z.trans rfl)); have g2 : ¬ v_12842.toInt = 4 := fun z => c_12855 (Int32.toInt_inj.mp (z.trans rfl)); omega)
                have B_12995 : bn 1 302 y38_5 := ⟨by have h9 := h_12994.1; omega, B_12838.2⟩
                refine lv_aload_n hx hb dX12_summedUp_200 rfl (lv_at hl 2 rfl) ?_
                refine pg_get S Y ok_X12 23 (by decide) kf12_38 (v := .ref (ad 8 0)) p_ad_0_0 rfl dX12_summedUp_201 ?_
                refine lv_iload hx hb dX12_summedUp_204 (lv_at hl 7 rfl) ?_
                refine lv_iconst (v := 1) hx hb dX12_summedUp_206 (by decide) ?_
                refine lv_isub hx hb dX12_summedUp_207 ?_
                refine lv_topi (fun x_12996 ex_12996 => ?_)
                refine lv_iload hx hb dX12_summedUp_208 (lv_at hl 1 rfl) ?_
                refine lv_iconst (v := 5) hx hb dX12_summedUp_210 (by decide) ?_
                refine lv_icmp_ne (tgt := 227) hx hb dX12_summedUp_211 (by decide) (fun c_12997 => ?_) (fun c_12997 => ?_)
                · have B_12998 : bn 2 4 v_12842 := bn_w (bn_neu c_12997 B_12859 (show bn 5 5 (5 : Int32) from bn_k (by decide))) (by decide)
                  refine lv_aload_n hx hb dX12_summedUp_227 rfl (lv_at hl 2 rfl) ?_
                  refine lv_aload_n hx hb dX12_summedUp_228 rfl (lv_at hl 2 rfl) ?_
                  refine pg_get S Y ok_X12 23 (by decide) kf12_38 (v := .ref (ad 8 0)) p_ad_0_0 rfl dX12_summedUp_229 ?_
                  refine lv_iload hx hb dX12_summedUp_232 (lv_at hl 7 rfl) ?_
                  refine lv_iconst (v := 1) hx hb dX12_summedUp_234 (by decide) ?_
                  refine lv_isub hx hb dX12_summedUp_235 ?_
                  refine lv_topi (fun x_13000 ex_13000 => ?_)
                  obtain ⟨g_13001, p_ad_8_0⟩ := I.opl (k := 8) (j := 0) (by decide) rfl
                  have p_ad_8_0 : pt L_38 f_38 (ad 8 0) (.inl (G.2 1, 330, .inr (.inl g_13001))) := p_ad_8_0
                  refine pg_lald S Y p_ad_8_0 (vp_bn (bn_eq ex_13000 (bn_sub B_12995 (show bn 1 1 (1 : Int32) from bn_k (by decide)) (by decide))) (by decide)) dX12_summedUp_236 ?_
                  refine lv_topl (fun v_13002 ev_13002 => ?_)
                  refine cVlp (As := [.long v_13002]) (rest := [.int x_12996, .ref (ad 8 0)]) S Y (x_X12_marksOf (l := l) I hB) cw_X12_marksOf km12_274 p_ad_0_0 ok_X12.1 rfl rfl ⟨Nat.le_of_ble_eq_true rfl, Nat.le_of_ble_eq_true rfl⟩ hl.1 rfl (Nat.le_of_ble_eq_true rfl) ⟨Nat.le_of_ble_eq_true rfl, Nat.le_of_ble_eq_true rfl⟩ dX12_summedUp_237 (fun r_13003 H locs er_13003 Y => ?_)
                  refine pg_last S Y p_ad_8_0 (vp_bn (bn_eq ex_12996 (bn_sub B_12995 (show bn 1 1 (1 : Int32) from bn_k (by decide)) (by decide))) (by decide)) dX12_summedUp_240 (fun f_13005 H locs ef_13005 Y => ?_)
                  obtain ⟨g_13004, eg_13004⟩ : ∃ z, z = vp_updL (g_13001) (x_12996 : Int32).toNatClampNeg r_13003 := ⟨_, rfl⟩
                  rw [← eg_13004] at ef_13005
                  have p_ad_0_0 := p_ad_0_0.up ef_13005 (I.ne (k := 0) (j := 0) (k' := 8) (j' := 0) (by decide) (by decide) (Or.inl (by decide)))
                  have p_ad_3_0 := p_ad_3_0.up ef_13005 (I.ne (k := 3) (j := 0) (k' := 8) (j' := 0) (by decide) (by decide) (Or.inl (by decide)))
                  have p_ad_8_0 := p_ad_8_0.me ef_13005
                  have I := I.up (k := 8) (j := 0) (by decide) ef_13005 (okE_l (g := g_13004))
                  refine lv_goto (tgt := 400) hx hb dX12_summedUp_241 (by decide) ?_
                  obtain ⟨x_13006, ex_13006⟩ : ∃ z : Int32, z = y38_7 + 1 := ⟨_, rfl⟩
                  refine lv_iinc (v := x_13006) (lv' := [(7, .int x_13006), (9, .int v_12846), (8, .int v_12842), (0, .ref (ad 0 0)), (1, .int i1), (2, .int i2), (3, .int y38_3), (4, .int y38_4), (5, .int y38_5), (6, .int y38_6)]) hx hb dX12_summedUp_400 hl (k := 9) rfl (by rw [ex_13006]; rfl) (by decide) rfl (fun ls hl => ?_)
                  refine lv_goto (tgt := 38) hx hb dX12_summedUp_403 (by decide) ?_
                  have z_13008 : x_13006.toInt = (y38_7.toInt + 1) := (la_add ex_13006 (rfl : y38_7.toInt = y38_7.toInt) (show (1 : Int32).toInt = 1 from rfl) B_12837 (show bn 1 1 (1 : Int32) from bn_k (by decide)) (by decide))
                  have z_13009 : y38_5.toInt = y38_5.toInt := (rfl : y38_5.toInt = y38_5.toInt)
                  have z_13010 : y38_6.toInt = y38_6.toInt := (rfl : y38_6.toInt = y38_6.toInt)
                  have z_13011 := B_12995
                  have z_13012 := z_13011.1
                  have z_13013 := z_13011.2
                  have z_13014 := B_12839
                  have z_13015 := z_13014.1
                  have z_13016 := z_13014.2
                  have z_13017 := B_12837
                  have z_13018 := z_13017.1
                  have z_13019 := z_13017.2
                  have p_13007 : HT g0 (729 * i1.toNatClampNeg + 121) fr x_13006 y38_5 y38_6 := HT_nx hHT h_12849 (by omega) (by omega) (h_12994.2.trans (Prod.ext (by first | rfl | (dsimp only; omega) | omega) (by first | rfl | (dsimp only; omega) | omega))) (by omega) (by omega) (by omega) (by omega)
                  exact ih38 _ (by rw [← hm38]; exact ms_up (m := 1) ex_13006 (show bn 1 1 (1 : Int32) from bn_k (by decide)) B_12837 (bn_w (bn_eq ex_13006 (bn_add B_12837 (show bn 1 1 (1 : Int32) from bn_k (by decide)) (by decide))) (by decide) : bn 0 303 x_13006) (by decide)) y38_3 y38_4 y38_5 y38_6 x_13006 _ _  _ _ _ I (bn_w b_y38_3 (by decide)) (bn_w b_y38_4 (by decide)) (HA_5 ⟨p_13007, (by have z9 := hX3; omega), (by have z9 := hX4; omega)⟩) (HA_6 ⟨p_13007, (by have z9 := hX3; omega), (by have z9 := hX4; omega)⟩) (HA_7 ⟨p_13007, (by have z9 := hX3; omega), (by have z9 := hX4; omega)⟩) ⟨p_13007, (by have z9 := hX3; omega), (by have z9 := hX4; omega)⟩ rfl Y (lv_sub hl [3, 4, 5, 6, 7, 8, 9, 0] rfl)
                · have B_12999 : bn 5 5 v_12842 := bn_w (bn_eq c_12997 (show bn 5 5 (5 : Int32) from bn_k (by decide))) (by decide)
                  refine lv_aload_n hx hb dX12_summedUp_214 rfl (lv_at hl 2 rfl) ?_
                  refine pg_get S Y ok_X12 23 (by decide) kf12_38 (v := .ref (ad 8 0)) p_ad_0_0 rfl dX12_summedUp_215 ?_
                  refine lv_iload hx hb dX12_summedUp_218 (lv_at hl 7 rfl) ?_
                  refine lv_iconst (v := 1) hx hb dX12_summedUp_220 (by decide) ?_
                  refine lv_isub hx hb dX12_summedUp_221 ?_
                  refine lv_topi (fun x_13020 ex_13020 => ?_)
                  obtain ⟨g_13021, p_ad_8_0⟩ := I.opl (k := 8) (j := 0) (by decide) rfl
                  have p_ad_8_0 : pt L_38 f_38 (ad 8 0) (.inl (G.2 1, 330, .inr (.inl g_13021))) := p_ad_8_0
                  refine pg_lald S Y p_ad_8_0 (vp_bn (bn_eq ex_13020 (bn_sub B_12995 (show bn 1 1 (1 : Int32) from bn_k (by decide)) (by decide))) (by decide)) dX12_summedUp_222 ?_
                  refine lv_topl (fun v_13022 ev_13022 => ?_)
                  refine lv_lneg hx hb dX12_summedUp_223 ?_
                  refine lv_topl (fun x_13023 ex_13023 => ?_)
                  refine lv_goto (tgt := 240) hx hb dX12_summedUp_224 (by decide) ?_
                  refine pg_last S Y p_ad_8_0 (vp_bn (bn_eq ex_12996 (bn_sub B_12995 (show bn 1 1 (1 : Int32) from bn_k (by decide)) (by decide))) (by decide)) dX12_summedUp_240 (fun f_13025 H locs ef_13025 Y => ?_)
                  obtain ⟨g_13024, eg_13024⟩ : ∃ z, z = vp_updL (g_13021) (x_12996 : Int32).toNatClampNeg x_13023 := ⟨_, rfl⟩
                  rw [← eg_13024] at ef_13025
                  have p_ad_0_0 := p_ad_0_0.up ef_13025 (I.ne (k := 0) (j := 0) (k' := 8) (j' := 0) (by decide) (by decide) (Or.inl (by decide)))
                  have p_ad_3_0 := p_ad_3_0.up ef_13025 (I.ne (k := 3) (j := 0) (k' := 8) (j' := 0) (by decide) (by decide) (Or.inl (by decide)))
                  have p_ad_8_0 := p_ad_8_0.me ef_13025
                  have I := I.up (k := 8) (j := 0) (by decide) ef_13025 (okE_l (g := g_13024))
                  refine lv_goto (tgt := 400) hx hb dX12_summedUp_241 (by decide) ?_
                  obtain ⟨x_13026, ex_13026⟩ : ∃ z : Int32, z = y38_7 + 1 := ⟨_, rfl⟩
                  refine lv_iinc (v := x_13026) (lv' := [(7, .int x_13026), (9, .int v_12846), (8, .int v_12842), (0, .ref (ad 0 0)), (1, .int i1), (2, .int i2), (3, .int y38_3), (4, .int y38_4), (5, .int y38_5), (6, .int y38_6)]) hx hb dX12_summedUp_400 hl (k := 9) rfl (by rw [ex_13026]; rfl) (by decide) rfl (fun ls hl => ?_)
                  refine lv_goto (tgt := 38) hx hb dX12_summedUp_403 (by decide) ?_
                  have z_13028 : x_13026.toInt = (y38_7.toInt + 1) := (la_add ex_13026 (rfl : y38_7.toInt = y38_7.toInt) (show (1 : Int32).toInt = 1 from rfl) B_12837 (show bn 1 1 (1 : Int32) from bn_k (by decide)) (by decide))
                  have z_13029 : y38_5.toInt = y38_5.toInt := (rfl : y38_5.toInt = y38_5.toInt)
                  have z_13030 : y38_6.toInt = y38_6.toInt := (rfl : y38_6.toInt = y38_6.toInt)
                  have z_13031 := B_12995
                  have z_13032 := z_13031.1
                  have z_13033 := z_13031.2
                  have z_13034 := B_12839
                  have z_13035 := z_13034.1
                  have z_13036 := z_13034.2
                  have z_13037 := B_12837
                  have z_13038 := z_13037.1
                  have z_13039 := z_13037.2
                  have p_13027 : HT g0 (729 * i1.toNatClampNeg + 121) fr x_13026 y38_5 y38_6 := HT_nx hHT h_12849 (by omega) (by omega) (h_12994.2.trans (Prod.ext (by first | rfl | (dsimp only; omega) | omega) (by first | rfl | (dsimp only; omega) | omega))) (by omega) (by omega) (by omega) (by omega)
                  exact ih38 _ (by rw [← hm38]; exact ms_up (m := 1) ex_13026 (show bn 1 1 (1 : Int32) from bn_k (by decide)) B_12837 (bn_w (bn_eq ex_13026 (bn_add B_12837 (show bn 1 1 (1 : Int32) from bn_k (by decide)) (by decide))) (by decide) : bn 0 303 x_13026) (by decide)) y38_3 y38_4 y38_5 y38_6 x_13026 _ _  _ _ _ I (bn_w b_y38_3 (by decide)) (bn_w b_y38_4 (by decide)) (HA_5 ⟨p_13027, (by have z9 := hX3; omega), (by have z9 := hX4; omega)⟩) (HA_6 ⟨p_13027, (by have z9 := hX3; omega), (by have z9 := hX4; omega)⟩) (HA_7 ⟨p_13027, (by have z9 := hX3; omega), (by have z9 := hX4; omega)⟩) ⟨p_13027, (by have z9 := hX3; omega), (by have z9 := hX4; omega)⟩ rfl Y (lv_sub hl [3, 4, 5, 6, 7, 8, 9, 0] rfl)
            · have B_12856 : bn 4 4 v_12842 := bn_w (bn_eq c_12855 (show bn 4 4 (4 : Int32) from bn_k (by decide))) (by decide)
              have h_13041 : stH 4 v_12846.toInt (y38_5.toInt.toNat, y38_6.toInt.toNat) = some q_12847 := by have e9 : v_12842.toInt = 4 := Int.le_antisymm B_12856.2 B_12856.1; rw [← e9]; exact h_12848
              have h_13040 := sh4 h_13041
              have B_13042 : bn 0 302 v_12846 := ⟨h_13040.1, by have h9 := h_13040.2.1; have h8 := B_12839; have h7 := h8.1; have h6 := h8.2; simp only at h9; omega⟩
              refine lv_iload hx hb dX12_summedUp_166 (lv_at hl 8 rfl) ?_
              refine lv_iload hx hb dX12_summedUp_168 (lv_at hl 0 rfl) ?_
              refine lv_isub hx hb dX12_summedUp_170 ?_
              refine lv_topi (fun x_13043 ex_13043 => ?_)
              have B_13044 : bn 0 302 x_13043 := bn_w (bn_eq ex_13043 (show bn 0 302 (y38_6 - v_12846) from by have h9 := h_13040.2.1; have h8 := B_12839; have h7 := B_13042; obtain ⟨a1, a2⟩ := h8; obtain ⟨b1, b2⟩ := h7; simp only at h9; have e9 := ti_sub (a := y38_6) (b := v_12846) (by omega) (by omega); exact ⟨by omega, by omega⟩)) (by decide)
              refine lv_istore (lv' := [(6, .int x_13043), (9, .int v_12846), (8, .int v_12842), (0, .ref (ad 0 0)), (1, .int i1), (2, .int i2), (3, .int y38_3), (4, .int y38_4), (5, .int y38_5), (7, .int y38_7)]) hx hb dX12_summedUp_171 hl (by decide) rfl (fun ls hl => ?_)
              refine lv_aload_n hx hb dX12_summedUp_173 rfl (lv_at hl 3 rfl) ?_
              refine pg_get S Y ok_X12 24 (by decide) kf12_42 (v := .ref (ad 9 0)) p_ad_0_0 rfl dX12_summedUp_174 ?_
              refine lv_iload hx hb dX12_summedUp_177 (lv_at hl 0 rfl) ?_
              refine lv_aload_n hx hb dX12_summedUp_179 rfl (lv_at hl 3 rfl) ?_
              refine lv_iload hx hb dX12_summedUp_180 (lv_at hl 0 rfl) ?_
              refine lv_iload hx hb dX12_summedUp_182 (lv_at hl 1 rfl) ?_
              refine cVp (As := [.int x_13043, .int v_12846]) (rest := [.int x_13043, .ref (ad 9 0)]) S Y (x_X12_isJustOne (l := l) I hB (bn_w B_13044 (by decide)) (bn_w B_13042 (by decide)) (by have h9 := la_sub ex_13043 rfl rfl B_12839 B_13042 (by decide); have h8 := B_12839.2; omega)) cw_X12_isJustOne km12_271 p_ad_0_0 ok_X12.1 rfl rfl ⟨Nat.le_of_ble_eq_true rfl, Nat.le_of_ble_eq_true rfl⟩ hl.1 rfl (Nat.le_of_ble_eq_true rfl) ⟨Nat.le_of_ble_eq_true rfl, Nat.le_of_ble_eq_true rfl⟩ dX12_summedUp_184 (fun r_13045 H locs er_13045 Y => ?_)
              obtain ⟨g_13046, p_ad_9_0, o_13047⟩ := I.opi (k := 9) (j := 0) (by decide) rfl
              have p_ad_9_0 : pt L_38 f_38 (ad 9 0) (.inl (G.2 2, 330, .inl g_13046)) := p_ad_9_0
              refine pg_zast S Y p_ad_9_0 (vp_bn B_13044 (by decide)) dX12_summedUp_187 (fun f_13049 H locs ef_13049 Y => ?_)
              obtain ⟨g_13048, eg_13048⟩ : ∃ z, z = upd (g_13046) (x_13043 : Int32).toNatClampNeg (vp_nar .boolean r_13045) := ⟨_, rfl⟩
              rw [← eg_13048] at ef_13049
              have p_ad_0_0 := p_ad_0_0.up ef_13049 (I.ne (k := 0) (j := 0) (k' := 9) (j' := 0) (by decide) (by decide) (Or.inl (by decide)))
              have p_ad_3_0 := p_ad_3_0.up ef_13049 (I.ne (k := 3) (j := 0) (k' := 9) (j' := 0) (by decide) (by decide) (Or.inl (by decide)))
              have p_ad_9_0 := p_ad_9_0.me ef_13049
              have o_13050 : ∀ i, bn 0 1 (g_13048 i) := by rw [eg_13048]; exact upz o_13047 (nar01 (bn_w er_13045 (by decide)))
              have I := I.up (k := 9) (j := 0) (by decide) ef_13049 (okE_a (g := g_13048) o_13050)
              obtain ⟨x_13051, ex_13051⟩ : ∃ z : Int32, z = x_13043 + 1 := ⟨_, rfl⟩
              refine lv_iinc (v := x_13051) (lv' := [(6, .int x_13051), (9, .int v_12846), (8, .int v_12842), (0, .ref (ad 0 0)), (1, .int i1), (2, .int i2), (3, .int y38_3), (4, .int y38_4), (5, .int y38_5), (7, .int y38_7)]) hx hb dX12_summedUp_188 hl (k := 0) rfl (by rw [ex_13051]; rfl) (by decide) rfl (fun ls hl => ?_)
              refine lv_goto (tgt := 400) hx hb dX12_summedUp_191 (by decide) ?_
              obtain ⟨x_13052, ex_13052⟩ : ∃ z : Int32, z = y38_7 + 1 := ⟨_, rfl⟩
              refine lv_iinc (v := x_13052) (lv' := [(7, .int x_13052), (6, .int x_13051), (9, .int v_12846), (8, .int v_12842), (0, .ref (ad 0 0)), (1, .int i1), (2, .int i2), (3, .int y38_3), (4, .int y38_4), (5, .int y38_5)]) hx hb dX12_summedUp_400 hl (k := 9) rfl (by rw [ex_13052]; rfl) (by decide) rfl (fun ls hl => ?_)
              refine lv_goto (tgt := 38) hx hb dX12_summedUp_403 (by decide) ?_
              have z_13054 : x_13052.toInt = (y38_7.toInt + 1) := (la_add ex_13052 (rfl : y38_7.toInt = y38_7.toInt) (show (1 : Int32).toInt = 1 from rfl) B_12837 (show bn 1 1 (1 : Int32) from bn_k (by decide)) (by decide))
              have z_13055 : y38_5.toInt = y38_5.toInt := (rfl : y38_5.toInt = y38_5.toInt)
              have z_13056 : x_13051.toInt = ((y38_6.toInt - v_12846.toInt) + 1) := (la_add ex_13051 (la_sub ex_13043 (rfl : y38_6.toInt = y38_6.toInt) (rfl : v_12846.toInt = v_12846.toInt) B_12839 B_13042 (by decide)) (show (1 : Int32).toInt = 1 from rfl) B_13044 (show bn 1 1 (1 : Int32) from bn_k (by decide)) (by decide))
              have z_13057 := B_12838
              have z_13058 := z_13057.1
              have z_13059 := z_13057.2
              have z_13060 := B_12839
              have z_13061 := z_13060.1
              have z_13062 := z_13060.2
              have z_13063 := B_12837
              have z_13064 := z_13063.1
              have z_13065 := z_13063.2
              have z_13066 := B_13042
              have z_13067 := z_13066.1
              have z_13068 := z_13066.2
              have z_13069 := h_13040.2.1
              simp only at z_13069
              have p_13053 : HT g0 (729 * i1.toNatClampNeg + 121) fr x_13052 y38_5 x_13051 := HT_nx hHT h_12849 (by omega) (by omega) (h_13040.2.2.trans (Prod.ext (by first | rfl | (dsimp only; omega) | omega) (by first | rfl | (dsimp only; omega) | omega))) (by omega) (by omega) (by omega) (by omega)
              exact ih38 _ (by rw [← hm38]; exact ms_up (m := 1) ex_13052 (show bn 1 1 (1 : Int32) from bn_k (by decide)) B_12837 (bn_w (bn_eq ex_13052 (bn_add B_12837 (show bn 1 1 (1 : Int32) from bn_k (by decide)) (by decide))) (by decide) : bn 0 303 x_13052) (by decide)) y38_3 y38_4 y38_5 x_13051 x_13052 _ _  _ _ _ I (bn_w b_y38_3 (by decide)) (bn_w b_y38_4 (by decide)) (HA_5 ⟨p_13053, (by have z9 := hX3; omega), (by have z9 := hX4; omega)⟩) (HA_6 ⟨p_13053, (by have z9 := hX3; omega), (by have z9 := hX4; omega)⟩) (HA_7 ⟨p_13053, (by have z9 := hX3; omega), (by have z9 := hX4; omega)⟩) ⟨p_13053, (by have z9 := hX3; omega), (by have z9 := hX4; omega)⟩ rfl Y (lv_sub hl [4, 5, 6, 7, 8, 9, 1, 0] rfl)
          · have B_12854 : bn 3 3 v_12842 := bn_w (bn_eq c_12853 (show bn 3 3 (3 : Int32) from bn_k (by decide))) (by decide)
            have h_13071 : stH 3 v_12846.toInt (y38_5.toInt.toNat, y38_6.toInt.toNat) = some q_12847 := by have e9 : v_12842.toInt = 3 := Int.le_antisymm B_12854.2 B_12854.1; rw [← e9]; exact h_12848
            have h_13070 := sh3 h_13071
            have B_13072 : bn 2 302 y38_5 := ⟨by have h9 := h_13070.1; omega, B_12838.2⟩
            have B_13073 : bn 1 302 y38_6 := ⟨by have h9 := h_13070.2.1; omega, B_12839.2⟩
            obtain ⟨x_13074, ex_13074⟩ : ∃ z : Int32, z = y38_5 + (-1) := ⟨_, rfl⟩
            refine lv_iinc (v := x_13074) (lv' := [(5, .int x_13074), (9, .int v_12846), (8, .int v_12842), (0, .ref (ad 0 0)), (1, .int i1), (2, .int i2), (3, .int y38_3), (4, .int y38_4), (6, .int y38_6), (7, .int y38_7)]) hx hb dX12_summedUp_125 hl (k := 7) rfl (by rw [ex_13074]; rfl) (by decide) rfl (fun ls hl => ?_)
            obtain ⟨x_13075, ex_13075⟩ : ∃ z : Int32, z = y38_6 + (-1) := ⟨_, rfl⟩
            refine lv_iinc (v := x_13075) (lv' := [(6, .int x_13075), (5, .int x_13074), (9, .int v_12846), (8, .int v_12842), (0, .ref (ad 0 0)), (1, .int i1), (2, .int i2), (3, .int y38_3), (4, .int y38_4), (7, .int y38_7)]) hx hb dX12_summedUp_128 hl (k := 8) rfl (by rw [ex_13075]; rfl) (by decide) rfl (fun ls hl => ?_)
            refine lv_aload_n hx hb dX12_summedUp_131 rfl (lv_at hl 4 rfl) ?_
            refine pg_get S Y ok_X12 24 (by decide) kf12_42 (v := .ref (ad 9 0)) p_ad_0_0 rfl dX12_summedUp_132 ?_
            refine lv_iload hx hb dX12_summedUp_135 (lv_at hl 0 rfl) ?_
            obtain ⟨g_13076, p_ad_9_0, o_13077⟩ := I.opi (k := 9) (j := 0) (by decide) rfl
            have p_ad_9_0 : pt L_38 f_38 (ad 9 0) (.inl (G.2 2, 330, .inl g_13076)) := p_ad_9_0
            obtain ⟨v_13078, ev_13078⟩ : ∃ z, z = g_13076 (x_13075 : Int32).toNatClampNeg := ⟨_, rfl⟩
            refine pg_zald S Y p_ad_9_0 (vp_bn (bn_eq ex_13075 (bn_add B_13073 (show bn (-1) (-1) ((-1) : Int32) from bn_k (by decide)) (by decide))) (by decide)) dX12_summedUp_137 ?_
            refine lv_fold (z := v_13078) ev_13078.symm ?_
            refine lv_if_ne (tgt := 400) hx hb dX12_summedUp_138 (by decide) (fun c_13079 => ?_) (fun c_13079 => ?_)
            · have B_13080 : bn 1 1 v_13078 := bn_w (bn_nel c_13079 (bn_eq ev_13078 (o_13077 _)) (show bn 0 0 (0 : Int32) from bn_k (by decide))) (by decide)
              obtain ⟨x_13082, ex_13082⟩ : ∃ z : Int32, z = y38_7 + 1 := ⟨_, rfl⟩
              refine lv_iinc (v := x_13082) (lv' := [(7, .int x_13082), (6, .int x_13075), (5, .int x_13074), (9, .int v_12846), (8, .int v_12842), (0, .ref (ad 0 0)), (1, .int i1), (2, .int i2), (3, .int y38_3), (4, .int y38_4)]) hx hb dX12_summedUp_400 hl (k := 9) rfl (by rw [ex_13082]; rfl) (by decide) rfl (fun ls hl => ?_)
              refine lv_goto (tgt := 38) hx hb dX12_summedUp_403 (by decide) ?_
              have z_13084 : x_13082.toInt = (y38_7.toInt + 1) := (la_add ex_13082 (rfl : y38_7.toInt = y38_7.toInt) (show (1 : Int32).toInt = 1 from rfl) B_12837 (show bn 1 1 (1 : Int32) from bn_k (by decide)) (by decide))
              have z_13085 : x_13074.toInt = (y38_5.toInt + (-1)) := (la_add ex_13074 (rfl : y38_5.toInt = y38_5.toInt) (show ((-1) : Int32).toInt = (-1) from rfl) B_13072 (show bn (-1) (-1) ((-1) : Int32) from bn_k (by decide)) (by decide))
              have z_13086 : x_13075.toInt = (y38_6.toInt + (-1)) := (la_add ex_13075 (rfl : y38_6.toInt = y38_6.toInt) (show ((-1) : Int32).toInt = (-1) from rfl) B_13073 (show bn (-1) (-1) ((-1) : Int32) from bn_k (by decide)) (by decide))
              have z_13087 := B_13072
              have z_13088 := z_13087.1
              have z_13089 := z_13087.2
              have z_13090 := B_13073
              have z_13091 := z_13090.1
              have z_13092 := z_13090.2
              have z_13093 := B_12837
              have z_13094 := z_13093.1
              have z_13095 := z_13093.2
              have p_13083 : HT g0 (729 * i1.toNatClampNeg + 121) fr x_13082 x_13074 x_13075 := HT_nx hHT h_12849 (by omega) (by omega) (h_13070.2.2.trans (Prod.ext (by first | rfl | (dsimp only; omega) | omega) (by first | rfl | (dsimp only; omega) | omega))) (by omega) (by omega) (by omega) (by omega)
              exact ih38 _ (by rw [← hm38]; exact ms_up (m := 1) ex_13082 (show bn 1 1 (1 : Int32) from bn_k (by decide)) B_12837 (bn_w (bn_eq ex_13082 (bn_add B_12837 (show bn 1 1 (1 : Int32) from bn_k (by decide)) (by decide))) (by decide) : bn 0 303 x_13082) (by decide)) y38_3 y38_4 x_13074 x_13075 x_13082 _ _  _ _ _ I (bn_w b_y38_3 (by decide)) (bn_w b_y38_4 (by decide)) (HA_5 ⟨p_13083, (by have z9 := hX3; omega), (by have z9 := hX4; omega)⟩) (HA_6 ⟨p_13083, (by have z9 := hX3; omega), (by have z9 := hX4; omega)⟩) (HA_7 ⟨p_13083, (by have z9 := hX3; omega), (by have z9 := hX4; omega)⟩) ⟨p_13083, (by have z9 := hX3; omega), (by have z9 := hX4; omega)⟩ rfl Y (lv_sub hl [5, 6, 7, 8, 9, 2, 1, 0] rfl)
            · have B_13081 : bn 0 0 v_13078 := bn_w (bn_eq c_13079 (show bn 0 0 (0 : Int32) from bn_k (by decide))) (by decide)
              refine lv_aload_n hx hb dX12_summedUp_141 rfl (lv_at hl 4 rfl) ?_
              refine pg_get S Y ok_X12 23 (by decide) kf12_38 (v := .ref (ad 8 0)) p_ad_0_0 rfl dX12_summedUp_142 ?_
              refine lv_iload hx hb dX12_summedUp_145 (lv_at hl 1 rfl) ?_
              refine lv_iconst (v := 1) hx hb dX12_summedUp_147 (by decide) ?_
              refine lv_isub hx hb dX12_summedUp_148 ?_
              refine lv_topi (fun x_13096 ex_13096 => ?_)
              refine lv_aload_n hx hb dX12_summedUp_149 rfl (lv_at hl 4 rfl) ?_
              refine pg_get S Y ok_X12 23 (by decide) kf12_38 (v := .ref (ad 8 0)) p_ad_0_0 rfl dX12_summedUp_150 ?_
              refine lv_iload hx hb dX12_summedUp_153 (lv_at hl 1 rfl) ?_
              obtain ⟨g_13097, p_ad_8_0⟩ := I.opl (k := 8) (j := 0) (by decide) rfl
              have p_ad_8_0 : pt L_38 f_38 (ad 8 0) (.inl (G.2 1, 330, .inr (.inl g_13097))) := p_ad_8_0
              refine pg_lald S Y p_ad_8_0 (vp_bn (bn_eq ex_13074 (bn_add B_13072 (show bn (-1) (-1) ((-1) : Int32) from bn_k (by decide)) (by decide))) (by decide)) dX12_summedUp_155 ?_
              refine lv_topl (fun v_13098 ev_13098 => ?_)
              refine pg_last S Y p_ad_8_0 (vp_bn (bn_eq ex_13096 (bn_sub (bn_eq ex_13074 (bn_add B_13072 (show bn (-1) (-1) ((-1) : Int32) from bn_k (by decide)) (by decide))) (show bn 1 1 (1 : Int32) from bn_k (by decide)) (by decide))) (by decide)) dX12_summedUp_156 (fun f_13100 H locs ef_13100 Y => ?_)
              obtain ⟨g_13099, eg_13099⟩ : ∃ z, z = vp_updL (g_13097) (x_13096 : Int32).toNatClampNeg v_13098 := ⟨_, rfl⟩
              rw [← eg_13099] at ef_13100
              have p_ad_0_0 := p_ad_0_0.up ef_13100 (I.ne (k := 0) (j := 0) (k' := 8) (j' := 0) (by decide) (by decide) (Or.inl (by decide)))
              have p_ad_3_0 := p_ad_3_0.up ef_13100 (I.ne (k := 3) (j := 0) (k' := 8) (j' := 0) (by decide) (by decide) (Or.inl (by decide)))
              have p_ad_9_0 := p_ad_9_0.up ef_13100 (I.ne (k := 9) (j := 0) (k' := 8) (j' := 0) (by decide) (by decide) (Or.inl (by decide)))
              have p_ad_8_0 := p_ad_8_0.me ef_13100
              have I := I.up (k := 8) (j := 0) (by decide) ef_13100 (okE_l (g := g_13099))
              refine lv_goto (tgt := 400) hx hb dX12_summedUp_157 (by decide) ?_
              obtain ⟨x_13101, ex_13101⟩ : ∃ z : Int32, z = y38_7 + 1 := ⟨_, rfl⟩
              refine lv_iinc (v := x_13101) (lv' := [(7, .int x_13101), (6, .int x_13075), (5, .int x_13074), (9, .int v_12846), (8, .int v_12842), (0, .ref (ad 0 0)), (1, .int i1), (2, .int i2), (3, .int y38_3), (4, .int y38_4)]) hx hb dX12_summedUp_400 hl (k := 9) rfl (by rw [ex_13101]; rfl) (by decide) rfl (fun ls hl => ?_)
              refine lv_goto (tgt := 38) hx hb dX12_summedUp_403 (by decide) ?_
              have z_13103 : x_13101.toInt = (y38_7.toInt + 1) := (la_add ex_13101 (rfl : y38_7.toInt = y38_7.toInt) (show (1 : Int32).toInt = 1 from rfl) B_12837 (show bn 1 1 (1 : Int32) from bn_k (by decide)) (by decide))
              have z_13104 : x_13074.toInt = (y38_5.toInt + (-1)) := (la_add ex_13074 (rfl : y38_5.toInt = y38_5.toInt) (show ((-1) : Int32).toInt = (-1) from rfl) B_13072 (show bn (-1) (-1) ((-1) : Int32) from bn_k (by decide)) (by decide))
              have z_13105 : x_13075.toInt = (y38_6.toInt + (-1)) := (la_add ex_13075 (rfl : y38_6.toInt = y38_6.toInt) (show ((-1) : Int32).toInt = (-1) from rfl) B_13073 (show bn (-1) (-1) ((-1) : Int32) from bn_k (by decide)) (by decide))
              have z_13106 := B_13072
              have z_13107 := z_13106.1
              have z_13108 := z_13106.2
              have z_13109 := B_13073
              have z_13110 := z_13109.1
              have z_13111 := z_13109.2
              have z_13112 := B_12837
              have z_13113 := z_13112.1
              have z_13114 := z_13112.2
              have p_13102 : HT g0 (729 * i1.toNatClampNeg + 121) fr x_13101 x_13074 x_13075 := HT_nx hHT h_12849 (by omega) (by omega) (h_13070.2.2.trans (Prod.ext (by first | rfl | (dsimp only; omega) | omega) (by first | rfl | (dsimp only; omega) | omega))) (by omega) (by omega) (by omega) (by omega)
              exact ih38 _ (by rw [← hm38]; exact ms_up (m := 1) ex_13101 (show bn 1 1 (1 : Int32) from bn_k (by decide)) B_12837 (bn_w (bn_eq ex_13101 (bn_add B_12837 (show bn 1 1 (1 : Int32) from bn_k (by decide)) (by decide))) (by decide) : bn 0 303 x_13101) (by decide)) y38_3 y38_4 x_13074 x_13075 x_13101 _ _  _ _ _ I (bn_w b_y38_3 (by decide)) (bn_w b_y38_4 (by decide)) (HA_5 ⟨p_13102, (by have z9 := hX3; omega), (by have z9 := hX4; omega)⟩) (HA_6 ⟨p_13102, (by have z9 := hX3; omega), (by have z9 := hX4; omega)⟩) (HA_7 ⟨p_13102, (by have z9 := hX3; omega), (by have z9 := hX4; omega)⟩) ⟨p_13102, (by have z9 := hX3; omega), (by have z9 := hX4; omega)⟩ rfl Y (lv_sub hl [5, 6, 7, 8, 9, 2, 1, 0] rfl)
        · have B_12852 : bn (-2147483648) 1 v_12842 := bn_w (bn_ger c_12850 (show bn 1 1 (1 : Int32) from bn_k (by decide)) (bn_any v_12842)) (by decide)
          have h_13115 := sh1 h_12848 (by have h9 := B_12852.2; omega)
          have B_13116 : bn 0 1 v_12842 := ⟨h_13115.1, B_12852.2⟩
          refine lv_aload_n hx hb dX12_summedUp_87 rfl (lv_at hl 2 rfl) ?_
          refine pg_get S Y ok_X12 23 (by decide) kf12_38 (v := .ref (ad 8 0)) p_ad_0_0 rfl dX12_summedUp_88 ?_
          refine lv_iload hx hb dX12_summedUp_91 (lv_at hl 7 rfl) ?_
          refine lv_iload hx hb dX12_summedUp_93 (lv_at hl 1 rfl) ?_
          refine lv_if_ne (tgt := 104) hx hb dX12_summedUp_95 (by decide) (fun c_13117 => ?_) (fun c_13117 => ?_)
          · have B_13118 : bn 1 1 v_12842 := bn_w (bn_nel c_13117 B_13116 (show bn 0 0 (0 : Int32) from bn_k (by decide))) (by decide)
            have h_13120 := h_13115.2.1 (by have h9 := B_13118; exact Int.le_antisymm h9.2 h9.1)
            have B_13121 : bn 0 9 v_12846 := ⟨h_13120.1, h_13120.2⟩
            refine lv_aload_n hx hb dX12_summedUp_104 rfl (lv_at hl 2 rfl) ?_
            refine pg_get S Y ok_X12 22 (by decide) kf12_35 (v := .ref (ad 7 0)) p_ad_0_0 rfl dX12_summedUp_105 ?_
            refine lv_iload hx hb dX12_summedUp_108 (lv_at hl 0 rfl) ?_
            obtain ⟨g_13122, p_ad_7_0, o_13123⟩ := I.opi (k := 7) (j := 0) (by decide) rfl
            have p_ad_7_0 : pt L_38 f_38 (ad 7 0) (.inl (G.2 0, 10, .inl g_13122)) := p_ad_7_0
            obtain ⟨v_13124, ev_13124⟩ : ∃ z, z = g_13122 (v_12846 : Int32).toNatClampNeg := ⟨_, rfl⟩
            refine pg_iald S Y (v := v_13124) p_ad_7_0 (vp_bn B_13121 (by decide)) ev_13124.symm dX12_summedUp_110 ?_
            refine lv_i2l hx hb dX12_summedUp_111 rfl ?_
            refine lv_topl (fun x_13125 ex_13125 => ?_)
            obtain ⟨g_13126, p_ad_8_0⟩ := I.opl (k := 8) (j := 0) (by decide) rfl
            have p_ad_8_0 : pt L_38 f_38 (ad 8 0) (.inl (G.2 1, 330, .inr (.inl g_13126))) := p_ad_8_0
            refine pg_last S Y p_ad_8_0 (vp_bn B_12838 (by decide)) dX12_summedUp_112 (fun f_13128 H locs ef_13128 Y => ?_)
            obtain ⟨g_13127, eg_13127⟩ : ∃ z, z = vp_updL (g_13126) (y38_5 : Int32).toNatClampNeg x_13125 := ⟨_, rfl⟩
            rw [← eg_13127] at ef_13128
            have p_ad_0_0 := p_ad_0_0.up ef_13128 (I.ne (k := 0) (j := 0) (k' := 8) (j' := 0) (by decide) (by decide) (Or.inl (by decide)))
            have p_ad_3_0 := p_ad_3_0.up ef_13128 (I.ne (k := 3) (j := 0) (k' := 8) (j' := 0) (by decide) (by decide) (Or.inl (by decide)))
            have p_ad_7_0 := p_ad_7_0.up ef_13128 (I.ne (k := 7) (j := 0) (k' := 8) (j' := 0) (by decide) (by decide) (Or.inl (by decide)))
            have p_ad_8_0 := p_ad_8_0.me ef_13128
            have I := I.up (k := 8) (j := 0) (by decide) ef_13128 (okE_l (g := g_13127))
            obtain ⟨x_13129, ex_13129⟩ : ∃ z : Int32, z = y38_5 + 1 := ⟨_, rfl⟩
            refine lv_iinc (v := x_13129) (lv' := [(5, .int x_13129), (9, .int v_12846), (8, .int v_12842), (0, .ref (ad 0 0)), (1, .int i1), (2, .int i2), (3, .int y38_3), (4, .int y38_4), (6, .int y38_6), (7, .int y38_7)]) hx hb dX12_summedUp_113 hl (k := 7) rfl (by rw [ex_13129]; rfl) (by decide) rfl (fun ls hl => ?_)
            refine lv_goto (tgt := 400) hx hb dX12_summedUp_116 (by decide) ?_
            obtain ⟨x_13130, ex_13130⟩ : ∃ z : Int32, z = y38_7 + 1 := ⟨_, rfl⟩
            refine lv_iinc (v := x_13130) (lv' := [(7, .int x_13130), (5, .int x_13129), (9, .int v_12846), (8, .int v_12842), (0, .ref (ad 0 0)), (1, .int i1), (2, .int i2), (3, .int y38_3), (4, .int y38_4), (6, .int y38_6)]) hx hb dX12_summedUp_400 hl (k := 9) rfl (by rw [ex_13130]; rfl) (by decide) rfl (fun ls hl => ?_)
            refine lv_goto (tgt := 38) hx hb dX12_summedUp_403 (by decide) ?_
            have z_13132 : x_13130.toInt = (y38_7.toInt + 1) := (la_add ex_13130 (rfl : y38_7.toInt = y38_7.toInt) (show (1 : Int32).toInt = 1 from rfl) B_12837 (show bn 1 1 (1 : Int32) from bn_k (by decide)) (by decide))
            have z_13133 : x_13129.toInt = (y38_5.toInt + 1) := (la_add ex_13129 (rfl : y38_5.toInt = y38_5.toInt) (show (1 : Int32).toInt = 1 from rfl) B_12838 (show bn 1 1 (1 : Int32) from bn_k (by decide)) (by decide))
            have z_13134 : y38_6.toInt = y38_6.toInt := (rfl : y38_6.toInt = y38_6.toInt)
            have z_13135 := B_12838
            have z_13136 := z_13135.1
            have z_13137 := z_13135.2
            have z_13138 := B_12839
            have z_13139 := z_13138.1
            have z_13140 := z_13138.2
            have z_13141 := B_12837
            have z_13142 := z_13141.1
            have z_13143 := z_13141.2
            have p_13131 : HT g0 (729 * i1.toNatClampNeg + 121) fr x_13130 x_13129 y38_6 := HT_nx hHT h_12849 (by omega) (by omega) (h_13115.2.2.trans (Prod.ext (by first | rfl | (dsimp only; omega) | omega) (by first | rfl | (dsimp only; omega) | omega))) (by omega) (by omega) (by omega) (by omega)
            exact ih38 _ (by rw [← hm38]; exact ms_up (m := 1) ex_13130 (show bn 1 1 (1 : Int32) from bn_k (by decide)) B_12837 (bn_w (bn_eq ex_13130 (bn_add B_12837 (show bn 1 1 (1 : Int32) from bn_k (by decide)) (by decide))) (by decide) : bn 0 303 x_13130) (by decide)) y38_3 y38_4 x_13129 y38_6 x_13130 _ _  _ _ _ I (bn_w b_y38_3 (by decide)) (bn_w b_y38_4 (by decide)) (HA_5 ⟨p_13131, (by have z9 := hX3; omega), (by have z9 := hX4; omega)⟩) (HA_6 ⟨p_13131, (by have z9 := hX3; omega), (by have z9 := hX4; omega)⟩) (HA_7 ⟨p_13131, (by have z9 := hX3; omega), (by have z9 := hX4; omega)⟩) ⟨p_13131, (by have z9 := hX3; omega), (by have z9 := hX4; omega)⟩ rfl Y (lv_sub hl [4, 5, 6, 7, 8, 1, 9, 0] rfl)
          · have B_13119 : bn 0 0 v_12842 := bn_w (bn_eq c_13117 (show bn 0 0 (0 : Int32) from bn_k (by decide))) (by decide)
            refine lv_iload hx hb dX12_summedUp_98 (lv_at hl 0 rfl) ?_
            refine lv_i2l hx hb dX12_summedUp_100 rfl ?_
            refine lv_topl (fun x_13144 ex_13144 => ?_)
            refine lv_goto (tgt := 112) hx hb dX12_summedUp_101 (by decide) ?_
            obtain ⟨g_13145, p_ad_8_0⟩ := I.opl (k := 8) (j := 0) (by decide) rfl
            have p_ad_8_0 : pt L_38 f_38 (ad 8 0) (.inl (G.2 1, 330, .inr (.inl g_13145))) := p_ad_8_0
            refine pg_last S Y p_ad_8_0 (vp_bn B_12838 (by decide)) dX12_summedUp_112 (fun f_13147 H locs ef_13147 Y => ?_)
            obtain ⟨g_13146, eg_13146⟩ : ∃ z, z = vp_updL (g_13145) (y38_5 : Int32).toNatClampNeg x_13144 := ⟨_, rfl⟩
            rw [← eg_13146] at ef_13147
            have p_ad_0_0 := p_ad_0_0.up ef_13147 (I.ne (k := 0) (j := 0) (k' := 8) (j' := 0) (by decide) (by decide) (Or.inl (by decide)))
            have p_ad_3_0 := p_ad_3_0.up ef_13147 (I.ne (k := 3) (j := 0) (k' := 8) (j' := 0) (by decide) (by decide) (Or.inl (by decide)))
            have p_ad_8_0 := p_ad_8_0.me ef_13147
            have I := I.up (k := 8) (j := 0) (by decide) ef_13147 (okE_l (g := g_13146))
            obtain ⟨x_13148, ex_13148⟩ : ∃ z : Int32, z = y38_5 + 1 := ⟨_, rfl⟩
            refine lv_iinc (v := x_13148) (lv' := [(5, .int x_13148), (9, .int v_12846), (8, .int v_12842), (0, .ref (ad 0 0)), (1, .int i1), (2, .int i2), (3, .int y38_3), (4, .int y38_4), (6, .int y38_6), (7, .int y38_7)]) hx hb dX12_summedUp_113 hl (k := 7) rfl (by rw [ex_13148]; rfl) (by decide) rfl (fun ls hl => ?_)
            refine lv_goto (tgt := 400) hx hb dX12_summedUp_116 (by decide) ?_
            obtain ⟨x_13149, ex_13149⟩ : ∃ z : Int32, z = y38_7 + 1 := ⟨_, rfl⟩
            refine lv_iinc (v := x_13149) (lv' := [(7, .int x_13149), (5, .int x_13148), (9, .int v_12846), (8, .int v_12842), (0, .ref (ad 0 0)), (1, .int i1), (2, .int i2), (3, .int y38_3), (4, .int y38_4), (6, .int y38_6)]) hx hb dX12_summedUp_400 hl (k := 9) rfl (by rw [ex_13149]; rfl) (by decide) rfl (fun ls hl => ?_)
            refine lv_goto (tgt := 38) hx hb dX12_summedUp_403 (by decide) ?_
            have z_13151 : x_13149.toInt = (y38_7.toInt + 1) := (la_add ex_13149 (rfl : y38_7.toInt = y38_7.toInt) (show (1 : Int32).toInt = 1 from rfl) B_12837 (show bn 1 1 (1 : Int32) from bn_k (by decide)) (by decide))
            have z_13152 : x_13148.toInt = (y38_5.toInt + 1) := (la_add ex_13148 (rfl : y38_5.toInt = y38_5.toInt) (show (1 : Int32).toInt = 1 from rfl) B_12838 (show bn 1 1 (1 : Int32) from bn_k (by decide)) (by decide))
            have z_13153 : y38_6.toInt = y38_6.toInt := (rfl : y38_6.toInt = y38_6.toInt)
            have z_13154 := B_12838
            have z_13155 := z_13154.1
            have z_13156 := z_13154.2
            have z_13157 := B_12839
            have z_13158 := z_13157.1
            have z_13159 := z_13157.2
            have z_13160 := B_12837
            have z_13161 := z_13160.1
            have z_13162 := z_13160.2
            have p_13150 : HT g0 (729 * i1.toNatClampNeg + 121) fr x_13149 x_13148 y38_6 := HT_nx hHT h_12849 (by omega) (by omega) (h_13115.2.2.trans (Prod.ext (by first | rfl | (dsimp only; omega) | omega) (by first | rfl | (dsimp only; omega) | omega))) (by omega) (by omega) (by omega) (by omega)
            exact ih38 _ (by rw [← hm38]; exact ms_up (m := 1) ex_13149 (show bn 1 1 (1 : Int32) from bn_k (by decide)) B_12837 (bn_w (bn_eq ex_13149 (bn_add B_12837 (show bn 1 1 (1 : Int32) from bn_k (by decide)) (by decide))) (by decide) : bn 0 303 x_13149) (by decide)) y38_3 y38_4 x_13148 y38_6 x_13149 _ _  _ _ _ I (bn_w b_y38_3 (by decide)) (bn_w b_y38_4 (by decide)) (HA_5 ⟨p_13150, (by have z9 := hX3; omega), (by have z9 := hX4; omega)⟩) (HA_6 ⟨p_13150, (by have z9 := hX3; omega), (by have z9 := hX4; omega)⟩) (HA_7 ⟨p_13150, (by have z9 := hX3; omega), (by have z9 := hX4; omega)⟩) ⟨p_13150, (by have z9 := hX3; omega), (by have z9 := hX4; omega)⟩ rfl Y (lv_sub hl [4, 5, 6, 7, 8, 1, 9, 0] rfl)
  refine lv_sipush (v := 729) hx hb dX12_summedUp_0 (by decide) ?_
  refine lv_iload_n hx hb dX12_summedUp_3 rfl (lv_at hl 1 rfl) ?_
  refine lv_imul hx hb dX12_summedUp_4 ?_
  refine lv_topi (fun x_13163 ex_13163 => ?_)
  refine lv_iconst (v := 1) hx hb dX12_summedUp_5 (by decide) ?_
  refine lv_iadd hx hb dX12_summedUp_6 ?_
  refine lv_topi (fun x_13164 ex_13164 => ?_)
  refine lv_iconst (v := 5) hx hb dX12_summedUp_7 (by decide) ?_
  refine lv_iload_n hx hb dX12_summedUp_8 rfl (lv_at hl 2 rfl) ?_
  refine lv_imul hx hb dX12_summedUp_9 ?_
  refine lv_topi (fun x_13165 ex_13165 => ?_)
  refine lv_iadd hx hb dX12_summedUp_10 ?_
  refine lv_topi (fun x_13166 ex_13166 => ?_)
  have B_13167 : bn 1 2303 x_13166 := bn_w (bn_eq ex_13166 (bn_add (bn_eq ex_13164 (bn_add (bn_eq ex_13163 (bn_mul (show bn 729 729 (729 : Int32) from bn_k (by decide)) b_i1 (by decide))) (show bn 1 1 (1 : Int32) from bn_k (by decide)) (by decide))) (bn_eq ex_13165 (bn_mul (show bn 5 5 (5 : Int32) from bn_k (by decide)) b_i2 (by decide))) (by decide))) (by decide)
  refine lv_istore_n (lv' := [(3, .int x_13166), (0, .ref (ad 0 0)), (1, .int i1), (2, .int i2)]) hx hb dX12_summedUp_11 rfl hl (by decide) rfl (fun ls hl => ?_)
  refine lv_sipush (v := 729) hx hb dX12_summedUp_12 (by decide) ?_
  refine lv_iload_n hx hb dX12_summedUp_15 rfl (lv_at hl 2 rfl) ?_
  refine lv_imul hx hb dX12_summedUp_16 ?_
  refine lv_topi (fun x_13168 ex_13168 => ?_)
  refine lv_bipush (v := 121) hx hb dX12_summedUp_17 (by decide) ?_
  refine lv_iadd hx hb dX12_summedUp_19 ?_
  refine lv_topi (fun x_13169 ex_13169 => ?_)
  refine lv_istore (lv' := [(4, .int x_13169), (3, .int x_13166), (0, .ref (ad 0 0)), (1, .int i1), (2, .int i2)]) hx hb dX12_summedUp_20 hl (by decide) rfl (fun ls hl => ?_)
  refine lv_iconst (v := 0) hx hb dX12_summedUp_22 (by decide) ?_
  refine lv_istore (lv' := [(5, .int 0), (4, .int x_13169), (3, .int x_13166), (0, .ref (ad 0 0)), (1, .int i1), (2, .int i2)]) hx hb dX12_summedUp_23 hl (by decide) rfl (fun ls hl => ?_)
  refine lv_iconst (v := 0) hx hb dX12_summedUp_25 (by decide) ?_
  refine lv_istore (lv' := [(6, .int 0), (5, .int 0), (4, .int x_13169), (3, .int x_13166), (0, .ref (ad 0 0)), (1, .int i1), (2, .int i2)]) hx hb dX12_summedUp_26 hl (by decide) rfl (fun ls hl => ?_)
  refine lv_aload_n hx hb dX12_summedUp_28 rfl (lv_at hl 4 rfl) ?_
  obtain ⟨v_13170, v_13172, v_13174, v_13176, v_13178, v_13180, v_13182, v_13184, v_13185, v_13187, v_13189, v_13191, v_13193, v_13195, v_13197, v_13199, v_13201, v_13203, p_ad_0_0, b_13171, b_13173, b_13175, b_13177, b_13179, b_13181, b_13183, b_13186, b_13188, b_13190, b_13192, b_13194, b_13196, b_13198, b_13200, b_13202, b_13204⟩ := opnM_0 (j := 0) I (by decide)
  have p_ad_0_0 : pt L f (ad 0 0) (.inr (12, [.ref (ad 1 0), .ref (ad 2 0), .ref (ad 3 0), .ref (ad 4 0), .int v_13170, .int v_13172, .int v_13174, .int v_13176, .int v_13178, .int v_13180, .int v_13182, .long v_13184, .int v_13185, .int v_13187, .int v_13189, .ref (ad 5 0), .ref (ad 6 0), .int v_13191, .int v_13193, .int v_13195, .int v_13197, .int v_13199, .ref (ad 7 0), .ref (ad 8 0), .ref (ad 9 0), .int v_13201, .ref (ad 10 0), .ref (ad 11 0), .ref (ad 12 0), .ref (ad 13 0), .int v_13203, .ref (ad 14 0)])) := p_ad_0_0
  refine pg_get S Y ok_X12 2 (by decide) kf12_16 (v := .ref (ad 3 0)) p_ad_0_0 rfl dX12_summedUp_29 ?_
  refine lv_iload_n hx hb dX12_summedUp_32 rfl (lv_at hl 3 rfl) ?_
  refine lv_iconst (v := 1) hx hb dX12_summedUp_33 (by decide) ?_
  refine lv_iadd hx hb dX12_summedUp_34 ?_
  refine lv_topi (fun x_13205 ex_13205 => ?_)
  obtain ⟨g_13206, p_ad_3_0, o_13207⟩ := I.opi (k := 3) (j := 0) (by decide) rfl
  have p_ad_3_0 : pt L f (ad 3 0) (.inl (G.2 0, 2916, .inl g_13206)) := p_ad_3_0
  obtain ⟨v_13208, ev_13208⟩ : ∃ z, z = g_13206 (x_13205 : Int32).toNatClampNeg := ⟨_, rfl⟩
  refine pg_iald S Y (v := v_13208) p_ad_3_0 (vp_bn (bn_eq ex_13205 (bn_add B_13167 (show bn 1 1 (1 : Int32) from bn_k (by decide)) (by decide))) (by decide)) ev_13208.symm dX12_summedUp_35 ?_
  have tv_13208 : v_13208 = g0 (x_13205 : Int32).toNatClampNeg := by rw [ev_13208, show g_13206 = g0 from o_13207]
  refine lv_fold (z := fr) (by rw [tv_13208, show (x_13205 : Int32).toNatClampNeg = 729 * i1.toNatClampNeg + 1 + 5 * i2.toNatClampNeg + 1 from (by have z9 := (la_add ex_13205 (la_add ex_13166 (la_add ex_13164 (la_mul ex_13163 (show (729 : Int32).toInt = 729 from rfl) (rfl : i1.toInt = i1.toInt) (show bn 729 729 (729 : Int32) from bn_k (by decide)) b_i1 (by decide)) (show (1 : Int32).toInt = 1 from rfl) (bn_eq ex_13163 (bn_mul (show bn 729 729 (729 : Int32) from bn_k (by decide)) b_i1 (by decide))) (show bn 1 1 (1 : Int32) from bn_k (by decide)) (by decide)) (la_mul ex_13165 (show (5 : Int32).toInt = 5 from rfl) (rfl : i2.toInt = i2.toInt) (show bn 5 5 (5 : Int32) from bn_k (by decide)) b_i2 (by decide)) (bn_eq ex_13164 (bn_add (bn_eq ex_13163 (bn_mul (show bn 729 729 (729 : Int32) from bn_k (by decide)) b_i1 (by decide))) (show bn 1 1 (1 : Int32) from bn_k (by decide)) (by decide))) (bn_eq ex_13165 (bn_mul (show bn 5 5 (5 : Int32) from bn_k (by decide)) b_i2 (by decide))) (by decide)) (show (1 : Int32).toInt = 1 from rfl) B_13167 (show bn 1 1 (1 : Int32) from bn_k (by decide)) (by decide)); have z0 := b_i1.1; have z1 := b_i2.1; simp only [tnc]; omega)]; exact hfr) ?_
  refine lv_istore (lv' := [(7, .int fr), (6, .int 0), (5, .int 0), (4, .int x_13169), (3, .int x_13166), (0, .ref (ad 0 0)), (1, .int i1), (2, .int i2)]) hx hb dX12_summedUp_36 hl (by decide) rfl (fun ls hl => ?_)
  exact J_38 _ x_13166 x_13169 0 0 fr _ _  _ _ _ I (bn_w B_13167 (by decide)) (bn_w (bn_eq ex_13169 (bn_add (bn_eq ex_13168 (bn_mul (show bn 729 729 (729 : Int32) from bn_k (by decide)) b_i1 (by decide))) (show bn 121 121 (121 : Int32) from bn_k (by decide)) (by decide))) (by decide)) (HA_6 ⟨HT_0 hWF, (by have z9 := (la_add ex_13166 (la_add ex_13164 (la_mul ex_13163 (show (729 : Int32).toInt = 729 from rfl) (rfl : i1.toInt = i1.toInt) (show bn 729 729 (729 : Int32) from bn_k (by decide)) b_i1 (by decide)) (show (1 : Int32).toInt = 1 from rfl) (bn_eq ex_13163 (bn_mul (show bn 729 729 (729 : Int32) from bn_k (by decide)) b_i1 (by decide))) (show bn 1 1 (1 : Int32) from bn_k (by decide)) (by decide)) (la_mul ex_13165 (show (5 : Int32).toInt = 5 from rfl) (rfl : i2.toInt = i2.toInt) (show bn 5 5 (5 : Int32) from bn_k (by decide)) b_i2 (by decide)) (bn_eq ex_13164 (bn_add (bn_eq ex_13163 (bn_mul (show bn 729 729 (729 : Int32) from bn_k (by decide)) b_i1 (by decide))) (show bn 1 1 (1 : Int32) from bn_k (by decide)) (by decide))) (bn_eq ex_13165 (bn_mul (show bn 5 5 (5 : Int32) from bn_k (by decide)) b_i2 (by decide))) (by decide)); omega), (by have z9 := (la_add ex_13169 (la_mul ex_13168 (show (729 : Int32).toInt = 729 from rfl) (rfl : i1.toInt = i1.toInt) (show bn 729 729 (729 : Int32) from bn_k (by decide)) b_i1 (by decide)) (show (121 : Int32).toInt = 121 from rfl) (bn_eq ex_13168 (bn_mul (show bn 729 729 (729 : Int32) from bn_k (by decide)) b_i1 (by decide))) (show bn 121 121 (121 : Int32) from bn_k (by decide)) (by decide)); omega)⟩) (HA_6 ⟨HT_0 hWF, (by have z9 := (la_add ex_13166 (la_add ex_13164 (la_mul ex_13163 (show (729 : Int32).toInt = 729 from rfl) (rfl : i1.toInt = i1.toInt) (show bn 729 729 (729 : Int32) from bn_k (by decide)) b_i1 (by decide)) (show (1 : Int32).toInt = 1 from rfl) (bn_eq ex_13163 (bn_mul (show bn 729 729 (729 : Int32) from bn_k (by decide)) b_i1 (by decide))) (show bn 1 1 (1 : Int32) from bn_k (by decide)) (by decide)) (la_mul ex_13165 (show (5 : Int32).toInt = 5 from rfl) (rfl : i2.toInt = i2.toInt) (show bn 5 5 (5 : Int32) from bn_k (by decide)) b_i2 (by decide)) (bn_eq ex_13164 (bn_add (bn_eq ex_13163 (bn_mul (show bn 729 729 (729 : Int32) from bn_k (by decide)) b_i1 (by decide))) (show bn 1 1 (1 : Int32) from bn_k (by decide)) (by decide))) (bn_eq ex_13165 (bn_mul (show bn 5 5 (5 : Int32) from bn_k (by decide)) b_i2 (by decide))) (by decide)); omega), (by have z9 := (la_add ex_13169 (la_mul ex_13168 (show (729 : Int32).toInt = 729 from rfl) (rfl : i1.toInt = i1.toInt) (show bn 729 729 (729 : Int32) from bn_k (by decide)) b_i1 (by decide)) (show (121 : Int32).toInt = 121 from rfl) (bn_eq ex_13168 (bn_mul (show bn 729 729 (729 : Int32) from bn_k (by decide)) b_i1 (by decide))) (show bn 121 121 (121 : Int32) from bn_k (by decide)) (by decide)); omega)⟩) (HA_7 ⟨HT_0 hWF, (by have z9 := (la_add ex_13166 (la_add ex_13164 (la_mul ex_13163 (show (729 : Int32).toInt = 729 from rfl) (rfl : i1.toInt = i1.toInt) (show bn 729 729 (729 : Int32) from bn_k (by decide)) b_i1 (by decide)) (show (1 : Int32).toInt = 1 from rfl) (bn_eq ex_13163 (bn_mul (show bn 729 729 (729 : Int32) from bn_k (by decide)) b_i1 (by decide))) (show bn 1 1 (1 : Int32) from bn_k (by decide)) (by decide)) (la_mul ex_13165 (show (5 : Int32).toInt = 5 from rfl) (rfl : i2.toInt = i2.toInt) (show bn 5 5 (5 : Int32) from bn_k (by decide)) b_i2 (by decide)) (bn_eq ex_13164 (bn_add (bn_eq ex_13163 (bn_mul (show bn 729 729 (729 : Int32) from bn_k (by decide)) b_i1 (by decide))) (show bn 1 1 (1 : Int32) from bn_k (by decide)) (by decide))) (bn_eq ex_13165 (bn_mul (show bn 5 5 (5 : Int32) from bn_k (by decide)) b_i2 (by decide))) (by decide)); omega), (by have z9 := (la_add ex_13169 (la_mul ex_13168 (show (729 : Int32).toInt = 729 from rfl) (rfl : i1.toInt = i1.toInt) (show bn 729 729 (729 : Int32) from bn_k (by decide)) b_i1 (by decide)) (show (121 : Int32).toInt = 121 from rfl) (bn_eq ex_13168 (bn_mul (show bn 729 729 (729 : Int32) from bn_k (by decide)) b_i1 (by decide))) (show bn 121 121 (121 : Int32) from bn_k (by decide)) (by decide)); omega)⟩) ⟨HT_0 hWF, (by have z9 := (la_add ex_13166 (la_add ex_13164 (la_mul ex_13163 (show (729 : Int32).toInt = 729 from rfl) (rfl : i1.toInt = i1.toInt) (show bn 729 729 (729 : Int32) from bn_k (by decide)) b_i1 (by decide)) (show (1 : Int32).toInt = 1 from rfl) (bn_eq ex_13163 (bn_mul (show bn 729 729 (729 : Int32) from bn_k (by decide)) b_i1 (by decide))) (show bn 1 1 (1 : Int32) from bn_k (by decide)) (by decide)) (la_mul ex_13165 (show (5 : Int32).toInt = 5 from rfl) (rfl : i2.toInt = i2.toInt) (show bn 5 5 (5 : Int32) from bn_k (by decide)) b_i2 (by decide)) (bn_eq ex_13164 (bn_add (bn_eq ex_13163 (bn_mul (show bn 729 729 (729 : Int32) from bn_k (by decide)) b_i1 (by decide))) (show bn 1 1 (1 : Int32) from bn_k (by decide)) (by decide))) (bn_eq ex_13165 (bn_mul (show bn 5 5 (5 : Int32) from bn_k (by decide)) b_i2 (by decide))) (by decide)); omega), (by have z9 := (la_add ex_13169 (la_mul ex_13168 (show (729 : Int32).toInt = 729 from rfl) (rfl : i1.toInt = i1.toInt) (show bn 729 729 (729 : Int32) from bn_k (by decide)) b_i1 (by decide)) (show (121 : Int32).toInt = 121 from rfl) (bn_eq ex_13168 (bn_mul (show bn 729 729 (729 : Int32) from bn_k (by decide)) b_i1 (by decide))) (show bn 121 121 (121 : Int32) from bn_k (by decide)) (by decide)); omega)⟩ rfl Y (lv_sub hl [5, 6, 7, 4, 3, 2, 1, 0] rfl)
