theorem dJ0_coder_7d493_0 : decode cJ0_coder_7d493 0 = .ok (.getstatic 38, 3) := by decide +kernel
theorem kf100_38 : inW (Cond.fieldLink RJ0 38 "java/lang/String" "COMPACT_STRINGS" "Z") := ⟨List.mem_of_getElem? (i := 612) (by decide +kernel), by decide +kernel⟩
theorem dJ0_coder_7d493_3 : decode cJ0_coder_7d493 3 = .ok (.ifCond .eq 10, 3) := by decide +kernel
theorem dJ0_coder_7d493_6 : decode cJ0_coder_7d493 6 = .ok (.aload_n 0, 1) := by decide +kernel
theorem dJ0_coder_7d493_7 : decode cJ0_coder_7d493 7 = .ok (.getfield 15, 3) := by decide +kernel
theorem kf100_15 : inW (Cond.fieldLink RJ0 15 "java/lang/String" "coder" "B") := ⟨List.mem_of_getElem? (i := 2156) (by decide +kernel), by decide +kernel⟩
theorem dJ0_coder_7d493_10 : decode cJ0_coder_7d493 10 = .ok (.goto 4, 3) := by decide +kernel
theorem dJ0_coder_7d493_14 : decode cJ0_coder_7d493 14 = .ok (.ireturn, 1) := by decide +kernel
theorem dJ0_isLatin1_aae02_0 : decode cJ0_isLatin1_aae02 0 = .ok (.getstatic 38, 3) := by decide +kernel
theorem dJ0_isLatin1_aae02_3 : decode cJ0_isLatin1_aae02 3 = .ok (.ifCond .eq 14, 3) := by decide +kernel
theorem dJ0_isLatin1_aae02_6 : decode cJ0_isLatin1_aae02 6 = .ok (.aload_n 0, 1) := by decide +kernel
theorem dJ0_isLatin1_aae02_7 : decode cJ0_isLatin1_aae02 7 = .ok (.getfield 15, 3) := by decide +kernel
theorem dJ0_isLatin1_aae02_10 : decode cJ0_isLatin1_aae02 10 = .ok (.ifCond .ne 7, 3) := by decide +kernel
theorem dJ0_isLatin1_aae02_13 : decode cJ0_isLatin1_aae02 13 = .ok (.iconst 1, 1) := by decide +kernel
theorem dJ0_isLatin1_aae02_14 : decode cJ0_isLatin1_aae02 14 = .ok (.goto 4, 3) := by decide +kernel
theorem dJ0_isLatin1_aae02_18 : decode cJ0_isLatin1_aae02 18 = .ok (.ireturn, 1) := by decide +kernel
theorem dJ0_length_8abf5_0 : decode cJ0_length_8abf5 0 = .ok (.aload_n 0, 1) := by decide +kernel
theorem dJ0_length_8abf5_1 : decode cJ0_length_8abf5 1 = .ok (.getfield 9, 3) := by decide +kernel
theorem kf100_9 : inW (Cond.fieldLink RJ0 9 "java/lang/String" "value" "[B") := ⟨List.mem_of_getElem? (i := 2155) (by decide +kernel), by decide +kernel⟩
theorem dJ0_length_8abf5_4 : decode cJ0_length_8abf5 4 = .ok (.arraylength, 1) := by decide +kernel
theorem dJ0_length_8abf5_5 : decode cJ0_length_8abf5 5 = .ok (.aload_n 0, 1) := by decide +kernel
theorem dJ0_length_8abf5_6 : decode cJ0_length_8abf5 6 = .ok (.invokevirtual 335, 3) := by decide +kernel
theorem cw_X100_coder_7d493 : CWv yJ0_coder_7d493 cJ0_coder_7d493 1 (some .byte) 0 := ⟨⟨⟨List.mem_of_getElem? (i := 138) (by decide +kernel), by decide +kernel⟩, ⟨List.mem_of_getElem? (i := 611) (by decide +kernel), by decide +kernel⟩, by decide +kernel⟩, ⟨List.mem_of_getElem? (i := 609) (by decide +kernel), by decide +kernel⟩, ⟨List.mem_of_getElem? (i := 610) (by decide +kernel), by decide +kernel⟩⟩
theorem km100_335 : inW (Cond.methodLink RJ0 335 yJ0_coder_7d493) := ⟨List.mem_of_getElem? (i := 608) (by decide +kernel), by decide +kernel⟩
theorem dJ0_length_8abf5_9 : decode cJ0_length_8abf5 9 = .ok (.ishr, 1) := by decide +kernel
theorem dJ0_length_8abf5_10 : decode cJ0_length_8abf5 10 = .ok (.ireturn, 1) := by decide +kernel
theorem dJ3_checkIndex_8e157_0 : decode cJ3_checkIndex_8e157 0 = .ok (.iload_n 0, 1) := by decide +kernel
theorem dJ3_checkIndex_8e157_1 : decode cJ3_checkIndex_8e157 1 = .ok (.ifCond .lt 8, 3) := by decide +kernel
theorem dJ3_checkIndex_8e157_4 : decode cJ3_checkIndex_8e157 4 = .ok (.iload_n 0, 1) := by decide +kernel
theorem dJ3_checkIndex_8e157_5 : decode cJ3_checkIndex_8e157 5 = .ok (.iload_n 1, 1) := by decide +kernel
theorem dJ3_checkIndex_8e157_6 : decode cJ3_checkIndex_8e157 6 = .ok (.if_icmp .lt 10, 3) := by decide +kernel
theorem dJ3_checkIndex_8e157_16 : decode cJ3_checkIndex_8e157 16 = .ok (.iload_n 0, 1) := by decide +kernel
theorem dJ3_checkIndex_8e157_17 : decode cJ3_checkIndex_8e157 17 = .ok (.ireturn, 1) := by decide +kernel
theorem dJ0_checkIndex_df160_0 : decode cJ0_checkIndex_df160 0 = .ok (.iload_n 0, 1) := by decide +kernel
theorem dJ0_checkIndex_df160_1 : decode cJ0_checkIndex_df160 1 = .ok (.iload_n 1, 1) := by decide +kernel
theorem dJ0_checkIndex_df160_2 : decode cJ0_checkIndex_df160 2 = .ok (.getstatic 1053, 3) := by decide +kernel
theorem kf100_1053 : inW (Cond.fieldLink RJ0 1053 "jdk/internal/util/Preconditions" "SIOOBE_FORMATTER" "Ljava/util/function/BiFunction;") := ⟨List.mem_of_getElem? (i := 628) (by decide +kernel), by decide +kernel⟩
theorem dJ0_checkIndex_df160_5 : decode cJ0_checkIndex_df160 5 = .ok (.invokestatic 1059, 3) := by decide +kernel
theorem cw_X103_checkIndex_8e157 : CWs yJ3_checkIndex_8e157 cJ3_checkIndex_8e157 3 (some .int) 3 := ⟨⟨⟨List.mem_of_getElem? (i := 140) (by decide +kernel), by decide +kernel⟩, ⟨List.mem_of_getElem? (i := 632) (by decide +kernel), by decide +kernel⟩, by decide +kernel⟩, ⟨List.mem_of_getElem? (i := 631) (by decide +kernel), by decide +kernel⟩⟩
theorem km100_1059 : inW (Cond.methodLink RJ0 1059 yJ3_checkIndex_8e157) := ⟨List.mem_of_getElem? (i := 630) (by decide +kernel), by decide +kernel⟩
theorem dJ0_checkIndex_df160_8 : decode cJ0_checkIndex_df160 8 = .ok (.pop, 1) := by decide +kernel
theorem dJ0_checkIndex_df160_9 : decode cJ0_checkIndex_df160 9 = .ok (.return_, 1) := by decide +kernel
theorem dJ1_charAt_3b067_0 : decode cJ1_charAt_3b067 0 = .ok (.iload_n 1, 1) := by decide +kernel
theorem dJ1_charAt_3b067_1 : decode cJ1_charAt_3b067 1 = .ok (.aload_n 0, 1) := by decide +kernel
theorem dJ1_charAt_3b067_2 : decode cJ1_charAt_3b067 2 = .ok (.arraylength, 1) := by decide +kernel
theorem dJ1_charAt_3b067_3 : decode cJ1_charAt_3b067 3 = .ok (.invokestatic 9, 3) := by decide +kernel
theorem cw_X100_checkIndex_df160 : CWs yJ0_checkIndex_df160 cJ0_checkIndex_df160 2 none 2 := ⟨⟨⟨List.mem_of_getElem? (i := 138) (by decide +kernel), by decide +kernel⟩, ⟨List.mem_of_getElem? (i := 627) (by decide +kernel), by decide +kernel⟩, by decide +kernel⟩, ⟨List.mem_of_getElem? (i := 626) (by decide +kernel), by decide +kernel⟩⟩
theorem km101_9 : inW (Cond.methodLink RJ1 9 yJ0_checkIndex_df160) := ⟨List.mem_of_getElem? (i := 625) (by decide +kernel), by decide +kernel⟩
theorem dJ1_charAt_3b067_6 : decode cJ1_charAt_3b067 6 = .ok (.aload_n 0, 1) := by decide +kernel
theorem dJ1_charAt_3b067_7 : decode cJ1_charAt_3b067 7 = .ok (.iload_n 1, 1) := by decide +kernel
theorem dJ1_charAt_3b067_8 : decode cJ1_charAt_3b067 8 = .ok (.baload, 1) := by decide +kernel
theorem dJ1_charAt_3b067_9 : decode cJ1_charAt_3b067 9 = .ok (.sipush 255, 3) := by decide +kernel
theorem dJ1_charAt_3b067_12 : decode cJ1_charAt_3b067 12 = .ok (.iand, 1) := by decide +kernel
theorem dJ1_charAt_3b067_13 : decode cJ1_charAt_3b067 13 = .ok (.i2c, 1) := by decide +kernel
theorem dJ1_charAt_3b067_14 : decode cJ1_charAt_3b067 14 = .ok (.ireturn, 1) := by decide +kernel
theorem dJ0_charAt_5068e_0 : decode cJ0_charAt_5068e 0 = .ok (.aload_n 0, 1) := by decide +kernel
theorem dJ0_charAt_5068e_1 : decode cJ0_charAt_5068e 1 = .ok (.invokevirtual 492, 3) := by decide +kernel
theorem cw_X100_isLatin1_aae02 : CWv yJ0_isLatin1_aae02 cJ0_isLatin1_aae02 1 (some .boolean) 0 := ⟨⟨⟨List.mem_of_getElem? (i := 138) (by decide +kernel), by decide +kernel⟩, ⟨List.mem_of_getElem? (i := 621) (by decide +kernel), by decide +kernel⟩, by decide +kernel⟩, ⟨List.mem_of_getElem? (i := 619) (by decide +kernel), by decide +kernel⟩, ⟨List.mem_of_getElem? (i := 620) (by decide +kernel), by decide +kernel⟩⟩
theorem km100_492 : inW (Cond.methodLink RJ0 492 yJ0_isLatin1_aae02) := ⟨List.mem_of_getElem? (i := 618) (by decide +kernel), by decide +kernel⟩
theorem dJ0_charAt_5068e_4 : decode cJ0_charAt_5068e 4 = .ok (.ifCond .eq 12, 3) := by decide +kernel
theorem dJ0_charAt_5068e_7 : decode cJ0_charAt_5068e 7 = .ok (.aload_n 0, 1) := by decide +kernel
theorem dJ0_charAt_5068e_8 : decode cJ0_charAt_5068e 8 = .ok (.getfield 9, 3) := by decide +kernel
theorem dJ0_charAt_5068e_11 : decode cJ0_charAt_5068e 11 = .ok (.iload_n 1, 1) := by decide +kernel
theorem dJ0_charAt_5068e_12 : decode cJ0_charAt_5068e 12 = .ok (.invokestatic 495, 3) := by decide +kernel
theorem cw_X101_charAt_3b067 : CWs yJ1_charAt_3b067 cJ1_charAt_3b067 2 (some .char) 2 := ⟨⟨⟨List.mem_of_getElem? (i := 139) (by decide +kernel), by decide +kernel⟩, ⟨List.mem_of_getElem? (i := 624) (by decide +kernel), by decide +kernel⟩, by decide +kernel⟩, ⟨List.mem_of_getElem? (i := 623) (by decide +kernel), by decide +kernel⟩⟩
theorem km100_495 : inW (Cond.methodLink RJ0 495 yJ1_charAt_3b067) := ⟨List.mem_of_getElem? (i := 622) (by decide +kernel), by decide +kernel⟩
theorem dJ0_charAt_5068e_15 : decode cJ0_charAt_5068e 15 = .ok (.ireturn, 1) := by decide +kernel
theorem dJ1_canEncode_9a6ad_0 : decode cJ1_canEncode_9a6ad 0 = .ok (.iload_n 0, 1) := by decide +kernel
theorem dJ1_canEncode_9a6ad_1 : decode cJ1_canEncode_9a6ad 1 = .ok (.ifCond .lt 14, 3) := by decide +kernel
theorem dJ1_canEncode_9a6ad_4 : decode cJ1_canEncode_9a6ad 4 = .ok (.iload_n 0, 1) := by decide +kernel
theorem dJ1_canEncode_9a6ad_5 : decode cJ1_canEncode_9a6ad 5 = .ok (.sipush 255, 3) := by decide +kernel
theorem dJ1_canEncode_9a6ad_8 : decode cJ1_canEncode_9a6ad 8 = .ok (.if_icmp .gt 7, 3) := by decide +kernel
theorem dJ1_canEncode_9a6ad_11 : decode cJ1_canEncode_9a6ad 11 = .ok (.iconst 1, 1) := by decide +kernel
theorem dJ1_canEncode_9a6ad_12 : decode cJ1_canEncode_9a6ad 12 = .ok (.goto 4, 3) := by decide +kernel
theorem dJ1_canEncode_9a6ad_16 : decode cJ1_canEncode_9a6ad 16 = .ok (.ireturn, 1) := by decide +kernel
theorem dJ1_indexOfChar_4cfef_0 : decode cJ1_indexOfChar_4cfef 0 = .ok (.iload_n 1, 1) := by decide +kernel
theorem dJ1_indexOfChar_4cfef_1 : decode cJ1_indexOfChar_4cfef 1 = .ok (.i2b, 1) := by decide +kernel
theorem dJ1_indexOfChar_4cfef_2 : decode cJ1_indexOfChar_4cfef 2 = .ok (.istore 4, 2) := by decide +kernel
theorem dJ1_indexOfChar_4cfef_4 : decode cJ1_indexOfChar_4cfef 4 = .ok (.iload_n 2, 1) := by decide +kernel
theorem dJ1_indexOfChar_4cfef_5 : decode cJ1_indexOfChar_4cfef 5 = .ok (.istore 5, 2) := by decide +kernel
theorem dJ1_indexOfChar_4cfef_7 : decode cJ1_indexOfChar_4cfef 7 = .ok (.iload 5, 2) := by decide +kernel
theorem dJ1_indexOfChar_4cfef_9 : decode cJ1_indexOfChar_4cfef 9 = .ok (.iload_n 3, 1) := by decide +kernel
theorem dJ1_indexOfChar_4cfef_10 : decode cJ1_indexOfChar_4cfef 10 = .ok (.if_icmp .ge 21, 3) := by decide +kernel
theorem dJ1_indexOfChar_4cfef_13 : decode cJ1_indexOfChar_4cfef 13 = .ok (.aload_n 0, 1) := by decide +kernel
theorem dJ1_indexOfChar_4cfef_14 : decode cJ1_indexOfChar_4cfef 14 = .ok (.iload 5, 2) := by decide +kernel
theorem dJ1_indexOfChar_4cfef_16 : decode cJ1_indexOfChar_4cfef 16 = .ok (.baload, 1) := by decide +kernel
theorem dJ1_indexOfChar_4cfef_17 : decode cJ1_indexOfChar_4cfef 17 = .ok (.iload 4, 2) := by decide +kernel
theorem dJ1_indexOfChar_4cfef_19 : decode cJ1_indexOfChar_4cfef 19 = .ok (.if_icmp .ne 6, 3) := by decide +kernel
theorem dJ1_indexOfChar_4cfef_25 : decode cJ1_indexOfChar_4cfef 25 = .ok (.iinc 5 1, 3) := by decide +kernel
theorem dJ1_indexOfChar_4cfef_28 : decode cJ1_indexOfChar_4cfef 28 = .ok (.goto (-21), 3) := by decide +kernel
theorem dJ1_indexOfChar_4cfef_22 : decode cJ1_indexOfChar_4cfef 22 = .ok (.iload 5, 2) := by decide +kernel
theorem dJ1_indexOfChar_4cfef_24 : decode cJ1_indexOfChar_4cfef 24 = .ok (.ireturn, 1) := by decide +kernel
theorem dJ1_indexOfChar_4cfef_31 : decode cJ1_indexOfChar_4cfef 31 = .ok (.iconst (-1), 1) := by decide +kernel
theorem dJ1_indexOfChar_4cfef_32 : decode cJ1_indexOfChar_4cfef 32 = .ok (.ireturn, 1) := by decide +kernel
theorem dJ1_indexOf_4cfef_0 : decode cJ1_indexOf_4cfef 0 = .ok (.iload_n 1, 1) := by decide +kernel
theorem dJ1_indexOf_4cfef_1 : decode cJ1_indexOf_4cfef 1 = .ok (.invokestatic 88, 3) := by decide +kernel
theorem cw_X101_canEncode_9a6ad : CWs yJ1_canEncode_9a6ad cJ1_canEncode_9a6ad 1 (some .boolean) 1 := ⟨⟨⟨List.mem_of_getElem? (i := 139) (by decide +kernel), by decide +kernel⟩, ⟨List.mem_of_getElem? (i := 687) (by decide +kernel), by decide +kernel⟩, by decide +kernel⟩, ⟨List.mem_of_getElem? (i := 686) (by decide +kernel), by decide +kernel⟩⟩
theorem km101_88 : inW (Cond.methodLink RJ1 88 yJ1_canEncode_9a6ad) := ⟨List.mem_of_getElem? (i := 685) (by decide +kernel), by decide +kernel⟩
theorem dJ1_indexOf_4cfef_4 : decode cJ1_indexOf_4cfef 4 = .ok (.ifCond .ne 5, 3) := by decide +kernel
theorem dJ1_indexOf_4cfef_9 : decode cJ1_indexOf_4cfef 9 = .ok (.iload_n 2, 1) := by decide +kernel
theorem dJ1_indexOf_4cfef_10 : decode cJ1_indexOf_4cfef 10 = .ok (.iconst 0, 1) := by decide +kernel
theorem dJ1_indexOf_4cfef_11 : decode cJ1_indexOf_4cfef 11 = .ok (.invokestatic 92, 3) := by decide +kernel
theorem km101_92 : inW (Cond.methodLink RJ1 92 Lib.Math.max.name) := ⟨List.mem_of_getElem? (i := 688) (by decide +kernel), by decide +kernel⟩
theorem dJ1_indexOf_4cfef_14 : decode cJ1_indexOf_4cfef 14 = .ok (.istore_n 2, 1) := by decide +kernel
theorem dJ1_indexOf_4cfef_15 : decode cJ1_indexOf_4cfef 15 = .ok (.iload_n 3, 1) := by decide +kernel
theorem dJ1_indexOf_4cfef_16 : decode cJ1_indexOf_4cfef 16 = .ok (.aload_n 0, 1) := by decide +kernel
theorem dJ1_indexOf_4cfef_17 : decode cJ1_indexOf_4cfef 17 = .ok (.arraylength, 1) := by decide +kernel
theorem dJ1_indexOf_4cfef_18 : decode cJ1_indexOf_4cfef 18 = .ok (.invokestatic 38, 3) := by decide +kernel
theorem km101_38 : inW (Cond.methodLink RJ1 38 Lib.Math.min.name) := ⟨List.mem_of_getElem? (i := 691) (by decide +kernel), by decide +kernel⟩
theorem dJ1_indexOf_4cfef_21 : decode cJ1_indexOf_4cfef 21 = .ok (.istore_n 3, 1) := by decide +kernel
theorem dJ1_indexOf_4cfef_22 : decode cJ1_indexOf_4cfef 22 = .ok (.iload_n 2, 1) := by decide +kernel
theorem dJ1_indexOf_4cfef_23 : decode cJ1_indexOf_4cfef 23 = .ok (.iload_n 3, 1) := by decide +kernel
theorem dJ1_indexOf_4cfef_24 : decode cJ1_indexOf_4cfef 24 = .ok (.if_icmp .lt 5, 3) := by decide +kernel
theorem dJ1_indexOf_4cfef_29 : decode cJ1_indexOf_4cfef 29 = .ok (.aload_n 0, 1) := by decide +kernel
theorem dJ1_indexOf_4cfef_30 : decode cJ1_indexOf_4cfef 30 = .ok (.iload_n 1, 1) := by decide +kernel
theorem dJ1_indexOf_4cfef_31 : decode cJ1_indexOf_4cfef 31 = .ok (.iload_n 2, 1) := by decide +kernel
theorem dJ1_indexOf_4cfef_32 : decode cJ1_indexOf_4cfef 32 = .ok (.iload_n 3, 1) := by decide +kernel
theorem dJ1_indexOf_4cfef_33 : decode cJ1_indexOf_4cfef 33 = .ok (.invokestatic 95, 3) := by decide +kernel
theorem cw_X101_indexOfChar_4cfef : CWs yJ1_indexOfChar_4cfef cJ1_indexOfChar_4cfef 6 (some .int) 4 := ⟨⟨⟨List.mem_of_getElem? (i := 139) (by decide +kernel), by decide +kernel⟩, ⟨List.mem_of_getElem? (i := 694) (by decide +kernel), by decide +kernel⟩, by decide +kernel⟩, ⟨List.mem_of_getElem? (i := 693) (by decide +kernel), by decide +kernel⟩⟩
theorem km101_95 : inW (Cond.methodLink RJ1 95 yJ1_indexOfChar_4cfef) := ⟨List.mem_of_getElem? (i := 692) (by decide +kernel), by decide +kernel⟩
theorem dJ1_indexOf_4cfef_36 : decode cJ1_indexOf_4cfef 36 = .ok (.ireturn, 1) := by decide +kernel
theorem dJ0_indexOf_7cf53_0 : decode cJ0_indexOf_7cf53 0 = .ok (.aload_n 0, 1) := by decide +kernel
theorem dJ0_indexOf_7cf53_1 : decode cJ0_indexOf_7cf53 1 = .ok (.invokevirtual 492, 3) := by decide +kernel
theorem dJ0_indexOf_7cf53_4 : decode cJ0_indexOf_7cf53 4 = .ok (.ifCond .eq 19, 3) := by decide +kernel
theorem dJ0_indexOf_7cf53_7 : decode cJ0_indexOf_7cf53 7 = .ok (.aload_n 0, 1) := by decide +kernel
theorem dJ0_indexOf_7cf53_8 : decode cJ0_indexOf_7cf53 8 = .ok (.getfield 9, 3) := by decide +kernel
theorem dJ0_indexOf_7cf53_11 : decode cJ0_indexOf_7cf53 11 = .ok (.iload_n 1, 1) := by decide +kernel
theorem dJ0_indexOf_7cf53_12 : decode cJ0_indexOf_7cf53 12 = .ok (.iload_n 2, 1) := by decide +kernel
theorem dJ0_indexOf_7cf53_13 : decode cJ0_indexOf_7cf53 13 = .ok (.aload_n 0, 1) := by decide +kernel
theorem dJ0_indexOf_7cf53_14 : decode cJ0_indexOf_7cf53 14 = .ok (.invokevirtual 505, 3) := by decide +kernel
theorem cw_X100_length_8abf5 : CWv yJ0_length_8abf5 cJ0_length_8abf5 1 (some .int) 0 := ⟨⟨⟨List.mem_of_getElem? (i := 138) (by decide +kernel), by decide +kernel⟩, ⟨List.mem_of_getElem? (i := 607) (by decide +kernel), by decide +kernel⟩, by decide +kernel⟩, ⟨List.mem_of_getElem? (i := 605) (by decide +kernel), by decide +kernel⟩, ⟨List.mem_of_getElem? (i := 606) (by decide +kernel), by decide +kernel⟩⟩
theorem km100_505 : inW (Cond.methodLink RJ0 505 yJ0_length_8abf5) := ⟨List.mem_of_getElem? (i := 681) (by decide +kernel), by decide +kernel⟩
theorem dJ0_indexOf_7cf53_17 : decode cJ0_indexOf_7cf53 17 = .ok (.invokestatic 637, 3) := by decide +kernel
theorem cw_X101_indexOf_4cfef : CWs yJ1_indexOf_4cfef cJ1_indexOf_4cfef 4 (some .int) 4 := ⟨⟨⟨List.mem_of_getElem? (i := 139) (by decide +kernel), by decide +kernel⟩, ⟨List.mem_of_getElem? (i := 684) (by decide +kernel), by decide +kernel⟩, by decide +kernel⟩, ⟨List.mem_of_getElem? (i := 683) (by decide +kernel), by decide +kernel⟩⟩
theorem km100_637 : inW (Cond.methodLink RJ0 637 yJ1_indexOf_4cfef) := ⟨List.mem_of_getElem? (i := 682) (by decide +kernel), by decide +kernel⟩
theorem dJ0_indexOf_7cf53_20 : decode cJ0_indexOf_7cf53 20 = .ok (.goto 16, 3) := by decide +kernel
theorem dJ0_indexOf_7cf53_36 : decode cJ0_indexOf_7cf53 36 = .ok (.ireturn, 1) := by decide +kernel
theorem dJ0_indexOf_0f7a4_0 : decode cJ0_indexOf_0f7a4 0 = .ok (.aload_n 0, 1) := by decide +kernel
theorem dJ0_indexOf_0f7a4_1 : decode cJ0_indexOf_0f7a4 1 = .ok (.iload_n 1, 1) := by decide +kernel
theorem dJ0_indexOf_0f7a4_2 : decode cJ0_indexOf_0f7a4 2 = .ok (.iconst 0, 1) := by decide +kernel
theorem dJ0_indexOf_0f7a4_3 : decode cJ0_indexOf_0f7a4 3 = .ok (.invokevirtual 633, 3) := by decide +kernel
theorem cw_X100_indexOf_7cf53 : CWv yJ0_indexOf_7cf53 cJ0_indexOf_7cf53 3 (some .int) 2 := ⟨⟨⟨List.mem_of_getElem? (i := 138) (by decide +kernel), by decide +kernel⟩, ⟨List.mem_of_getElem? (i := 680) (by decide +kernel), by decide +kernel⟩, by decide +kernel⟩, ⟨List.mem_of_getElem? (i := 678) (by decide +kernel), by decide +kernel⟩, ⟨List.mem_of_getElem? (i := 679) (by decide +kernel), by decide +kernel⟩⟩
theorem km100_633 : inW (Cond.methodLink RJ0 633 yJ0_indexOf_7cf53) := ⟨List.mem_of_getElem? (i := 677) (by decide +kernel), by decide +kernel⟩
theorem dJ0_indexOf_0f7a4_6 : decode cJ0_indexOf_0f7a4 6 = .ok (.ireturn, 1) := by decide +kernel
set_option maxHeartbeats 4000000 in
set_option maxRecDepth 100000 in
theorem x_J0_coder_0 {l : Launch} {G : GG}  {L : List Nat} {f : HF}  {aK aV : Nat → Nat} {z0 : Option Nat}  : PMiZ aK aV z0 l yJ0_coder_7d493 cJ0_coder_7d493 1 .byte 0 0 0 G [.ref (aK 0)] L f (fun r L1 f1 => ((r = 0)) ∧ L1 = L ∧ f1 = f) := by
  refine PMiZ.of (post := fun r L1 f1 => ((r = 0)) ∧ L1 = L ∧ f1 = f) (own := RJ0) (by decide) rfl (Nat.le_of_ble_eq_true rfl) (fun sz p e s m args below meth c A ls hA1 hname S Y hz hl => ?_)
  have hx := S.hx
  have hb := S.hb
  have hl : lv_has ls 1 [(0, .ref (aK 0))] := hl
  refine va_gets (v := .int 1) hx hb hz.2.1 Y.2.2 S.ow (S.w kf100_38) (fun _ q => q) dJ0_coder_7d493_0 ?_
  refine lv_if_eq (tgt := 13) hx hb dJ0_coder_7d493_3 (by decide) (fun h => absurd h (by decide)) (fun _ => ?_)
  refine lv_aload_n hx hb dJ0_coder_7d493_6 rfl (lv_at hl 0 rfl) ?_
  refine vk_getf (v := .int 0) hx hb (hz.1.1 0 (by decide)).2.1 Y.2.2 S.ow (S.w kf100_15) (fun _ q => q) dJ0_coder_7d493_7 ?_
  refine lv_goto (tgt := 14) hx hb dJ0_coder_7d493_10 (by decide) ?_
  exact prI (post := fun r L1 f1 => ((r = 0)) ∧ L1 = L ∧ f1 = f) S Y rfl (by decide) (by decide) hA1 ⟨rfl, rfl, rfl⟩ dJ0_coder_7d493_14
set_option maxHeartbeats 4000000 in
set_option maxRecDepth 100000 in
theorem x_J0_isLatin1_0 {l : Launch} {G : GG}  {L : List Nat} {f : HF}  {aK aV : Nat → Nat} {z0 : Option Nat}  : PMiZ aK aV z0 l yJ0_isLatin1_aae02 cJ0_isLatin1_aae02 1 .boolean 0 0 0 G [.ref (aK 0)] L f (fun r L1 f1 => ((r = 1)) ∧ L1 = L ∧ f1 = f) := by
  refine PMiZ.of (post := fun r L1 f1 => ((r = 1)) ∧ L1 = L ∧ f1 = f) (own := RJ0) (by decide) rfl (Nat.le_of_ble_eq_true rfl) (fun sz p e s m args below meth c A ls hA1 hname S Y hz hl => ?_)
  have hx := S.hx
  have hb := S.hb
  have hl : lv_has ls 1 [(0, .ref (aK 0))] := hl
  refine va_gets (v := .int 1) hx hb hz.2.1 Y.2.2 S.ow (S.w kf100_38) (fun _ q => q) dJ0_isLatin1_aae02_0 ?_
  refine lv_if_eq (tgt := 17) hx hb dJ0_isLatin1_aae02_3 (by decide) (fun h => absurd h (by decide)) (fun _ => ?_)
  refine lv_aload_n hx hb dJ0_isLatin1_aae02_6 rfl (lv_at hl 0 rfl) ?_
  refine vk_getf (v := .int 0) hx hb (hz.1.1 0 (by decide)).2.1 Y.2.2 S.ow (S.w kf100_15) (fun _ q => q) dJ0_isLatin1_aae02_7 ?_
  refine lv_if_ne (tgt := 17) hx hb dJ0_isLatin1_aae02_10 (by decide) (fun h => absurd (by decide) h) (fun _ => ?_)
  refine lv_iconst (v := 1) hx hb dJ0_isLatin1_aae02_13 (by decide) ?_
  refine lv_goto (tgt := 18) hx hb dJ0_isLatin1_aae02_14 (by decide) ?_
  exact prI (post := fun r L1 f1 => ((r = 1)) ∧ L1 = L ∧ f1 = f) S Y rfl (by decide) (by decide) hA1 ⟨rfl, rfl, rfl⟩ dJ0_isLatin1_aae02_18
set_option maxHeartbeats 4000000 in
set_option maxRecDepth 100000 in
theorem x_J0_length_0 {l : Launch} {G : GG}  {L : List Nat} {f : HF}  {aK aV : Nat → Nat} {z0 : Option Nat}  : PMiZ aK aV z0 l yJ0_length_8abf5 cJ0_length_8abf5 1 .int 1 0 0 G [.ref (aK 0)] L f (fun r L1 f1 => ((r = 153)) ∧ L1 = L ∧ f1 = f) := by
  refine PMiZ.of (post := fun r L1 f1 => ((r = 153)) ∧ L1 = L ∧ f1 = f) (own := RJ0) (by decide) rfl (Nat.le_of_ble_eq_true rfl) (fun sz p e s m args below meth c A ls hA1 hname S Y hz hl => ?_)
  have hx := S.hx
  have hb := S.hb
  have hl : lv_has ls 1 [(0, .ref (aK 0))] := hl
  refine lv_aload_n hx hb dJ0_length_8abf5_0 rfl (lv_at hl 0 rfl) ?_
  refine vk_getf (v := .ref (aV 0)) hx hb (hz.1.1 0 (by decide)).2.2.1 Y.2.2 S.ow (S.w kf100_9) (fun _ q => q) dJ0_length_8abf5_1 ?_
  refine va_tlen (v := 153) hx hb (hz.1.1 0 (by decide)).2.2.2 Y.2.2 rfl dJ0_length_8abf5_4 ?_
  refine lv_aload_n hx hb dJ0_length_8abf5_5 rfl (lv_at hl 0 rfl) ?_
  refine zVi (As := []) (rest := [.int 153]) S Y hz (x_J0_coder_0 (l := l) ) cw_X100_coder_7d493 km100_335 (recvK (i := 0) Y hz (by decide) rfl) rfl ⟨Nat.le_of_ble_eq_true rfl, Nat.le_of_ble_eq_true rfl⟩ hl.1 rfl (Nat.le_of_ble_eq_true rfl) ⟨Nat.le_of_ble_eq_true rfl, Nat.le_of_ble_eq_true rfl⟩ dJ0_length_8abf5_6 (fun r_78309 L_78306 f_78307 H locs h_78308 Y => ?_)
  rw [h_78308.2.1, h_78308.2.2] at Y
  have er_78309 := h_78308.1
  refine lv_fold (z := 0) er_78309 ?_
  refine lv_ishr hx hb dJ0_length_8abf5_9 ?_
  refine lv_fold (z := 153) (by decide) ?_
  exact prI (post := fun r L1 f1 => ((r = 153)) ∧ L1 = L ∧ f1 = f) S Y rfl (by decide) (by decide) hA1 ⟨rfl, rfl, rfl⟩ dJ0_length_8abf5_10
set_option maxHeartbeats 4000000 in
set_option maxRecDepth 100000 in
theorem x_J0_coder_1 {l : Launch} {G : GG}  {L : List Nat} {f : HF}  {aK aV : Nat → Nat} {z0 : Option Nat}  : PMiZ aK aV z0 l yJ0_coder_7d493 cJ0_coder_7d493 1 .byte 0 0 0 G [.ref (aK 1)] L f (fun r L1 f1 => ((r = 0)) ∧ L1 = L ∧ f1 = f) := by
  refine PMiZ.of (post := fun r L1 f1 => ((r = 0)) ∧ L1 = L ∧ f1 = f) (own := RJ0) (by decide) rfl (Nat.le_of_ble_eq_true rfl) (fun sz p e s m args below meth c A ls hA1 hname S Y hz hl => ?_)
  have hx := S.hx
  have hb := S.hb
  have hl : lv_has ls 1 [(0, .ref (aK 1))] := hl
  refine va_gets (v := .int 1) hx hb hz.2.1 Y.2.2 S.ow (S.w kf100_38) (fun _ q => q) dJ0_coder_7d493_0 ?_
  refine lv_if_eq (tgt := 13) hx hb dJ0_coder_7d493_3 (by decide) (fun h => absurd h (by decide)) (fun _ => ?_)
  refine lv_aload_n hx hb dJ0_coder_7d493_6 rfl (lv_at hl 0 rfl) ?_
  refine vk_getf (v := .int 0) hx hb (hz.1.1 1 (by decide)).2.1 Y.2.2 S.ow (S.w kf100_15) (fun _ q => q) dJ0_coder_7d493_7 ?_
  refine lv_goto (tgt := 14) hx hb dJ0_coder_7d493_10 (by decide) ?_
  exact prI (post := fun r L1 f1 => ((r = 0)) ∧ L1 = L ∧ f1 = f) S Y rfl (by decide) (by decide) hA1 ⟨rfl, rfl, rfl⟩ dJ0_coder_7d493_14
set_option maxHeartbeats 4000000 in
set_option maxRecDepth 100000 in
theorem x_J0_isLatin1_1 {l : Launch} {G : GG}  {L : List Nat} {f : HF}  {aK aV : Nat → Nat} {z0 : Option Nat}  : PMiZ aK aV z0 l yJ0_isLatin1_aae02 cJ0_isLatin1_aae02 1 .boolean 0 0 0 G [.ref (aK 1)] L f (fun r L1 f1 => ((r = 1)) ∧ L1 = L ∧ f1 = f) := by
  refine PMiZ.of (post := fun r L1 f1 => ((r = 1)) ∧ L1 = L ∧ f1 = f) (own := RJ0) (by decide) rfl (Nat.le_of_ble_eq_true rfl) (fun sz p e s m args below meth c A ls hA1 hname S Y hz hl => ?_)
  have hx := S.hx
  have hb := S.hb
  have hl : lv_has ls 1 [(0, .ref (aK 1))] := hl
  refine va_gets (v := .int 1) hx hb hz.2.1 Y.2.2 S.ow (S.w kf100_38) (fun _ q => q) dJ0_isLatin1_aae02_0 ?_
  refine lv_if_eq (tgt := 17) hx hb dJ0_isLatin1_aae02_3 (by decide) (fun h => absurd h (by decide)) (fun _ => ?_)
  refine lv_aload_n hx hb dJ0_isLatin1_aae02_6 rfl (lv_at hl 0 rfl) ?_
  refine vk_getf (v := .int 0) hx hb (hz.1.1 1 (by decide)).2.1 Y.2.2 S.ow (S.w kf100_15) (fun _ q => q) dJ0_isLatin1_aae02_7 ?_
  refine lv_if_ne (tgt := 17) hx hb dJ0_isLatin1_aae02_10 (by decide) (fun h => absurd (by decide) h) (fun _ => ?_)
  refine lv_iconst (v := 1) hx hb dJ0_isLatin1_aae02_13 (by decide) ?_
  refine lv_goto (tgt := 18) hx hb dJ0_isLatin1_aae02_14 (by decide) ?_
  exact prI (post := fun r L1 f1 => ((r = 1)) ∧ L1 = L ∧ f1 = f) S Y rfl (by decide) (by decide) hA1 ⟨rfl, rfl, rfl⟩ dJ0_isLatin1_aae02_18
set_option maxHeartbeats 4000000 in
set_option maxRecDepth 100000 in
theorem x_J0_length_1 {l : Launch} {G : GG}  {L : List Nat} {f : HF}  {aK aV : Nat → Nat} {z0 : Option Nat}  : PMiZ aK aV z0 l yJ0_length_8abf5 cJ0_length_8abf5 1 .int 1 0 0 G [.ref (aK 1)] L f (fun r L1 f1 => ((r = 12)) ∧ L1 = L ∧ f1 = f) := by
  refine PMiZ.of (post := fun r L1 f1 => ((r = 12)) ∧ L1 = L ∧ f1 = f) (own := RJ0) (by decide) rfl (Nat.le_of_ble_eq_true rfl) (fun sz p e s m args below meth c A ls hA1 hname S Y hz hl => ?_)
  have hx := S.hx
  have hb := S.hb
  have hl : lv_has ls 1 [(0, .ref (aK 1))] := hl
  refine lv_aload_n hx hb dJ0_length_8abf5_0 rfl (lv_at hl 0 rfl) ?_
  refine vk_getf (v := .ref (aV 1)) hx hb (hz.1.1 1 (by decide)).2.2.1 Y.2.2 S.ow (S.w kf100_9) (fun _ q => q) dJ0_length_8abf5_1 ?_
  refine va_tlen (v := 12) hx hb (hz.1.1 1 (by decide)).2.2.2 Y.2.2 rfl dJ0_length_8abf5_4 ?_
  refine lv_aload_n hx hb dJ0_length_8abf5_5 rfl (lv_at hl 0 rfl) ?_
  refine zVi (As := []) (rest := [.int 12]) S Y hz (x_J0_coder_1 (l := l) ) cw_X100_coder_7d493 km100_335 (recvK (i := 1) Y hz (by decide) rfl) rfl ⟨Nat.le_of_ble_eq_true rfl, Nat.le_of_ble_eq_true rfl⟩ hl.1 rfl (Nat.le_of_ble_eq_true rfl) ⟨Nat.le_of_ble_eq_true rfl, Nat.le_of_ble_eq_true rfl⟩ dJ0_length_8abf5_6 (fun r_78321 L_78318 f_78319 H locs h_78320 Y => ?_)
  rw [h_78320.2.1, h_78320.2.2] at Y
  have er_78321 := h_78320.1
  refine lv_fold (z := 0) er_78321 ?_
  refine lv_ishr hx hb dJ0_length_8abf5_9 ?_
  refine lv_fold (z := 12) (by decide) ?_
  exact prI (post := fun r L1 f1 => ((r = 12)) ∧ L1 = L ∧ f1 = f) S Y rfl (by decide) (by decide) hA1 ⟨rfl, rfl, rfl⟩ dJ0_length_8abf5_10
set_option maxHeartbeats 4000000 in
set_option maxRecDepth 100000 in
theorem x_J3_checkIndex_n {l : Launch} {G : GG}  {L : List Nat} {f : HF}  {i1 i2 : Int32} (b_i1 : bn 0 152 i1) (b_i2 : bn 153 153 i2) : PMp l yJ3_checkIndex_8e157 cJ3_checkIndex_8e157 3 .int 0 0 0 G [.int i1, .int i2, .null] L f (fun r => True) := by
  refine PMi.of (post := fun r L1 f1 => (True) ∧ L1 = L ∧ f1 = f) (own := RJ3) (by decide) rfl (Nat.le_of_ble_eq_true rfl) (fun sz p e s m args below meth c A ls hA1 hname S Y hl => ?_)
  have hx := S.hx
  have hb := S.hb
  have hl : lv_has ls 3 [(0, .int i1), (1, .int i2), (2, .null)] := hl
  refine lv_iload_n hx hb dJ3_checkIndex_8e157_0 rfl (lv_at hl 0 rfl) ?_
  refine lv_if_lt (tgt := 9) hx hb dJ3_checkIndex_8e157_1 (by decide) (fun h => absurd h (bd_nlt b_i1 (show bn 0 0 (0 : Int32) from bn_k (by decide)) (by decide))) (fun _ => ?_)
  refine lv_iload_n hx hb dJ3_checkIndex_8e157_4 rfl (lv_at hl 0 rfl) ?_
  refine lv_iload_n hx hb dJ3_checkIndex_8e157_5 rfl (lv_at hl 1 rfl) ?_
  refine lv_icmp_lt (tgt := 16) hx hb dJ3_checkIndex_8e157_6 (by decide) (fun _ => ?_) (fun h => absurd (bd_lt b_i1 b_i2 (by decide)) h)
  refine lv_iload_n hx hb dJ3_checkIndex_8e157_16 rfl (lv_at hl 0 rfl) ?_
  exact prI (post := fun r L1 f1 => (True) ∧ L1 = L ∧ f1 = f) S Y rfl (by decide) (by decide) hA1 ⟨trivial, rfl, rfl⟩ dJ3_checkIndex_8e157_17
set_option maxHeartbeats 4000000 in
set_option maxRecDepth 100000 in
theorem x_J3_checkIndex_r {l : Launch} {G : GG}  {L : List Nat} {f : HF}  {i1 i2 : Int32} {t : Nat} (b_i1 : bn 0 152 i1) (b_i2 : bn 153 153 i2) : PMp l yJ3_checkIndex_8e157 cJ3_checkIndex_8e157 3 .int 0 0 0 G [.int i1, .int i2, .ref t] L f (fun r => True) := by
  refine PMi.of (post := fun r L1 f1 => (True) ∧ L1 = L ∧ f1 = f) (own := RJ3) (by decide) rfl (Nat.le_of_ble_eq_true rfl) (fun sz p e s m args below meth c A ls hA1 hname S Y hl => ?_)
  have hx := S.hx
  have hb := S.hb
  have hl : lv_has ls 3 [(0, .int i1), (1, .int i2), (2, .ref t)] := hl
  refine lv_iload_n hx hb dJ3_checkIndex_8e157_0 rfl (lv_at hl 0 rfl) ?_
  refine lv_if_lt (tgt := 9) hx hb dJ3_checkIndex_8e157_1 (by decide) (fun h => absurd h (bd_nlt b_i1 (show bn 0 0 (0 : Int32) from bn_k (by decide)) (by decide))) (fun _ => ?_)
  refine lv_iload_n hx hb dJ3_checkIndex_8e157_4 rfl (lv_at hl 0 rfl) ?_
  refine lv_iload_n hx hb dJ3_checkIndex_8e157_5 rfl (lv_at hl 1 rfl) ?_
  refine lv_icmp_lt (tgt := 16) hx hb dJ3_checkIndex_8e157_6 (by decide) (fun _ => ?_) (fun h => absurd (bd_lt b_i1 b_i2 (by decide)) h)
  refine lv_iload_n hx hb dJ3_checkIndex_8e157_16 rfl (lv_at hl 0 rfl) ?_
  exact prI (post := fun r L1 f1 => (True) ∧ L1 = L ∧ f1 = f) S Y rfl (by decide) (by decide) hA1 ⟨trivial, rfl, rfl⟩ dJ3_checkIndex_8e157_17
set_option maxHeartbeats 4000000 in
set_option maxRecDepth 100000 in
theorem x_J0_checkIndex_n {l : Launch} {G : GG}  {L : List Nat} {f : HF}  {aK aV : Nat → Nat} {i1 i2 : Int32} (b_i1 : bn 0 152 i1) (b_i2 : bn 153 153 i2) : PMvZ aK aV none l yJ0_checkIndex_df160 cJ0_checkIndex_df160 2 1 0 0 G [.int i1, .int i2] L f (fun L1 f1 => L1 = L ∧ f1 = f) := by
  refine PMvZ.of (post := fun L1 f1 => L1 = L ∧ f1 = f) (own := RJ0) (by decide) rfl (Nat.le_of_ble_eq_true rfl) (fun sz p e s m args below meth c A ls hA1 hname S Y hz hl => ?_)
  have hx := S.hx
  have hb := S.hb
  have hl : lv_has ls 2 [(0, .int i1), (1, .int i2)] := hl
  refine lv_iload_n hx hb dJ0_checkIndex_df160_0 rfl (lv_at hl 0 rfl) ?_
  refine lv_iload_n hx hb dJ0_checkIndex_df160_1 rfl (lv_at hl 1 rfl) ?_
  refine va_gets (v := .null) hx hb hz.2.2.1 Y.2.2 S.ow (S.w kf100_1053) (fun _ q => q) dJ0_checkIndex_df160_2 ?_
  refine cSp (As := [.int i1, .int i2, .null]) (rest := []) S Y (x_J3_checkIndex_n (l := l) (bn_w b_i1 (by decide)) (bn_w b_i2 (by decide))) cw_X103_checkIndex_8e157 km100_1059 rfl ⟨Nat.le_of_ble_eq_true rfl, Nat.le_of_ble_eq_true rfl⟩ hl.1 rfl (Nat.le_of_ble_eq_true rfl) ⟨Nat.le_of_ble_eq_true rfl, Nat.le_of_ble_eq_true rfl⟩ dJ0_checkIndex_df160_5 (fun r_78324 H locs er_78324 Y => ?_)
  refine lv_pop hx hb dJ0_checkIndex_df160_8 rfl ?_
  exact prV (post := fun L1 f1 => L1 = L ∧ f1 = f) S Y (by decide) (by decide) hA1 ⟨rfl, rfl⟩ dJ0_checkIndex_df160_9
set_option maxHeartbeats 4000000 in
set_option maxRecDepth 100000 in
theorem x_J0_checkIndex_r {l : Launch} {G : GG}  {L : List Nat} {f : HF}  {aK aV : Nat → Nat} {i1 i2 : Int32} {t : Nat} (b_i1 : bn 0 152 i1) (b_i2 : bn 153 153 i2) : PMvZ aK aV (some t) l yJ0_checkIndex_df160 cJ0_checkIndex_df160 2 1 0 0 G [.int i1, .int i2] L f (fun L1 f1 => L1 = L ∧ f1 = f) := by
  refine PMvZ.of (post := fun L1 f1 => L1 = L ∧ f1 = f) (own := RJ0) (by decide) rfl (Nat.le_of_ble_eq_true rfl) (fun sz p e s m args below meth c A ls hA1 hname S Y hz hl => ?_)
  have hx := S.hx
  have hb := S.hb
  have hl : lv_has ls 2 [(0, .int i1), (1, .int i2)] := hl
  refine lv_iload_n hx hb dJ0_checkIndex_df160_0 rfl (lv_at hl 0 rfl) ?_
  refine lv_iload_n hx hb dJ0_checkIndex_df160_1 rfl (lv_at hl 1 rfl) ?_
  refine va_gets (v := .ref t) hx hb hz.2.2.1 Y.2.2 S.ow (S.w kf100_1053) (fun _ q => q) dJ0_checkIndex_df160_2 ?_
  refine cSp (As := [.int i1, .int i2, .ref t]) (rest := []) S Y (x_J3_checkIndex_r (l := l) (bn_w b_i1 (by decide)) (bn_w b_i2 (by decide))) cw_X103_checkIndex_8e157 km100_1059 rfl ⟨Nat.le_of_ble_eq_true rfl, Nat.le_of_ble_eq_true rfl⟩ hl.1 rfl (Nat.le_of_ble_eq_true rfl) ⟨Nat.le_of_ble_eq_true rfl, Nat.le_of_ble_eq_true rfl⟩ dJ0_checkIndex_df160_5 (fun r_78327 H locs er_78327 Y => ?_)
  refine lv_pop hx hb dJ0_checkIndex_df160_8 rfl ?_
  exact prV (post := fun L1 f1 => L1 = L ∧ f1 = f) S Y (by decide) (by decide) hA1 ⟨rfl, rfl⟩ dJ0_checkIndex_df160_9
theorem x_J0_checkIndex {l : Launch} {G : GG}  {L : List Nat} {f : HF}  {aK aV : Nat → Nat} {z0 : Option Nat} {i1 i2 : Int32} (b_i1 : bn 0 152 i1) (b_i2 : bn 153 153 i2) : PMvZ aK aV z0 l yJ0_checkIndex_df160 cJ0_checkIndex_df160 2 1 0 0 G [.int i1, .int i2] L f (fun L1 f1 => L1 = L ∧ f1 = f) := by
  cases z0 with
  | none => exact x_J0_checkIndex_n b_i1 b_i2
  | some t => exact x_J0_checkIndex_r b_i1 b_i2
def chp (r : Int32) : Prop := ∃ b : Int32, r = b &&& 255
theorem chp_n {r : Int32} (h : chp r) : narrow .char (.int r) = .int r := by
  obtain ⟨b, rfl⟩ := h; exact sc_nar b
theorem chp_i {x y b : Int32} (e : x = (y.toUInt32 % 65536).toInt32) (e2 : y = b &&& 255) : chp x := ⟨b, by rw [e, e2]; exact sc_c2 b⟩
section BYTS
variable {i y b x v c ch r : Int32}
def wB (k : Nat) : Int := ((bytJ.getD 0 []).getD k 0).toInt
def sB (k : Nat) : Int := ((bytJ.getD 1 []).getD k 0).toInt
def wchT (k : Nat) : Bool := decide ((((((bytJ.getD 0 []).getD k 0) &&& 255).toUInt32 % 65536).toInt32).toInt = wB k)
theorem wch_all : (List.range 153).all wchT = true := by decide +kernel
theorem wch (hi : bn 0 152 i) (eb : b = (bytJ.getD 0 []).getD i.toNatClampNeg 0) (ey : y = b &&& 255) (ex : x = (y.toUInt32 % 65536).toInt32) : x.toInt = wB i.toInt.toNat := by
  obtain ⟨h1, h2⟩ := hi
  have k := List.all_eq_true.mp wch_all i.toInt.toNat (List.mem_range.mpr (by omega))
  rw [ex, ey, eb]
  exact of_decide_eq_true k
def b8T (n : Nat) : Bool := decide (((Int32.ofNat n).toInt8.toInt32).toInt = if n < 128 then (n : Int) else (n : Int) - 256)
theorem b8_all : (List.range 256).all b8T = true := by decide +kernel
theorem b8 (h : bn 0 255 ch) (e : c = ch.toInt8.toInt32) : (ch.toInt < 128 ∧ c.toInt = ch.toInt) ∨ (128 ≤ ch.toInt ∧ c.toInt < 0) := by
  obtain ⟨h1, h2⟩ := h
  have k := List.all_eq_true.mp b8_all ch.toInt.toNat (List.mem_range.mpr (by omega))
  have k := of_decide_eq_true k
  have q : Int32.ofNat ch.toInt.toNat = ch := by
    apply Int32.toInt_inj.mp
    rw [Int32.toInt_ofNat_of_lt (by omega)]; omega
  rw [q, ← e] at k
  by_cases z : ch.toInt < 128
  · rw [if_pos (by omega)] at k; exact Or.inl ⟨z, by omega⟩
  · rw [if_neg (by omega)] at k; exact Or.inr ⟨by omega, by omega⟩
def sBT (k : Nat) : Bool := decide (isSg (sB k) ∧ 0 ≤ sB k ∧ sB k < 128)
theorem sB_all : (List.range 12).all sBT = true := by decide +kernel
theorem sB_at {k : Nat} (h : k < 12) : isSg (sB k) ∧ 0 ≤ sB k ∧ sB k < 128 := of_decide_eq_true (List.all_eq_true.mp sB_all k (List.mem_range.mpr h))
theorem sB_ex {z : Int} (h : isSg z) : ∃ k, k < 12 ∧ sB k = z := by
  rcases h with rfl | rfl | rfl | rfl | rfl | rfl | rfl | rfl | rfl | rfl | rfl | rfl
  · exact ⟨0, by decide, by decide⟩
  · exact ⟨1, by decide, by decide⟩
  · exact ⟨2, by decide, by decide⟩
  · exact ⟨3, by decide, by decide⟩
  · exact ⟨4, by decide, by decide⟩
  · exact ⟨5, by decide, by decide⟩
  · exact ⟨6, by decide, by decide⟩
  · exact ⟨7, by decide, by decide⟩
  · exact ⟨8, by decide, by decide⟩
  · exact ⟨9, by decide, by decide⟩
  · exact ⟨10, by decide, by decide⟩
  · exact ⟨11, by decide, by decide⟩
def IOF (r ch : Int32) : Prop := (0 ≤ r.toInt ∧ isSg ch.toInt) ∨ (r.toInt < 0 ∧ ¬ isSg ch.toInt)
theorem io_y (hy : bn 0 11 y) (ev : v = (bytJ.getD 1 []).getD y.toNatClampNeg 0) (ec : c = ch.toInt8.toInt32) (h : v = c) (hb : bn 0 255 ch) : IOF y ch := by
  obtain ⟨h1, h2⟩ := hy
  have k := sB_at (k := y.toInt.toNat) (by omega)
  have q : sB y.toInt.toNat = v.toInt := by rw [ev]; rfl
  rw [q, h] at k
  rcases b8 hb ec with ⟨z1, z2⟩ | ⟨z1, z2⟩
  · rw [z2] at k; exact Or.inl ⟨h1, k.1⟩
  · omega
theorem io_n (hno : ∀ k : Nat, (k : Int) < y.toInt → k < 12 → sB k ≠ c.toInt) (hy : bn 12 13 y) (ec : c = ch.toInt8.toInt32) (hb : bn 0 255 ch) : IOF (-1) ch := by
  refine Or.inr ⟨by decide, fun z => ?_⟩
  obtain ⟨k, k1, k2⟩ := sB_ex z
  have h1 := hy.1
  have k3 := sB_at k1
  rcases b8 hb ec with ⟨z1, z2⟩ | ⟨z1, z2⟩
  · exact hno k (by omega) k1 (by omega)
  · omega
theorem io_s {x : Int32} (hno : ∀ k : Nat, (k : Int) < y.toInt → k < 12 → sB k ≠ c.toInt) (hy : bn 0 11 y) (ev : v = (bytJ.getD 1 []).getD y.toNatClampNeg 0) (h : ¬ v = c) (ex : x.toInt = y.toInt + 1) : ∀ k : Nat, (k : Int) < x.toInt → k < 12 → sB k ≠ c.toInt := by
  intro k k1 k2
  by_cases z : (k : Int) < y.toInt
  · exact hno k z k2
  · have e : k = y.toInt.toNat := by have := hy.1; omega
    subst e
    intro q
    apply h
    apply Int32.toInt_inj.mp
    rw [ev]; exact q
end BYTS
set_option maxHeartbeats 4000000 in
set_option maxRecDepth 100000 in
theorem x_J1_charAt {l : Launch} {G : GG}  {L : List Nat} {f : HF}  {aK aV : Nat → Nat} {z0 : Option Nat} {i1 : Int32} (b_i1 : bn 0 152 i1) : PMiZ aK aV z0 l yJ1_charAt_3b067 cJ1_charAt_3b067 2 .char 2 0 0 G [.ref (aV 0), .int i1] L f (fun r L1 f1 => ((chp r ∧ r.toInt = wB i1.toInt.toNat)) ∧ L1 = L ∧ f1 = f) := by
  refine PMiZ.of (post := fun r L1 f1 => ((chp r ∧ r.toInt = wB i1.toInt.toNat)) ∧ L1 = L ∧ f1 = f) (own := RJ1) (by decide) rfl (Nat.le_of_ble_eq_true rfl) (fun sz p e s m args below meth c A ls hA1 hname S Y hz hl => ?_)
  have hx := S.hx
  have hb := S.hb
  have hl : lv_has ls 2 [(0, .ref (aV 0)), (1, .int i1)] := hl
  refine lv_iload_n hx hb dJ1_charAt_3b067_0 rfl (lv_at hl 1 rfl) ?_
  refine lv_aload_n hx hb dJ1_charAt_3b067_1 rfl (lv_at hl 0 rfl) ?_
  refine va_tlen (v := 153) hx hb (hz.1.1 0 (by decide)).2.2.2 Y.2.2 rfl dJ1_charAt_3b067_2 ?_
  refine zSv (As := [.int i1, .int 153]) (rest := []) S Y hz (x_J0_checkIndex (l := l) (bn_w b_i1 (by decide)) (bn_w (show bn 153 153 (153 : Int32) from bn_k (by decide)) (by decide))) cw_X100_checkIndex_df160 km101_9 rfl ⟨Nat.le_of_ble_eq_true rfl, Nat.le_of_ble_eq_true rfl⟩ hl.1 rfl (Nat.le_of_ble_eq_true rfl) ⟨Nat.le_of_ble_eq_true rfl, Nat.le_of_ble_eq_true rfl⟩ dJ1_charAt_3b067_3 (fun L_78340 f_78341 H locs h_78342 Y => ?_)
  rw [h_78342.1, h_78342.2] at Y
  refine lv_aload_n hx hb dJ1_charAt_3b067_6 rfl (lv_at hl 0 rfl) ?_
  refine lv_iload_n hx hb dJ1_charAt_3b067_7 rfl (lv_at hl 1 rfl) ?_
  refine va_tb hx hb (hz.1.1 0 (by decide)).2.2.2 Y.2.2 (vp_bn b_i1 (by decide)) rfl dJ1_charAt_3b067_8 ?_
  refine lv_topi (fun x_78343 ex_78343 => ?_)
  refine lv_sipush (v := 255) hx hb dJ1_charAt_3b067_9 (by decide) ?_
  refine lv_iand hx hb dJ1_charAt_3b067_12 ?_
  refine lv_topi (fun x_78344 ex_78344 => ?_)
  obtain ⟨x_78345, ex_78345⟩ : ∃ z : Int32, z = ((x_78344 : Int32).toUInt32 % 65536).toInt32 := ⟨_, rfl⟩
  refine lv_i2c (v := x_78345) hx hb dJ1_charAt_3b067_13 ex_78345.symm ?_
  exact prI (post := fun r L1 f1 => ((chp r ∧ r.toInt = wB i1.toInt.toNat)) ∧ L1 = L ∧ f1 = f) S Y (chp_n (chp_i ex_78345 ex_78344)) (by decide) (by decide) hA1 ⟨⟨chp_i ex_78345 ex_78344, wch b_i1 ex_78343 ex_78344 ex_78345⟩, rfl, rfl⟩ dJ1_charAt_3b067_14
set_option maxHeartbeats 4000000 in
set_option maxRecDepth 100000 in
theorem x_J0_charAt {l : Launch} {G : GG}  {L : List Nat} {f : HF}  {aK aV : Nat → Nat} {z0 : Option Nat} {i1 : Int32} (b_i1 : bn 0 152 i1) : PMiZ aK aV z0 l yJ0_charAt_5068e cJ0_charAt_5068e 2 .char 3 0 0 G [.ref (aK 0), .int i1] L f (fun r L1 f1 => ((chp r ∧ r.toInt = wB i1.toInt.toNat)) ∧ L1 = L ∧ f1 = f) := by
  refine PMiZ.of (post := fun r L1 f1 => ((chp r ∧ r.toInt = wB i1.toInt.toNat)) ∧ L1 = L ∧ f1 = f) (own := RJ0) (by decide) rfl (Nat.le_of_ble_eq_true rfl) (fun sz p e s m args below meth c A ls hA1 hname S Y hz hl => ?_)
  have hx := S.hx
  have hb := S.hb
  have hl : lv_has ls 2 [(0, .ref (aK 0)), (1, .int i1)] := hl
  refine lv_aload_n hx hb dJ0_charAt_5068e_0 rfl (lv_at hl 0 rfl) ?_
  refine zVi (As := []) (rest := []) S Y hz (x_J0_isLatin1_0 (l := l) ) cw_X100_isLatin1_aae02 km100_492 (recvK (i := 0) Y hz (by decide) rfl) rfl ⟨Nat.le_of_ble_eq_true rfl, Nat.le_of_ble_eq_true rfl⟩ hl.1 rfl (Nat.le_of_ble_eq_true rfl) ⟨Nat.le_of_ble_eq_true rfl, Nat.le_of_ble_eq_true rfl⟩ dJ0_charAt_5068e_1 (fun r_78365 L_78362 f_78363 H locs h_78364 Y => ?_)
  rw [h_78364.2.1, h_78364.2.2] at Y
  have er_78365 := h_78364.1
  refine lv_fold (z := 1) er_78365 ?_
  refine lv_if_eq (tgt := 16) hx hb dJ0_charAt_5068e_4 (by decide) (fun h => absurd h (by decide)) (fun _ => ?_)
  refine lv_aload_n hx hb dJ0_charAt_5068e_7 rfl (lv_at hl 0 rfl) ?_
  refine vk_getf (v := .ref (aV 0)) hx hb (hz.1.1 0 (by decide)).2.2.1 Y.2.2 S.ow (S.w kf100_9) (fun _ q => q) dJ0_charAt_5068e_8 ?_
  refine lv_iload_n hx hb dJ0_charAt_5068e_11 rfl (lv_at hl 1 rfl) ?_
  refine zSi (As := [.ref (aV 0), .int i1]) (rest := []) S Y hz (x_J1_charAt (l := l) (bn_w b_i1 (by decide))) cw_X101_charAt_3b067 km100_495 rfl ⟨Nat.le_of_ble_eq_true rfl, Nat.le_of_ble_eq_true rfl⟩ hl.1 rfl (Nat.le_of_ble_eq_true rfl) ⟨Nat.le_of_ble_eq_true rfl, Nat.le_of_ble_eq_true rfl⟩ dJ0_charAt_5068e_12 (fun r_78369 L_78366 f_78367 H locs h_78368 Y => ?_)
  rw [h_78368.2.1, h_78368.2.2] at Y
  have er_78369 := h_78368.1
  exact prI (post := fun r L1 f1 => ((chp r ∧ r.toInt = wB i1.toInt.toNat)) ∧ L1 = L ∧ f1 = f) S Y (chp_n er_78369.1) (by decide) (by decide) hA1 ⟨er_78369, rfl, rfl⟩ dJ0_charAt_5068e_15
set_option maxHeartbeats 4000000 in
set_option maxRecDepth 100000 in
theorem x_J1_canEncode_9a6ad {l : Launch} {G : GG}  {L : List Nat} {f : HF}  {i1 : Int32} (b_i1 : bn 0 255 i1) : PMp l yJ1_canEncode_9a6ad cJ1_canEncode_9a6ad 1 .boolean 0 0 0 G [.int i1] L f (fun r => bn 1 1 r) := by
  refine PMi.of (post := fun r L1 f1 => (bn 1 1 r) ∧ L1 = L ∧ f1 = f) (own := RJ1) (by decide) rfl (Nat.le_of_ble_eq_true rfl) (fun sz p e s m args below meth c A ls hA1 hname S Y hl => ?_)
  have hx := S.hx
  have hb := S.hb
  have hl : lv_has ls 1 [(0, .int i1)] := hl
  refine lv_iload_n hx hb dJ1_canEncode_9a6ad_0 rfl (lv_at hl 0 rfl) ?_
  refine lv_if_lt (tgt := 15) hx hb dJ1_canEncode_9a6ad_1 (by decide) (fun h => absurd h (bd_nlt b_i1 (show bn 0 0 (0 : Int32) from bn_k (by decide)) (by decide))) (fun _ => ?_)
  refine lv_iload_n hx hb dJ1_canEncode_9a6ad_4 rfl (lv_at hl 0 rfl) ?_
  refine lv_sipush (v := 255) hx hb dJ1_canEncode_9a6ad_5 (by decide) ?_
  refine lv_icmp_gt (tgt := 15) hx hb dJ1_canEncode_9a6ad_8 (by decide) (fun h => absurd h (bd_nlt (show bn 255 255 (255 : Int32) from bn_k (by decide)) b_i1 (by decide))) (fun _ => ?_)
  refine lv_iconst (v := 1) hx hb dJ1_canEncode_9a6ad_11 (by decide) ?_
  refine lv_goto (tgt := 16) hx hb dJ1_canEncode_9a6ad_12 (by decide) ?_
  exact prI (post := fun r L1 f1 => (bn 1 1 r) ∧ L1 = L ∧ f1 = f) S Y rfl (by decide) (by decide) hA1 ⟨bn_w (show bn 1 1 (1 : Int32) from bn_k (by decide)) (by decide), rfl, rfl⟩ dJ1_canEncode_9a6ad_16
set_option maxHeartbeats 4000000 in
set_option maxRecDepth 100000 in
theorem x_J1_indexOfChar {l : Launch} {G : GG}  {L : List Nat} {f : HF}  {aK aV : Nat → Nat} {z0 : Option Nat} {i1 i2 i3 : Int32} (b_i1 : bn 0 255 i1) (b_i2 : bn 0 0 i2) (b_i3 : bn 12 12 i3) : PMiZ aK aV z0 l yJ1_indexOfChar_4cfef cJ1_indexOfChar_4cfef 6 .int 0 0 0 G [.ref (aV 1), .int i1, .int i2, .int i3] L f (fun r L1 f1 => ((IOF r i1)) ∧ L1 = L ∧ f1 = f) := by
  refine PMiZ.of (post := fun r L1 f1 => ((IOF r i1)) ∧ L1 = L ∧ f1 = f) (own := RJ1) (by decide) rfl (Nat.le_of_ble_eq_true rfl) (fun sz p e s m args below meth c A ls hA1 hname S Y hz hl => ?_)
  have hx := S.hx
  have hb := S.hb
  have hl : lv_has ls 6 [(0, .ref (aV 1)), (1, .int i1), (2, .int i2), (3, .int i3)] := hl
  have J_7 : ∀ (n7 : Nat) (y7_4 y7_5 : Int32) (H : Heap) (locs : List Loc) (ls : Array Slot), (bn 0 13 y7_5) → (y7_4 = (i1 : Int32).toInt8.toInt32 ∧ ∀ k : Nat, (k : Int) < y7_5.toInt → k < 12 → sB k ≠ y7_4.toInt) → (((13 : Int) - y7_5.toInt).toNat = n7) → (DY G A s [] L f H locs) → (lv_has ls 6 [(0, .ref (aV 1)), (1, .int i1), (2, .int i2), (3, .int i3), (4, .int y7_4), (5, .int y7_5)]) → W p l e (rmD 0 0 0) s m args below meth c H locs (0) (0) (MQ below (va_Qi (fun r (u : List Nat × HF) => (fun r L1 f1 => ((IOF r i1)) ∧ L1 = L ∧ f1 = f) r u.1 u.2) (fun u t => pOut G (va_A (va_pl L f) sz) u.1 u.2 t) (va_A (va_pl L f) sz)) args s 0 0 A) (F0 m 7 ls []) := by
    intro n7
    induction n7 using Nat.strongRecOn with
    | _ n7 ih7 =>
      intro y7_4 y7_5 H locs ls b_y7_5 hno hm7 Y hl
      refine lv_iload hx hb dJ1_indexOfChar_4cfef_7 (lv_at hl 5 rfl) ?_
      refine lv_iload_n hx hb dJ1_indexOfChar_4cfef_9 rfl (lv_at hl 3 rfl) ?_
      refine lv_icmp_ge (tgt := 31) hx hb dJ1_indexOfChar_4cfef_10 (by decide) (fun c_78417 => ?_) (fun c_78417 => ?_)
      · have B_78418 : bn 12 13 y7_5 := bn_w (bn_ler c_78417 b_i3 b_y7_5) (by decide)
        refine lv_iconst (v := (-1)) hx hb dJ1_indexOfChar_4cfef_31 (by decide) ?_
        exact prI (post := fun r L1 f1 => ((IOF r i1)) ∧ L1 = L ∧ f1 = f) S Y rfl (by decide) (by decide) hA1 ⟨(io_n hno.2 (bn_w B_78418 (by decide)) hno.1 b_i1), rfl, rfl⟩ dJ1_indexOfChar_4cfef_32
      · have B_78419 : bn 0 11 y7_5 := bn_w (bn_gtr c_78417 b_i3 b_y7_5) (by decide)
        refine lv_aload_n hx hb dJ1_indexOfChar_4cfef_13 rfl (lv_at hl 0 rfl) ?_
        refine lv_iload hx hb dJ1_indexOfChar_4cfef_14 (lv_at hl 5 rfl) ?_
        refine va_tb hx hb (hz.1.1 1 (by decide)).2.2.2 Y.2.2 (vp_bn B_78419 (by decide)) rfl dJ1_indexOfChar_4cfef_16 ?_
        refine lv_topi (fun x_78420 ex_78420 => ?_)
        refine lv_iload hx hb dJ1_indexOfChar_4cfef_17 (lv_at hl 4 rfl) ?_
        refine lv_icmp_ne (tgt := 25) hx hb dJ1_indexOfChar_4cfef_19 (by decide) (fun c_78421 => ?_) (fun c_78421 => ?_)
        · obtain ⟨x_78422, ex_78422⟩ : ∃ z : Int32, z = y7_5 + 1 := ⟨_, rfl⟩
          refine lv_iinc (v := x_78422) (lv' := [(5, .int x_78422), (0, .ref (aV 1)), (1, .int i1), (2, .int i2), (3, .int i3), (4, .int y7_4)]) hx hb dJ1_indexOfChar_4cfef_25 hl (k := 5) rfl (by rw [ex_78422]; rfl) (by decide) rfl (fun ls hl => ?_)
          refine lv_goto (tgt := 7) hx hb dJ1_indexOfChar_4cfef_28 (by decide) ?_
          exact ih7 _ (by rw [← hm7]; exact ms_up (m := 1) ex_78422 (show bn 1 1 (1 : Int32) from bn_k (by decide)) B_78419 (bn_w (bn_eq ex_78422 (bn_add B_78419 (show bn 1 1 (1 : Int32) from bn_k (by decide)) (by decide))) (by decide) : bn 0 13 x_78422) (by decide)) y7_4 x_78422  _ _ _  (bn_w (bn_eq ex_78422 (bn_add B_78419 (show bn 1 1 (1 : Int32) from bn_k (by decide)) (by decide))) (by decide)) ⟨hno.1, io_s hno.2 (bn_w B_78419 (by decide)) ex_78420 c_78421 (la_add ex_78422 (rfl : y7_5.toInt = y7_5.toInt) (show (1 : Int32).toInt = 1 from rfl) B_78419 (show bn 1 1 (1 : Int32) from bn_k (by decide)) (by decide))⟩ rfl Y (lv_sub hl [1, 2, 3, 4, 5, 0] rfl)
        · refine lv_iload hx hb dJ1_indexOfChar_4cfef_22 (lv_at hl 5 rfl) ?_
          exact prI (post := fun r L1 f1 => ((IOF r i1)) ∧ L1 = L ∧ f1 = f) S Y rfl (by decide) (by decide) hA1 ⟨(io_y (bn_w B_78419 (by decide)) ex_78420 hno.1 c_78421 b_i1), rfl, rfl⟩ dJ1_indexOfChar_4cfef_24
  refine lv_iload_n hx hb dJ1_indexOfChar_4cfef_0 rfl (lv_at hl 1 rfl) ?_
  obtain ⟨x_78423, ex_78423⟩ : ∃ z : Int32, z = (i1 : Int32).toInt8.toInt32 := ⟨_, rfl⟩
  refine lv_i2b (v := x_78423) hx hb dJ1_indexOfChar_4cfef_1 ex_78423.symm ?_
  refine lv_istore (lv' := [(4, .int x_78423), (0, .ref (aV 1)), (1, .int i1), (2, .int i2), (3, .int i3)]) hx hb dJ1_indexOfChar_4cfef_2 hl (by decide) rfl (fun ls hl => ?_)
  refine lv_iload_n hx hb dJ1_indexOfChar_4cfef_4 rfl (lv_at hl 3 rfl) ?_
  refine lv_istore (lv' := [(5, .int i2), (4, .int x_78423), (0, .ref (aV 1)), (1, .int i1), (2, .int i2), (3, .int i3)]) hx hb dJ1_indexOfChar_4cfef_5 hl (by decide) rfl (fun ls hl => ?_)
  exact J_7 _ x_78423 i2  _ _ _  (bn_w b_i2 (by decide)) ⟨ex_78423, fun k h _ => absurd h (by have := (b_i2).2; omega)⟩ rfl Y (lv_sub hl [2, 3, 4, 5, 1, 0] rfl)
set_option maxHeartbeats 4000000 in
set_option maxRecDepth 100000 in
theorem x_J1_indexOf {l : Launch} {G : GG}  {L : List Nat} {f : HF}  {aK aV : Nat → Nat} {z0 : Option Nat} {i1 i2 i3 : Int32} (b_i1 : bn 0 255 i1) (b_i2 : bn 0 0 i2) (b_i3 : bn 12 12 i3) : PMiZ aK aV z0 l yJ1_indexOf_4cfef cJ1_indexOf_4cfef 4 .int 1 0 0 G [.ref (aV 1), .int i1, .int i2, .int i3] L f (fun r L1 f1 => ((IOF r i1)) ∧ L1 = L ∧ f1 = f) := by
  refine PMiZ.of (post := fun r L1 f1 => ((IOF r i1)) ∧ L1 = L ∧ f1 = f) (own := RJ1) (by decide) rfl (Nat.le_of_ble_eq_true rfl) (fun sz p e s m args below meth c A ls hA1 hname S Y hz hl => ?_)
  have hx := S.hx
  have hb := S.hb
  have hl : lv_has ls 4 [(0, .ref (aV 1)), (1, .int i1), (2, .int i2), (3, .int i3)] := hl
  refine lv_iload_n hx hb dJ1_indexOf_4cfef_0 rfl (lv_at hl 1 rfl) ?_
  refine cSp (As := [.int i1]) (rest := []) S Y (x_J1_canEncode_9a6ad (l := l) (bn_w b_i1 (by decide))) cw_X101_canEncode_9a6ad km101_88 rfl ⟨Nat.le_of_ble_eq_true rfl, Nat.le_of_ble_eq_true rfl⟩ hl.1 rfl (Nat.le_of_ble_eq_true rfl) ⟨Nat.le_of_ble_eq_true rfl, Nat.le_of_ble_eq_true rfl⟩ dJ1_indexOf_4cfef_1 (fun r_78438 H locs er_78438 Y => ?_)
  refine lv_if_ne (tgt := 9) hx hb dJ1_indexOf_4cfef_4 (by decide) (fun _ => ?_) (fun h => absurd h (bd_ne er_78438 (show bn 0 0 (0 : Int32) from bn_k (by decide)) (by decide)))
  refine lv_iload_n hx hb dJ1_indexOf_4cfef_9 rfl (lv_at hl 2 rfl) ?_
  refine lv_iconst (v := 0) hx hb dJ1_indexOf_4cfef_10 (by decide) ?_
  refine va_mmax hx hb (S.ml.trans hl.1.symm) S.ow (S.w km101_92) (S.w kMs_max) (S.w kMi) (S.w kMc_max) (Nat.le_of_ble_eq_true rfl) (Nat.le_of_ble_eq_true rfl) (by decide) (by decide) dJ1_indexOf_4cfef_11 ?_
  refine lv_topi (fun x_78439 ex_78439 => ?_)
  refine lv_istore_n (lv' := [(2, .int x_78439), (0, .ref (aV 1)), (1, .int i1), (3, .int i3)]) hx hb dJ1_indexOf_4cfef_14 rfl hl (by decide) rfl (fun ls hl => ?_)
  refine lv_iload_n hx hb dJ1_indexOf_4cfef_15 rfl (lv_at hl 3 rfl) ?_
  refine lv_aload_n hx hb dJ1_indexOf_4cfef_16 rfl (lv_at hl 1 rfl) ?_
  refine va_tlen (v := 12) hx hb (hz.1.1 1 (by decide)).2.2.2 Y.2.2 rfl dJ1_indexOf_4cfef_17 ?_
  refine va_mmin hx hb (S.ml.trans hl.1.symm) S.ow (S.w km101_38) (S.w kMs_min) (S.w kMi) (S.w kMc_min) (Nat.le_of_ble_eq_true rfl) (Nat.le_of_ble_eq_true rfl) (by decide) (by decide) dJ1_indexOf_4cfef_18 ?_
  refine lv_topi (fun x_78440 ex_78440 => ?_)
  refine lv_istore_n (lv' := [(3, .int x_78440), (2, .int x_78439), (0, .ref (aV 1)), (1, .int i1)]) hx hb dJ1_indexOf_4cfef_21 rfl hl (by decide) rfl (fun ls hl => ?_)
  refine lv_iload_n hx hb dJ1_indexOf_4cfef_22 rfl (lv_at hl 1 rfl) ?_
  refine lv_iload_n hx hb dJ1_indexOf_4cfef_23 rfl (lv_at hl 0 rfl) ?_
  refine lv_icmp_lt (tgt := 29) hx hb dJ1_indexOf_4cfef_24 (by decide) (fun _ => ?_) (fun h => absurd (bd_lt (bn_eq ex_78439 (bn_max b_i2 (show bn 0 0 (0 : Int32) from bn_k (by decide)))) (bn_eq ex_78440 (bn_min b_i3 (show bn 12 12 (12 : Int32) from bn_k (by decide)))) (by decide)) h)
  refine lv_aload_n hx hb dJ1_indexOf_4cfef_29 rfl (lv_at hl 2 rfl) ?_
  refine lv_iload_n hx hb dJ1_indexOf_4cfef_30 rfl (lv_at hl 3 rfl) ?_
  refine lv_iload_n hx hb dJ1_indexOf_4cfef_31 rfl (lv_at hl 1 rfl) ?_
  refine lv_iload_n hx hb dJ1_indexOf_4cfef_32 rfl (lv_at hl 0 rfl) ?_
  refine zSi (As := [.ref (aV 1), .int i1, .int x_78439, .int x_78440]) (rest := []) S Y hz (x_J1_indexOfChar (l := l) (bn_w b_i1 (by decide)) (bn_w (bn_eq ex_78439 (bn_max b_i2 (show bn 0 0 (0 : Int32) from bn_k (by decide)))) (by decide)) (bn_w (bn_eq ex_78440 (bn_min b_i3 (show bn 12 12 (12 : Int32) from bn_k (by decide)))) (by decide))) cw_X101_indexOfChar_4cfef km101_95 rfl ⟨Nat.le_of_ble_eq_true rfl, Nat.le_of_ble_eq_true rfl⟩ hl.1 rfl (Nat.le_of_ble_eq_true rfl) ⟨Nat.le_of_ble_eq_true rfl, Nat.le_of_ble_eq_true rfl⟩ dJ1_indexOf_4cfef_33 (fun r_78444 L_78441 f_78442 H locs h_78443 Y => ?_)
  rw [h_78443.2.1, h_78443.2.2] at Y
  have er_78444 := h_78443.1
  exact prI (post := fun r L1 f1 => ((IOF r i1)) ∧ L1 = L ∧ f1 = f) S Y rfl (by decide) (by decide) hA1 ⟨er_78444, rfl, rfl⟩ dJ1_indexOf_4cfef_36
set_option maxHeartbeats 4000000 in
set_option maxRecDepth 100000 in
theorem x_J0_indexOf2 {l : Launch} {G : GG}  {L : List Nat} {f : HF}  {aK aV : Nat → Nat} {z0 : Option Nat} {i1 i2 : Int32} (b_i1 : bn 0 255 i1) (b_i2 : bn 0 0 i2) : PMiZ aK aV z0 l yJ0_indexOf_7cf53 cJ0_indexOf_7cf53 3 .int 2 0 0 G [.ref (aK 1), .int i1, .int i2] L f (fun r L1 f1 => ((IOF r i1)) ∧ L1 = L ∧ f1 = f) := by
  refine PMiZ.of (post := fun r L1 f1 => ((IOF r i1)) ∧ L1 = L ∧ f1 = f) (own := RJ0) (by decide) rfl (Nat.le_of_ble_eq_true rfl) (fun sz p e s m args below meth c A ls hA1 hname S Y hz hl => ?_)
  have hx := S.hx
  have hb := S.hb
  have hl : lv_has ls 3 [(0, .ref (aK 1)), (1, .int i1), (2, .int i2)] := hl
  refine lv_aload_n hx hb dJ0_indexOf_7cf53_0 rfl (lv_at hl 0 rfl) ?_
  refine zVi (As := []) (rest := []) S Y hz (x_J0_isLatin1_1 (l := l) ) cw_X100_isLatin1_aae02 km100_492 (recvK (i := 1) Y hz (by decide) rfl) rfl ⟨Nat.le_of_ble_eq_true rfl, Nat.le_of_ble_eq_true rfl⟩ hl.1 rfl (Nat.le_of_ble_eq_true rfl) ⟨Nat.le_of_ble_eq_true rfl, Nat.le_of_ble_eq_true rfl⟩ dJ0_indexOf_7cf53_1 (fun r_78472 L_78469 f_78470 H locs h_78471 Y => ?_)
  rw [h_78471.2.1, h_78471.2.2] at Y
  have er_78472 := h_78471.1
  refine lv_fold (z := 1) er_78472 ?_
  refine lv_if_eq (tgt := 23) hx hb dJ0_indexOf_7cf53_4 (by decide) (fun h => absurd h (by decide)) (fun _ => ?_)
  refine lv_aload_n hx hb dJ0_indexOf_7cf53_7 rfl (lv_at hl 0 rfl) ?_
  refine vk_getf (v := .ref (aV 1)) hx hb (hz.1.1 1 (by decide)).2.2.1 Y.2.2 S.ow (S.w kf100_9) (fun _ q => q) dJ0_indexOf_7cf53_8 ?_
  refine lv_iload_n hx hb dJ0_indexOf_7cf53_11 rfl (lv_at hl 1 rfl) ?_
  refine lv_iload_n hx hb dJ0_indexOf_7cf53_12 rfl (lv_at hl 2 rfl) ?_
  refine lv_aload_n hx hb dJ0_indexOf_7cf53_13 rfl (lv_at hl 0 rfl) ?_
  refine zVi (As := []) (rest := [.int i2, .int i1, .ref (aV 1)]) S Y hz (x_J0_length_1 (l := l) ) cw_X100_length_8abf5 km100_505 (recvK (i := 1) Y hz (by decide) rfl) rfl ⟨Nat.le_of_ble_eq_true rfl, Nat.le_of_ble_eq_true rfl⟩ hl.1 rfl (Nat.le_of_ble_eq_true rfl) ⟨Nat.le_of_ble_eq_true rfl, Nat.le_of_ble_eq_true rfl⟩ dJ0_indexOf_7cf53_14 (fun r_78476 L_78473 f_78474 H locs h_78475 Y => ?_)
  rw [h_78475.2.1, h_78475.2.2] at Y
  have er_78476 := h_78475.1
  refine lv_fold (z := 12) er_78476 ?_
  refine zSi (As := [.ref (aV 1), .int i1, .int i2, .int 12]) (rest := []) S Y hz (x_J1_indexOf (l := l) (bn_w b_i1 (by decide)) (bn_w b_i2 (by decide)) (bn_w (show bn 12 12 (12 : Int32) from bn_k (by decide)) (by decide))) cw_X101_indexOf_4cfef km100_637 rfl ⟨Nat.le_of_ble_eq_true rfl, Nat.le_of_ble_eq_true rfl⟩ hl.1 rfl (Nat.le_of_ble_eq_true rfl) ⟨Nat.le_of_ble_eq_true rfl, Nat.le_of_ble_eq_true rfl⟩ dJ0_indexOf_7cf53_17 (fun r_78480 L_78477 f_78478 H locs h_78479 Y => ?_)
  rw [h_78479.2.1, h_78479.2.2] at Y
  have er_78480 := h_78479.1
  refine lv_goto (tgt := 36) hx hb dJ0_indexOf_7cf53_20 (by decide) ?_
  exact prI (post := fun r L1 f1 => ((IOF r i1)) ∧ L1 = L ∧ f1 = f) S Y rfl (by decide) (by decide) hA1 ⟨er_78480, rfl, rfl⟩ dJ0_indexOf_7cf53_36
set_option maxHeartbeats 4000000 in
set_option maxRecDepth 100000 in
theorem x_J0_indexOf {l : Launch} {G : GG}  {L : List Nat} {f : HF}  {aK aV : Nat → Nat} {z0 : Option Nat} {i1 : Int32} (b_i1 : bn 0 255 i1) : PMiZ aK aV z0 l yJ0_indexOf_0f7a4 cJ0_indexOf_0f7a4 2 .int 3 0 0 G [.ref (aK 1), .int i1] L f (fun r L1 f1 => ((IOF r i1)) ∧ L1 = L ∧ f1 = f) := by
  refine PMiZ.of (post := fun r L1 f1 => ((IOF r i1)) ∧ L1 = L ∧ f1 = f) (own := RJ0) (by decide) rfl (Nat.le_of_ble_eq_true rfl) (fun sz p e s m args below meth c A ls hA1 hname S Y hz hl => ?_)
  have hx := S.hx
  have hb := S.hb
  have hl : lv_has ls 2 [(0, .ref (aK 1)), (1, .int i1)] := hl
  refine lv_aload_n hx hb dJ0_indexOf_0f7a4_0 rfl (lv_at hl 0 rfl) ?_
  refine lv_iload_n hx hb dJ0_indexOf_0f7a4_1 rfl (lv_at hl 1 rfl) ?_
  refine lv_iconst (v := 0) hx hb dJ0_indexOf_0f7a4_2 (by decide) ?_
  refine zVi (As := [.int i1, .int 0]) (rest := []) S Y hz (x_J0_indexOf2 (l := l) (bn_w b_i1 (by decide)) (bn_w (show bn 0 0 (0 : Int32) from bn_k (by decide)) (by decide))) cw_X100_indexOf_7cf53 km100_633 (recvK (i := 1) Y hz (by decide) rfl) rfl ⟨Nat.le_of_ble_eq_true rfl, Nat.le_of_ble_eq_true rfl⟩ hl.1 rfl (Nat.le_of_ble_eq_true rfl) ⟨Nat.le_of_ble_eq_true rfl, Nat.le_of_ble_eq_true rfl⟩ dJ0_indexOf_0f7a4_3 (fun r_78492 L_78489 f_78490 H locs h_78491 Y => ?_)
  rw [h_78491.2.1, h_78491.2.2] at Y
  have er_78492 := h_78491.1
  exact prI (post := fun r L1 f1 => ((IOF r i1)) ∧ L1 = L ∧ f1 = f) S Y rfl (by decide) (by decide) hA1 ⟨er_78492, rfl, rfl⟩ dJ0_indexOf_0f7a4_6
