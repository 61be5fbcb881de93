theorem dX12_fadesOf_0 : decode cX12_fadesOf 0 = .ok (.aload_n 0, 1) := by decide +kernel
theorem dX12_fadesOf_1 : decode cX12_fadesOf 1 = .ok (.invokevirtual 399, 3) := by decide +kernel
theorem dX12_fadesOf_4 : decode cX12_fadesOf 4 = .ok (.aload_n 0, 1) := by decide +kernel
theorem dX12_fadesOf_5 : decode cX12_fadesOf 5 = .ok (.iload_n 1, 1) := by decide +kernel
theorem dX12_fadesOf_6 : decode cX12_fadesOf 6 = .ok (.invokevirtual 77, 3) := by decide +kernel
theorem dX12_fadesOf_9 : decode cX12_fadesOf 9 = .ok (.ifCond .eq 7, 3) := by decide +kernel
theorem dX12_fadesOf_16 : decode cX12_fadesOf 16 = .ok (.iconst 0, 1) := by decide +kernel
theorem dX12_fadesOf_17 : decode cX12_fadesOf 17 = .ok (.istore_n 2, 1) := by decide +kernel
theorem dX12_fadesOf_18 : decode cX12_fadesOf 18 = .ok (.iconst 1, 1) := by decide +kernel
theorem dX12_fadesOf_19 : decode cX12_fadesOf 19 = .ok (.istore_n 3, 1) := by decide +kernel
theorem dX12_fadesOf_12 : decode cX12_fadesOf 12 = .ok (.iconst (-1), 1) := by decide +kernel
theorem dX12_fadesOf_13 : decode cX12_fadesOf 13 = .ok (.goto 4, 3) := by decide +kernel
theorem dX12_fadesOf_20 : decode cX12_fadesOf 20 = .ok (.iload_n 3, 1) := by decide +kernel
theorem dX12_fadesOf_21 : decode cX12_fadesOf 21 = .ok (.bipush 60, 2) := by decide +kernel
theorem dX12_fadesOf_23 : decode cX12_fadesOf 23 = .ok (.if_icmp .gt 51, 3) := by decide +kernel
theorem dX12_fadesOf_26 : decode cX12_fadesOf 26 = .ok (.iload_n 2, 1) := by decide +kernel
theorem dX12_fadesOf_27 : decode cX12_fadesOf 27 = .ok (.iconst (-1), 1) := by decide +kernel
theorem dX12_fadesOf_28 : decode cX12_fadesOf 28 = .ok (.if_icmp .ne 46, 3) := by decide +kernel
theorem dX12_fadesOf_74 : decode cX12_fadesOf 74 = .ok (.aload_n 0, 1) := by decide +kernel
theorem dX12_fadesOf_75 : decode cX12_fadesOf 75 = .ok (.invokevirtual 402, 3) := by decide +kernel
theorem dX12_fadesOf_78 : decode cX12_fadesOf 78 = .ok (.iload_n 2, 1) := by decide +kernel
theorem dX12_fadesOf_79 : decode cX12_fadesOf 79 = .ok (.ireturn, 1) := by decide +kernel
theorem dX12_fadesOf_31 : decode cX12_fadesOf 31 = .ok (.aload_n 0, 1) := by decide +kernel
theorem dX12_fadesOf_32 : decode cX12_fadesOf 32 = .ok (.getfield 7, 3) := by decide +kernel
theorem dX12_fadesOf_35 : decode cX12_fadesOf 35 = .ok (.bipush 10, 2) := by decide +kernel
theorem dX12_fadesOf_37 : decode cX12_fadesOf 37 = .ok (.iaload, 1) := by decide +kernel
theorem dX12_fadesOf_38 : decode cX12_fadesOf 38 = .ok (.sipush 9999, 3) := by decide +kernel
theorem dX12_fadesOf_41 : decode cX12_fadesOf 41 = .ok (.if_icmp .ge 33, 3) := by decide +kernel
theorem dX12_fadesOf_44 : decode cX12_fadesOf 44 = .ok (.aload_n 0, 1) := by decide +kernel
theorem dX12_fadesOf_45 : decode cX12_fadesOf 45 = .ok (.aload_n 0, 1) := by decide +kernel
theorem dX12_fadesOf_46 : decode cX12_fadesOf 46 = .ok (.iload_n 1, 1) := by decide +kernel
theorem dX12_fadesOf_47 : decode cX12_fadesOf 47 = .ok (.iconst 1, 1) := by decide +kernel
theorem dX12_fadesOf_48 : decode cX12_fadesOf 48 = .ok (.invokevirtual 73, 3) := by decide +kernel
theorem dX12_fadesOf_51 : decode cX12_fadesOf 51 = .ok (.invokevirtual 345, 3) := by decide +kernel
theorem dX12_fadesOf_54 : decode cX12_fadesOf 54 = .ok (.aload_n 0, 1) := by decide +kernel
theorem dX12_fadesOf_55 : decode cX12_fadesOf 55 = .ok (.invokevirtual 357, 3) := by decide +kernel
theorem dX12_fadesOf_58 : decode cX12_fadesOf 58 = .ok (.aload_n 0, 1) := by decide +kernel
theorem dX12_fadesOf_59 : decode cX12_fadesOf 59 = .ok (.iload_n 1, 1) := by decide +kernel
theorem dX12_fadesOf_60 : decode cX12_fadesOf 60 = .ok (.invokevirtual 77, 3) := by decide +kernel
theorem dX12_fadesOf_63 : decode cX12_fadesOf 63 = .ok (.ifCond .ne 5, 3) := by decide +kernel
theorem dX12_fadesOf_68 : decode cX12_fadesOf 68 = .ok (.iinc 3 1, 3) := by decide +kernel
theorem dX12_fadesOf_71 : decode cX12_fadesOf 71 = .ok (.goto (-51), 3) := by decide +kernel
theorem dX12_fadesOf_66 : decode cX12_fadesOf 66 = .ok (.iload_n 3, 1) := by decide +kernel
theorem dX12_fadesOf_67 : decode cX12_fadesOf 67 = .ok (.istore_n 2, 1) := by decide +kernel
theorem dX12_fades_0 : decode cX12_fades 0 = .ok (.aload_n 0, 1) := by decide +kernel
theorem dX12_fades_1 : decode cX12_fades 1 = .ok (.iload_n 1, 1) := by decide +kernel
theorem dX12_fades_2 : decode cX12_fades 2 = .ok (.invokevirtual 339, 3) := by decide +kernel
theorem dX12_fades_5 : decode cX12_fades 5 = .ok (.ifCond .eq 21, 3) := by decide +kernel
theorem dX12_fades_26 : decode cX12_fades 26 = .ok (.iconst (-1), 1) := by decide +kernel
theorem dX12_fades_27 : decode cX12_fades 27 = .ok (.ireturn, 1) := by decide +kernel
theorem dX12_fades_8 : decode cX12_fades 8 = .ok (.aload_n 0, 1) := by decide +kernel
theorem dX12_fades_9 : decode cX12_fades 9 = .ok (.iload_n 1, 1) := by decide +kernel
theorem dX12_fades_10 : decode cX12_fades 10 = .ok (.iconst 4, 1) := by decide +kernel
theorem dX12_fades_11 : decode cX12_fades 11 = .ok (.invokevirtual 73, 3) := by decide +kernel
theorem dX12_fades_14 : decode cX12_fades 14 = .ok (.iconst 2, 1) := by decide +kernel
theorem dX12_fades_15 : decode cX12_fades 15 = .ok (.if_icmp .eq 11, 3) := by decide +kernel
theorem dX12_fades_18 : decode cX12_fades 18 = .ok (.aload_n 0, 1) := by decide +kernel
theorem dX12_fades_19 : decode cX12_fades 19 = .ok (.iload_n 1, 1) := by decide +kernel
theorem dX12_fades_20 : decode cX12_fades 20 = .ok (.invokevirtual 405, 3) := by decide +kernel
theorem cw_X12_fadesOf : CWv yX12_fadesOf cX12_fadesOf 4 (some .int) 1 := ⟨⟨⟨List.mem_of_getElem? (i := 137) (by decide +kernel), by decide +kernel⟩, ⟨List.mem_of_getElem? (i := 2025) (by decide +kernel), by decide +kernel⟩, by decide +kernel⟩, ⟨List.mem_of_getElem? (i := 2024) (by decide +kernel), by decide +kernel⟩, ⟨List.mem_of_getElem? (i := 112) (by decide +kernel), by decide +kernel⟩⟩
theorem km12_405 : inW (Cond.methodLink RX12 405 yX12_fadesOf) := ⟨List.mem_of_getElem? (i := 2022) (by decide +kernel), by decide +kernel⟩
theorem dX12_fades_23 : decode cX12_fades 23 = .ok (.goto 4, 3) := by decide +kernel
theorem dX12_copy__0 : decode cX12_copy_ 0 = .ok (.aload_n 0, 1) := by decide +kernel
theorem dX12_copy__1 : decode cX12_copy_ 1 = .ok (.iload_n 1, 1) := by decide +kernel
theorem dX12_copy__2 : decode cX12_copy_ 2 = .ok (.invokevirtual 339, 3) := by decide +kernel
theorem dX12_copy__5 : decode cX12_copy_ 5 = .ok (.ifCond .eq 34, 3) := by decide +kernel
theorem dX12_copy__39 : decode cX12_copy_ 39 = .ok (.ldc_w 408, 3) := by decide +kernel
theorem kk12_408 : inW (Cond.constant RX12 408 (-100000)) := ⟨List.mem_of_getElem? (i := 2030) (by decide +kernel), by decide +kernel⟩
theorem dX12_copy__42 : decode cX12_copy_ 42 = .ok (.ireturn, 1) := by decide +kernel
theorem dX12_copy__8 : decode cX12_copy_ 8 = .ok (.aload_n 0, 1) := by decide +kernel
theorem dX12_copy__9 : decode cX12_copy_ 9 = .ok (.iload_n 1, 1) := by decide +kernel
theorem dX12_copy__10 : decode cX12_copy_ 10 = .ok (.iconst 4, 1) := by decide +kernel
theorem dX12_copy__11 : decode cX12_copy_ 11 = .ok (.invokevirtual 73, 3) := by decide +kernel
theorem dX12_copy__14 : decode cX12_copy_ 14 = .ok (.iconst 2, 1) := by decide +kernel
theorem dX12_copy__15 : decode cX12_copy_ 15 = .ok (.if_icmp .eq 24, 3) := by decide +kernel
theorem dX12_copy__18 : decode cX12_copy_ 18 = .ok (.iload_n 2, 1) := by decide +kernel
theorem dX12_copy__19 : decode cX12_copy_ 19 = .ok (.iconst 0, 1) := by decide +kernel
theorem dX12_copy__20 : decode cX12_copy_ 20 = .ok (.bipush 99, 2) := by decide +kernel
theorem dX12_copy__22 : decode cX12_copy_ 22 = .ok (.invokestatic 69, 3) := by decide +kernel
theorem dX12_copy__25 : decode cX12_copy_ 25 = .ok (.ifCond .eq 14, 3) := by decide +kernel
theorem dX12_copy__28 : decode cX12_copy_ 28 = .ok (.iload_n 3, 1) := by decide +kernel
theorem dX12_copy__29 : decode cX12_copy_ 29 = .ok (.iconst 0, 1) := by decide +kernel
theorem dX12_copy__30 : decode cX12_copy_ 30 = .ok (.sipush 9999, 3) := by decide +kernel
theorem dX12_copy__33 : decode cX12_copy_ 33 = .ok (.invokestatic 69, 3) := by decide +kernel
theorem dX12_copy__36 : decode cX12_copy_ 36 = .ok (.ifCond .ne 7, 3) := by decide +kernel
theorem dX12_copy__43 : decode cX12_copy_ 43 = .ok (.aload_n 0, 1) := by decide +kernel
theorem dX12_copy__44 : decode cX12_copy_ 44 = .ok (.iload_n 1, 1) := by decide +kernel
theorem dX12_copy__45 : decode cX12_copy_ 45 = .ok (.invokevirtual 405, 3) := by decide +kernel
theorem dX12_copy__48 : decode cX12_copy_ 48 = .ok (.istore 5, 2) := by decide +kernel
theorem dX12_copy__50 : decode cX12_copy_ 50 = .ok (.iconst (-1), 1) := by decide +kernel
theorem dX12_copy__51 : decode cX12_copy_ 51 = .ok (.istore 6, 2) := by decide +kernel
theorem dX12_copy__53 : decode cX12_copy_ 53 = .ok (.ldc_w 409, 3) := by decide +kernel
theorem dX12_copy__56 : decode cX12_copy_ 56 = .ok (.istore 7, 2) := by decide +kernel
theorem dX12_copy__58 : decode cX12_copy_ 58 = .ok (.iconst 0, 1) := by decide +kernel
theorem dX12_copy__59 : decode cX12_copy_ 59 = .ok (.istore 8, 2) := by decide +kernel
theorem dX12_copy__61 : decode cX12_copy_ 61 = .ok (.iload 8, 2) := by decide +kernel
theorem dX12_copy__63 : decode cX12_copy_ 63 = .ok (.bipush 60, 2) := by decide +kernel
theorem dX12_copy__65 : decode cX12_copy_ 65 = .ok (.if_icmp .gt 52, 3) := by decide +kernel
theorem dX12_copy__68 : decode cX12_copy_ 68 = .ok (.iload 5, 2) := by decide +kernel
theorem dX12_copy__70 : decode cX12_copy_ 70 = .ok (.iconst (-1), 1) := by decide +kernel
theorem dX12_copy__71 : decode cX12_copy_ 71 = .ok (.if_icmp .eq 14, 3) := by decide +kernel
theorem dX12_copy__85 : decode cX12_copy_ 85 = .ok (.iconst 0, 1) := by decide +kernel
theorem dX12_copy__86 : decode cX12_copy_ 86 = .ok (.iload_n 2, 1) := by decide +kernel
theorem dX12_copy__87 : decode cX12_copy_ 87 = .ok (.iload 8, 2) := by decide +kernel
theorem dX12_copy__89 : decode cX12_copy_ 89 = .ok (.imul, 1) := by decide +kernel
theorem dX12_copy__90 : decode cX12_copy_ 90 = .ok (.isub, 1) := by decide +kernel
theorem dX12_copy__91 : decode cX12_copy_ 91 = .ok (.istore 9, 2) := by decide +kernel
theorem dX12_copy__93 : decode cX12_copy_ 93 = .ok (.iload 9, 2) := by decide +kernel
theorem dX12_copy__95 : decode cX12_copy_ 95 = .ok (.iload 7, 2) := by decide +kernel
theorem dX12_copy__97 : decode cX12_copy_ 97 = .ok (.if_icmp .lt 6, 3) := by decide +kernel
theorem dX12_copy__103 : decode cX12_copy_ 103 = .ok (.iload 9, 2) := by decide +kernel
theorem dX12_copy__105 : decode cX12_copy_ 105 = .ok (.istore 7, 2) := by decide +kernel
theorem dX12_copy__107 : decode cX12_copy_ 107 = .ok (.iload 8, 2) := by decide +kernel
theorem dX12_copy__109 : decode cX12_copy_ 109 = .ok (.istore 6, 2) := by decide +kernel
theorem dX12_copy__111 : decode cX12_copy_ 111 = .ok (.iinc 8 1, 3) := by decide +kernel
theorem dX12_copy__114 : decode cX12_copy_ 114 = .ok (.goto (-53), 3) := by decide +kernel
theorem dX12_copy__74 : decode cX12_copy_ 74 = .ok (.iload 5, 2) := by decide +kernel
theorem dX12_copy__76 : decode cX12_copy_ 76 = .ok (.iload 8, 2) := by decide +kernel
theorem dX12_copy__78 : decode cX12_copy_ 78 = .ok (.if_icmp .gt 7, 3) := by decide +kernel
theorem dX12_copy__81 : decode cX12_copy_ 81 = .ok (.iload_n 3, 1) := by decide +kernel
theorem dX12_copy__82 : decode cX12_copy_ 82 = .ok (.goto 4, 3) := by decide +kernel
theorem dX12_copy__100 : decode cX12_copy_ 100 = .ok (.goto 11, 3) := by decide +kernel
theorem dX12_copy__117 : decode cX12_copy_ 117 = .ok (.iload 4, 2) := by decide +kernel
theorem dX12_copy__119 : decode cX12_copy_ 119 = .ok (.ifCond .eq 8, 3) := by decide +kernel
theorem dX12_copy__127 : decode cX12_copy_ 127 = .ok (.iload 6, 2) := by decide +kernel
theorem dX12_copy__129 : decode cX12_copy_ 129 = .ok (.ireturn, 1) := by decide +kernel
theorem dX12_copy__122 : decode cX12_copy_ 122 = .ok (.iload 7, 2) := by decide +kernel
theorem dX12_copy__124 : decode cX12_copy_ 124 = .ok (.goto 5, 3) := by decide +kernel
theorem dX12_word_0 : decode cX12_word 0 = .ok (.iload_n 1, 1) := by decide +kernel
theorem dX12_word_1 : decode cX12_word 1 = .ok (.iconst (-1), 1) := by decide +kernel
theorem dX12_word_2 : decode cX12_word 2 = .ok (.if_icmp .ne 13, 3) := by decide +kernel
theorem dX12_word_15 : decode cX12_word 15 = .ok (.iload_n 1, 1) := by decide +kernel
theorem dX12_word_16 : decode cX12_word 16 = .ok (.iconst 1, 1) := by decide +kernel
theorem dX12_word_17 : decode cX12_word 17 = .ok (.bipush 99, 2) := by decide +kernel
theorem dX12_word_19 : decode cX12_word 19 = .ok (.invokestatic 69, 3) := by decide +kernel
theorem dX12_word_22 : decode cX12_word 22 = .ok (.ifCond .eq 26, 3) := by decide +kernel
theorem dX12_word_48 : decode cX12_word 48 = .ok (.bipush (-2), 2) := by decide +kernel
theorem dX12_word_50 : decode cX12_word 50 = .ok (.ireturn, 1) := by decide +kernel
theorem dX12_word_25 : decode cX12_word 25 = .ok (.iload_n 2, 1) := by decide +kernel
theorem dX12_word_26 : decode cX12_word 26 = .ok (.iconst 0, 1) := by decide +kernel
theorem dX12_word_27 : decode cX12_word 27 = .ok (.sipush 999, 3) := by decide +kernel
theorem dX12_word_30 : decode cX12_word 30 = .ok (.invokestatic 69, 3) := by decide +kernel
theorem dX12_word_33 : decode cX12_word 33 = .ok (.ifCond .eq 15, 3) := by decide +kernel
theorem dX12_word_36 : decode cX12_word 36 = .ok (.aload_n 0, 1) := by decide +kernel
theorem dX12_word_37 : decode cX12_word 37 = .ok (.getfield 7, 3) := by decide +kernel
theorem dX12_word_40 : decode cX12_word 40 = .ok (.bipush 6, 2) := by decide +kernel
theorem dX12_word_42 : decode cX12_word 42 = .ok (.iaload, 1) := by decide +kernel
theorem dX12_word_43 : decode cX12_word 43 = .ok (.bipush 8, 2) := by decide +kernel
theorem dX12_word_45 : decode cX12_word 45 = .ok (.if_icmp .ne 6, 3) := by decide +kernel
theorem dX12_word_51 : decode cX12_word 51 = .ok (.aload_n 0, 1) := by decide +kernel
theorem dX12_word_52 : decode cX12_word 52 = .ok (.getfield 7, 3) := by decide +kernel
theorem dX12_word_55 : decode cX12_word 55 = .ok (.sipush 160, 3) := by decide +kernel
theorem dX12_word_58 : decode cX12_word 58 = .ok (.iconst 2, 1) := by decide +kernel
theorem dX12_word_59 : decode cX12_word 59 = .ok (.aload_n 0, 1) := by decide +kernel
theorem dX12_word_60 : decode cX12_word 60 = .ok (.getfield 7, 3) := by decide +kernel
theorem dX12_word_63 : decode cX12_word 63 = .ok (.bipush 6, 2) := by decide +kernel
theorem dX12_word_65 : decode cX12_word 65 = .ok (.iaload, 1) := by decide +kernel
theorem dX12_word_66 : decode cX12_word 66 = .ok (.imul, 1) := by decide +kernel
theorem dX12_word_67 : decode cX12_word 67 = .ok (.iadd, 1) := by decide +kernel
theorem dX12_word_68 : decode cX12_word 68 = .ok (.iload_n 1, 1) := by decide +kernel
theorem dX12_word_69 : decode cX12_word 69 = .ok (.iastore, 1) := by decide +kernel
theorem dX12_word_70 : decode cX12_word 70 = .ok (.aload_n 0, 1) := by decide +kernel
theorem dX12_word_71 : decode cX12_word 71 = .ok (.getfield 7, 3) := by decide +kernel
theorem dX12_word_74 : decode cX12_word 74 = .ok (.sipush 160, 3) := by decide +kernel
theorem dX12_word_77 : decode cX12_word 77 = .ok (.iconst 2, 1) := by decide +kernel
theorem dX12_word_78 : decode cX12_word 78 = .ok (.aload_n 0, 1) := by decide +kernel
theorem dX12_word_79 : decode cX12_word 79 = .ok (.getfield 7, 3) := by decide +kernel
theorem dX12_word_82 : decode cX12_word 82 = .ok (.bipush 6, 2) := by decide +kernel
theorem dX12_word_84 : decode cX12_word 84 = .ok (.iaload, 1) := by decide +kernel
theorem dX12_word_85 : decode cX12_word 85 = .ok (.imul, 1) := by decide +kernel
theorem dX12_word_86 : decode cX12_word 86 = .ok (.iadd, 1) := by decide +kernel
theorem dX12_word_87 : decode cX12_word 87 = .ok (.iconst 1, 1) := by decide +kernel
theorem dX12_word_88 : decode cX12_word 88 = .ok (.iadd, 1) := by decide +kernel
theorem dX12_word_89 : decode cX12_word 89 = .ok (.iload_n 2, 1) := by decide +kernel
theorem dX12_word_90 : decode cX12_word 90 = .ok (.iastore, 1) := by decide +kernel
theorem dX12_word_91 : decode cX12_word 91 = .ok (.aload_n 0, 1) := by decide +kernel
theorem dX12_word_92 : decode cX12_word 92 = .ok (.getfield 7, 3) := by decide +kernel
theorem dX12_word_95 : decode cX12_word 95 = .ok (.bipush 6, 2) := by decide +kernel
theorem dX12_word_97 : decode cX12_word 97 = .ok (.dup2, 1) := by decide +kernel
theorem dX12_word_98 : decode cX12_word 98 = .ok (.iaload, 1) := by decide +kernel
theorem dX12_word_99 : decode cX12_word 99 = .ok (.iconst 1, 1) := by decide +kernel
theorem dX12_word_100 : decode cX12_word 100 = .ok (.iadd, 1) := by decide +kernel
theorem dX12_word_101 : decode cX12_word 101 = .ok (.iastore, 1) := by decide +kernel
theorem dX12_word_102 : decode cX12_word 102 = .ok (.aload_n 0, 1) := by decide +kernel
theorem dX12_word_103 : decode cX12_word 103 = .ok (.getfield 7, 3) := by decide +kernel
theorem dX12_word_106 : decode cX12_word 106 = .ok (.bipush 6, 2) := by decide +kernel
theorem dX12_word_108 : decode cX12_word 108 = .ok (.iaload, 1) := by decide +kernel
theorem dX12_word_109 : decode cX12_word 109 = .ok (.ireturn, 1) := by decide +kernel
theorem dX12_word_5 : decode cX12_word 5 = .ok (.aload_n 0, 1) := by decide +kernel
theorem dX12_word_6 : decode cX12_word 6 = .ok (.getfield 7, 3) := by decide +kernel
theorem dX12_word_9 : decode cX12_word 9 = .ok (.bipush 6, 2) := by decide +kernel
theorem dX12_word_11 : decode cX12_word 11 = .ok (.iconst 0, 1) := by decide +kernel
theorem dX12_word_12 : decode cX12_word 12 = .ok (.iastore, 1) := by decide +kernel
theorem dX12_word_13 : decode cX12_word 13 = .ok (.iconst 0, 1) := by decide +kernel
theorem dX12_word_14 : decode cX12_word 14 = .ok (.ireturn, 1) := by decide +kernel
theorem dX12_image_0 : decode cX12_image 0 = .ok (.aload_n 0, 1) := by decide +kernel
theorem dX12_image_1 : decode cX12_image 1 = .ok (.getfield 7, 3) := by decide +kernel
theorem dX12_image_4 : decode cX12_image 4 = .ok (.aload_n 0, 1) := by decide +kernel
theorem dX12_image_5 : decode cX12_image 5 = .ok (.getfield 13, 3) := by decide +kernel
theorem kf12_13 : inW (Cond.fieldLink RX12 13 "KneeOathsModel" "image" "[I") := ⟨List.mem_of_getElem? (i := 1499) (by decide +kernel), by decide +kernel⟩
theorem dX12_image_8 : decode cX12_image 8 = .ok (.invokestatic 65, 3) := by decide +kernel
theorem cw_X12_copy : CWs yX12_copy cX12_copy 3 none 2 := ⟨⟨⟨List.mem_of_getElem? (i := 137) (by decide +kernel), by decide +kernel⟩, ⟨List.mem_of_getElem? (i := 1497) (by decide +kernel), by decide +kernel⟩, by decide +kernel⟩, ⟨List.mem_of_getElem? (i := 1496) (by decide +kernel), by decide +kernel⟩⟩
theorem km12_65 : inW (Cond.methodLink RX12 65 yX12_copy) := ⟨List.mem_of_getElem? (i := 1495) (by decide +kernel), by decide +kernel⟩
theorem dX12_image_11 : decode cX12_image 11 = .ok (.aload_n 0, 1) := by decide +kernel
theorem dX12_image_12 : decode cX12_image 12 = .ok (.getfield 7, 3) := by decide +kernel
theorem dX12_image_15 : decode cX12_image 15 = .ok (.bipush 10, 2) := by decide +kernel
theorem dX12_image_17 : decode cX12_image 17 = .ok (.iaload, 1) := by decide +kernel
theorem dX12_image_18 : decode cX12_image 18 = .ok (.ireturn, 1) := by decide +kernel
theorem dX12_back_0 : decode cX12_back 0 = .ok (.aload_n 0, 1) := by decide +kernel
theorem dX12_back_1 : decode cX12_back 1 = .ok (.getfield 13, 3) := by decide +kernel
theorem dX12_back_4 : decode cX12_back 4 = .ok (.aload_n 0, 1) := by decide +kernel
theorem dX12_back_5 : decode cX12_back 5 = .ok (.getfield 7, 3) := by decide +kernel
theorem dX12_back_8 : decode cX12_back 8 = .ok (.invokestatic 65, 3) := by decide +kernel
theorem dX12_back_11 : decode cX12_back 11 = .ok (.aload_n 0, 1) := by decide +kernel
theorem dX12_back_12 : decode cX12_back 12 = .ok (.getfield 7, 3) := by decide +kernel
theorem dX12_back_15 : decode cX12_back 15 = .ok (.bipush 10, 2) := by decide +kernel
theorem dX12_back_17 : decode cX12_back 17 = .ok (.iaload, 1) := by decide +kernel
theorem dX12_back_18 : decode cX12_back 18 = .ok (.ireturn, 1) := by decide +kernel
set_option maxHeartbeats 4000000 in
set_option maxRecDepth 100000 in
theorem x_X12_fadesOf {l : Launch} {G : GG}  {L : List Nat} {f : HF} {ad : Nat → Nat → Nat} {w : WW} {pi : PIT} {g0 : Nat → Int32} {i1 : Int32} (I : SH (spM (IA 0 0 14 9999 w) pi (EQ g0) LDa) nnM G ad L f) (hB : BBp 0 0 14 9999 w) (hX : TX g0) (b_i1 : bn 0 13 i1) : PMi l yX12_fadesOf cX12_fadesOf 4 .int 9 0 0 G [.ref (ad 0 0), .int i1] L f (fun r L1 f1 => SH (spM (IA 0 0 14 9999 w) pi (EQ g0) LDa) nnM G ad L1 f1) := by
  refine PMi.of (post := fun r L1 f1 => SH (spM (IA 0 0 14 9999 w) pi (EQ g0) LDa) nnM G ad L1 f1) (own := RX12) (by decide) rfl (Nat.le_of_ble_eq_true rfl) (fun sz p e s m args below meth c A ls hA1 hname S Y hl => ?_)
  have hx := S.hx
  have hb := S.hb
  have hl : lv_has ls 4 [(0, .ref (ad 0 0)), (1, .int i1)] := hl
  have J_20 : ∀ (n20 : Nat) (y20_2 y20_3 : Int32) (L_20 : List Nat) (f_20 : HF) (H : Heap) (locs : List Loc) (ls : Array Slot), (SH (spM (IA 0 0 14 9999 w) pi (EQ g0) LDa) nnM G ad L_20 f_20) → (bn (-1) 60 y20_2) → (bn 1 61 y20_3) → (((61 : Int) - y20_3.toInt).toNat = n20) → (DY G A s [] L_20 f_20 H locs) → (lv_has ls 4 [(0, .ref (ad 0 0)), (1, .int i1), (2, .int y20_2), (3, .int y20_3)]) → W p l e (rmD 9 0 0) s m args below meth c H locs (0) (0) (MQ below (va_Qi (fun r (u : List Nat × HF) => (fun r L1 f1 => SH (spM (IA 0 0 14 9999 w) pi (EQ g0) LDa) nnM G ad L1 f1) r u.1 u.2) (fun u t => pOut G (va_A (va_pl L f) sz) u.1 u.2 t) (va_A (va_pl L f) sz)) args s 0 0 A) (F0 m 20 ls []) := by
    intro n20
    induction n20 using Nat.strongRecOn with
    | _ n20 ih20 =>
      intro y20_2 y20_3 L_20 f_20 H locs ls I b_y20_2 b_y20_3 hm20 Y hl
      refine lv_iload_n hx hb dX12_fadesOf_20 rfl (lv_at hl 3 rfl) ?_
      refine lv_bipush (v := 60) hx hb dX12_fadesOf_21 (by decide) ?_
      refine lv_icmp_gt (tgt := 74) hx hb dX12_fadesOf_23 (by decide) (fun c_82228 => ?_) (fun c_82228 => ?_)
      · have B_82229 : bn 61 61 y20_3 := bn_w (bn_ltr c_82228 (show bn 60 60 (60 : Int32) from bn_k (by decide)) b_y20_3) (by decide)
        refine lv_aload_n hx hb dX12_fadesOf_74 rfl (lv_at hl 0 rfl) ?_
        refine cVv (As := []) (rest := []) S Y (x_X12_putBack (l := l) I hB) cw_X12_putBack km12_402 (I.opo (k := 0) (j := 0) (by decide) rfl).choose_spec.1 ok_X12.1 rfl rfl ⟨Nat.le_of_ble_eq_true rfl, Nat.le_of_ble_eq_true rfl⟩ hl.1 rfl (Nat.le_of_ble_eq_true rfl) ⟨Nat.le_of_ble_eq_true rfl, Nat.le_of_ble_eq_true rfl⟩ dX12_fadesOf_75 (fun L_82231 f_82232 H locs I Y => ?_)
        refine lv_iload_n hx hb dX12_fadesOf_78 rfl (lv_at hl 2 rfl) ?_
        exact prI (post := fun r L1 f1 => SH (spM (IA 0 0 14 9999 w) pi (EQ g0) LDa) nnM G ad L1 f1) S Y rfl (by decide) (by decide) hA1 I dX12_fadesOf_79
      · have B_82230 : bn 1 60 y20_3 := bn_w (bn_ger c_82228 (show bn 60 60 (60 : Int32) from bn_k (by decide)) b_y20_3) (by decide)
        refine lv_iload_n hx hb dX12_fadesOf_26 rfl (lv_at hl 2 rfl) ?_
        refine lv_iconst (v := (-1)) hx hb dX12_fadesOf_27 (by decide) ?_
        refine lv_icmp_ne (tgt := 74) hx hb dX12_fadesOf_28 (by decide) (fun c_82233 => ?_) (fun c_82233 => ?_)
        · have B_82234 : bn 0 60 y20_2 := bn_w (bn_nel c_82233 b_y20_2 (show bn (-1) (-1) ((-1) : Int32) from bn_k (by decide))) (by decide)
          refine lv_aload_n hx hb dX12_fadesOf_74 rfl (lv_at hl 0 rfl) ?_
          refine cVv (As := []) (rest := []) S Y (x_X12_putBack (l := l) I hB) cw_X12_putBack km12_402 (I.opo (k := 0) (j := 0) (by decide) rfl).choose_spec.1 ok_X12.1 rfl rfl ⟨Nat.le_of_ble_eq_true rfl, Nat.le_of_ble_eq_true rfl⟩ hl.1 rfl (Nat.le_of_ble_eq_true rfl) ⟨Nat.le_of_ble_eq_true rfl, Nat.le_of_ble_eq_true rfl⟩ dX12_fadesOf_75 (fun L_82236 f_82237 H locs I Y => ?_)
          refine lv_iload_n hx hb dX12_fadesOf_78 rfl (lv_at hl 2 rfl) ?_
          exact prI (post := fun r L1 f1 => SH (spM (IA 0 0 14 9999 w) pi (EQ g0) LDa) nnM G ad L1 f1) S Y rfl (by decide) (by decide) hA1 I dX12_fadesOf_79
        · have B_82235 : bn (-1) (-1) y20_2 := bn_w (bn_eq c_82233 (show bn (-1) (-1) ((-1) : Int32) from bn_k (by decide))) (by decide)
          refine lv_aload_n hx hb dX12_fadesOf_31 rfl (lv_at hl 0 rfl) ?_
          obtain ⟨v_82238, v_82240, v_82242, v_82244, v_82246, v_82248, v_82250, v_82252, v_82253, v_82255, v_82257, v_82259, v_82261, v_82263, v_82265, v_82267, v_82269, v_82271, p_ad_0_0, b_82239, b_82241, b_82243, b_82245, b_82247, b_82249, b_82251, b_82254, b_82256, b_82258, b_82260, b_82262, b_82264, b_82266, b_82268, b_82270, b_82272⟩ := opnM_0 (j := 0) I (by decide)
          have p_ad_0_0 : pt L_20 f_20 (ad 0 0) (.inr (12, [.ref (ad 1 0), .ref (ad 2 0), .ref (ad 3 0), .ref (ad 4 0), .int v_82238, .int v_82240, .int v_82242, .int v_82244, .int v_82246, .int v_82248, .int v_82250, .long v_82252, .int v_82253, .int v_82255, .int v_82257, .ref (ad 5 0), .ref (ad 6 0), .int v_82259, .int v_82261, .int v_82263, .int v_82265, .int v_82267, .ref (ad 7 0), .ref (ad 8 0), .ref (ad 9 0), .int v_82269, .ref (ad 10 0), .ref (ad 11 0), .ref (ad 12 0), .ref (ad 13 0), .int v_82271, .ref (ad 14 0)])) := p_ad_0_0
          refine pg_get S Y ok_X12 0 (by decide) kf12_7 (v := .ref (ad 1 0)) p_ad_0_0 rfl dX12_fadesOf_32 ?_
          refine lv_bipush (v := 10) hx hb dX12_fadesOf_35 (by decide) ?_
          obtain ⟨g_82273, p_ad_1_0, o_82274⟩ := I.opi (k := 1) (j := 0) (by decide) rfl
          have p_ad_1_0 : pt L_20 f_20 (ad 1 0) (.inl (G.2 0, 10568, .inl g_82273)) := p_ad_1_0
          obtain ⟨v_82275, ev_82275⟩ : ∃ z, z = g_82273 (10 : Int32).toNatClampNeg := ⟨_, rfl⟩
          refine pg_iald S Y (v := v_82275) p_ad_1_0 (by unfold vp_in; decide) ev_82275.symm dX12_fadesOf_37 ?_
          have bv_82275 : bn 0 9999 v_82275 := bn_eq ev_82275 (IA_10 o_82274)
          refine lv_sipush (v := 9999) hx hb dX12_fadesOf_38 (by decide) ?_
          refine lv_icmp_ge (tgt := 74) hx hb dX12_fadesOf_41 (by decide) (fun c_82276 => ?_) (fun c_82276 => ?_)
          · have B_82277 : bn 9999 9999 v_82275 := bn_w (bn_ler c_82276 (show bn 9999 9999 (9999 : Int32) from bn_k (by decide)) bv_82275) (by decide)
            refine lv_aload_n hx hb dX12_fadesOf_74 rfl (lv_at hl 0 rfl) ?_
            refine cVv (As := []) (rest := []) S Y (x_X12_putBack (l := l) I hB) cw_X12_putBack km12_402 p_ad_0_0 ok_X12.1 rfl rfl ⟨Nat.le_of_ble_eq_true rfl, Nat.le_of_ble_eq_true rfl⟩ hl.1 rfl (Nat.le_of_ble_eq_true rfl) ⟨Nat.le_of_ble_eq_true rfl, Nat.le_of_ble_eq_true rfl⟩ dX12_fadesOf_75 (fun L_82279 f_82280 H locs I Y => ?_)
            refine lv_iload_n hx hb dX12_fadesOf_78 rfl (lv_at hl 2 rfl) ?_
            exact prI (post := fun r L1 f1 => SH (spM (IA 0 0 14 9999 w) pi (EQ g0) LDa) nnM G ad L1 f1) S Y rfl (by decide) (by decide) hA1 I dX12_fadesOf_79
          · have B_82278 : bn 0 9998 v_82275 := bn_w (bn_gtr c_82276 (show bn 9999 9999 (9999 : Int32) from bn_k (by decide)) bv_82275) (by decide)
            have o_82281 : (IA 0 0 14 9998 w) g_82273 := (IA_dh o_82274 (by rw [show g_82273 10 = v_82275 from ev_82275.symm]; exact bn_w B_82278 (by decide)))
            have I := I.castS (sp' := spM (IA 0 0 14 9998 w) pi (EQ g0) LDa) (k := 1) (j := 0) (by decide) p_ad_1_0 (okE_a (g := g_82273) o_82281) pAC
            refine lv_aload_n hx hb dX12_fadesOf_44 rfl (lv_at hl 0 rfl) ?_
            refine lv_aload_n hx hb dX12_fadesOf_45 rfl (lv_at hl 0 rfl) ?_
            refine lv_iload_n hx hb dX12_fadesOf_46 rfl (lv_at hl 1 rfl) ?_
            refine lv_iconst (v := 1) hx hb dX12_fadesOf_47 (by decide) ?_
            refine cVp (As := [.int i1, .int 1]) (rest := [.ref (ad 0 0)]) S Y (x_X12_getON (l := l) I (BB_dh hB (by decide)) (bn_w b_i1 (by decide)) (bn_w (show bn 1 1 (1 : Int32) from bn_k (by decide)) (by decide))) cw_X12_get km12_73 p_ad_0_0 ok_X12.1 rfl rfl ⟨Nat.le_of_ble_eq_true rfl, Nat.le_of_ble_eq_true rfl⟩ hl.1 rfl (Nat.le_of_ble_eq_true rfl) ⟨Nat.le_of_ble_eq_true rfl, Nat.le_of_ble_eq_true rfl⟩ dX12_fadesOf_48 (fun r_82282 H locs er_82282 Y => ?_)
            refine cVv (As := [.int r_82282]) (rest := []) S Y (x_X12_kneelNow (l := l) I (BB_dh hB (by decide)) hX) cw_X12_kneelNow km12_345 p_ad_0_0 ok_X12.1 rfl rfl ⟨Nat.le_of_ble_eq_true rfl, Nat.le_of_ble_eq_true rfl⟩ hl.1 rfl (Nat.le_of_ble_eq_true rfl) ⟨Nat.le_of_ble_eq_true rfl, Nat.le_of_ble_eq_true rfl⟩ dX12_fadesOf_51 (fun L_82283 f_82284 H locs I Y => ?_)
            refine lv_aload_n hx hb dX12_fadesOf_54 rfl (lv_at hl 0 rfl) ?_
            refine cVv (As := []) (rest := []) S Y (x_X12_pass (l := l) I (BB_dh hB (by decide)) hX) cw_X12_pass km12_357 (I.opo (k := 0) (j := 0) (by decide) rfl).choose_spec.1 ok_X12.1 rfl rfl ⟨Nat.le_of_ble_eq_true rfl, Nat.le_of_ble_eq_true rfl⟩ hl.1 rfl (Nat.le_of_ble_eq_true rfl) ⟨Nat.le_of_ble_eq_true rfl, Nat.le_of_ble_eq_true rfl⟩ dX12_fadesOf_55 (fun L_82285 f_82286 H locs I Y => ?_)
            refine lv_aload_n hx hb dX12_fadesOf_58 rfl (lv_at hl 0 rfl) ?_
            refine lv_iload_n hx hb dX12_fadesOf_59 rfl (lv_at hl 1 rfl) ?_
            refine cVp (As := [.int i1]) (rest := []) S Y (x_X12_isLegible (l := l) I (BB_dh (BB_dh (dh2 := 9998) hB (by decide)) (by decide)) (bn_w b_i1 (by decide))) cw_X12_isLegible km12_77 (I.opo (k := 0) (j := 0) (by decide) rfl).choose_spec.1 ok_X12.1 rfl rfl ⟨Nat.le_of_ble_eq_true rfl, Nat.le_of_ble_eq_true rfl⟩ hl.1 rfl (Nat.le_of_ble_eq_true rfl) ⟨Nat.le_of_ble_eq_true rfl, Nat.le_of_ble_eq_true rfl⟩ dX12_fadesOf_60 (fun r_82287 H locs er_82287 Y => ?_)
            refine lv_if_ne (tgt := 68) hx hb dX12_fadesOf_63 (by decide) (fun c_82288 => ?_) (fun c_82288 => ?_)
            · have B_82289 : bn 1 1 r_82287 := bn_w (bn_nel c_82288 er_82287 (show bn 0 0 (0 : Int32) from bn_k (by decide))) (by decide)
              obtain ⟨x_82291, ex_82291⟩ : ∃ z : Int32, z = y20_3 + 1 := ⟨_, rfl⟩
              refine lv_iinc (v := x_82291) (lv' := [(3, .int x_82291), (0, .ref (ad 0 0)), (1, .int i1), (2, .int y20_2)]) hx hb dX12_fadesOf_68 hl (k := 3) rfl (by rw [ex_82291]; rfl) (by decide) rfl (fun ls hl => ?_)
              refine lv_goto (tgt := 20) hx hb dX12_fadesOf_71 (by decide) ?_
              exact ih20 _ (by rw [← hm20]; exact ms_up (m := 1) ex_82291 (show bn 1 1 (1 : Int32) from bn_k (by decide)) B_82230 (bn_w (bn_eq ex_82291 (bn_add B_82230 (show bn 1 1 (1 : Int32) from bn_k (by decide)) (by decide))) (by decide) : bn 1 61 x_82291) (by decide)) y20_2 x_82291 _ _  _ _ _ I (bn_w B_82235 (by decide)) (bn_w (bn_eq ex_82291 (bn_add B_82230 (show bn 1 1 (1 : Int32) from bn_k (by decide)) (by decide))) (by decide)) rfl Y (lv_sub hl [1, 2, 3, 0] rfl)
            · have B_82290 : bn 0 0 r_82287 := bn_w (bn_eq c_82288 (show bn 0 0 (0 : Int32) from bn_k (by decide))) (by decide)
              refine lv_iload_n hx hb dX12_fadesOf_66 rfl (lv_at hl 3 rfl) ?_
              refine lv_istore_n (lv' := [(2, .int y20_3), (0, .ref (ad 0 0)), (1, .int i1), (3, .int y20_3)]) hx hb dX12_fadesOf_67 rfl hl (by decide) rfl (fun ls hl => ?_)
              obtain ⟨x_82292, ex_82292⟩ : ∃ z : Int32, z = y20_3 + 1 := ⟨_, rfl⟩
              refine lv_iinc (v := x_82292) (lv' := [(3, .int x_82292), (2, .int y20_3), (0, .ref (ad 0 0)), (1, .int i1)]) hx hb dX12_fadesOf_68 hl (k := 3) rfl (by rw [ex_82292]; rfl) (by decide) rfl (fun ls hl => ?_)
              refine lv_goto (tgt := 20) hx hb dX12_fadesOf_71 (by decide) ?_
              exact ih20 _ (by rw [← hm20]; exact ms_up (m := 1) ex_82292 (show bn 1 1 (1 : Int32) from bn_k (by decide)) B_82230 (bn_w (bn_eq ex_82292 (bn_add B_82230 (show bn 1 1 (1 : Int32) from bn_k (by decide)) (by decide))) (by decide) : bn 1 61 x_82292) (by decide)) y20_3 x_82292 _ _  _ _ _ I (bn_w B_82230 (by decide)) (bn_w (bn_eq ex_82292 (bn_add B_82230 (show bn 1 1 (1 : Int32) from bn_k (by decide)) (by decide))) (by decide)) rfl Y (lv_sub hl [2, 3, 1, 0] rfl)
  refine lv_aload_n hx hb dX12_fadesOf_0 rfl (lv_at hl 0 rfl) ?_
  refine cVv (As := []) (rest := []) S Y (x_X12_setAside (l := l) I hB) cw_X12_setAside km12_399 (I.opo (k := 0) (j := 0) (by decide) rfl).choose_spec.1 ok_X12.1 rfl rfl ⟨Nat.le_of_ble_eq_true rfl, Nat.le_of_ble_eq_true rfl⟩ hl.1 rfl (Nat.le_of_ble_eq_true rfl) ⟨Nat.le_of_ble_eq_true rfl, Nat.le_of_ble_eq_true rfl⟩ dX12_fadesOf_1 (fun L_82293 f_82294 H locs I Y => ?_)
  refine lv_aload_n hx hb dX12_fadesOf_4 rfl (lv_at hl 0 rfl) ?_
  refine lv_iload_n hx hb dX12_fadesOf_5 rfl (lv_at hl 1 rfl) ?_
  refine cVp (As := [.int i1]) (rest := []) S Y (x_X12_isLegible (l := l) I hB (bn_w b_i1 (by decide))) cw_X12_isLegible km12_77 (I.opo (k := 0) (j := 0) (by decide) rfl).choose_spec.1 ok_X12.1 rfl rfl ⟨Nat.le_of_ble_eq_true rfl, Nat.le_of_ble_eq_true rfl⟩ hl.1 rfl (Nat.le_of_ble_eq_true rfl) ⟨Nat.le_of_ble_eq_true rfl, Nat.le_of_ble_eq_true rfl⟩ dX12_fadesOf_6 (fun r_82295 H locs er_82295 Y => ?_)
  refine lv_if_eq (tgt := 16) hx hb dX12_fadesOf_9 (by decide) (fun c_82296 => ?_) (fun c_82296 => ?_)
  · have B_82297 : bn 0 0 r_82295 := bn_w (bn_eq c_82296 (show bn 0 0 (0 : Int32) from bn_k (by decide))) (by decide)
    refine lv_iconst (v := 0) hx hb dX12_fadesOf_16 (by decide) ?_
    refine lv_istore_n (lv' := [(2, .int 0), (0, .ref (ad 0 0)), (1, .int i1)]) hx hb dX12_fadesOf_17 rfl hl (by decide) rfl (fun ls hl => ?_)
    refine lv_iconst (v := 1) hx hb dX12_fadesOf_18 (by decide) ?_
    refine lv_istore_n (lv' := [(3, .int 1), (2, .int 0), (0, .ref (ad 0 0)), (1, .int i1)]) hx hb dX12_fadesOf_19 rfl hl (by decide) rfl (fun ls hl => ?_)
    exact J_20 _ 0 1 _ _  _ _ _ I (bn_w (show bn 0 0 (0 : Int32) from bn_k (by decide)) (by decide)) (bn_w (show bn 1 1 (1 : Int32) from bn_k (by decide)) (by decide)) rfl Y (lv_sub hl [2, 3, 1, 0] rfl)
  · have B_82298 : bn 1 1 r_82295 := bn_w (bn_nel c_82296 er_82295 (show bn 0 0 (0 : Int32) from bn_k (by decide))) (by decide)
    refine lv_iconst (v := (-1)) hx hb dX12_fadesOf_12 (by decide) ?_
    refine lv_goto (tgt := 17) hx hb dX12_fadesOf_13 (by decide) ?_
    refine lv_istore_n (lv' := [(2, .int (-1)), (0, .ref (ad 0 0)), (1, .int i1)]) hx hb dX12_fadesOf_17 rfl hl (by decide) rfl (fun ls hl => ?_)
    refine lv_iconst (v := 1) hx hb dX12_fadesOf_18 (by decide) ?_
    refine lv_istore_n (lv' := [(3, .int 1), (2, .int (-1)), (0, .ref (ad 0 0)), (1, .int i1)]) hx hb dX12_fadesOf_19 rfl hl (by decide) rfl (fun ls hl => ?_)
    exact J_20 _ (-1) 1 _ _  _ _ _ I (bn_w (show bn (-1) (-1) ((-1) : Int32) from bn_k (by decide)) (by decide)) (bn_w (show bn 1 1 (1 : Int32) from bn_k (by decide)) (by decide)) rfl Y (lv_sub hl [2, 3, 1, 0] rfl)
set_option maxHeartbeats 4000000 in
set_option maxRecDepth 100000 in
theorem x_X12_fades {l : Launch} {G : GG}  {L : List Nat} {f : HF} {ad : Nat → Nat → Nat} {w : WW} {pi : PIT} {g0 : Nat → Int32} {i1 : Int32} (I : SH (spM (IA 0 0 14 9999 w) pi (EQ g0) LDa) nnM G ad L f) (hB : BBp 0 0 14 9999 w) (hX : TX g0) : PMi l yX12_fades cX12_fades 2 .int 10 0 0 G [.ref (ad 0 0), .int i1] L f (fun r L1 f1 => SH (spM (IA 0 0 14 9999 w) pi (EQ g0) LDa) nnM G ad L1 f1) := by
  refine PMi.of (post := fun r L1 f1 => SH (spM (IA 0 0 14 9999 w) pi (EQ g0) LDa) nnM G ad L1 f1) (own := RX12) (by decide) rfl (Nat.le_of_ble_eq_true rfl) (fun sz p e s m args below meth c A ls hA1 hname S Y hl => ?_)
  have hx := S.hx
  have hb := S.hb
  have hl : lv_has ls 2 [(0, .ref (ad 0 0)), (1, .int i1)] := hl
  refine lv_aload_n hx hb dX12_fades_0 rfl (lv_at hl 0 rfl) ?_
  refine lv_iload_n hx hb dX12_fades_1 rfl (lv_at hl 1 rfl) ?_
  refine cVp (As := [.int i1]) (rest := []) S Y (x_X12_isOath (l := l) I hB) cw_X12_isOath km12_339 (I.opo (k := 0) (j := 0) (by decide) rfl).choose_spec.1 ok_X12.1 rfl rfl ⟨Nat.le_of_ble_eq_true rfl, Nat.le_of_ble_eq_true rfl⟩ hl.1 rfl (Nat.le_of_ble_eq_true rfl) ⟨Nat.le_of_ble_eq_true rfl, Nat.le_of_ble_eq_true rfl⟩ dX12_fades_2 (fun r_82321 H locs er_82321 Y => ?_)
  refine lv_if_eq (tgt := 26) hx hb dX12_fades_5 (by decide) (fun c_82322 => ?_) (fun c_82322 => ?_)
  · have B_82323 : bn 0 0 r_82321 := bn_w (bn_eq c_82322 (show bn 0 0 (0 : Int32) from bn_k (by decide))) (by decide)
    refine lv_iconst (v := (-1)) hx hb dX12_fades_26 (by decide) ?_
    exact prI (post := fun r L1 f1 => SH (spM (IA 0 0 14 9999 w) pi (EQ g0) LDa) nnM G ad L1 f1) S Y rfl (by decide) (by decide) hA1 I dX12_fades_27
  · have B_82324 : bn 0 13 i1 := bn_w (bn_i (bn_any i1) (er_82321.2 c_82322)) (by decide)
    have B_82325 : bn 1 1 r_82321 := bn_w (bn_nel c_82322 er_82321.1 (show bn 0 0 (0 : Int32) from bn_k (by decide))) (by decide)
    refine lv_aload_n hx hb dX12_fades_8 rfl (lv_at hl 0 rfl) ?_
    refine lv_iload_n hx hb dX12_fades_9 rfl (lv_at hl 1 rfl) ?_
    refine lv_iconst (v := 4) hx hb dX12_fades_10 (by decide) ?_
    refine cVp (As := [.int i1, .int 4]) (rest := []) S Y (x_X12_get (l := l) I hB (bn_w B_82324 (by decide)) (bn_w (show bn 4 4 (4 : Int32) from bn_k (by decide)) (by decide))) cw_X12_get km12_73 (I.opo (k := 0) (j := 0) (by decide) rfl).choose_spec.1 ok_X12.1 rfl rfl ⟨Nat.le_of_ble_eq_true rfl, Nat.le_of_ble_eq_true rfl⟩ hl.1 rfl (Nat.le_of_ble_eq_true rfl) ⟨Nat.le_of_ble_eq_true rfl, Nat.le_of_ble_eq_true rfl⟩ dX12_fades_11 (fun r_82326 H locs er_82326 Y => ?_)
    refine lv_iconst (v := 2) hx hb dX12_fades_14 (by decide) ?_
    refine lv_icmp_eq (tgt := 26) hx hb dX12_fades_15 (by decide) (fun c_82327 => ?_) (fun c_82327 => ?_)
    · have B_82328 : bn 2 2 r_82326 := bn_w (bn_eq c_82327 (show bn 2 2 (2 : Int32) from bn_k (by decide))) (by decide)
      refine lv_iconst (v := (-1)) hx hb dX12_fades_26 (by decide) ?_
      exact prI (post := fun r L1 f1 => SH (spM (IA 0 0 14 9999 w) pi (EQ g0) LDa) nnM G ad L1 f1) S Y rfl (by decide) (by decide) hA1 I dX12_fades_27
    · refine lv_aload_n hx hb dX12_fades_18 rfl (lv_at hl 0 rfl) ?_
      refine lv_iload_n hx hb dX12_fades_19 rfl (lv_at hl 1 rfl) ?_
      refine cVi (As := [.int i1]) (rest := []) S Y (x_X12_fadesOf (l := l) I hB hX (bn_w B_82324 (by decide))) cw_X12_fadesOf km12_405 (I.opo (k := 0) (j := 0) (by decide) rfl).choose_spec.1 ok_X12.1 rfl rfl ⟨Nat.le_of_ble_eq_true rfl, Nat.le_of_ble_eq_true rfl⟩ hl.1 rfl (Nat.le_of_ble_eq_true rfl) ⟨Nat.le_of_ble_eq_true rfl, Nat.le_of_ble_eq_true rfl⟩ dX12_fades_20 (fun r_82331 L_82329 f_82330 H locs I Y => ?_)
      refine lv_goto (tgt := 27) hx hb dX12_fades_23 (by decide) ?_
      exact prI (post := fun r L1 f1 => SH (spM (IA 0 0 14 9999 w) pi (EQ g0) LDa) nnM G ad L1 f1) S Y rfl (by decide) (by decide) hA1 I dX12_fades_27
set_option maxHeartbeats 4000000 in
set_option maxRecDepth 100000 in
theorem x_X12_copy_ {l : Launch} {G : GG}  {L : List Nat} {f : HF} {ad : Nat → Nat → Nat} {w : WW} {pi : PIT} {g0 : Nat → Int32} {i1 i2 i3 i4 : Int32} (I : SH (spM (IA 0 0 14 9999 w) pi (EQ g0) LDa) nnM G ad L f) (hB : BBp 0 0 14 9999 w) (hX : TX g0) (b_i4 : bn 0 1 i4) : PMi l yX12_copy_ cX12_copy_ 10 .int 10 0 0 G [.ref (ad 0 0), .int i1, .int i2, .int i3, .int i4] L f (fun r L1 f1 => SH (spM (IA 0 0 14 9999 w) pi (EQ g0) LDa) nnM G ad L1 f1) := by
  refine PMi.of (post := fun r L1 f1 => SH (spM (IA 0 0 14 9999 w) pi (EQ g0) LDa) nnM G ad L1 f1) (own := RX12) (by decide) rfl (Nat.le_of_ble_eq_true rfl) (fun sz p e s m args below meth c A ls hA1 hname S Y hl => ?_)
  have hx := S.hx
  have hb := S.hb
  have hl : lv_has ls 10 [(0, .ref (ad 0 0)), (1, .int i1), (2, .int i2), (3, .int i3), (4, .int i4)] := hl
  have J_61 : ∀ (n61 : Nat) (y61_5 y61_6 y61_7 y61_8 : Int32) (L_61 : List Nat) (f_61 : HF) (H : Heap) (locs : List Loc) (ls : Array Slot), (SH (spM (IA 0 0 14 9999 w) pi (EQ g0) LDa) nnM G ad L_61 f_61) → (bn (-1) 60 y61_6) → (bn (-10000) 1000000000 y61_7) → (bn 0 61 y61_8) → (bn 0 13 i1) → (bn 0 99 i2) → (bn 0 9999 i3) → (((61 : Int) - y61_8.toInt).toNat = n61) → (DY G A s [] L_61 f_61 H locs) → (lv_has ls 10 [(0, .ref (ad 0 0)), (1, .int i1), (2, .int i2), (3, .int i3), (4, .int i4), (5, .int y61_5), (6, .int y61_6), (7, .int y61_7), (8, .int y61_8)]) → W p l e (rmD 10 0 0) s m args below meth c H locs (0) (0) (MQ below (va_Qi (fun r (u : List Nat × HF) => (fun r L1 f1 => SH (spM (IA 0 0 14 9999 w) pi (EQ g0) LDa) nnM G ad L1 f1) r u.1 u.2) (fun u t => pOut G (va_A (va_pl L f) sz) u.1 u.2 t) (va_A (va_pl L f) sz)) args s 0 0 A) (F0 m 61 ls []) := by
    intro n61
    induction n61 using Nat.strongRecOn with
    | _ n61 ih61 =>
      intro y61_5 y61_6 y61_7 y61_8 L_61 f_61 H locs ls I b_y61_6 b_y61_7 b_y61_8 b61_i1 b61_i2 b61_i3 hm61 Y hl
      refine lv_iload hx hb dX12_copy__61 (lv_at hl 8 rfl) ?_
      refine lv_bipush (v := 60) hx hb dX12_copy__63 (by decide) ?_
      refine lv_icmp_gt (tgt := 117) hx hb dX12_copy__65 (by decide) (fun c_83076 => ?_) (fun c_83076 => ?_)
      · have B_83077 : bn 61 61 y61_8 := bn_w (bn_ltr c_83076 (show bn 60 60 (60 : Int32) from bn_k (by decide)) b_y61_8) (by decide)
        refine lv_iload hx hb dX12_copy__117 (lv_at hl 4 rfl) ?_
        refine lv_if_eq (tgt := 127) hx hb dX12_copy__119 (by decide) (fun c_83079 => ?_) (fun c_83079 => ?_)
        · have B_83080 : bn 0 0 i4 := bn_w (bn_eq c_83079 (show bn 0 0 (0 : Int32) from bn_k (by decide))) (by decide)
          refine lv_iload hx hb dX12_copy__127 (lv_at hl 6 rfl) ?_
          exact prI (post := fun r L1 f1 => SH (spM (IA 0 0 14 9999 w) pi (EQ g0) LDa) nnM G ad L1 f1) S Y rfl (by decide) (by decide) hA1 I dX12_copy__129
        · have B_83081 : bn 1 1 i4 := bn_w (bn_nel c_83079 b_i4 (show bn 0 0 (0 : Int32) from bn_k (by decide))) (by decide)
          refine lv_iload hx hb dX12_copy__122 (lv_at hl 7 rfl) ?_
          refine lv_goto (tgt := 129) hx hb dX12_copy__124 (by decide) ?_
          exact prI (post := fun r L1 f1 => SH (spM (IA 0 0 14 9999 w) pi (EQ g0) LDa) nnM G ad L1 f1) S Y rfl (by decide) (by decide) hA1 I dX12_copy__129
      · have B_83078 : bn 0 60 y61_8 := bn_w (bn_ger c_83076 (show bn 60 60 (60 : Int32) from bn_k (by decide)) b_y61_8) (by decide)
        refine lv_iload hx hb dX12_copy__68 (lv_at hl 5 rfl) ?_
        refine lv_iconst (v := (-1)) hx hb dX12_copy__70 (by decide) ?_
        refine lv_icmp_eq (tgt := 85) hx hb dX12_copy__71 (by decide) (fun c_83082 => ?_) (fun c_83082 => ?_)
        · have B_83083 : bn (-1) (-1) y61_5 := bn_w (bn_eq c_83082 (show bn (-1) (-1) ((-1) : Int32) from bn_k (by decide))) (by decide)
          refine lv_iconst (v := 0) hx hb dX12_copy__85 (by decide) ?_
          refine lv_iload_n hx hb dX12_copy__86 rfl (lv_at hl 2 rfl) ?_
          refine lv_iload hx hb dX12_copy__87 (lv_at hl 8 rfl) ?_
          refine lv_imul hx hb dX12_copy__89 ?_
          refine lv_topi (fun x_83084 ex_83084 => ?_)
          refine lv_isub hx hb dX12_copy__90 ?_
          refine lv_topi (fun x_83085 ex_83085 => ?_)
          refine lv_istore (lv' := [(9, .int x_83085), (0, .ref (ad 0 0)), (1, .int i1), (2, .int i2), (3, .int i3), (4, .int i4), (5, .int y61_5), (6, .int y61_6), (7, .int y61_7), (8, .int y61_8)]) hx hb dX12_copy__91 hl (by decide) rfl (fun ls hl => ?_)
          refine lv_iload hx hb dX12_copy__93 (lv_at hl 0 rfl) ?_
          refine lv_iload hx hb dX12_copy__95 (lv_at hl 8 rfl) ?_
          refine lv_icmp_lt (tgt := 103) hx hb dX12_copy__97 (by decide) (fun c_83086 => ?_) (fun c_83086 => ?_)
          · have B_83087 : bn (-5939) 1000000000 y61_7 := bn_w (bn_ltr c_83086 (bn_eq ex_83085 (bn_sub (show bn 0 0 (0 : Int32) from bn_k (by decide)) (bn_eq ex_83084 (bn_mul b61_i2 B_83078 (by decide))) (by decide))) b_y61_7) (by decide)
            refine lv_iload hx hb dX12_copy__103 (lv_at hl 0 rfl) ?_
            refine lv_istore (lv' := [(7, .int x_83085), (9, .int x_83085), (0, .ref (ad 0 0)), (1, .int i1), (2, .int i2), (3, .int i3), (4, .int i4), (5, .int y61_5), (6, .int y61_6), (8, .int y61_8)]) hx hb dX12_copy__105 hl (by decide) rfl (fun ls hl => ?_)
            refine lv_iload hx hb dX12_copy__107 (lv_at hl 9 rfl) ?_
            refine lv_istore (lv' := [(6, .int y61_8), (7, .int x_83085), (9, .int x_83085), (0, .ref (ad 0 0)), (1, .int i1), (2, .int i2), (3, .int i3), (4, .int i4), (5, .int y61_5), (8, .int y61_8)]) hx hb dX12_copy__109 hl (by decide) rfl (fun ls hl => ?_)
            obtain ⟨x_83089, ex_83089⟩ : ∃ z : Int32, z = y61_8 + 1 := ⟨_, rfl⟩
            refine lv_iinc (v := x_83089) (lv' := [(8, .int x_83089), (6, .int y61_8), (7, .int x_83085), (9, .int x_83085), (0, .ref (ad 0 0)), (1, .int i1), (2, .int i2), (3, .int i3), (4, .int i4), (5, .int y61_5)]) hx hb dX12_copy__111 hl (k := 9) rfl (by rw [ex_83089]; rfl) (by decide) rfl (fun ls hl => ?_)
            refine lv_goto (tgt := 61) hx hb dX12_copy__114 (by decide) ?_
            exact ih61 _ (by rw [← hm61]; exact ms_up (m := 1) ex_83089 (show bn 1 1 (1 : Int32) from bn_k (by decide)) B_83078 (bn_w (bn_eq ex_83089 (bn_add B_83078 (show bn 1 1 (1 : Int32) from bn_k (by decide)) (by decide))) (by decide) : bn 0 61 x_83089) (by decide)) y61_5 y61_8 x_83085 x_83089 _ _  _ _ _ I (bn_w B_83078 (by decide)) (bn_w (bn_eq ex_83085 (bn_sub (show bn 0 0 (0 : Int32) from bn_k (by decide)) (bn_eq ex_83084 (bn_mul b61_i2 B_83078 (by decide))) (by decide))) (by decide)) (bn_w (bn_eq ex_83089 (bn_add B_83078 (show bn 1 1 (1 : Int32) from bn_k (by decide)) (by decide))) (by decide)) (bn_w b61_i1 (by decide)) (bn_w b61_i2 (by decide)) (bn_w b61_i3 (by decide)) rfl Y (lv_sub hl [4, 5, 6, 7, 8, 9, 1, 2, 0] rfl)
          · have B_83088 : bn (-10000) 0 y61_7 := bn_w (bn_ger c_83086 (bn_eq ex_83085 (bn_sub (show bn 0 0 (0 : Int32) from bn_k (by decide)) (bn_eq ex_83084 (bn_mul b61_i2 B_83078 (by decide))) (by decide))) b_y61_7) (by decide)
            refine lv_goto (tgt := 111) hx hb dX12_copy__100 (by decide) ?_
            obtain ⟨x_83090, ex_83090⟩ : ∃ z : Int32, z = y61_8 + 1 := ⟨_, rfl⟩
            refine lv_iinc (v := x_83090) (lv' := [(8, .int x_83090), (9, .int x_83085), (0, .ref (ad 0 0)), (1, .int i1), (2, .int i2), (3, .int i3), (4, .int i4), (5, .int y61_5), (6, .int y61_6), (7, .int y61_7)]) hx hb dX12_copy__111 hl (k := 9) rfl (by rw [ex_83090]; rfl) (by decide) rfl (fun ls hl => ?_)
            refine lv_goto (tgt := 61) hx hb dX12_copy__114 (by decide) ?_
            exact ih61 _ (by rw [← hm61]; exact ms_up (m := 1) ex_83090 (show bn 1 1 (1 : Int32) from bn_k (by decide)) B_83078 (bn_w (bn_eq ex_83090 (bn_add B_83078 (show bn 1 1 (1 : Int32) from bn_k (by decide)) (by decide))) (by decide) : bn 0 61 x_83090) (by decide)) y61_5 y61_6 y61_7 x_83090 _ _  _ _ _ I (bn_w b_y61_6 (by decide)) (bn_w B_83088 (by decide)) (bn_w (bn_eq ex_83090 (bn_add B_83078 (show bn 1 1 (1 : Int32) from bn_k (by decide)) (by decide))) (by decide)) (bn_w b61_i1 (by decide)) (bn_w b61_i2 (by decide)) (bn_w b61_i3 (by decide)) rfl Y (lv_sub hl [2, 3, 4, 5, 6, 7, 8, 9, 0] rfl)
        · refine lv_iload hx hb dX12_copy__74 (lv_at hl 5 rfl) ?_
          refine lv_iload hx hb dX12_copy__76 (lv_at hl 8 rfl) ?_
          refine lv_icmp_gt (tgt := 85) hx hb dX12_copy__78 (by decide) (fun c_83091 => ?_) (fun c_83091 => ?_)
          · have B_83092 : bn 1 2147483647 y61_5 := bn_w (bn_ltr c_83091 B_83078 (bn_any y61_5)) (by decide)
            refine lv_iconst (v := 0) hx hb dX12_copy__85 (by decide) ?_
            refine lv_iload_n hx hb dX12_copy__86 rfl (lv_at hl 2 rfl) ?_
            refine lv_iload hx hb dX12_copy__87 (lv_at hl 8 rfl) ?_
            refine lv_imul hx hb dX12_copy__89 ?_
            refine lv_topi (fun x_83094 ex_83094 => ?_)
            refine lv_isub hx hb dX12_copy__90 ?_
            refine lv_topi (fun x_83095 ex_83095 => ?_)
            refine lv_istore (lv' := [(9, .int x_83095), (0, .ref (ad 0 0)), (1, .int i1), (2, .int i2), (3, .int i3), (4, .int i4), (5, .int y61_5), (6, .int y61_6), (7, .int y61_7), (8, .int y61_8)]) hx hb dX12_copy__91 hl (by decide) rfl (fun ls hl => ?_)
            refine lv_iload hx hb dX12_copy__93 (lv_at hl 0 rfl) ?_
            refine lv_iload hx hb dX12_copy__95 (lv_at hl 8 rfl) ?_
            refine lv_icmp_lt (tgt := 103) hx hb dX12_copy__97 (by decide) (fun c_83096 => ?_) (fun c_83096 => ?_)
            · have B_83097 : bn (-5939) 1000000000 y61_7 := bn_w (bn_ltr c_83096 (bn_eq ex_83095 (bn_sub (show bn 0 0 (0 : Int32) from bn_k (by decide)) (bn_eq ex_83094 (bn_mul b61_i2 B_83078 (by decide))) (by decide))) b_y61_7) (by decide)
              refine lv_iload hx hb dX12_copy__103 (lv_at hl 0 rfl) ?_
              refine lv_istore (lv' := [(7, .int x_83095), (9, .int x_83095), (0, .ref (ad 0 0)), (1, .int i1), (2, .int i2), (3, .int i3), (4, .int i4), (5, .int y61_5), (6, .int y61_6), (8, .int y61_8)]) hx hb dX12_copy__105 hl (by decide) rfl (fun ls hl => ?_)
              refine lv_iload hx hb dX12_copy__107 (lv_at hl 9 rfl) ?_
              refine lv_istore (lv' := [(6, .int y61_8), (7, .int x_83095), (9, .int x_83095), (0, .ref (ad 0 0)), (1, .int i1), (2, .int i2), (3, .int i3), (4, .int i4), (5, .int y61_5), (8, .int y61_8)]) hx hb dX12_copy__109 hl (by decide) rfl (fun ls hl => ?_)
              obtain ⟨x_83099, ex_83099⟩ : ∃ z : Int32, z = y61_8 + 1 := ⟨_, rfl⟩
              refine lv_iinc (v := x_83099) (lv' := [(8, .int x_83099), (6, .int y61_8), (7, .int x_83095), (9, .int x_83095), (0, .ref (ad 0 0)), (1, .int i1), (2, .int i2), (3, .int i3), (4, .int i4), (5, .int y61_5)]) hx hb dX12_copy__111 hl (k := 9) rfl (by rw [ex_83099]; rfl) (by decide) rfl (fun ls hl => ?_)
              refine lv_goto (tgt := 61) hx hb dX12_copy__114 (by decide) ?_
              exact ih61 _ (by rw [← hm61]; exact ms_up (m := 1) ex_83099 (show bn 1 1 (1 : Int32) from bn_k (by decide)) B_83078 (bn_w (bn_eq ex_83099 (bn_add B_83078 (show bn 1 1 (1 : Int32) from bn_k (by decide)) (by decide))) (by decide) : bn 0 61 x_83099) (by decide)) y61_5 y61_8 x_83095 x_83099 _ _  _ _ _ I (bn_w B_83078 (by decide)) (bn_w (bn_eq ex_83095 (bn_sub (show bn 0 0 (0 : Int32) from bn_k (by decide)) (bn_eq ex_83094 (bn_mul b61_i2 B_83078 (by decide))) (by decide))) (by decide)) (bn_w (bn_eq ex_83099 (bn_add B_83078 (show bn 1 1 (1 : Int32) from bn_k (by decide)) (by decide))) (by decide)) (bn_w b61_i1 (by decide)) (bn_w b61_i2 (by decide)) (bn_w b61_i3 (by decide)) rfl Y (lv_sub hl [4, 5, 6, 7, 8, 9, 1, 2, 0] rfl)
            · have B_83098 : bn (-10000) 0 y61_7 := bn_w (bn_ger c_83096 (bn_eq ex_83095 (bn_sub (show bn 0 0 (0 : Int32) from bn_k (by decide)) (bn_eq ex_83094 (bn_mul b61_i2 B_83078 (by decide))) (by decide))) b_y61_7) (by decide)
              refine lv_goto (tgt := 111) hx hb dX12_copy__100 (by decide) ?_
              obtain ⟨x_83100, ex_83100⟩ : ∃ z : Int32, z = y61_8 + 1 := ⟨_, rfl⟩
              refine lv_iinc (v := x_83100) (lv' := [(8, .int x_83100), (9, .int x_83095), (0, .ref (ad 0 0)), (1, .int i1), (2, .int i2), (3, .int i3), (4, .int i4), (5, .int y61_5), (6, .int y61_6), (7, .int y61_7)]) hx hb dX12_copy__111 hl (k := 9) rfl (by rw [ex_83100]; rfl) (by decide) rfl (fun ls hl => ?_)
              refine lv_goto (tgt := 61) hx hb dX12_copy__114 (by decide) ?_
              exact ih61 _ (by rw [← hm61]; exact ms_up (m := 1) ex_83100 (show bn 1 1 (1 : Int32) from bn_k (by decide)) B_83078 (bn_w (bn_eq ex_83100 (bn_add B_83078 (show bn 1 1 (1 : Int32) from bn_k (by decide)) (by decide))) (by decide) : bn 0 61 x_83100) (by decide)) y61_5 y61_6 y61_7 x_83100 _ _  _ _ _ I (bn_w b_y61_6 (by decide)) (bn_w B_83098 (by decide)) (bn_w (bn_eq ex_83100 (bn_add B_83078 (show bn 1 1 (1 : Int32) from bn_k (by decide)) (by decide))) (by decide)) (bn_w b61_i1 (by decide)) (bn_w b61_i2 (by decide)) (bn_w b61_i3 (by decide)) rfl Y (lv_sub hl [2, 3, 4, 5, 6, 7, 8, 9, 0] rfl)
          · have B_83093 : bn (-2147483648) 60 y61_5 := bn_w (bn_ger c_83091 B_83078 (bn_any y61_5)) (by decide)
            refine lv_iload_n hx hb dX12_copy__81 rfl (lv_at hl 3 rfl) ?_
            refine lv_goto (tgt := 86) hx hb dX12_copy__82 (by decide) ?_
            refine lv_iload_n hx hb dX12_copy__86 rfl (lv_at hl 2 rfl) ?_
            refine lv_iload hx hb dX12_copy__87 (lv_at hl 8 rfl) ?_
            refine lv_imul hx hb dX12_copy__89 ?_
            refine lv_topi (fun x_83101 ex_83101 => ?_)
            refine lv_isub hx hb dX12_copy__90 ?_
            refine lv_topi (fun x_83102 ex_83102 => ?_)
            refine lv_istore (lv' := [(9, .int x_83102), (0, .ref (ad 0 0)), (1, .int i1), (2, .int i2), (3, .int i3), (4, .int i4), (5, .int y61_5), (6, .int y61_6), (7, .int y61_7), (8, .int y61_8)]) hx hb dX12_copy__91 hl (by decide) rfl (fun ls hl => ?_)
            refine lv_iload hx hb dX12_copy__93 (lv_at hl 0 rfl) ?_
            refine lv_iload hx hb dX12_copy__95 (lv_at hl 8 rfl) ?_
            refine lv_icmp_lt (tgt := 103) hx hb dX12_copy__97 (by decide) (fun c_83103 => ?_) (fun c_83103 => ?_)
            · have B_83104 : bn (-5939) 1000000000 y61_7 := bn_w (bn_ltr c_83103 (bn_eq ex_83102 (bn_sub b61_i3 (bn_eq ex_83101 (bn_mul b61_i2 B_83078 (by decide))) (by decide))) b_y61_7) (by decide)
              refine lv_iload hx hb dX12_copy__103 (lv_at hl 0 rfl) ?_
              refine lv_istore (lv' := [(7, .int x_83102), (9, .int x_83102), (0, .ref (ad 0 0)), (1, .int i1), (2, .int i2), (3, .int i3), (4, .int i4), (5, .int y61_5), (6, .int y61_6), (8, .int y61_8)]) hx hb dX12_copy__105 hl (by decide) rfl (fun ls hl => ?_)
              refine lv_iload hx hb dX12_copy__107 (lv_at hl 9 rfl) ?_
              refine lv_istore (lv' := [(6, .int y61_8), (7, .int x_83102), (9, .int x_83102), (0, .ref (ad 0 0)), (1, .int i1), (2, .int i2), (3, .int i3), (4, .int i4), (5, .int y61_5), (8, .int y61_8)]) hx hb dX12_copy__109 hl (by decide) rfl (fun ls hl => ?_)
              obtain ⟨x_83106, ex_83106⟩ : ∃ z : Int32, z = y61_8 + 1 := ⟨_, rfl⟩
              refine lv_iinc (v := x_83106) (lv' := [(8, .int x_83106), (6, .int y61_8), (7, .int x_83102), (9, .int x_83102), (0, .ref (ad 0 0)), (1, .int i1), (2, .int i2), (3, .int i3), (4, .int i4), (5, .int y61_5)]) hx hb dX12_copy__111 hl (k := 9) rfl (by rw [ex_83106]; rfl) (by decide) rfl (fun ls hl => ?_)
              refine lv_goto (tgt := 61) hx hb dX12_copy__114 (by decide) ?_
              exact ih61 _ (by rw [← hm61]; exact ms_up (m := 1) ex_83106 (show bn 1 1 (1 : Int32) from bn_k (by decide)) B_83078 (bn_w (bn_eq ex_83106 (bn_add B_83078 (show bn 1 1 (1 : Int32) from bn_k (by decide)) (by decide))) (by decide) : bn 0 61 x_83106) (by decide)) y61_5 y61_8 x_83102 x_83106 _ _  _ _ _ I (bn_w B_83078 (by decide)) (bn_w (bn_eq ex_83102 (bn_sub b61_i3 (bn_eq ex_83101 (bn_mul b61_i2 B_83078 (by decide))) (by decide))) (by decide)) (bn_w (bn_eq ex_83106 (bn_add B_83078 (show bn 1 1 (1 : Int32) from bn_k (by decide)) (by decide))) (by decide)) (bn_w b61_i1 (by decide)) (bn_w b61_i2 (by decide)) (bn_w b61_i3 (by decide)) rfl Y (lv_sub hl [4, 5, 6, 7, 8, 9, 1, 2, 0] rfl)
            · have B_83105 : bn (-10000) 9999 y61_7 := bn_w (bn_ger c_83103 (bn_eq ex_83102 (bn_sub b61_i3 (bn_eq ex_83101 (bn_mul b61_i2 B_83078 (by decide))) (by decide))) b_y61_7) (by decide)
              refine lv_goto (tgt := 111) hx hb dX12_copy__100 (by decide) ?_
              obtain ⟨x_83107, ex_83107⟩ : ∃ z : Int32, z = y61_8 + 1 := ⟨_, rfl⟩
              refine lv_iinc (v := x_83107) (lv' := [(8, .int x_83107), (9, .int x_83102), (0, .ref (ad 0 0)), (1, .int i1), (2, .int i2), (3, .int i3), (4, .int i4), (5, .int y61_5), (6, .int y61_6), (7, .int y61_7)]) hx hb dX12_copy__111 hl (k := 9) rfl (by rw [ex_83107]; rfl) (by decide) rfl (fun ls hl => ?_)
              refine lv_goto (tgt := 61) hx hb dX12_copy__114 (by decide) ?_
              exact ih61 _ (by rw [← hm61]; exact ms_up (m := 1) ex_83107 (show bn 1 1 (1 : Int32) from bn_k (by decide)) B_83078 (bn_w (bn_eq ex_83107 (bn_add B_83078 (show bn 1 1 (1 : Int32) from bn_k (by decide)) (by decide))) (by decide) : bn 0 61 x_83107) (by decide)) y61_5 y61_6 y61_7 x_83107 _ _  _ _ _ I (bn_w b_y61_6 (by decide)) (bn_w B_83105 (by decide)) (bn_w (bn_eq ex_83107 (bn_add B_83078 (show bn 1 1 (1 : Int32) from bn_k (by decide)) (by decide))) (by decide)) (bn_w b61_i1 (by decide)) (bn_w b61_i2 (by decide)) (bn_w b61_i3 (by decide)) rfl Y (lv_sub hl [2, 3, 4, 5, 6, 7, 8, 9, 0] rfl)
  refine lv_aload_n hx hb dX12_copy__0 rfl (lv_at hl 0 rfl) ?_
  refine lv_iload_n hx hb dX12_copy__1 rfl (lv_at hl 1 rfl) ?_
  refine cVp (As := [.int i1]) (rest := []) S Y (x_X12_isOath (l := l) I hB) cw_X12_isOath km12_339 (I.opo (k := 0) (j := 0) (by decide) rfl).choose_spec.1 ok_X12.1 rfl rfl ⟨Nat.le_of_ble_eq_true rfl, Nat.le_of_ble_eq_true rfl⟩ hl.1 rfl (Nat.le_of_ble_eq_true rfl) ⟨Nat.le_of_ble_eq_true rfl, Nat.le_of_ble_eq_true rfl⟩ dX12_copy__2 (fun r_83108 H locs er_83108 Y => ?_)
  refine lv_if_eq (tgt := 39) hx hb dX12_copy__5 (by decide) (fun c_83109 => ?_) (fun c_83109 => ?_)
  · have B_83110 : bn 0 0 r_83108 := bn_w (bn_eq c_83109 (show bn 0 0 (0 : Int32) from bn_k (by decide))) (by decide)
    refine lv_ldcw (v := (-100000)) hx hb S.ow (S.w kk12_408) dX12_copy__39 ?_
    exact prI (post := fun r L1 f1 => SH (spM (IA 0 0 14 9999 w) pi (EQ g0) LDa) nnM G ad L1 f1) S Y rfl (by decide) (by decide) hA1 I dX12_copy__42
  · have B_83111 : bn 0 13 i1 := bn_w (bn_i (bn_any i1) (er_83108.2 c_83109)) (by decide)
    have B_83112 : bn 1 1 r_83108 := bn_w (bn_nel c_83109 er_83108.1 (show bn 0 0 (0 : Int32) from bn_k (by decide))) (by decide)
    refine lv_aload_n hx hb dX12_copy__8 rfl (lv_at hl 0 rfl) ?_
    refine lv_iload_n hx hb dX12_copy__9 rfl (lv_at hl 1 rfl) ?_
    refine lv_iconst (v := 4) hx hb dX12_copy__10 (by decide) ?_
    refine cVp (As := [.int i1, .int 4]) (rest := []) S Y (x_X12_get (l := l) I hB (bn_w B_83111 (by decide)) (bn_w (show bn 4 4 (4 : Int32) from bn_k (by decide)) (by decide))) cw_X12_get km12_73 (I.opo (k := 0) (j := 0) (by decide) rfl).choose_spec.1 ok_X12.1 rfl rfl ⟨Nat.le_of_ble_eq_true rfl, Nat.le_of_ble_eq_true rfl⟩ hl.1 rfl (Nat.le_of_ble_eq_true rfl) ⟨Nat.le_of_ble_eq_true rfl, Nat.le_of_ble_eq_true rfl⟩ dX12_copy__11 (fun r_83113 H locs er_83113 Y => ?_)
    refine lv_iconst (v := 2) hx hb dX12_copy__14 (by decide) ?_
    refine lv_icmp_eq (tgt := 39) hx hb dX12_copy__15 (by decide) (fun c_83114 => ?_) (fun c_83114 => ?_)
    · have B_83115 : bn 2 2 r_83113 := bn_w (bn_eq c_83114 (show bn 2 2 (2 : Int32) from bn_k (by decide))) (by decide)
      refine lv_ldcw (v := (-100000)) hx hb S.ow (S.w kk12_408) dX12_copy__39 ?_
      exact prI (post := fun r L1 f1 => SH (spM (IA 0 0 14 9999 w) pi (EQ g0) LDa) nnM G ad L1 f1) S Y rfl (by decide) (by decide) hA1 I dX12_copy__42
    · refine lv_iload_n hx hb dX12_copy__18 rfl (lv_at hl 2 rfl) ?_
      refine lv_iconst (v := 0) hx hb dX12_copy__19 (by decide) ?_
      refine lv_bipush (v := 99) hx hb dX12_copy__20 (by decide) ?_
      refine cSp (As := [.int i2, .int 0, .int 99]) (rest := []) S Y (x_X12_isIn (l := l) ) cw_X12_isIn km12_69 rfl ⟨Nat.le_of_ble_eq_true rfl, Nat.le_of_ble_eq_true rfl⟩ hl.1 rfl (Nat.le_of_ble_eq_true rfl) ⟨Nat.le_of_ble_eq_true rfl, Nat.le_of_ble_eq_true rfl⟩ dX12_copy__22 (fun r_83116 H locs er_83116 Y => ?_)
      refine lv_if_eq (tgt := 39) hx hb dX12_copy__25 (by decide) (fun c_83117 => ?_) (fun c_83117 => ?_)
      · have B_83118 : bn 0 0 r_83116 := bn_w (bn_eq c_83117 (show bn 0 0 (0 : Int32) from bn_k (by decide))) (by decide)
        refine lv_ldcw (v := (-100000)) hx hb S.ow (S.w kk12_408) dX12_copy__39 ?_
        exact prI (post := fun r L1 f1 => SH (spM (IA 0 0 14 9999 w) pi (EQ g0) LDa) nnM G ad L1 f1) S Y rfl (by decide) (by decide) hA1 I dX12_copy__42
      · have B_83119 : bn 0 99 i2 := bn_w (bn_i (bn_any i2) (bn_btw (er_83116.2 c_83117).1 (er_83116.2 c_83117).2 (show bn 0 0 (0 : Int32) from bn_k (by decide)) (show bn 99 99 (99 : Int32) from bn_k (by decide)))) (by decide)
        have B_83120 : bn 1 1 r_83116 := bn_w (bn_nel c_83117 er_83116.1 (show bn 0 0 (0 : Int32) from bn_k (by decide))) (by decide)
        refine lv_iload_n hx hb dX12_copy__28 rfl (lv_at hl 3 rfl) ?_
        refine lv_iconst (v := 0) hx hb dX12_copy__29 (by decide) ?_
        refine lv_sipush (v := 9999) hx hb dX12_copy__30 (by decide) ?_
        refine cSp (As := [.int i3, .int 0, .int 9999]) (rest := []) S Y (x_X12_isIn (l := l) ) cw_X12_isIn km12_69 rfl ⟨Nat.le_of_ble_eq_true rfl, Nat.le_of_ble_eq_true rfl⟩ hl.1 rfl (Nat.le_of_ble_eq_true rfl) ⟨Nat.le_of_ble_eq_true rfl, Nat.le_of_ble_eq_true rfl⟩ dX12_copy__33 (fun r_83121 H locs er_83121 Y => ?_)
        refine lv_if_ne (tgt := 43) hx hb dX12_copy__36 (by decide) (fun c_83122 => ?_) (fun c_83122 => ?_)
        · have B_83123 : bn 0 9999 i3 := bn_w (bn_i (bn_any i3) (bn_btw (er_83121.2 c_83122).1 (er_83121.2 c_83122).2 (show bn 0 0 (0 : Int32) from bn_k (by decide)) (show bn 9999 9999 (9999 : Int32) from bn_k (by decide)))) (by decide)
          have B_83124 : bn 1 1 r_83121 := bn_w (bn_nel c_83122 er_83121.1 (show bn 0 0 (0 : Int32) from bn_k (by decide))) (by decide)
          refine lv_aload_n hx hb dX12_copy__43 rfl (lv_at hl 0 rfl) ?_
          refine lv_iload_n hx hb dX12_copy__44 rfl (lv_at hl 1 rfl) ?_
          refine cVi (As := [.int i1]) (rest := []) S Y (x_X12_fadesOf (l := l) I hB hX (bn_w B_83111 (by decide))) cw_X12_fadesOf km12_405 (I.opo (k := 0) (j := 0) (by decide) rfl).choose_spec.1 ok_X12.1 rfl rfl ⟨Nat.le_of_ble_eq_true rfl, Nat.le_of_ble_eq_true rfl⟩ hl.1 rfl (Nat.le_of_ble_eq_true rfl) ⟨Nat.le_of_ble_eq_true rfl, Nat.le_of_ble_eq_true rfl⟩ dX12_copy__45 (fun r_83128 L_83126 f_83127 H locs I Y => ?_)
          refine lv_istore (lv' := [(5, .int r_83128), (0, .ref (ad 0 0)), (1, .int i1), (2, .int i2), (3, .int i3), (4, .int i4)]) hx hb dX12_copy__48 hl (by decide) rfl (fun ls hl => ?_)
          refine lv_iconst (v := (-1)) hx hb dX12_copy__50 (by decide) ?_
          refine lv_istore (lv' := [(6, .int (-1)), (5, .int r_83128), (0, .ref (ad 0 0)), (1, .int i1), (2, .int i2), (3, .int i3), (4, .int i4)]) hx hb dX12_copy__51 hl (by decide) rfl (fun ls hl => ?_)
          refine lv_ldcw (v := 1000000000) hx hb S.ow (S.w kk12_409) dX12_copy__53 ?_
          refine lv_istore (lv' := [(7, .int 1000000000), (6, .int (-1)), (5, .int r_83128), (0, .ref (ad 0 0)), (1, .int i1), (2, .int i2), (3, .int i3), (4, .int i4)]) hx hb dX12_copy__56 hl (by decide) rfl (fun ls hl => ?_)
          refine lv_iconst (v := 0) hx hb dX12_copy__58 (by decide) ?_
          refine lv_istore (lv' := [(8, .int 0), (7, .int 1000000000), (6, .int (-1)), (5, .int r_83128), (0, .ref (ad 0 0)), (1, .int i1), (2, .int i2), (3, .int i3), (4, .int i4)]) hx hb dX12_copy__59 hl (by decide) rfl (fun ls hl => ?_)
          exact J_61 _ r_83128 (-1) 1000000000 0 _ _  _ _ _ I (bn_w (show bn (-1) (-1) ((-1) : Int32) from bn_k (by decide)) (by decide)) (bn_w (show bn 1000000000 1000000000 (1000000000 : Int32) from bn_k (by decide)) (by decide)) (bn_w (show bn 0 0 (0 : Int32) from bn_k (by decide)) (by decide)) (bn_w B_83111 (by decide)) (bn_w B_83119 (by decide)) (bn_w B_83123 (by decide)) rfl Y (lv_sub hl [4, 5, 6, 7, 8, 3, 2, 1, 0] rfl)
        · have B_83125 : bn 0 0 r_83121 := bn_w (bn_eq c_83122 (show bn 0 0 (0 : Int32) from bn_k (by decide))) (by decide)
          refine lv_ldcw (v := (-100000)) hx hb S.ow (S.w kk12_408) dX12_copy__39 ?_
          exact prI (post := fun r L1 f1 => SH (spM (IA 0 0 14 9999 w) pi (EQ g0) LDa) nnM G ad L1 f1) S Y rfl (by decide) (by decide) hA1 I dX12_copy__42
def wok (i1 i2 : Int32) : Prop := (1 ≤ i1.toInt ∧ i1.toInt ≤ 99) ∧ 0 ≤ i2.toInt ∧ i2.toInt ≤ 999
def wdX (i1 i2 r : Int32) (w w2 : WW) : Prop := (i1 = -1 ∧ r = 0 ∧ w2 = ((0, 0), w.2)) ∨ (¬ i1 = -1 ∧ ¬ wok i1 i2 ∧ r = -2 ∧ w2 = w) ∨ (¬ i1 = -1 ∧ wok i1 i2 ∧ ((w.1.1 < 8 ∧ r.toInt = w.1.1 + 1 ∧ w2 = ((w.1.1 + 1, w.1.1 + 1), upd (upd w.2 (160 + 2 * w.1.1.toNat) i1) (161 + 2 * w.1.1.toNat) i2)) ∨ (¬ w.1.1 < 8 ∧ r = -2 ∧ w2 = w)))
def winM (r v : Int32) (a b : Int) : Prop := (r = 0 ∧ ¬ (a ≤ v.toInt ∧ v.toInt ≤ b)) ∨ (r = 1 ∧ a ≤ v.toInt ∧ v.toInt ≤ b)
theorem winM_f {r v : Int32} {a b : Int} (h : winM r v a b) (e : r = 0) : ¬ (a ≤ v.toInt ∧ v.toInt ≤ b) := by
  rcases h with ⟨h1, h2⟩ | ⟨h1, h2⟩
  · exact h2
  · rw [h1] at e; exact absurd e (by decide)
theorem winM_t {r v : Int32} {a b : Int} (h : winM r v a b) (e : ¬ r = 0) : a ≤ v.toInt ∧ v.toInt ≤ b := by
  rcases h with ⟨h1, h2⟩ | ⟨h1, h2⟩
  · exact absurd h1 e
  · exact h2
set_option maxHeartbeats 4000000 in
set_option maxRecDepth 100000 in
theorem x_X12_isInX {l : Launch} {G : GG}  {L : List Nat} {f : HF}  {i1 i2 i3 : Int32}  : PMp l yX12_isIn cX12_isIn 3 .boolean 0 0 0 G [.int i1, .int i2, .int i3] L f (fun r => (winM r i1 i2.toInt i3.toInt)) := by
  refine PMi.of (post := fun r L1 f1 => ((winM r i1 i2.toInt i3.toInt)) ∧ L1 = L ∧ f1 = f) (own := RX12) (by decide) rfl (Nat.le_of_ble_eq_true rfl) (fun sz p e s m args below meth c A ls hA1 hname S Y hl => ?_)
  have hx := S.hx
  have hb := S.hb
  have hl : lv_has ls 3 [(0, .int i1), (1, .int i2), (2, .int i3)] := hl
  refine lv_iload_n hx hb dX12_isIn_0 rfl (lv_at hl 0 rfl) ?_
  refine lv_iload_n hx hb dX12_isIn_1 rfl (lv_at hl 1 rfl) ?_
  refine lv_icmp_lt (tgt := 14) hx hb dX12_isIn_2 (by decide) (fun c_83141 => ?_) (fun c_83141 => ?_)
  · have B_83142 : bn (-2147483648) 2147483646 i1 := bn_w (bn_ltl c_83141 (bn_any i1) (bn_any i2)) (by decide)
    have B_83143 : bn (-2147483647) 2147483647 i2 := bn_w (bn_ltr c_83141 (bn_any i1) (bn_any i2)) (by decide)
    refine lv_iconst (v := 0) hx hb dX12_isIn_14 (by decide) ?_
    exact prI (post := fun r L1 f1 => ((winM r i1 i2.toInt i3.toInt)) ∧ L1 = L ∧ f1 = f) S Y rfl (by decide) (by decide) hA1 ⟨Or.inl ⟨rfl, fun z => by have h := c_83141; rw [Int32.lt_iff_toInt_lt] at h; omega⟩, rfl, rfl⟩ dX12_isIn_15
  · refine lv_iload_n hx hb dX12_isIn_5 rfl (lv_at hl 0 rfl) ?_
    refine lv_iload_n hx hb dX12_isIn_6 rfl (lv_at hl 2 rfl) ?_
    refine lv_icmp_gt (tgt := 14) hx hb dX12_isIn_7 (by decide) (fun c_83144 => ?_) (fun c_83144 => ?_)
    · have B_83145 : bn (-2147483648) 2147483646 i3 := bn_w (bn_ltl c_83144 (bn_any i3) (bn_any i1)) (by decide)
      have B_83146 : bn (-2147483647) 2147483647 i1 := bn_w (bn_ltr c_83144 (bn_any i3) (bn_any i1)) (by decide)
      refine lv_iconst (v := 0) hx hb dX12_isIn_14 (by decide) ?_
      exact prI (post := fun r L1 f1 => ((winM r i1 i2.toInt i3.toInt)) ∧ L1 = L ∧ f1 = f) S Y rfl (by decide) (by decide) hA1 ⟨Or.inl ⟨rfl, fun z => by have h := c_83144; rw [Int32.lt_iff_toInt_lt] at h; omega⟩, rfl, rfl⟩ dX12_isIn_15
    · refine lv_iconst (v := 1) hx hb dX12_isIn_10 (by decide) ?_
      refine lv_goto (tgt := 15) hx hb dX12_isIn_11 (by decide) ?_
      exact prI (post := fun r L1 f1 => ((winM r i1 i2.toInt i3.toInt)) ∧ L1 = L ∧ f1 = f) S Y rfl (by decide) (by decide) hA1 ⟨Or.inr ⟨rfl, by have h := c_83141; rw [Int32.lt_iff_toInt_lt] at h; omega, by have h := c_83144; rw [Int32.lt_iff_toInt_lt] at h; omega⟩, rfl, rfl⟩ dX12_isIn_15
set_option maxHeartbeats 4000000 in
set_option maxRecDepth 100000 in
theorem x_X12_word {l : Launch} {G : GG}  {L : List Nat} {f : HF} {ad : Nat → Nat → Nat} {w : WW} {pi : PIT} {g0 : Nat → Int32} {i1 i2 : Int32} (I : SH (spM (IA 0 0 14 9999 w) pi (EQ g0) LDa) nnM G ad L f) (hB : BBp 0 0 14 9999 w) (hX : TX g0) (hx2 : w.1.1 = w.1.2) : PMi l yX12_word cX12_word 3 .int 1 0 0 G [.ref (ad 0 0), .int i1, .int i2] L f (fun r L1 f1 => ∃ w2 : WW, (wdX i1 i2 r w w2) ∧ SH (spM (IA 0 0 14 9999 w2) pi (EQ g0) LDa) nnM G ad L1 f1 ∧ w2.1.1 = w2.1.2 ∧ BBp 0 0 14 9999 w2) := by
  refine PMi.of (post := fun r L1 f1 => ∃ w2 : WW, (wdX i1 i2 r w w2) ∧ SH (spM (IA 0 0 14 9999 w2) pi (EQ g0) LDa) nnM G ad L1 f1 ∧ w2.1.1 = w2.1.2 ∧ BBp 0 0 14 9999 w2) (own := RX12) (by decide) rfl (Nat.le_of_ble_eq_true rfl) (fun sz p e s m args below meth c A ls hA1 hname S Y hl => ?_)
  have hx := S.hx
  have hb := S.hb
  have hl : lv_has ls 3 [(0, .ref (ad 0 0)), (1, .int i1), (2, .int i2)] := hl
  refine lv_iload_n hx hb dX12_word_0 rfl (lv_at hl 1 rfl) ?_
  refine lv_iconst (v := (-1)) hx hb dX12_word_1 (by decide) ?_
  refine lv_icmp_ne (tgt := 15) hx hb dX12_word_2 (by decide) (fun c_83371 => ?_) (fun c_83371 => ?_)
  · refine lv_iload_n hx hb dX12_word_15 rfl (lv_at hl 1 rfl) ?_
    refine lv_iconst (v := 1) hx hb dX12_word_16 (by decide) ?_
    refine lv_bipush (v := 99) hx hb dX12_word_17 (by decide) ?_
    refine cSp (As := [.int i1, .int 1, .int 99]) (rest := []) S Y (x_X12_isInX (l := l) ) cw_X12_isIn km12_69 rfl ⟨Nat.le_of_ble_eq_true rfl, Nat.le_of_ble_eq_true rfl⟩ hl.1 rfl (Nat.le_of_ble_eq_true rfl) ⟨Nat.le_of_ble_eq_true rfl, Nat.le_of_ble_eq_true rfl⟩ dX12_word_19 (fun r_83373 H locs er_83373 Y => ?_)
    refine lv_if_eq (tgt := 48) hx hb dX12_word_22 (by decide) (fun c_83374 => ?_) (fun c_83374 => ?_)
    · have B_83375 : bn 0 0 r_83373 := bn_w (bn_eq c_83374 (show bn 0 0 (0 : Int32) from bn_k (by decide))) (by decide)
      refine lv_bipush (v := (-2)) hx hb dX12_word_48 (by decide) ?_
      exact prI (post := fun r L1 f1 => ∃ w2 : WW, (wdX i1 i2 r w w2) ∧ SH (spM (IA 0 0 14 9999 w2) pi (EQ g0) LDa) nnM G ad L1 f1 ∧ w2.1.1 = w2.1.2 ∧ BBp 0 0 14 9999 w2) S Y rfl (by decide) (by decide) hA1 ⟨w, Or.inr (Or.inl ⟨c_83371, fun z => (winM_f er_83373 c_83374) z.1, rfl, rfl⟩), I, hx2, hB⟩ dX12_word_50
    · refine lv_iload_n hx hb dX12_word_25 rfl (lv_at hl 2 rfl) ?_
      refine lv_iconst (v := 0) hx hb dX12_word_26 (by decide) ?_
      refine lv_sipush (v := 999) hx hb dX12_word_27 (by decide) ?_
      refine cSp (As := [.int i2, .int 0, .int 999]) (rest := []) S Y (x_X12_isInX (l := l) ) cw_X12_isIn km12_69 rfl ⟨Nat.le_of_ble_eq_true rfl, Nat.le_of_ble_eq_true rfl⟩ hl.1 rfl (Nat.le_of_ble_eq_true rfl) ⟨Nat.le_of_ble_eq_true rfl, Nat.le_of_ble_eq_true rfl⟩ dX12_word_30 (fun r_83376 H locs er_83376 Y => ?_)
      refine lv_if_eq (tgt := 48) hx hb dX12_word_33 (by decide) (fun c_83377 => ?_) (fun c_83377 => ?_)
      · have B_83378 : bn 0 0 r_83376 := bn_w (bn_eq c_83377 (show bn 0 0 (0 : Int32) from bn_k (by decide))) (by decide)
        refine lv_bipush (v := (-2)) hx hb dX12_word_48 (by decide) ?_
        exact prI (post := fun r L1 f1 => ∃ w2 : WW, (wdX i1 i2 r w w2) ∧ SH (spM (IA 0 0 14 9999 w2) pi (EQ g0) LDa) nnM G ad L1 f1 ∧ w2.1.1 = w2.1.2 ∧ BBp 0 0 14 9999 w2) S Y rfl (by decide) (by decide) hA1 ⟨w, Or.inr (Or.inl ⟨c_83371, fun z => (winM_f er_83376 c_83377) z.2, rfl, rfl⟩), I, hx2, hB⟩ dX12_word_50
      · refine lv_aload_n hx hb dX12_word_36 rfl (lv_at hl 0 rfl) ?_
        obtain ⟨v_83379, v_83381, v_83383, v_83385, v_83387, v_83389, v_83391, v_83393, v_83394, v_83396, v_83398, v_83400, v_83402, v_83404, v_83406, v_83408, v_83410, v_83412, p_ad_0_0, b_83380, b_83382, b_83384, b_83386, b_83388, b_83390, b_83392, b_83395, b_83397, b_83399, b_83401, b_83403, b_83405, b_83407, b_83409, b_83411, b_83413⟩ := opnM_0 (j := 0) I (by decide)
        have p_ad_0_0 : pt L f (ad 0 0) (.inr (12, [.ref (ad 1 0), .ref (ad 2 0), .ref (ad 3 0), .ref (ad 4 0), .int v_83379, .int v_83381, .int v_83383, .int v_83385, .int v_83387, .int v_83389, .int v_83391, .long v_83393, .int v_83394, .int v_83396, .int v_83398, .ref (ad 5 0), .ref (ad 6 0), .int v_83400, .int v_83402, .int v_83404, .int v_83406, .int v_83408, .ref (ad 7 0), .ref (ad 8 0), .ref (ad 9 0), .int v_83410, .ref (ad 10 0), .ref (ad 11 0), .ref (ad 12 0), .ref (ad 13 0), .int v_83412, .ref (ad 14 0)])) := p_ad_0_0
        refine pg_get S Y ok_X12 0 (by decide) kf12_7 (v := .ref (ad 1 0)) p_ad_0_0 rfl dX12_word_37 ?_
        refine lv_bipush (v := 6) hx hb dX12_word_40 (by decide) ?_
        obtain ⟨g_83414, p_ad_1_0, o_83415⟩ := I.opi (k := 1) (j := 0) (by decide) rfl
        have p_ad_1_0 : pt L f (ad 1 0) (.inl (G.2 0, 10568, .inl g_83414)) := p_ad_1_0
        obtain ⟨v_83416, ev_83416⟩ : ∃ z, z = g_83414 (6 : Int32).toNatClampNeg := ⟨_, rfl⟩
        refine pg_iald S Y (v := v_83416) p_ad_1_0 (by unfold vp_in; decide) ev_83416.symm dX12_word_42 ?_
        have bv_83416 : bn 0 8 v_83416 := bn_eq ev_83416 (bn_w (a' := 0) (b' := 8) (IA_6 o_83415) (by have h9 := hB; unfold BBp at h9; omega))
        refine lv_bipush (v := 8) hx hb dX12_word_43 (by decide) ?_
        refine lv_icmp_ne (tgt := 51) hx hb dX12_word_45 (by decide) (fun c_83417 => ?_) (fun c_83417 => ?_)
        · have B_83418 : bn 0 7 v_83416 := bn_w (bn_neu c_83417 bv_83416 (show bn 8 8 (8 : Int32) from bn_k (by decide))) (by decide)
          refine lv_aload_n hx hb dX12_word_51 rfl (lv_at hl 0 rfl) ?_
          refine pg_get S Y ok_X12 0 (by decide) kf12_7 (v := .ref (ad 1 0)) p_ad_0_0 rfl dX12_word_52 ?_
          refine lv_sipush (v := 160) hx hb dX12_word_55 (by decide) ?_
          refine lv_iconst (v := 2) hx hb dX12_word_58 (by decide) ?_
          refine lv_aload_n hx hb dX12_word_59 rfl (lv_at hl 0 rfl) ?_
          refine pg_get S Y ok_X12 0 (by decide) kf12_7 (v := .ref (ad 1 0)) p_ad_0_0 rfl dX12_word_60 ?_
          refine lv_bipush (v := 6) hx hb dX12_word_63 (by decide) ?_
          refine pg_iald S Y (v := v_83416) p_ad_1_0 (by unfold vp_in; decide) ev_83416.symm dX12_word_65 ?_
          refine lv_imul hx hb dX12_word_66 ?_
          refine lv_topi (fun x_83420 ex_83420 => ?_)
          refine lv_iadd hx hb dX12_word_67 ?_
          refine lv_topi (fun x_83421 ex_83421 => ?_)
          refine lv_iload_n hx hb dX12_word_68 rfl (lv_at hl 1 rfl) ?_
          refine pg_iast S Y p_ad_1_0 (vp_bn (bn_eq ex_83421 (bn_add (show bn 160 160 (160 : Int32) from bn_k (by decide)) (bn_eq ex_83420 (bn_mul (show bn 2 2 (2 : Int32) from bn_k (by decide)) B_83418 (by decide))) (by decide))) (by decide)) dX12_word_69 (fun f_83423 H locs ef_83423 Y => ?_)
          obtain ⟨g_83422, eg_83422⟩ : ∃ z, z = upd (g_83414) (x_83421 : Int32).toNatClampNeg i1 := ⟨_, rfl⟩
          rw [← eg_83422] at ef_83423
          have p_ad_0_0 := p_ad_0_0.up ef_83423 (I.ne (k := 0) (j := 0) (k' := 1) (j' := 0) (by decide) (by decide) (Or.inl (by decide)))
          have p_ad_1_0 := p_ad_1_0.me ef_83423
          have b_83424 := IA_6 o_83415
          rw [show g_83414 6 = v_83416 from ev_83416.symm] at b_83424
          have cb_83424 : ¬ v_83416.toInt = 8 := fun z => c_83417 (Int32.toInt_inj.mp (z.trans rfl))
          have db_83424 := B_83418.2
          obtain ⟨wc_83425, ewc_83425⟩ : ∃ z : Nat → Int32, z = upd w.2 (x_83421 : Int32).toNatClampNeg i1 := ⟨_, rfl⟩
          have o_83426 : (IA 0 0 14 9999 ((w.1, wc_83425) : WW)) g_83422 := (by rw [eg_83422, ewc_83425]; exact IA_wdst o_83415 (by have z9 := ((bn_eq ex_83421 (bn_add (show bn 160 160 (160 : Int32) from bn_k (by decide)) (bn_eq ex_83420 (bn_mul (show bn 2 2 (2 : Int32) from bn_k (by decide)) B_83418 (by decide))) (by decide)))).1; have z8 := ((bn_eq ex_83421 (bn_add (show bn 160 160 (160 : Int32) from bn_k (by decide)) (bn_eq ex_83420 (bn_mul (show bn 2 2 (2 : Int32) from bn_k (by decide)) B_83418 (by decide))) (by decide)))).2; rw [tnc]; omega))
          have I := I.upS (sp' := spM (IA 0 0 14 9999 ((w.1, wc_83425) : WW)) pi (EQ g0) LDa) (k := 1) (j := 0) (by decide) ef_83423 (okE_a (g := g_83422) o_83426) pAC
          have q_83427 : g_83422 (6 : Int32).toNatClampNeg = v_83416 := by rw [eg_83422]; exact (pk_un (nq_of (bn_eq ex_83421 (bn_add (show bn 160 160 (160 : Int32) from bn_k (by decide)) (bn_eq ex_83420 (bn_mul (show bn 2 2 (2 : Int32) from bn_k (by decide)) B_83418 (by decide))) (by decide))) (by decide))).trans ev_83416.symm
          refine lv_aload_n hx hb dX12_word_70 rfl (lv_at hl 0 rfl) ?_
          refine pg_get S Y ok_X12 0 (by decide) kf12_7 (v := .ref (ad 1 0)) p_ad_0_0 rfl dX12_word_71 ?_
          refine lv_sipush (v := 160) hx hb dX12_word_74 (by decide) ?_
          refine lv_iconst (v := 2) hx hb dX12_word_77 (by decide) ?_
          refine lv_aload_n hx hb dX12_word_78 rfl (lv_at hl 0 rfl) ?_
          refine pg_get S Y ok_X12 0 (by decide) kf12_7 (v := .ref (ad 1 0)) p_ad_0_0 rfl dX12_word_79 ?_
          refine lv_bipush (v := 6) hx hb dX12_word_82 (by decide) ?_
          refine pg_iald S Y (v := v_83416) p_ad_1_0 (by unfold vp_in; decide) q_83427 dX12_word_84 ?_
          refine lv_imul hx hb dX12_word_85 ?_
          refine lv_topi (fun x_83428 ex_83428 => ?_)
          refine lv_iadd hx hb dX12_word_86 ?_
          refine lv_topi (fun x_83429 ex_83429 => ?_)
          refine lv_iconst (v := 1) hx hb dX12_word_87 (by decide) ?_
          refine lv_iadd hx hb dX12_word_88 ?_
          refine lv_topi (fun x_83430 ex_83430 => ?_)
          have B_83431 : bn 161 175 x_83430 := bn_w (bn_eq ex_83430 (bn_add (bn_eq ex_83429 (bn_add (show bn 160 160 (160 : Int32) from bn_k (by decide)) (bn_eq ex_83428 (bn_mul (show bn 2 2 (2 : Int32) from bn_k (by decide)) B_83418 (by decide))) (by decide))) (show bn 1 1 (1 : Int32) from bn_k (by decide)) (by decide))) (by decide)
          refine lv_iload_n hx hb dX12_word_89 rfl (lv_at hl 2 rfl) ?_
          refine pg_iast S Y p_ad_1_0 (vp_bn B_83431 (by decide)) dX12_word_90 (fun f_83433 H locs ef_83433 Y => ?_)
          obtain ⟨g_83432, eg_83432⟩ : ∃ z, z = upd (g_83422) (x_83430 : Int32).toNatClampNeg i2 := ⟨_, rfl⟩
          rw [← eg_83432] at ef_83433
          have p_ad_0_0 := p_ad_0_0.up ef_83433 (I.ne (k := 0) (j := 0) (k' := 1) (j' := 0) (by decide) (by decide) (Or.inl (by decide)))
          have p_ad_1_0 := p_ad_1_0.me ef_83433
          obtain ⟨wc_83434, ewc_83434⟩ : ∃ z : Nat → Int32, z = upd wc_83425 (x_83430 : Int32).toNatClampNeg i2 := ⟨_, rfl⟩
          have o_83435 : (IA 0 0 14 9999 ((w.1, wc_83434) : WW)) g_83432 := (by rw [eg_83432, ewc_83434]; exact IA_wdst o_83426 (by have z9 := (B_83431).1; have z8 := (B_83431).2; rw [tnc]; omega))
          have I := I.upS (sp' := spM (IA 0 0 14 9999 ((w.1, wc_83434) : WW)) pi (EQ g0) LDa) (k := 1) (j := 0) (by decide) ef_83433 (okE_a (g := g_83432) o_83435) pAC
          have q_83436 : g_83432 (6 : Int32).toNatClampNeg = v_83416 := by rw [eg_83432]; exact (pk_un (nq_of B_83431 (by decide))).trans q_83427
          refine lv_aload_n hx hb dX12_word_91 rfl (lv_at hl 0 rfl) ?_
          refine pg_get S Y ok_X12 0 (by decide) kf12_7 (v := .ref (ad 1 0)) p_ad_0_0 rfl dX12_word_92 ?_
          refine lv_bipush (v := 6) hx hb dX12_word_95 (by decide) ?_
          refine lv_dup2_11 hx hb dX12_word_97 rfl rfl ?_
          refine pg_iald S Y (v := v_83416) p_ad_1_0 (by unfold vp_in; decide) q_83436 dX12_word_98 ?_
          refine lv_iconst (v := 1) hx hb dX12_word_99 (by decide) ?_
          refine lv_iadd hx hb dX12_word_100 ?_
          refine lv_topi (fun x_83437 ex_83437 => ?_)
          refine pg_iast S Y p_ad_1_0 (by unfold vp_in; decide) dX12_word_101 (fun f_83439 H locs ef_83439 Y => ?_)
          obtain ⟨g_83438, eg_83438⟩ : ∃ z, z = upd (g_83432) (6 : Int32).toNatClampNeg x_83437 := ⟨_, rfl⟩
          rw [← eg_83438] at ef_83439
          have p_ad_0_0 := p_ad_0_0.up ef_83439 (I.ne (k := 0) (j := 0) (k' := 1) (j' := 0) (by decide) (by decide) (Or.inl (by decide)))
          have p_ad_1_0 := p_ad_1_0.me ef_83439
          have fb_83424 : x_83437.toInt = w.1.1 + 1 ∧ w.1.1 < 8 := by have z9 := la_add ex_83437 rfl rfl B_83418 (show bn 1 1 (1 : Int32) from bn_k (by decide)) (by decide); have z8 := b_83424.1; have z7 := b_83424.2; rw [show (1 : Int32).toInt = 1 from rfl] at z9; exact ⟨by omega, by omega⟩
          have o_83440 : (IA 0 0 14 9999 ((((w.1.1 + 1, w.1.1 + 1) : Int × Int), wc_83434) : WW)) g_83438 := (by rw [eg_83438]; exact IA_w6 (w2 := ((((w.1.1 + 1, w.1.1 + 1) : Int × Int), wc_83434) : WW)) o_83435 ⟨by have z := fb_83424.1; show _ ≤ _; dsimp only; omega, by have z := fb_83424.1; show _ ≤ _; dsimp only; omega⟩ (fun _ => rfl))
          have I := I.upS (sp' := spM (IA 0 0 14 9999 ((((w.1.1 + 1, w.1.1 + 1) : Int × Int), wc_83434) : WW)) pi (EQ g0) LDa) (k := 1) (j := 0) (by decide) ef_83439 (okE_a (g := g_83438) o_83440) pAC
          have q_83441 : g_83438 (6 : Int32).toNatClampNeg = x_83437 := by rw [eg_83438]; exact pk_us
          refine lv_aload_n hx hb dX12_word_102 rfl (lv_at hl 0 rfl) ?_
          refine pg_get S Y ok_X12 0 (by decide) kf12_7 (v := .ref (ad 1 0)) p_ad_0_0 rfl dX12_word_103 ?_
          refine lv_bipush (v := 6) hx hb dX12_word_106 (by decide) ?_
          refine pg_iald S Y (v := x_83437) p_ad_1_0 (by unfold vp_in; decide) q_83441 dX12_word_108 ?_
          exact prI (post := fun r L1 f1 => ∃ w2 : WW, (wdX i1 i2 r w w2) ∧ SH (spM (IA 0 0 14 9999 w2) pi (EQ g0) LDa) nnM G ad L1 f1 ∧ w2.1.1 = w2.1.2 ∧ BBp 0 0 14 9999 w2) S Y rfl (by decide) (by decide) hA1 ⟨((((w.1.1 + 1, w.1.1 + 1) : Int × Int), wc_83434) : WW), Or.inr (Or.inr ⟨c_83371, ⟨(winM_t er_83373 c_83374), (winM_t er_83376 c_83377)⟩, Or.inl ⟨fb_83424.2, fb_83424.1, (show ((((w.1.1 + 1, w.1.1 + 1) : Int × Int), wc_83434) : WW) = _ from by rw [ewc_83434, ewc_83425, (show (x_83421 : Int32).toNatClampNeg = 160 + 2 * w.1.1.toNat from (by have z9 := (la_add ex_83421 (show (160 : Int32).toInt = 160 from rfl) (la_mul ex_83420 (show (2 : Int32).toInt = 2 from rfl) (rfl : v_83416.toInt = v_83416.toInt) (show bn 2 2 (2 : Int32) from bn_k (by decide)) B_83418 (by decide)) (show bn 160 160 (160 : Int32) from bn_k (by decide)) (bn_eq ex_83420 (bn_mul (show bn 2 2 (2 : Int32) from bn_k (by decide)) B_83418 (by decide))) (by decide)); have z8 := b_83424.1; have z7 := b_83424.2; have z6 := hx2; have z5 := (B_83418).1; rw [tnc]; omega)), (show (x_83430 : Int32).toNatClampNeg = 161 + 2 * w.1.1.toNat from (by have z9 := (la_add ex_83430 (la_add ex_83429 (show (160 : Int32).toInt = 160 from rfl) (la_mul ex_83428 (show (2 : Int32).toInt = 2 from rfl) (rfl : v_83416.toInt = v_83416.toInt) (show bn 2 2 (2 : Int32) from bn_k (by decide)) B_83418 (by decide)) (show bn 160 160 (160 : Int32) from bn_k (by decide)) (bn_eq ex_83428 (bn_mul (show bn 2 2 (2 : Int32) from bn_k (by decide)) B_83418 (by decide))) (by decide)) (show (1 : Int32).toInt = 1 from rfl) (bn_eq ex_83429 (bn_add (show bn 160 160 (160 : Int32) from bn_k (by decide)) (bn_eq ex_83428 (bn_mul (show bn 2 2 (2 : Int32) from bn_k (by decide)) B_83418 (by decide))) (by decide))) (show bn 1 1 (1 : Int32) from bn_k (by decide)) (by decide)); have z8 := b_83424.1; have z7 := b_83424.2; have z6 := hx2; have z5 := (B_83418).1; rw [tnc]; omega))])⟩⟩), I, rfl, (by have z := fb_83424.2; have z2 := hB; unfold BBp at *; dsimp only; omega)⟩ dX12_word_109
        · have B_83419 : bn 8 8 v_83416 := bn_w (bn_eq c_83417 (show bn 8 8 (8 : Int32) from bn_k (by decide))) (by decide)
          refine lv_bipush (v := (-2)) hx hb dX12_word_48 (by decide) ?_
          exact prI (post := fun r L1 f1 => ∃ w2 : WW, (wdX i1 i2 r w w2) ∧ SH (spM (IA 0 0 14 9999 w2) pi (EQ g0) LDa) nnM G ad L1 f1 ∧ w2.1.1 = w2.1.2 ∧ BBp 0 0 14 9999 w2) S Y rfl (by decide) (by decide) hA1 ⟨w, Or.inr (Or.inr ⟨c_83371, ⟨(winM_t er_83373 c_83374), (winM_t er_83376 c_83377)⟩, Or.inr ⟨by have z := IA_6 o_83415; rw [show g_83414 6 = 8 from (show g_83414 6 = v_83416 from ev_83416.symm).trans c_83417] at z; have z1 := z.1; have z2 := z.2; rw [show (8 : Int32).toInt = 8 from rfl] at z1 z2; have z3 := hx2; omega, rfl, rfl⟩⟩), I, hx2, hB⟩ dX12_word_50
  · have B_83372 : bn (-1) (-1) i1 := bn_w (bn_eq c_83371 (show bn (-1) (-1) ((-1) : Int32) from bn_k (by decide))) (by decide)
    refine lv_aload_n hx hb dX12_word_5 rfl (lv_at hl 0 rfl) ?_
    obtain ⟨v_83442, v_83444, v_83446, v_83448, v_83450, v_83452, v_83454, v_83456, v_83457, v_83459, v_83461, v_83463, v_83465, v_83467, v_83469, v_83471, v_83473, v_83475, p_ad_0_0, b_83443, b_83445, b_83447, b_83449, b_83451, b_83453, b_83455, b_83458, b_83460, b_83462, b_83464, b_83466, b_83468, b_83470, b_83472, b_83474, b_83476⟩ := opnM_0 (j := 0) I (by decide)
    have p_ad_0_0 : pt L f (ad 0 0) (.inr (12, [.ref (ad 1 0), .ref (ad 2 0), .ref (ad 3 0), .ref (ad 4 0), .int v_83442, .int v_83444, .int v_83446, .int v_83448, .int v_83450, .int v_83452, .int v_83454, .long v_83456, .int v_83457, .int v_83459, .int v_83461, .ref (ad 5 0), .ref (ad 6 0), .int v_83463, .int v_83465, .int v_83467, .int v_83469, .int v_83471, .ref (ad 7 0), .ref (ad 8 0), .ref (ad 9 0), .int v_83473, .ref (ad 10 0), .ref (ad 11 0), .ref (ad 12 0), .ref (ad 13 0), .int v_83475, .ref (ad 14 0)])) := p_ad_0_0
    refine pg_get S Y ok_X12 0 (by decide) kf12_7 (v := .ref (ad 1 0)) p_ad_0_0 rfl dX12_word_6 ?_
    refine lv_bipush (v := 6) hx hb dX12_word_9 (by decide) ?_
    refine lv_iconst (v := 0) hx hb dX12_word_11 (by decide) ?_
    obtain ⟨g_83477, p_ad_1_0, o_83478⟩ := I.opi (k := 1) (j := 0) (by decide) rfl
    have p_ad_1_0 : pt L f (ad 1 0) (.inl (G.2 0, 10568, .inl g_83477)) := p_ad_1_0
    refine pg_iast S Y p_ad_1_0 (by unfold vp_in; decide) dX12_word_12 (fun f_83480 H locs ef_83480 Y => ?_)
    obtain ⟨g_83479, eg_83479⟩ : ∃ z, z = upd (g_83477) (6 : Int32).toNatClampNeg 0 := ⟨_, rfl⟩
    rw [← eg_83479] at ef_83480
    have p_ad_0_0 := p_ad_0_0.up ef_83480 (I.ne (k := 0) (j := 0) (k' := 1) (j' := 0) (by decide) (by decide) (Or.inl (by decide)))
    have p_ad_1_0 := p_ad_1_0.me ef_83480
    have o_83481 : (IA 0 0 14 9999 ((((0, 0) : Int × Int), w.2) : WW)) g_83479 := (by rw [eg_83479]; exact IA_w6 o_83478 (show bn 0 0 (0 : Int32) from bn_k (by decide)) (fun _ => rfl))
    have I := I.upS (sp' := spM (IA 0 0 14 9999 ((((0, 0) : Int × Int), w.2) : WW)) pi (EQ g0) LDa) (k := 1) (j := 0) (by decide) ef_83480 (okE_a (g := g_83479) o_83481) pAC
    have q_83482 : g_83479 (6 : Int32).toNatClampNeg = 0 := by rw [eg_83479]; exact pk_us
    refine lv_iconst (v := 0) hx hb dX12_word_13 (by decide) ?_
    exact prI (post := fun r L1 f1 => ∃ w2 : WW, (wdX i1 i2 r w w2) ∧ SH (spM (IA 0 0 14 9999 w2) pi (EQ g0) LDa) nnM G ad L1 f1 ∧ w2.1.1 = w2.1.2 ∧ BBp 0 0 14 9999 w2) S Y rfl (by decide) (by decide) hA1 ⟨((((0, 0) : Int × Int), w.2) : WW), Or.inl ⟨c_83371, rfl, rfl⟩, I, rfl, (by unfold BBp; exact ⟨by decide, by decide, by decide, by decide, show (0 : Int) ≤ 0 from by decide, show (0 : Int) ≤ 8 from by decide⟩)⟩ dX12_word_14
set_option maxHeartbeats 4000000 in
set_option maxRecDepth 100000 in
theorem x_X12_image {l : Launch} {G : GG}  {L : List Nat} {f : HF} {ad : Nat → Nat → Nat} {w : WW} {gp2 : (Nat → Int32) → Prop} {zL : Int × Int} {zF : Int × Int} {zQ : Int × Int} {zT : (Nat → Int32) → Prop} {g0 : Nat → Int32} (I : SH (spM (IA 0 0 14 9999 w) ((gp2, zL, zF, zQ, zT) : PIT) (EQ g0) LDa) nnM G ad L f) (hB : BBp 0 0 14 9999 w) (hX : TX g0) : PMi l yX12_image cX12_image 1 .int 1 0 0 G [.ref (ad 0 0)] L f (fun r L1 f1 => SH (spM (IA 0 0 14 9999 w) (((IA 0 0 14 9999 w), zL, zF, zQ, zT) : PIT) (EQ g0) LDa) nnM G ad L1 f1) := by
  refine PMi.of (post := fun r L1 f1 => SH (spM (IA 0 0 14 9999 w) (((IA 0 0 14 9999 w), zL, zF, zQ, zT) : PIT) (EQ g0) LDa) nnM G ad L1 f1) (own := RX12) (by decide) rfl (Nat.le_of_ble_eq_true rfl) (fun sz p e s m args below meth c A ls hA1 hname S Y hl => ?_)
  have hx := S.hx
  have hb := S.hb
  have hl : lv_has ls 1 [(0, .ref (ad 0 0))] := hl
  refine lv_aload_n hx hb dX12_image_0 rfl (lv_at hl 0 rfl) ?_
  obtain ⟨v_83633, v_83635, v_83637, v_83639, v_83641, v_83643, v_83645, v_83647, v_83648, v_83650, v_83652, v_83654, v_83656, v_83658, v_83660, v_83662, v_83664, v_83666, p_ad_0_0, b_83634, b_83636, b_83638, b_83640, b_83642, b_83644, b_83646, b_83649, b_83651, b_83653, b_83655, b_83657, b_83659, b_83661, b_83663, b_83665, b_83667⟩ := opnM_0 (j := 0) I (by decide)
  have p_ad_0_0 : pt L f (ad 0 0) (.inr (12, [.ref (ad 1 0), .ref (ad 2 0), .ref (ad 3 0), .ref (ad 4 0), .int v_83633, .int v_83635, .int v_83637, .int v_83639, .int v_83641, .int v_83643, .int v_83645, .long v_83647, .int v_83648, .int v_83650, .int v_83652, .ref (ad 5 0), .ref (ad 6 0), .int v_83654, .int v_83656, .int v_83658, .int v_83660, .int v_83662, .ref (ad 7 0), .ref (ad 8 0), .ref (ad 9 0), .int v_83664, .ref (ad 10 0), .ref (ad 11 0), .ref (ad 12 0), .ref (ad 13 0), .int v_83666, .ref (ad 14 0)])) := p_ad_0_0
  refine pg_get S Y ok_X12 0 (by decide) kf12_7 (v := .ref (ad 1 0)) p_ad_0_0 rfl dX12_image_1 ?_
  refine lv_aload_n hx hb dX12_image_4 rfl (lv_at hl 0 rfl) ?_
  refine pg_get S Y ok_X12 1 (by decide) kf12_13 (v := .ref (ad 2 0)) p_ad_0_0 rfl dX12_image_5 ?_
  refine cSv (As := [.ref (ad 1 0), .ref (ad 2 0)]) (rest := []) S Y (x_X12_copy_image (l := l) I hB) cw_X12_copy km12_65 rfl ⟨Nat.le_of_ble_eq_true rfl, Nat.le_of_ble_eq_true rfl⟩ hl.1 rfl (Nat.le_of_ble_eq_true rfl) ⟨Nat.le_of_ble_eq_true rfl, Nat.le_of_ble_eq_true rfl⟩ dX12_image_8 (fun L_83668 f_83669 H locs I Y => ?_)
  refine lv_aload_n hx hb dX12_image_11 rfl (lv_at hl 0 rfl) ?_
  obtain ⟨v_83670, v_83672, v_83674, v_83676, v_83678, v_83680, v_83682, v_83684, v_83685, v_83687, v_83689, v_83691, v_83693, v_83695, v_83697, v_83699, v_83701, v_83703, p_ad_0_0, b_83671, b_83673, b_83675, b_83677, b_83679, b_83681, b_83683, b_83686, b_83688, b_83690, b_83692, b_83694, b_83696, b_83698, b_83700, b_83702, b_83704⟩ := opnM_0 (j := 0) I (by decide)
  have p_ad_0_0 : pt L_83668 f_83669 (ad 0 0) (.inr (12, [.ref (ad 1 0), .ref (ad 2 0), .ref (ad 3 0), .ref (ad 4 0), .int v_83670, .int v_83672, .int v_83674, .int v_83676, .int v_83678, .int v_83680, .int v_83682, .long v_83684, .int v_83685, .int v_83687, .int v_83689, .ref (ad 5 0), .ref (ad 6 0), .int v_83691, .int v_83693, .int v_83695, .int v_83697, .int v_83699, .ref (ad 7 0), .ref (ad 8 0), .ref (ad 9 0), .int v_83701, .ref (ad 10 0), .ref (ad 11 0), .ref (ad 12 0), .ref (ad 13 0), .int v_83703, .ref (ad 14 0)])) := p_ad_0_0
  refine pg_get S Y ok_X12 0 (by decide) kf12_7 (v := .ref (ad 1 0)) p_ad_0_0 rfl dX12_image_12 ?_
  refine lv_bipush (v := 10) hx hb dX12_image_15 (by decide) ?_
  obtain ⟨g_83705, p_ad_1_0, o_83706⟩ := I.opi (k := 1) (j := 0) (by decide) rfl
  have p_ad_1_0 : pt L_83668 f_83669 (ad 1 0) (.inl (G.2 0, 10568, .inl g_83705)) := p_ad_1_0
  obtain ⟨v_83707, ev_83707⟩ : ∃ z, z = g_83705 (10 : Int32).toNatClampNeg := ⟨_, rfl⟩
  refine pg_iald S Y (v := v_83707) p_ad_1_0 (by unfold vp_in; decide) ev_83707.symm dX12_image_17 ?_
  have bv_83707 : bn 0 9999 v_83707 := bn_eq ev_83707 (IA_10 o_83706)
  exact prI (post := fun r L1 f1 => SH (spM (IA 0 0 14 9999 w) (((IA 0 0 14 9999 w), zL, zF, zQ, zT) : PIT) (EQ g0) LDa) nnM G ad L1 f1) S Y rfl (by decide) (by decide) hA1 I dX12_image_18
set_option maxHeartbeats 4000000 in
set_option maxRecDepth 100000 in
theorem x_X12_back {l : Launch} {G : GG}  {L : List Nat} {f : HF} {ad : Nat → Nat → Nat} {w : WW} {w2 : WW} {zL : Int × Int} {zF : Int × Int} {zQ : Int × Int} {zT : (Nat → Int32) → Prop} {g0 : Nat → Int32} (I : SH (spM (IA 0 0 14 9999 w) (((IA 0 0 14 9999 w2), zL, zF, zQ, zT) : PIT) (EQ g0) LDa) nnM G ad L f) (hB : BBp 0 0 14 9999 w) (hX : TX g0) (hB2 : BBp 0 0 14 9999 w2) : PMi l yX12_back cX12_back 1 .int 1 0 0 G [.ref (ad 0 0)] L f (fun r L1 f1 => SH (spM (IA 0 0 14 9999 w2) (((IA 0 0 14 9999 w2), zL, zF, zQ, zT) : PIT) (EQ g0) LDa) nnM G ad L1 f1) := by
  refine PMi.of (post := fun r L1 f1 => SH (spM (IA 0 0 14 9999 w2) (((IA 0 0 14 9999 w2), zL, zF, zQ, zT) : PIT) (EQ g0) LDa) nnM G ad L1 f1) (own := RX12) (by decide) rfl (Nat.le_of_ble_eq_true rfl) (fun sz p e s m args below meth c A ls hA1 hname S Y hl => ?_)
  have hx := S.hx
  have hb := S.hb
  have hl : lv_has ls 1 [(0, .ref (ad 0 0))] := hl
  refine lv_aload_n hx hb dX12_back_0 rfl (lv_at hl 0 rfl) ?_
  obtain ⟨v_83858, v_83860, v_83862, v_83864, v_83866, v_83868, v_83870, v_83872, v_83873, v_83875, v_83877, v_83879, v_83881, v_83883, v_83885, v_83887, v_83889, v_83891, p_ad_0_0, b_83859, b_83861, b_83863, b_83865, b_83867, b_83869, b_83871, b_83874, b_83876, b_83878, b_83880, b_83882, b_83884, b_83886, b_83888, b_83890, b_83892⟩ := opnM_0 (j := 0) I (by decide)
  have p_ad_0_0 : pt L f (ad 0 0) (.inr (12, [.ref (ad 1 0), .ref (ad 2 0), .ref (ad 3 0), .ref (ad 4 0), .int v_83858, .int v_83860, .int v_83862, .int v_83864, .int v_83866, .int v_83868, .int v_83870, .long v_83872, .int v_83873, .int v_83875, .int v_83877, .ref (ad 5 0), .ref (ad 6 0), .int v_83879, .int v_83881, .int v_83883, .int v_83885, .int v_83887, .ref (ad 7 0), .ref (ad 8 0), .ref (ad 9 0), .int v_83889, .ref (ad 10 0), .ref (ad 11 0), .ref (ad 12 0), .ref (ad 13 0), .int v_83891, .ref (ad 14 0)])) := p_ad_0_0
  refine pg_get S Y ok_X12 1 (by decide) kf12_13 (v := .ref (ad 2 0)) p_ad_0_0 rfl dX12_back_1 ?_
  refine lv_aload_n hx hb dX12_back_4 rfl (lv_at hl 0 rfl) ?_
  refine pg_get S Y ok_X12 0 (by decide) kf12_7 (v := .ref (ad 1 0)) p_ad_0_0 rfl dX12_back_5 ?_
  refine cSv (As := [.ref (ad 2 0), .ref (ad 1 0)]) (rest := []) S Y (x_X12_copy_back (l := l) I hB) cw_X12_copy km12_65 rfl ⟨Nat.le_of_ble_eq_true rfl, Nat.le_of_ble_eq_true rfl⟩ hl.1 rfl (Nat.le_of_ble_eq_true rfl) ⟨Nat.le_of_ble_eq_true rfl, Nat.le_of_ble_eq_true rfl⟩ dX12_back_8 (fun L_83893 f_83894 H locs I Y => ?_)
  refine lv_aload_n hx hb dX12_back_11 rfl (lv_at hl 0 rfl) ?_
  obtain ⟨v_83895, v_83897, v_83899, v_83901, v_83903, v_83905, v_83907, v_83909, v_83910, v_83912, v_83914, v_83916, v_83918, v_83920, v_83922, v_83924, v_83926, v_83928, p_ad_0_0, b_83896, b_83898, b_83900, b_83902, b_83904, b_83906, b_83908, b_83911, b_83913, b_83915, b_83917, b_83919, b_83921, b_83923, b_83925, b_83927, b_83929⟩ := opnM_0 (j := 0) I (by decide)
  have p_ad_0_0 : pt L_83893 f_83894 (ad 0 0) (.inr (12, [.ref (ad 1 0), .ref (ad 2 0), .ref (ad 3 0), .ref (ad 4 0), .int v_83895, .int v_83897, .int v_83899, .int v_83901, .int v_83903, .int v_83905, .int v_83907, .long v_83909, .int v_83910, .int v_83912, .int v_83914, .ref (ad 5 0), .ref (ad 6 0), .int v_83916, .int v_83918, .int v_83920, .int v_83922, .int v_83924, .ref (ad 7 0), .ref (ad 8 0), .ref (ad 9 0), .int v_83926, .ref (ad 10 0), .ref (ad 11 0), .ref (ad 12 0), .ref (ad 13 0), .int v_83928, .ref (ad 14 0)])) := p_ad_0_0
  refine pg_get S Y ok_X12 0 (by decide) kf12_7 (v := .ref (ad 1 0)) p_ad_0_0 rfl dX12_back_12 ?_
  refine lv_bipush (v := 10) hx hb dX12_back_15 (by decide) ?_
  obtain ⟨g_83930, p_ad_1_0, o_83931⟩ := I.opi (k := 1) (j := 0) (by decide) rfl
  have p_ad_1_0 : pt L_83893 f_83894 (ad 1 0) (.inl (G.2 0, 10568, .inl g_83930)) := p_ad_1_0
  obtain ⟨v_83932, ev_83932⟩ : ∃ z, z = g_83930 (10 : Int32).toNatClampNeg := ⟨_, rfl⟩
  refine pg_iald S Y (v := v_83932) p_ad_1_0 (by unfold vp_in; decide) ev_83932.symm dX12_back_17 ?_
  have bv_83932 : bn 0 9999 v_83932 := bn_eq ev_83932 (IA_10 o_83931)
  exact prI (post := fun r L1 f1 => SH (spM (IA 0 0 14 9999 w2) (((IA 0 0 14 9999 w2), zL, zF, zQ, zT) : PIT) (EQ g0) LDa) nnM G ad L1 f1) S Y rfl (by decide) (by decide) hA1 I dX12_back_18
