theorem dX4_legibleOn_0 : decode cX4_legibleOn 0 = .ok (.iload_n 1, 1) := by decide +kernel
theorem dX4_legibleOn_1 : decode cX4_legibleOn 1 = .ok (.ifCond .lt 11, 3) := by decide +kernel
theorem dX4_legibleOn_12 : decode cX4_legibleOn 12 = .ok (.iconst 0, 1) := by decide +kernel
theorem dX4_legibleOn_13 : decode cX4_legibleOn 13 = .ok (.ireturn, 1) := by decide +kernel
theorem dX4_legibleOn_4 : decode cX4_legibleOn 4 = .ok (.iload_n 1, 1) := by decide +kernel
theorem dX4_legibleOn_5 : decode cX4_legibleOn 5 = .ok (.aload_n 0, 1) := by decide +kernel
theorem dX4_legibleOn_6 : decode cX4_legibleOn 6 = .ok (.getfield 28, 3) := by decide +kernel
theorem dX4_legibleOn_9 : decode cX4_legibleOn 9 = .ok (.if_icmp .lt 5, 3) := by decide +kernel
theorem dX4_legibleOn_14 : decode cX4_legibleOn 14 = .ok (.iload_n 1, 1) := by decide +kernel
theorem dX4_legibleOn_15 : decode cX4_legibleOn 15 = .ok (.bipush 7, 2) := by decide +kernel
theorem dX4_legibleOn_17 : decode cX4_legibleOn 17 = .ok (.imul, 1) := by decide +kernel
theorem dX4_legibleOn_18 : decode cX4_legibleOn 18 = .ok (.istore_n 3, 1) := by decide +kernel
theorem dX4_legibleOn_19 : decode cX4_legibleOn 19 = .ok (.aload_n 0, 1) := by decide +kernel
theorem dX4_legibleOn_20 : decode cX4_legibleOn 20 = .ok (.getfield 9, 3) := by decide +kernel
theorem dX4_legibleOn_23 : decode cX4_legibleOn 23 = .ok (.iload_n 3, 1) := by decide +kernel
theorem dX4_legibleOn_24 : decode cX4_legibleOn 24 = .ok (.iconst 1, 1) := by decide +kernel
theorem dX4_legibleOn_25 : decode cX4_legibleOn 25 = .ok (.iadd, 1) := by decide +kernel
theorem dX4_legibleOn_26 : decode cX4_legibleOn 26 = .ok (.iaload, 1) := by decide +kernel
theorem dX4_legibleOn_27 : decode cX4_legibleOn 27 = .ok (.iload_n 2, 1) := by decide +kernel
theorem dX4_legibleOn_28 : decode cX4_legibleOn 28 = .ok (.if_icmp .ne 32, 3) := by decide +kernel
theorem dX4_legibleOn_60 : decode cX4_legibleOn 60 = .ok (.iconst 0, 1) := by decide +kernel
theorem dX4_legibleOn_61 : decode cX4_legibleOn 61 = .ok (.ireturn, 1) := by decide +kernel
theorem dX4_legibleOn_31 : decode cX4_legibleOn 31 = .ok (.aload_n 0, 1) := by decide +kernel
theorem dX4_legibleOn_32 : decode cX4_legibleOn 32 = .ok (.getfield 9, 3) := by decide +kernel
theorem dX4_legibleOn_35 : decode cX4_legibleOn 35 = .ok (.iload_n 3, 1) := by decide +kernel
theorem dX4_legibleOn_36 : decode cX4_legibleOn 36 = .ok (.iconst 5, 1) := by decide +kernel
theorem dX4_legibleOn_37 : decode cX4_legibleOn 37 = .ok (.iadd, 1) := by decide +kernel
theorem dX4_legibleOn_38 : decode cX4_legibleOn 38 = .ok (.iaload, 1) := by decide +kernel
theorem dX4_legibleOn_39 : decode cX4_legibleOn 39 = .ok (.bipush 99, 2) := by decide +kernel
theorem dX4_legibleOn_41 : decode cX4_legibleOn 41 = .ok (.if_icmp .ge 19, 3) := by decide +kernel
theorem dX4_legibleOn_44 : decode cX4_legibleOn 44 = .ok (.aload_n 0, 1) := by decide +kernel
theorem dX4_legibleOn_45 : decode cX4_legibleOn 45 = .ok (.getfield 9, 3) := by decide +kernel
theorem dX4_legibleOn_48 : decode cX4_legibleOn 48 = .ok (.iload_n 3, 1) := by decide +kernel
theorem dX4_legibleOn_49 : decode cX4_legibleOn 49 = .ok (.iconst 4, 1) := by decide +kernel
theorem dX4_legibleOn_50 : decode cX4_legibleOn 50 = .ok (.iadd, 1) := by decide +kernel
theorem dX4_legibleOn_51 : decode cX4_legibleOn 51 = .ok (.iaload, 1) := by decide +kernel
theorem dX4_legibleOn_52 : decode cX4_legibleOn 52 = .ok (.iconst 2, 1) := by decide +kernel
theorem dX4_legibleOn_53 : decode cX4_legibleOn 53 = .ok (.if_icmp .eq 7, 3) := by decide +kernel
theorem dX4_legibleOn_56 : decode cX4_legibleOn 56 = .ok (.iconst 1, 1) := by decide +kernel
theorem dX4_legibleOn_57 : decode cX4_legibleOn 57 = .ok (.goto 4, 3) := by decide +kernel
theorem dX4_written_0 : decode cX4_written 0 = .ok (.iload_n 1, 1) := by decide +kernel
theorem dX4_written_1 : decode cX4_written 1 = .ok (.ifCond .lt 20, 3) := by decide +kernel
theorem dX4_written_21 : decode cX4_written 21 = .ok (.bipush (-2), 2) := by decide +kernel
theorem dX4_written_23 : decode cX4_written 23 = .ok (.ireturn, 1) := by decide +kernel
theorem dX4_written_4 : decode cX4_written 4 = .ok (.iload_n 1, 1) := by decide +kernel
theorem dX4_written_5 : decode cX4_written 5 = .ok (.aload_n 0, 1) := by decide +kernel
theorem dX4_written_6 : decode cX4_written 6 = .ok (.getfield 31, 3) := by decide +kernel
theorem kf4_31 : inW (Cond.fieldLink RX4 31 "KneeOaths$Ledger" "acheCount" "I") := ⟨List.mem_of_getElem? (i := 168) (by decide +kernel), by decide +kernel⟩
theorem dX4_written_9 : decode cX4_written 9 = .ok (.if_icmp .ge 12, 3) := by decide +kernel
theorem dX4_written_12 : decode cX4_written 12 = .ok (.iload_n 2, 1) := by decide +kernel
theorem dX4_written_13 : decode cX4_written 13 = .ok (.ifCond .lt 8, 3) := by decide +kernel
theorem dX4_written_16 : decode cX4_written 16 = .ok (.iload_n 2, 1) := by decide +kernel
theorem dX4_written_17 : decode cX4_written 17 = .ok (.iconst 3, 1) := by decide +kernel
theorem dX4_written_18 : decode cX4_written 18 = .ok (.if_icmp .lt 6, 3) := by decide +kernel
theorem dX4_written_24 : decode cX4_written 24 = .ok (.aload_n 0, 1) := by decide +kernel
theorem dX4_written_25 : decode cX4_written 25 = .ok (.getfield 15, 3) := by decide +kernel
theorem kf4_15 : inW (Cond.fieldLink RX4 15 "KneeOaths$Ledger" "aches" "[I") := ⟨List.mem_of_getElem? (i := 160) (by decide +kernel), by decide +kernel⟩
theorem dX4_written_28 : decode cX4_written 28 = .ok (.iload_n 1, 1) := by decide +kernel
theorem dX4_written_29 : decode cX4_written 29 = .ok (.iconst 3, 1) := by decide +kernel
theorem dX4_written_30 : decode cX4_written 30 = .ok (.imul, 1) := by decide +kernel
theorem dX4_written_31 : decode cX4_written 31 = .ok (.iload_n 2, 1) := by decide +kernel
theorem dX4_written_32 : decode cX4_written 32 = .ok (.iadd, 1) := by decide +kernel
theorem dX4_written_33 : decode cX4_written 33 = .ok (.iaload, 1) := by decide +kernel
theorem dX4_written_34 : decode cX4_written 34 = .ok (.ireturn, 1) := by decide +kernel
theorem dX4_draw_0 : decode cX4_draw 0 = .ok (.aload_n 0, 1) := by decide +kernel
theorem dX4_draw_1 : decode cX4_draw 1 = .ok (.getfield 18, 3) := by decide +kernel
theorem kf4_18 : inW (Cond.fieldLink RX4 18 "KneeOaths$Ledger" "x" "I") := ⟨List.mem_of_getElem? (i := 179) (by decide +kernel), by decide +kernel⟩
theorem dX4_draw_4 : decode cX4_draw 4 = .ok (.istore_n 1, 1) := by decide +kernel
theorem dX4_draw_5 : decode cX4_draw 5 = .ok (.aload_n 0, 1) := by decide +kernel
theorem dX4_draw_6 : decode cX4_draw 6 = .ok (.aload_n 0, 1) := by decide +kernel
theorem dX4_draw_7 : decode cX4_draw 7 = .ok (.getfield 18, 3) := by decide +kernel
theorem dX4_draw_10 : decode cX4_draw 10 = .ok (.sipush 367, 3) := by decide +kernel
theorem dX4_draw_13 : decode cX4_draw 13 = .ok (.imul, 1) := by decide +kernel
theorem dX4_draw_14 : decode cX4_draw 14 = .ok (.sipush 241, 3) := by decide +kernel
theorem dX4_draw_17 : decode cX4_draw 17 = .ok (.iadd, 1) := by decide +kernel
theorem dX4_draw_18 : decode cX4_draw 18 = .ok (.sipush 30449, 3) := by decide +kernel
theorem dX4_draw_21 : decode cX4_draw 21 = .ok (.irem, 1) := by decide +kernel
theorem dX4_draw_22 : decode cX4_draw 22 = .ok (.putfield 18, 3) := by decide +kernel
theorem dX4_draw_25 : decode cX4_draw 25 = .ok (.iload_n 1, 1) := by decide +kernel
theorem dX4_draw_26 : decode cX4_draw 26 = .ok (.ireturn, 1) := by decide +kernel
theorem dX4_turnDay_0 : decode cX4_turnDay 0 = .ok (.aload_n 0, 1) := by decide +kernel
theorem dX4_turnDay_1 : decode cX4_turnDay 1 = .ok (.dup, 1) := by decide +kernel
theorem dX4_turnDay_2 : decode cX4_turnDay 2 = .ok (.getfield 34, 3) := by decide +kernel
theorem dX4_turnDay_5 : decode cX4_turnDay 5 = .ok (.iconst 1, 1) := by decide +kernel
theorem dX4_turnDay_6 : decode cX4_turnDay 6 = .ok (.iadd, 1) := by decide +kernel
theorem dX4_turnDay_7 : decode cX4_turnDay 7 = .ok (.putfield 34, 3) := by decide +kernel
theorem dX4_turnDay_10 : decode cX4_turnDay 10 = .ok (.aload_n 0, 1) := by decide +kernel
theorem dX4_turnDay_11 : decode cX4_turnDay 11 = .ok (.aload_n 0, 1) := by decide +kernel
theorem dX4_turnDay_12 : decode cX4_turnDay 12 = .ok (.invokevirtual 64, 3) := by decide +kernel
theorem cw_X4_draw : CWv yX4_draw cX4_draw 2 (some .int) 0 := ⟨⟨⟨List.mem_of_getElem? (i := 125) (by decide +kernel), by decide +kernel⟩, ⟨List.mem_of_getElem? (i := 1092) (by decide +kernel), by decide +kernel⟩, by decide +kernel⟩, ⟨List.mem_of_getElem? (i := 1090) (by decide +kernel), by decide +kernel⟩, ⟨List.mem_of_getElem? (i := 1091) (by decide +kernel), by decide +kernel⟩⟩
theorem km4_64 : inW (Cond.methodLink RX4 64 yX4_draw) := ⟨List.mem_of_getElem? (i := 1089) (by decide +kernel), by decide +kernel⟩
theorem dX4_turnDay_15 : decode cX4_turnDay 15 = .ok (.bipush 10, 2) := by decide +kernel
theorem dX4_turnDay_17 : decode cX4_turnDay 17 = .ok (.irem, 1) := by decide +kernel
theorem dX4_turnDay_18 : decode cX4_turnDay 18 = .ok (.putfield 37, 3) := by decide +kernel
theorem kf4_37 : inW (Cond.fieldLink RX4 37 "KneeOaths$Ledger" "rain" "I") := ⟨List.mem_of_getElem? (i := 175) (by decide +kernel), by decide +kernel⟩
theorem dX4_turnDay_21 : decode cX4_turnDay 21 = .ok (.return_, 1) := by decide +kernel
theorem dX4_moreWear_0 : decode cX4_moreWear 0 = .ok (.aload_n 0, 1) := by decide +kernel
theorem dX4_moreWear_1 : decode cX4_moreWear 1 = .ok (.iload_n 1, 1) := by decide +kernel
theorem dX4_moreWear_2 : decode cX4_moreWear 2 = .ok (.iconst 5, 1) := by decide +kernel
theorem dX4_moreWear_3 : decode cX4_moreWear 3 = .ok (.bipush 99, 2) := by decide +kernel
theorem dX4_moreWear_5 : decode cX4_moreWear 5 = .ok (.aload_n 0, 1) := by decide +kernel
theorem dX4_moreWear_6 : decode cX4_moreWear 6 = .ok (.iload_n 1, 1) := by decide +kernel
theorem dX4_moreWear_7 : decode cX4_moreWear 7 = .ok (.iconst 5, 1) := by decide +kernel
theorem dX4_moreWear_8 : decode cX4_moreWear 8 = .ok (.invokevirtual 44, 3) := by decide +kernel
theorem dX4_moreWear_11 : decode cX4_moreWear 11 = .ok (.iload_n 2, 1) := by decide +kernel
theorem dX4_moreWear_12 : decode cX4_moreWear 12 = .ok (.iadd, 1) := by decide +kernel
theorem dX4_moreWear_13 : decode cX4_moreWear 13 = .ok (.invokestatic 48, 3) := by decide +kernel
theorem km4_48 : inW (Cond.methodLink RX4 48 Lib.Math.min.name) := ⟨List.mem_of_getElem? (i := 1017) (by decide +kernel), by decide +kernel⟩
theorem kMs_min : inW (Cond.static Lib.Math.min.name) := ⟨List.mem_of_getElem? (i := 216) (by decide +kernel), by decide +kernel⟩
theorem kMi : inW (Cond.initialized "java/lang/Math") := ⟨List.mem_of_getElem? (i := 128) (by decide +kernel), by decide +kernel⟩
theorem kMc_min : inW (Cond.code Lib.Math.min.name Lib.Math.min.code 2 (some .int)) := ⟨List.mem_of_getElem? (i := 217) (by decide +kernel), by decide +kernel⟩
theorem dX4_moreWear_16 : decode cX4_moreWear 16 = .ok (.invokevirtual 40, 3) := by decide +kernel
theorem cw_X4_put : CWv yX4_put cX4_put 4 none 3 := ⟨⟨⟨List.mem_of_getElem? (i := 125) (by decide +kernel), by decide +kernel⟩, ⟨List.mem_of_getElem? (i := 903) (by decide +kernel), by decide +kernel⟩, by decide +kernel⟩, ⟨List.mem_of_getElem? (i := 901) (by decide +kernel), by decide +kernel⟩, ⟨List.mem_of_getElem? (i := 902) (by decide +kernel), by decide +kernel⟩⟩
theorem km4_40 : inW (Cond.methodLink RX4 40 yX4_put) := ⟨List.mem_of_getElem? (i := 900) (by decide +kernel), by decide +kernel⟩
theorem dX4_moreWear_19 : decode cX4_moreWear 19 = .ok (.return_, 1) := by decide +kernel
theorem dX4_addOath_0 : decode cX4_addOath 0 = .ok (.aload_n 0, 1) := by decide +kernel
theorem dX4_addOath_1 : decode cX4_addOath 1 = .ok (.getfield 28, 3) := by decide +kernel
theorem dX4_addOath_4 : decode cX4_addOath 4 = .ok (.bipush 14, 2) := by decide +kernel
theorem dX4_addOath_6 : decode cX4_addOath 6 = .ok (.if_icmp .lt 5, 3) := by decide +kernel
theorem dX4_addOath_11 : decode cX4_addOath 11 = .ok (.aload_n 0, 1) := by decide +kernel
theorem dX4_addOath_12 : decode cX4_addOath 12 = .ok (.getfield 28, 3) := by decide +kernel
theorem dX4_addOath_15 : decode cX4_addOath 15 = .ok (.istore 5, 2) := by decide +kernel
theorem dX4_addOath_17 : decode cX4_addOath 17 = .ok (.aload_n 0, 1) := by decide +kernel
theorem dX4_addOath_18 : decode cX4_addOath 18 = .ok (.dup, 1) := by decide +kernel
theorem dX4_addOath_19 : decode cX4_addOath 19 = .ok (.getfield 28, 3) := by decide +kernel
theorem dX4_addOath_22 : decode cX4_addOath 22 = .ok (.iconst 1, 1) := by decide +kernel
theorem dX4_addOath_23 : decode cX4_addOath 23 = .ok (.iadd, 1) := by decide +kernel
theorem dX4_addOath_24 : decode cX4_addOath 24 = .ok (.putfield 28, 3) := by decide +kernel
theorem dX4_addOath_27 : decode cX4_addOath 27 = .ok (.aload_n 0, 1) := by decide +kernel
theorem dX4_addOath_28 : decode cX4_addOath 28 = .ok (.iload 5, 2) := by decide +kernel
theorem dX4_addOath_30 : decode cX4_addOath 30 = .ok (.iconst 0, 1) := by decide +kernel
theorem dX4_addOath_31 : decode cX4_addOath 31 = .ok (.iload_n 1, 1) := by decide +kernel
theorem dX4_addOath_32 : decode cX4_addOath 32 = .ok (.invokevirtual 40, 3) := by decide +kernel
theorem dX4_addOath_35 : decode cX4_addOath 35 = .ok (.aload_n 0, 1) := by decide +kernel
theorem dX4_addOath_36 : decode cX4_addOath 36 = .ok (.iload 5, 2) := by decide +kernel
theorem dX4_addOath_38 : decode cX4_addOath 38 = .ok (.iconst 1, 1) := by decide +kernel
theorem dX4_addOath_39 : decode cX4_addOath 39 = .ok (.iload_n 2, 1) := by decide +kernel
theorem dX4_addOath_40 : decode cX4_addOath 40 = .ok (.invokevirtual 40, 3) := by decide +kernel
theorem dX4_addOath_43 : decode cX4_addOath 43 = .ok (.aload_n 0, 1) := by decide +kernel
theorem dX4_addOath_44 : decode cX4_addOath 44 = .ok (.iload 5, 2) := by decide +kernel
theorem dX4_addOath_46 : decode cX4_addOath 46 = .ok (.iconst 2, 1) := by decide +kernel
theorem dX4_addOath_47 : decode cX4_addOath 47 = .ok (.iload_n 3, 1) := by decide +kernel
theorem dX4_addOath_48 : decode cX4_addOath 48 = .ok (.invokevirtual 40, 3) := by decide +kernel
theorem dX4_addOath_51 : decode cX4_addOath 51 = .ok (.aload_n 0, 1) := by decide +kernel
theorem dX4_addOath_52 : decode cX4_addOath 52 = .ok (.iload 5, 2) := by decide +kernel
theorem dX4_addOath_54 : decode cX4_addOath 54 = .ok (.iconst 3, 1) := by decide +kernel
theorem dX4_addOath_55 : decode cX4_addOath 55 = .ok (.iload 4, 2) := by decide +kernel
theorem dX4_addOath_57 : decode cX4_addOath 57 = .ok (.invokevirtual 40, 3) := by decide +kernel
theorem dX4_addOath_60 : decode cX4_addOath 60 = .ok (.aload_n 0, 1) := by decide +kernel
theorem dX4_addOath_61 : decode cX4_addOath 61 = .ok (.iload 5, 2) := by decide +kernel
theorem dX4_addOath_63 : decode cX4_addOath 63 = .ok (.iconst 4, 1) := by decide +kernel
theorem dX4_addOath_64 : decode cX4_addOath 64 = .ok (.iconst 0, 1) := by decide +kernel
theorem dX4_addOath_65 : decode cX4_addOath 65 = .ok (.invokevirtual 40, 3) := by decide +kernel
theorem dX4_addOath_68 : decode cX4_addOath 68 = .ok (.aload_n 0, 1) := by decide +kernel
theorem dX4_addOath_69 : decode cX4_addOath 69 = .ok (.iload 5, 2) := by decide +kernel
theorem dX4_addOath_71 : decode cX4_addOath 71 = .ok (.iconst 5, 1) := by decide +kernel
theorem dX4_addOath_72 : decode cX4_addOath 72 = .ok (.iconst 0, 1) := by decide +kernel
theorem dX4_addOath_73 : decode cX4_addOath 73 = .ok (.invokevirtual 40, 3) := by decide +kernel
theorem dX4_addOath_76 : decode cX4_addOath 76 = .ok (.aload_n 0, 1) := by decide +kernel
theorem dX4_addOath_77 : decode cX4_addOath 77 = .ok (.iload 5, 2) := by decide +kernel
theorem dX4_addOath_79 : decode cX4_addOath 79 = .ok (.bipush 6, 2) := by decide +kernel
theorem dX4_addOath_81 : decode cX4_addOath 81 = .ok (.aload_n 0, 1) := by decide +kernel
theorem dX4_addOath_82 : decode cX4_addOath 82 = .ok (.getfield 34, 3) := by decide +kernel
theorem dX4_addOath_85 : decode cX4_addOath 85 = .ok (.invokevirtual 40, 3) := by decide +kernel
theorem dX4_addOath_88 : decode cX4_addOath 88 = .ok (.iload 5, 2) := by decide +kernel
theorem dX4_addOath_90 : decode cX4_addOath 90 = .ok (.ireturn, 1) := by decide +kernel
theorem dX4_addOath_9 : decode cX4_addOath 9 = .ok (.iconst (-1), 1) := by decide +kernel
theorem dX4_addOath_10 : decode cX4_addOath 10 = .ok (.ireturn, 1) := by decide +kernel
theorem dX4_takeOver_0 : decode cX4_takeOver 0 = .ok (.aload_n 1, 1) := by decide +kernel
theorem dX4_takeOver_1 : decode cX4_takeOver 1 = .ok (.getfield 9, 3) := by decide +kernel
theorem dX4_takeOver_4 : decode cX4_takeOver 4 = .ok (.iconst 0, 1) := by decide +kernel
theorem dX4_takeOver_5 : decode cX4_takeOver 5 = .ok (.aload_n 0, 1) := by decide +kernel
theorem dX4_takeOver_6 : decode cX4_takeOver 6 = .ok (.getfield 9, 3) := by decide +kernel
theorem dX4_takeOver_9 : decode cX4_takeOver 9 = .ok (.iconst 0, 1) := by decide +kernel
theorem dX4_takeOver_10 : decode cX4_takeOver 10 = .ok (.aload_n 0, 1) := by decide +kernel
theorem dX4_takeOver_11 : decode cX4_takeOver 11 = .ok (.getfield 9, 3) := by decide +kernel
theorem dX4_takeOver_14 : decode cX4_takeOver 14 = .ok (.arraylength, 1) := by decide +kernel
theorem dX4_takeOver_15 : decode cX4_takeOver 15 = .ok (.invokestatic 22, 3) := by decide +kernel
theorem km4_22 : inW (Cond.methodLink RX4 22 arraycopyName) := ⟨List.mem_of_getElem? (i := 893) (by decide +kernel), by decide +kernel⟩
theorem kAn : inW (Cond.native arraycopyName) := ⟨List.mem_of_getElem? (i := 895) (by decide +kernel), by decide +kernel⟩
theorem kAs : inW (Cond.static arraycopyName) := ⟨List.mem_of_getElem? (i := 894) (by decide +kernel), by decide +kernel⟩
theorem kAi : inW (Cond.initialized "java/lang/System") := ⟨List.mem_of_getElem? (i := 143) (by decide +kernel), by decide +kernel⟩
theorem dX4_takeOver_18 : decode cX4_takeOver 18 = .ok (.aload_n 1, 1) := by decide +kernel
theorem dX4_takeOver_19 : decode cX4_takeOver 19 = .ok (.getfield 15, 3) := by decide +kernel
theorem dX4_takeOver_22 : decode cX4_takeOver 22 = .ok (.iconst 0, 1) := by decide +kernel
theorem dX4_takeOver_23 : decode cX4_takeOver 23 = .ok (.aload_n 0, 1) := by decide +kernel
theorem dX4_takeOver_24 : decode cX4_takeOver 24 = .ok (.getfield 15, 3) := by decide +kernel
theorem dX4_takeOver_27 : decode cX4_takeOver 27 = .ok (.iconst 0, 1) := by decide +kernel
theorem dX4_takeOver_28 : decode cX4_takeOver 28 = .ok (.aload_n 0, 1) := by decide +kernel
theorem dX4_takeOver_29 : decode cX4_takeOver 29 = .ok (.getfield 15, 3) := by decide +kernel
theorem dX4_takeOver_32 : decode cX4_takeOver 32 = .ok (.arraylength, 1) := by decide +kernel
theorem dX4_takeOver_33 : decode cX4_takeOver 33 = .ok (.invokestatic 22, 3) := by decide +kernel
theorem dX4_takeOver_36 : decode cX4_takeOver 36 = .ok (.aload_n 0, 1) := by decide +kernel
theorem dX4_takeOver_37 : decode cX4_takeOver 37 = .ok (.aload_n 1, 1) := by decide +kernel
theorem dX4_takeOver_38 : decode cX4_takeOver 38 = .ok (.getfield 28, 3) := by decide +kernel
theorem dX4_takeOver_41 : decode cX4_takeOver 41 = .ok (.putfield 28, 3) := by decide +kernel
theorem dX4_takeOver_44 : decode cX4_takeOver 44 = .ok (.aload_n 0, 1) := by decide +kernel
theorem dX4_takeOver_45 : decode cX4_takeOver 45 = .ok (.aload_n 1, 1) := by decide +kernel
theorem dX4_takeOver_46 : decode cX4_takeOver 46 = .ok (.getfield 31, 3) := by decide +kernel
theorem dX4_takeOver_49 : decode cX4_takeOver 49 = .ok (.putfield 31, 3) := by decide +kernel
theorem dX4_takeOver_52 : decode cX4_takeOver 52 = .ok (.aload_n 0, 1) := by decide +kernel
theorem dX4_takeOver_53 : decode cX4_takeOver 53 = .ok (.aload_n 1, 1) := by decide +kernel
theorem dX4_takeOver_54 : decode cX4_takeOver 54 = .ok (.getfield 34, 3) := by decide +kernel
theorem dX4_takeOver_57 : decode cX4_takeOver 57 = .ok (.putfield 34, 3) := by decide +kernel
theorem dX4_takeOver_60 : decode cX4_takeOver 60 = .ok (.aload_n 0, 1) := by decide +kernel
theorem dX4_takeOver_61 : decode cX4_takeOver 61 = .ok (.aload_n 1, 1) := by decide +kernel
theorem dX4_takeOver_62 : decode cX4_takeOver 62 = .ok (.getfield 37, 3) := by decide +kernel
theorem dX4_takeOver_65 : decode cX4_takeOver 65 = .ok (.putfield 37, 3) := by decide +kernel
theorem dX4_takeOver_68 : decode cX4_takeOver 68 = .ok (.aload_n 0, 1) := by decide +kernel
theorem dX4_takeOver_69 : decode cX4_takeOver 69 = .ok (.aload_n 1, 1) := by decide +kernel
theorem dX4_takeOver_70 : decode cX4_takeOver 70 = .ok (.getfield 18, 3) := by decide +kernel
theorem dX4_takeOver_73 : decode cX4_takeOver 73 = .ok (.putfield 18, 3) := by decide +kernel
theorem dX4_takeOver_76 : decode cX4_takeOver 76 = .ok (.return_, 1) := by decide +kernel
theorem bd_inc {c N : Int32} {n : Nat} (hb : bd c n) (h : ¬ N ≤ c) (hN : N.toInt = n) (hn : n ≤ 1000000) : bd (c + 1) n := by
  rw [Int32.le_iff_toInt_le, hN] at h
  obtain ⟨b1, b2⟩ := hb
  have e : (c + 1).toInt = c.toInt + 1 := ti_add (by rw [show (1 : Int32).toInt = 1 from rfl]; omega) (by rw [show (1 : Int32).toInt = 1 from rfl]; omega)
  exact ⟨by rw [e]; omega, by rw [e]; omega⟩
set_option maxHeartbeats 4000000 in
set_option maxRecDepth 100000 in
theorem c_X4_legibleOn {l : Launch} {G : GG} {L : List Nat} {f : HF} {h oa aa : Nat} {i i2 oc ac dt rn xx : Int32} {g : Nat → Int32}  (p_h : pt L f h (.inr (4, [.ref oa, .ref aa, .int oc, .int ac, .int dt, .int rn, .int xx]))) (p_oa : pt L f oa (.inl (G.2 0, 98, .inl g))) (qb : bd oc 14) : PMp l yX4_legibleOn cX4_legibleOn 4 .boolean 0 0 0 G [.ref h, .int i, .int i2] L f (fun r => True) := by
  refine PMi.of (post := fun r L1 f1 => (True) ∧ L1 = L ∧ f1 = f) (own := RX4) (by decide) rfl (Nat.le_of_ble_eq_true rfl) (fun sz p e s m args below meth c A ls hA1 hname S Y hl => ?_)
  have hx := S.hx
  have hb := S.hb
  have hl : lv_has ls 4 [(0, .ref h), (1, .int i), (2, .int i2)] := hl
  refine lv_iload_n hx hb dX4_legibleOn_0 rfl (lv_at hl 1 rfl) ?_
  refine lv_if_lt (tgt := 12) hx hb dX4_legibleOn_1 (by decide) (fun c_45 => ?_) (fun c_45 => ?_)
  · refine lv_iconst (v := 0) hx hb dX4_legibleOn_12 (by decide) ?_
    exact prI (post := fun r L1 f1 => (True) ∧ L1 = L ∧ f1 = f) S Y rfl (by decide) (by decide) hA1 ⟨trivial, rfl, rfl⟩ dX4_legibleOn_13
  · refine lv_iload_n hx hb dX4_legibleOn_4 rfl (lv_at hl 1 rfl) ?_
    refine lv_aload_n hx hb dX4_legibleOn_5 rfl (lv_at hl 0 rfl) ?_
    refine pg_get S Y ok_X4 2 (by decide) kf4_28 (v := .int oc) p_h rfl dX4_legibleOn_6 ?_
    refine lv_icmp_lt (tgt := 14) hx hb dX4_legibleOn_9 (by decide) (fun c_46 => ?_) (fun c_46 => ?_)
    · refine lv_iload_n hx hb dX4_legibleOn_14 rfl (lv_at hl 1 rfl) ?_
      refine lv_bipush (v := 7) hx hb dX4_legibleOn_15 (by decide) ?_
      refine lv_imul hx hb dX4_legibleOn_17 ?_
      refine lv_topi (fun x_47 ex_47 => ?_)
      refine lv_istore_n (lv' := [(3, .int x_47), (0, .ref h), (1, .int i), (2, .int i2)]) hx hb dX4_legibleOn_18 rfl hl (by decide) rfl (fun ls hl => ?_)
      refine lv_aload_n hx hb dX4_legibleOn_19 rfl (lv_at hl 1 rfl) ?_
      refine pg_get S Y ok_X4 0 (by decide) kf4_9 (v := .ref oa) p_h rfl dX4_legibleOn_20 ?_
      refine lv_iload_n hx hb dX4_legibleOn_23 rfl (lv_at hl 0 rfl) ?_
      refine lv_iconst (v := 1) hx hb dX4_legibleOn_24 (by decide) ?_
      refine lv_iadd hx hb dX4_legibleOn_25 ?_
      refine lv_topi (fun x_48 ex_48 => ?_)
      refine pg_iald S Y (v := (g (x_48 : Int32).toNatClampNeg)) p_oa (by rw [ex_48, ex_47]; exact ixw (c := oc) (n := 14) (q := 7) rfl rfl (by decide) (by decide) qb c_45 (Int32.not_le.mpr c_46) (by decide) (by decide)) rfl dX4_legibleOn_26 ?_
      refine lv_iload_n hx hb dX4_legibleOn_27 rfl (lv_at hl 3 rfl) ?_
      refine lv_icmp_ne (tgt := 60) hx hb dX4_legibleOn_28 (by decide) (fun c_49 => ?_) (fun c_49 => ?_)
      · refine lv_iconst (v := 0) hx hb dX4_legibleOn_60 (by decide) ?_
        exact prI (post := fun r L1 f1 => (True) ∧ L1 = L ∧ f1 = f) S Y rfl (by decide) (by decide) hA1 ⟨trivial, rfl, rfl⟩ dX4_legibleOn_61
      · refine lv_aload_n hx hb dX4_legibleOn_31 rfl (lv_at hl 1 rfl) ?_
        refine pg_get S Y ok_X4 0 (by decide) kf4_9 (v := .ref oa) p_h rfl dX4_legibleOn_32 ?_
        refine lv_iload_n hx hb dX4_legibleOn_35 rfl (lv_at hl 0 rfl) ?_
        refine lv_iconst (v := 5) hx hb dX4_legibleOn_36 (by decide) ?_
        refine lv_iadd hx hb dX4_legibleOn_37 ?_
        refine lv_topi (fun x_50 ex_50 => ?_)
        refine pg_iald S Y (v := (g (x_50 : Int32).toNatClampNeg)) p_oa (by rw [ex_50, ex_47]; exact ixw (c := oc) (n := 14) (q := 7) rfl rfl (by decide) (by decide) qb c_45 (Int32.not_le.mpr c_46) (by decide) (by decide)) rfl dX4_legibleOn_38 ?_
        refine lv_bipush (v := 99) hx hb dX4_legibleOn_39 (by decide) ?_
        refine lv_icmp_ge (tgt := 60) hx hb dX4_legibleOn_41 (by decide) (fun c_51 => ?_) (fun c_51 => ?_)
        · refine lv_iconst (v := 0) hx hb dX4_legibleOn_60 (by decide) ?_
          exact prI (post := fun r L1 f1 => (True) ∧ L1 = L ∧ f1 = f) S Y rfl (by decide) (by decide) hA1 ⟨trivial, rfl, rfl⟩ dX4_legibleOn_61
        · refine lv_aload_n hx hb dX4_legibleOn_44 rfl (lv_at hl 1 rfl) ?_
          refine pg_get S Y ok_X4 0 (by decide) kf4_9 (v := .ref oa) p_h rfl dX4_legibleOn_45 ?_
          refine lv_iload_n hx hb dX4_legibleOn_48 rfl (lv_at hl 0 rfl) ?_
          refine lv_iconst (v := 4) hx hb dX4_legibleOn_49 (by decide) ?_
          refine lv_iadd hx hb dX4_legibleOn_50 ?_
          refine lv_topi (fun x_52 ex_52 => ?_)
          refine pg_iald S Y (v := (g (x_52 : Int32).toNatClampNeg)) p_oa (by rw [ex_52, ex_47]; exact ixw (c := oc) (n := 14) (q := 7) rfl rfl (by decide) (by decide) qb c_45 (Int32.not_le.mpr c_46) (by decide) (by decide)) rfl dX4_legibleOn_51 ?_
          refine lv_iconst (v := 2) hx hb dX4_legibleOn_52 (by decide) ?_
          refine lv_icmp_eq (tgt := 60) hx hb dX4_legibleOn_53 (by decide) (fun c_53 => ?_) (fun c_53 => ?_)
          · refine lv_iconst (v := 0) hx hb dX4_legibleOn_60 (by decide) ?_
            exact prI (post := fun r L1 f1 => (True) ∧ L1 = L ∧ f1 = f) S Y rfl (by decide) (by decide) hA1 ⟨trivial, rfl, rfl⟩ dX4_legibleOn_61
          · refine lv_iconst (v := 1) hx hb dX4_legibleOn_56 (by decide) ?_
            refine lv_goto (tgt := 61) hx hb dX4_legibleOn_57 (by decide) ?_
            exact prI (post := fun r L1 f1 => (True) ∧ L1 = L ∧ f1 = f) S Y rfl (by decide) (by decide) hA1 ⟨trivial, rfl, rfl⟩ dX4_legibleOn_61
    · refine lv_iconst (v := 0) hx hb dX4_legibleOn_12 (by decide) ?_
      exact prI (post := fun r L1 f1 => (True) ∧ L1 = L ∧ f1 = f) S Y rfl (by decide) (by decide) hA1 ⟨trivial, rfl, rfl⟩ dX4_legibleOn_13
set_option maxHeartbeats 4000000 in
set_option maxRecDepth 100000 in
theorem c_X4_written {l : Launch} {G : GG} {L : List Nat} {f : HF} {h oa aa : Nat} {i j oc ac dt rn xx : Int32} {g : Nat → Int32}  (p_h : pt L f h (.inr (4, [.ref oa, .ref aa, .int oc, .int ac, .int dt, .int rn, .int xx]))) (p_aa : pt L f aa (.inl (G.2 0, 90, .inl g))) (qa : bd ac 30) : PMp l yX4_written cX4_written 3 .int 0 0 0 G [.ref h, .int i, .int j] L f (fun r => True) := by
  refine PMi.of (post := fun r L1 f1 => (True) ∧ L1 = L ∧ f1 = f) (own := RX4) (by decide) rfl (Nat.le_of_ble_eq_true rfl) (fun sz p e s m args below meth c A ls hA1 hname S Y hl => ?_)
  have hx := S.hx
  have hb := S.hb
  have hl : lv_has ls 3 [(0, .ref h), (1, .int i), (2, .int j)] := hl
  refine lv_iload_n hx hb dX4_written_0 rfl (lv_at hl 1 rfl) ?_
  refine lv_if_lt (tgt := 21) hx hb dX4_written_1 (by decide) (fun c_54 => ?_) (fun c_54 => ?_)
  · refine lv_bipush (v := (-2)) hx hb dX4_written_21 (by decide) ?_
    exact prI (post := fun r L1 f1 => (True) ∧ L1 = L ∧ f1 = f) S Y rfl (by decide) (by decide) hA1 ⟨trivial, rfl, rfl⟩ dX4_written_23
  · refine lv_iload_n hx hb dX4_written_4 rfl (lv_at hl 1 rfl) ?_
    refine lv_aload_n hx hb dX4_written_5 rfl (lv_at hl 0 rfl) ?_
    refine pg_get S Y ok_X4 3 (by decide) kf4_31 (v := .int ac) p_h rfl dX4_written_6 ?_
    refine lv_icmp_ge (tgt := 21) hx hb dX4_written_9 (by decide) (fun c_55 => ?_) (fun c_55 => ?_)
    · refine lv_bipush (v := (-2)) hx hb dX4_written_21 (by decide) ?_
      exact prI (post := fun r L1 f1 => (True) ∧ L1 = L ∧ f1 = f) S Y rfl (by decide) (by decide) hA1 ⟨trivial, rfl, rfl⟩ dX4_written_23
    · refine lv_iload_n hx hb dX4_written_12 rfl (lv_at hl 2 rfl) ?_
      refine lv_if_lt (tgt := 21) hx hb dX4_written_13 (by decide) (fun c_56 => ?_) (fun c_56 => ?_)
      · refine lv_bipush (v := (-2)) hx hb dX4_written_21 (by decide) ?_
        exact prI (post := fun r L1 f1 => (True) ∧ L1 = L ∧ f1 = f) S Y rfl (by decide) (by decide) hA1 ⟨trivial, rfl, rfl⟩ dX4_written_23
      · refine lv_iload_n hx hb dX4_written_16 rfl (lv_at hl 2 rfl) ?_
        refine lv_iconst (v := 3) hx hb dX4_written_17 (by decide) ?_
        refine lv_icmp_lt (tgt := 24) hx hb dX4_written_18 (by decide) (fun c_57 => ?_) (fun c_57 => ?_)
        · refine lv_aload_n hx hb dX4_written_24 rfl (lv_at hl 0 rfl) ?_
          refine pg_get S Y ok_X4 1 (by decide) kf4_15 (v := .ref aa) p_h rfl dX4_written_25 ?_
          refine lv_iload_n hx hb dX4_written_28 rfl (lv_at hl 1 rfl) ?_
          refine lv_iconst (v := 3) hx hb dX4_written_29 (by decide) ?_
          refine lv_imul hx hb dX4_written_30 ?_
          refine lv_topi (fun x_58 ex_58 => ?_)
          refine lv_iload_n hx hb dX4_written_31 rfl (lv_at hl 2 rfl) ?_
          refine lv_iadd hx hb dX4_written_32 ?_
          refine lv_topi (fun x_59 ex_59 => ?_)
          refine pg_iald S Y (v := (g (x_59 : Int32).toNatClampNeg)) p_aa (by rw [ex_59, ex_58]; exact ixw (c := ac) (n := 30) (q := 3) rfl rfl (by decide) (by decide) qa c_54 c_55 c_56 c_57) rfl dX4_written_33 ?_
          exact prI (post := fun r L1 f1 => (True) ∧ L1 = L ∧ f1 = f) S Y rfl (by decide) (by decide) hA1 ⟨trivial, rfl, rfl⟩ dX4_written_34
        · refine lv_bipush (v := (-2)) hx hb dX4_written_21 (by decide) ?_
          exact prI (post := fun r L1 f1 => (True) ∧ L1 = L ∧ f1 = f) S Y rfl (by decide) (by decide) hA1 ⟨trivial, rfl, rfl⟩ dX4_written_23
set_option maxHeartbeats 4000000 in
set_option maxRecDepth 100000 in
theorem c_X4_draw {l : Launch} {G : GG} {L : List Nat} {f : HF} {h oa aa : Nat} {oc ac dt rn xx : Int32}  (p_h : pt L f h (.inr (4, [.ref oa, .ref aa, .int oc, .int ac, .int dt, .int rn, .int xx])))  : PMi l yX4_draw cX4_draw 2 .int 0 0 0 G [.ref h] L f (fun r L1 f1 => ∃ x2 : Int32, kp L f L1 f1 [h] ∧ pt L1 f1 h (.inr (4, [.ref oa, .ref aa, .int oc, .int ac, .int dt, .int rn, .int x2]))) := by
  refine PMi.of (post := fun r L1 f1 => ∃ x2 : Int32, kp L f L1 f1 [h] ∧ pt L1 f1 h (.inr (4, [.ref oa, .ref aa, .int oc, .int ac, .int dt, .int rn, .int x2]))) (own := RX4) (by decide) rfl (Nat.le_of_ble_eq_true rfl) (fun sz p e s m args below meth c A ls hA1 hname S Y hl => ?_)
  have hx := S.hx
  have hb := S.hb
  have hl : lv_has ls 2 [(0, .ref h)] := hl
  have hk : kp L f L f [h] := kp.rf
  refine lv_aload_n hx hb dX4_draw_0 rfl (lv_at hl 0 rfl) ?_
  refine pg_get S Y ok_X4 6 (by decide) kf4_18 (v := .int xx) p_h rfl dX4_draw_1 ?_
  refine lv_istore_n (lv' := [(1, .int xx), (0, .ref h)]) hx hb dX4_draw_4 rfl hl (by decide) rfl (fun ls hl => ?_)
  refine lv_aload_n hx hb dX4_draw_5 rfl (lv_at hl 1 rfl) ?_
  refine lv_aload_n hx hb dX4_draw_6 rfl (lv_at hl 1 rfl) ?_
  refine pg_get S Y ok_X4 6 (by decide) kf4_18 (v := .int xx) p_h rfl dX4_draw_7 ?_
  refine lv_sipush (v := 367) hx hb dX4_draw_10 (by decide) ?_
  refine lv_imul hx hb dX4_draw_13 ?_
  refine lv_topi (fun x_60 ex_60 => ?_)
  refine lv_sipush (v := 241) hx hb dX4_draw_14 (by decide) ?_
  refine lv_iadd hx hb dX4_draw_17 ?_
  refine lv_topi (fun x_61 ex_61 => ?_)
  refine lv_sipush (v := 30449) hx hb dX4_draw_18 (by decide) ?_
  refine lv_irem hx hb dX4_draw_21 (by decide) ?_
  refine lv_topi (fun x_62 ex_62 => ?_)
  refine pg_put S Y ok_X4 6 (by decide) kf4_18 rfl (fs' := [.ref oa, .ref aa, .int oc, .int ac, .int dt, .int rn, .int x_62]) (v := .int x_62) p_h rfl rfl rfl (Nat.le_of_ble_eq_true rfl) dX4_draw_22 (fun f_63 H locs ef_63 Y => ?_)
  have p_h := p_h.me ef_63
  have hk := hk.up ef_63 (by simp)
  refine lv_iload_n hx hb dX4_draw_25 rfl (lv_at hl 0 rfl) ?_
  exact prI (post := fun r L1 f1 => ∃ x2 : Int32, kp L f L1 f1 [h] ∧ pt L1 f1 h (.inr (4, [.ref oa, .ref aa, .int oc, .int ac, .int dt, .int rn, .int x2]))) S Y rfl (by decide) (by decide) hA1 ⟨x_62, hk, p_h⟩ dX4_draw_26
set_option maxHeartbeats 4000000 in
set_option maxRecDepth 100000 in
theorem c_X4_turnDay {l : Launch} {G : GG} {L : List Nat} {f : HF} {h oa aa : Nat} {oc ac dt rn xx : Int32}  (p_h : pt L f h (.inr (4, [.ref oa, .ref aa, .int oc, .int ac, .int dt, .int rn, .int xx])))  : PMv l yX4_turnDay cX4_turnDay 1 1 0 0 G [.ref h] L f (fun L1 f1 => ∃ d2 : Int32, ∃ r2 : Int32, ∃ x2 : Int32, kp L f L1 f1 [h] ∧ pt L1 f1 h (.inr (4, [.ref oa, .ref aa, .int oc, .int ac, .int d2, .int r2, .int x2]))) := by
  refine PMv.of (post := fun L1 f1 => ∃ d2 : Int32, ∃ r2 : Int32, ∃ x2 : Int32, kp L f L1 f1 [h] ∧ pt L1 f1 h (.inr (4, [.ref oa, .ref aa, .int oc, .int ac, .int d2, .int r2, .int x2]))) (own := RX4) (by decide) rfl (Nat.le_of_ble_eq_true rfl) (fun sz p e s m args below meth c A ls hA1 hname S Y hl => ?_)
  have hx := S.hx
  have hb := S.hb
  have hl : lv_has ls 1 [(0, .ref h)] := hl
  have hk : kp L f L f [h] := kp.rf
  refine lv_aload_n hx hb dX4_turnDay_0 rfl (lv_at hl 0 rfl) ?_
  refine lv_dup hx hb dX4_turnDay_1 rfl ?_
  refine pg_get S Y ok_X4 4 (by decide) kf4_34 (v := .int dt) p_h rfl dX4_turnDay_2 ?_
  refine lv_iconst (v := 1) hx hb dX4_turnDay_5 (by decide) ?_
  refine lv_iadd hx hb dX4_turnDay_6 ?_
  refine lv_topi (fun x_64 ex_64 => ?_)
  refine pg_put S Y ok_X4 4 (by decide) kf4_34 rfl (fs' := [.ref oa, .ref aa, .int oc, .int ac, .int x_64, .int rn, .int xx]) (v := .int x_64) p_h rfl rfl rfl (Nat.le_of_ble_eq_true rfl) dX4_turnDay_7 (fun f_65 H locs ef_65 Y => ?_)
  have p_h := p_h.me ef_65
  have hk := hk.up ef_65 (by simp)
  refine lv_aload_n hx hb dX4_turnDay_10 rfl (lv_at hl 0 rfl) ?_
  refine lv_aload_n hx hb dX4_turnDay_11 rfl (lv_at hl 0 rfl) ?_
  refine cVi (As := []) (rest := [.ref h]) S Y (c_X4_draw (l := l) p_h) cw_X4_draw km4_64 p_h ok_X4.1 rfl rfl ⟨Nat.le_of_ble_eq_true rfl, Nat.le_of_ble_eq_true rfl⟩ hl.1 rfl (Nat.le_of_ble_eq_true rfl) ⟨Nat.le_of_ble_eq_true rfl, Nat.le_of_ble_eq_true rfl⟩ dX4_turnDay_12 (fun r_66 L_67 f_68 H locs hf_68 Y => ?_)
  obtain ⟨x__69, kf_68, z_z_70⟩ := hf_68
  have p_h := z_z_70
  have hk := hk.call kf_68 (fun b hb hp => (nmc (fun q => hb (by simp [q])) nm0))
  refine lv_bipush (v := 10) hx hb dX4_turnDay_15 (by decide) ?_
  refine lv_irem hx hb dX4_turnDay_17 (by decide) ?_
  refine lv_topi (fun x_71 ex_71 => ?_)
  refine pg_put S Y ok_X4 5 (by decide) kf4_37 rfl (fs' := [.ref oa, .ref aa, .int oc, .int ac, .int x_64, .int x_71, .int x__69]) (v := .int x_71) p_h rfl rfl rfl (Nat.le_of_ble_eq_true rfl) dX4_turnDay_18 (fun f_72 H locs ef_72 Y => ?_)
  have p_h := p_h.me ef_72
  have hk := hk.up ef_72 (by simp)
  exact prV (post := fun L1 f1 => ∃ d2 : Int32, ∃ r2 : Int32, ∃ x2 : Int32, kp L f L1 f1 [h] ∧ pt L1 f1 h (.inr (4, [.ref oa, .ref aa, .int oc, .int ac, .int d2, .int r2, .int x2]))) S Y (by decide) (by decide) hA1 ⟨x_64, x_71, x__69, hk, p_h⟩ dX4_turnDay_21
set_option maxHeartbeats 4000000 in
set_option maxRecDepth 100000 in
theorem c_X4_moreWear {l : Launch} {G : GG} {L : List Nat} {f : HF} {h oa aa : Nat} {i v oc ac dt rn xx : Int32} {g : Nat → Int32}  (p_h : pt L f h (.inr (4, [.ref oa, .ref aa, .int oc, .int ac, .int dt, .int rn, .int xx]))) (p_oa : pt L f oa (.inl (G.2 0, 98, .inl g))) (qb : bd oc 14) : PMv l yX4_moreWear cX4_moreWear 3 1 0 0 G [.ref h, .int i, .int v] L f (fun L1 f1 => ∃ g2 : Nat → Int32, kp L f L1 f1 [oa] ∧ pt L1 f1 oa (.inl (G.2 0, 98, .inl g2))) := by
  refine PMv.of (post := fun L1 f1 => ∃ g2 : Nat → Int32, kp L f L1 f1 [oa] ∧ pt L1 f1 oa (.inl (G.2 0, 98, .inl g2))) (own := RX4) (by decide) rfl (Nat.le_of_ble_eq_true rfl) (fun sz p e s m args below meth c A ls hA1 hname S Y hl => ?_)
  have hx := S.hx
  have hb := S.hb
  have hl : lv_has ls 3 [(0, .ref h), (1, .int i), (2, .int v)] := hl
  have hk : kp L f L f [oa] := kp.rf
  refine lv_aload_n hx hb dX4_moreWear_0 rfl (lv_at hl 0 rfl) ?_
  refine lv_iload_n hx hb dX4_moreWear_1 rfl (lv_at hl 1 rfl) ?_
  refine lv_iconst (v := 5) hx hb dX4_moreWear_2 (by decide) ?_
  refine lv_bipush (v := 99) hx hb dX4_moreWear_3 (by decide) ?_
  refine lv_aload_n hx hb dX4_moreWear_5 rfl (lv_at hl 0 rfl) ?_
  refine lv_iload_n hx hb dX4_moreWear_6 rfl (lv_at hl 1 rfl) ?_
  refine lv_iconst (v := 5) hx hb dX4_moreWear_7 (by decide) ?_
  refine cVp (As := [.int i, .int 5]) (rest := [.int 99, .int 5, .int i, .ref h]) S Y (c_X4_get (l := l) p_h p_oa qb) cw_X4_get km4_44 p_h ok_X4.1 rfl rfl ⟨Nat.le_of_ble_eq_true rfl, Nat.le_of_ble_eq_true rfl⟩ hl.1 rfl (Nat.le_of_ble_eq_true rfl) ⟨Nat.le_of_ble_eq_true rfl, Nat.le_of_ble_eq_true rfl⟩ dX4_moreWear_8 (fun r_73 H locs er_73 Y => ?_)
  refine lv_iload_n hx hb dX4_moreWear_11 rfl (lv_at hl 2 rfl) ?_
  refine lv_iadd hx hb dX4_moreWear_12 ?_
  refine lv_topi (fun x_74 ex_74 => ?_)
  refine va_mmin hx hb (S.ml.trans hl.1.symm) S.ow (S.w km4_48) (S.w kMs_min) (S.w kMi) (S.w kMc_min) (Nat.le_of_ble_eq_true rfl) (Nat.le_of_ble_eq_true rfl) (by decide) (by decide) dX4_moreWear_13 ?_
  refine lv_topi (fun x_75 ex_75 => ?_)
  refine cVv (As := [.int i, .int 5, .int x_75]) (rest := []) S Y (c_X4_put (l := l) p_h p_oa qb) cw_X4_put km4_40 p_h ok_X4.1 rfl rfl ⟨Nat.le_of_ble_eq_true rfl, Nat.le_of_ble_eq_true rfl⟩ hl.1 rfl (Nat.le_of_ble_eq_true rfl) ⟨Nat.le_of_ble_eq_true rfl, Nat.le_of_ble_eq_true rfl⟩ dX4_moreWear_16 (fun L_76 f_77 H locs hf_77 Y => ?_)
  obtain ⟨g__78, kf_77, z_z_79⟩ := hf_77
  have p_h := kf_77.1 h _ (nmc (p_h.neA p_oa) nm0) p_h
  have p_oa := z_z_79
  have hk := hk.call kf_77 (fun b hb hp => (nmc (fun q => hb (by simp [q])) nm0))
  exact prV (post := fun L1 f1 => ∃ g2 : Nat → Int32, kp L f L1 f1 [oa] ∧ pt L1 f1 oa (.inl (G.2 0, 98, .inl g2))) S Y (by decide) (by decide) hA1 ⟨g__78, hk, p_oa⟩ dX4_moreWear_19
set_option maxHeartbeats 4000000 in
set_option maxRecDepth 100000 in
theorem c_X4_addOath {l : Launch} {G : GG} {L : List Nat} {f : HF} {h oa aa : Nat} {i1 i2 i3 i4 oc ac dt rn xx : Int32} {g : Nat → Int32}  (p_h : pt L f h (.inr (4, [.ref oa, .ref aa, .int oc, .int ac, .int dt, .int rn, .int xx]))) (p_oa : pt L f oa (.inl (G.2 0, 98, .inl g))) (qb : bd oc 14) : PMi l yX4_addOath cX4_addOath 6 .int 1 0 0 G [.ref h, .int i1, .int i2, .int i3, .int i4] L f (fun r L1 f1 => ∃ oc2 : Int32, ∃ g2 : Nat → Int32, kp L f L1 f1 [h, oa] ∧ pt L1 f1 h (.inr (4, [.ref oa, .ref aa, .int oc2, .int ac, .int dt, .int rn, .int xx])) ∧ pt L1 f1 oa (.inl (G.2 0, 98, .inl g2)) ∧ bd oc2 14) := by
  refine PMi.of (post := fun r L1 f1 => ∃ oc2 : Int32, ∃ g2 : Nat → Int32, kp L f L1 f1 [h, oa] ∧ pt L1 f1 h (.inr (4, [.ref oa, .ref aa, .int oc2, .int ac, .int dt, .int rn, .int xx])) ∧ pt L1 f1 oa (.inl (G.2 0, 98, .inl g2)) ∧ bd oc2 14) (own := RX4) (by decide) rfl (Nat.le_of_ble_eq_true rfl) (fun sz p e s m args below meth c A ls hA1 hname S Y hl => ?_)
  have hx := S.hx
  have hb := S.hb
  have hl : lv_has ls 6 [(0, .ref h), (1, .int i1), (2, .int i2), (3, .int i3), (4, .int i4)] := hl
  have hk : kp L f L f [h, oa] := kp.rf
  refine lv_aload_n hx hb dX4_addOath_0 rfl (lv_at hl 0 rfl) ?_
  refine pg_get S Y ok_X4 2 (by decide) kf4_28 (v := .int oc) p_h rfl dX4_addOath_1 ?_
  refine lv_bipush (v := 14) hx hb dX4_addOath_4 (by decide) ?_
  refine lv_icmp_lt (tgt := 11) hx hb dX4_addOath_6 (by decide) (fun c_80 => ?_) (fun c_80 => ?_)
  · refine lv_aload_n hx hb dX4_addOath_11 rfl (lv_at hl 0 rfl) ?_
    refine pg_get S Y ok_X4 2 (by decide) kf4_28 (v := .int oc) p_h rfl dX4_addOath_12 ?_
    refine lv_istore (lv' := [(5, .int oc), (0, .ref h), (1, .int i1), (2, .int i2), (3, .int i3), (4, .int i4)]) hx hb dX4_addOath_15 hl (by decide) rfl (fun ls hl => ?_)
    refine lv_aload_n hx hb dX4_addOath_17 rfl (lv_at hl 1 rfl) ?_
    refine lv_dup hx hb dX4_addOath_18 rfl ?_
    refine pg_get S Y ok_X4 2 (by decide) kf4_28 (v := .int oc) p_h rfl dX4_addOath_19 ?_
    refine lv_iconst (v := 1) hx hb dX4_addOath_22 (by decide) ?_
    refine lv_iadd hx hb dX4_addOath_23 ?_
    refine lv_topi (fun x_81 ex_81 => ?_)
    refine pg_put S Y ok_X4 2 (by decide) kf4_28 rfl (fs' := [.ref oa, .ref aa, .int x_81, .int ac, .int dt, .int rn, .int xx]) (v := .int x_81) p_h rfl rfl rfl (Nat.le_of_ble_eq_true rfl) dX4_addOath_24 (fun f_82 H locs ef_82 Y => ?_)
    have p_oa := p_oa.up ef_82 ((p_oa.neB p_h))
    have p_h := p_h.me ef_82
    have hk := hk.up ef_82 (by simp)
    refine lv_aload_n hx hb dX4_addOath_27 rfl (lv_at hl 1 rfl) ?_
    refine lv_iload hx hb dX4_addOath_28 (lv_at hl 0 rfl) ?_
    refine lv_iconst (v := 0) hx hb dX4_addOath_30 (by decide) ?_
    refine lv_iload_n hx hb dX4_addOath_31 rfl (lv_at hl 2 rfl) ?_
    refine cVv (As := [.int oc, .int 0, .int i1]) (rest := []) S Y (c_X4_put (l := l) p_h p_oa (by rw [ex_81]; exact bd_inc qb (Int32.not_le.mpr c_80) rfl (by decide))) cw_X4_put km4_40 p_h ok_X4.1 rfl rfl ⟨Nat.le_of_ble_eq_true rfl, Nat.le_of_ble_eq_true rfl⟩ hl.1 rfl (Nat.le_of_ble_eq_true rfl) ⟨Nat.le_of_ble_eq_true rfl, Nat.le_of_ble_eq_true rfl⟩ dX4_addOath_32 (fun L_83 f_84 H locs hf_84 Y => ?_)
    obtain ⟨g__85, kf_84, z_z_86⟩ := hf_84
    have p_h := kf_84.1 h _ (nmc (p_h.neA p_oa) nm0) p_h
    have p_oa := z_z_86
    have hk := hk.call kf_84 (fun b hb hp => (nmc (fun q => hb (by simp [q])) nm0))
    refine lv_aload_n hx hb dX4_addOath_35 rfl (lv_at hl 1 rfl) ?_
    refine lv_iload hx hb dX4_addOath_36 (lv_at hl 0 rfl) ?_
    refine lv_iconst (v := 1) hx hb dX4_addOath_38 (by decide) ?_
    refine lv_iload_n hx hb dX4_addOath_39 rfl (lv_at hl 3 rfl) ?_
    refine cVv (As := [.int oc, .int 1, .int i2]) (rest := []) S Y (c_X4_put (l := l) p_h p_oa (by rw [ex_81]; exact bd_inc qb (Int32.not_le.mpr c_80) rfl (by decide))) cw_X4_put km4_40 p_h ok_X4.1 rfl rfl ⟨Nat.le_of_ble_eq_true rfl, Nat.le_of_ble_eq_true rfl⟩ hl.1 rfl (Nat.le_of_ble_eq_true rfl) ⟨Nat.le_of_ble_eq_true rfl, Nat.le_of_ble_eq_true rfl⟩ dX4_addOath_40 (fun L_87 f_88 H locs hf_88 Y => ?_)
    obtain ⟨g__89, kf_88, z_z_90⟩ := hf_88
    have p_h := kf_88.1 h _ (nmc (p_h.neA p_oa) nm0) p_h
    have p_oa := z_z_90
    have hk := hk.call kf_88 (fun b hb hp => (nmc (fun q => hb (by simp [q])) nm0))
    refine lv_aload_n hx hb dX4_addOath_43 rfl (lv_at hl 1 rfl) ?_
    refine lv_iload hx hb dX4_addOath_44 (lv_at hl 0 rfl) ?_
    refine lv_iconst (v := 2) hx hb dX4_addOath_46 (by decide) ?_
    refine lv_iload_n hx hb dX4_addOath_47 rfl (lv_at hl 4 rfl) ?_
    refine cVv (As := [.int oc, .int 2, .int i3]) (rest := []) S Y (c_X4_put (l := l) p_h p_oa (by rw [ex_81]; exact bd_inc qb (Int32.not_le.mpr c_80) rfl (by decide))) cw_X4_put km4_40 p_h ok_X4.1 rfl rfl ⟨Nat.le_of_ble_eq_true rfl, Nat.le_of_ble_eq_true rfl⟩ hl.1 rfl (Nat.le_of_ble_eq_true rfl) ⟨Nat.le_of_ble_eq_true rfl, Nat.le_of_ble_eq_true rfl⟩ dX4_addOath_48 (fun L_91 f_92 H locs hf_92 Y => ?_)
    obtain ⟨g__93, kf_92, z_z_94⟩ := hf_92
    have p_h := kf_92.1 h _ (nmc (p_h.neA p_oa) nm0) p_h
    have p_oa := z_z_94
    have hk := hk.call kf_92 (fun b hb hp => (nmc (fun q => hb (by simp [q])) nm0))
    refine lv_aload_n hx hb dX4_addOath_51 rfl (lv_at hl 1 rfl) ?_
    refine lv_iload hx hb dX4_addOath_52 (lv_at hl 0 rfl) ?_
    refine lv_iconst (v := 3) hx hb dX4_addOath_54 (by decide) ?_
    refine lv_iload hx hb dX4_addOath_55 (lv_at hl 5 rfl) ?_
    refine cVv (As := [.int oc, .int 3, .int i4]) (rest := []) S Y (c_X4_put (l := l) p_h p_oa (by rw [ex_81]; exact bd_inc qb (Int32.not_le.mpr c_80) rfl (by decide))) cw_X4_put km4_40 p_h ok_X4.1 rfl rfl ⟨Nat.le_of_ble_eq_true rfl, Nat.le_of_ble_eq_true rfl⟩ hl.1 rfl (Nat.le_of_ble_eq_true rfl) ⟨Nat.le_of_ble_eq_true rfl, Nat.le_of_ble_eq_true rfl⟩ dX4_addOath_57 (fun L_95 f_96 H locs hf_96 Y => ?_)
    obtain ⟨g__97, kf_96, z_z_98⟩ := hf_96
    have p_h := kf_96.1 h _ (nmc (p_h.neA p_oa) nm0) p_h
    have p_oa := z_z_98
    have hk := hk.call kf_96 (fun b hb hp => (nmc (fun q => hb (by simp [q])) nm0))
    refine lv_aload_n hx hb dX4_addOath_60 rfl (lv_at hl 1 rfl) ?_
    refine lv_iload hx hb dX4_addOath_61 (lv_at hl 0 rfl) ?_
    refine lv_iconst (v := 4) hx hb dX4_addOath_63 (by decide) ?_
    refine lv_iconst (v := 0) hx hb dX4_addOath_64 (by decide) ?_
    refine cVv (As := [.int oc, .int 4, .int 0]) (rest := []) S Y (c_X4_put (l := l) p_h p_oa (by rw [ex_81]; exact bd_inc qb (Int32.not_le.mpr c_80) rfl (by decide))) cw_X4_put km4_40 p_h ok_X4.1 rfl rfl ⟨Nat.le_of_ble_eq_true rfl, Nat.le_of_ble_eq_true rfl⟩ hl.1 rfl (Nat.le_of_ble_eq_true rfl) ⟨Nat.le_of_ble_eq_true rfl, Nat.le_of_ble_eq_true rfl⟩ dX4_addOath_65 (fun L_99 f_100 H locs hf_100 Y => ?_)
    obtain ⟨g__101, kf_100, z_z_102⟩ := hf_100
    have p_h := kf_100.1 h _ (nmc (p_h.neA p_oa) nm0) p_h
    have p_oa := z_z_102
    have hk := hk.call kf_100 (fun b hb hp => (nmc (fun q => hb (by simp [q])) nm0))
    refine lv_aload_n hx hb dX4_addOath_68 rfl (lv_at hl 1 rfl) ?_
    refine lv_iload hx hb dX4_addOath_69 (lv_at hl 0 rfl) ?_
    refine lv_iconst (v := 5) hx hb dX4_addOath_71 (by decide) ?_
    refine lv_iconst (v := 0) hx hb dX4_addOath_72 (by decide) ?_
    refine cVv (As := [.int oc, .int 5, .int 0]) (rest := []) S Y (c_X4_put (l := l) p_h p_oa (by rw [ex_81]; exact bd_inc qb (Int32.not_le.mpr c_80) rfl (by decide))) cw_X4_put km4_40 p_h ok_X4.1 rfl rfl ⟨Nat.le_of_ble_eq_true rfl, Nat.le_of_ble_eq_true rfl⟩ hl.1 rfl (Nat.le_of_ble_eq_true rfl) ⟨Nat.le_of_ble_eq_true rfl, Nat.le_of_ble_eq_true rfl⟩ dX4_addOath_73 (fun L_103 f_104 H locs hf_104 Y => ?_)
    obtain ⟨g__105, kf_104, z_z_106⟩ := hf_104
    have p_h := kf_104.1 h _ (nmc (p_h.neA p_oa) nm0) p_h
    have p_oa := z_z_106
    have hk := hk.call kf_104 (fun b hb hp => (nmc (fun q => hb (by simp [q])) nm0))
    refine lv_aload_n hx hb dX4_addOath_76 rfl (lv_at hl 1 rfl) ?_
    refine lv_iload hx hb dX4_addOath_77 (lv_at hl 0 rfl) ?_
    refine lv_bipush (v := 6) hx hb dX4_addOath_79 (by decide) ?_
    refine lv_aload_n hx hb dX4_addOath_81 rfl (lv_at hl 1 rfl) ?_
    refine pg_get S Y ok_X4 4 (by decide) kf4_34 (v := .int dt) p_h rfl dX4_addOath_82 ?_
    refine cVv (As := [.int oc, .int 6, .int dt]) (rest := []) S Y (c_X4_put (l := l) p_h p_oa (by rw [ex_81]; exact bd_inc qb (Int32.not_le.mpr c_80) rfl (by decide))) cw_X4_put km4_40 p_h ok_X4.1 rfl rfl ⟨Nat.le_of_ble_eq_true rfl, Nat.le_of_ble_eq_true rfl⟩ hl.1 rfl (Nat.le_of_ble_eq_true rfl) ⟨Nat.le_of_ble_eq_true rfl, Nat.le_of_ble_eq_true rfl⟩ dX4_addOath_85 (fun L_107 f_108 H locs hf_108 Y => ?_)
    obtain ⟨g__109, kf_108, z_z_110⟩ := hf_108
    have p_h := kf_108.1 h _ (nmc (p_h.neA p_oa) nm0) p_h
    have p_oa := z_z_110
    have hk := hk.call kf_108 (fun b hb hp => (nmc (fun q => hb (by simp [q])) nm0))
    refine lv_iload hx hb dX4_addOath_88 (lv_at hl 0 rfl) ?_
    exact prI (post := fun r L1 f1 => ∃ oc2 : Int32, ∃ g2 : Nat → Int32, kp L f L1 f1 [h, oa] ∧ pt L1 f1 h (.inr (4, [.ref oa, .ref aa, .int oc2, .int ac, .int dt, .int rn, .int xx])) ∧ pt L1 f1 oa (.inl (G.2 0, 98, .inl g2)) ∧ bd oc2 14) S Y rfl (by decide) (by decide) hA1 ⟨x_81, g__109, hk, p_h, p_oa, (by rw [ex_81]; exact bd_inc qb (Int32.not_le.mpr c_80) rfl (by decide))⟩ dX4_addOath_90
  · refine lv_iconst (v := (-1)) hx hb dX4_addOath_9 (by decide) ?_
    exact prI (post := fun r L1 f1 => ∃ oc2 : Int32, ∃ g2 : Nat → Int32, kp L f L1 f1 [h, oa] ∧ pt L1 f1 h (.inr (4, [.ref oa, .ref aa, .int oc2, .int ac, .int dt, .int rn, .int xx])) ∧ pt L1 f1 oa (.inl (G.2 0, 98, .inl g2)) ∧ bd oc2 14) S Y rfl (by decide) (by decide) hA1 ⟨oc, g, hk, p_h, p_oa, qb⟩ dX4_addOath_10
set_option maxHeartbeats 4000000 in
set_option maxRecDepth 100000 in
theorem c_X4_takeOver {l : Launch} {G : GG} {L : List Nat} {f : HF} {h o oa aa ob ab : Nat} {h1 h2 h3 h4 h5 o1 o2 o3 o4 o5 : Int32} {g1 g2 g3 g4 : Nat → Int32}  (p_h : pt L f h (.inr (4, [.ref oa, .ref aa, .int h1, .int h2, .int h3, .int h4, .int h5]))) (p_oa : pt L f oa (.inl (G.2 0, 98, .inl g1))) (p_aa : pt L f aa (.inl (G.2 0, 90, .inl g2))) (p_o : pt L f o (.inr (4, [.ref ob, .ref ab, .int o1, .int o2, .int o3, .int o4, .int o5]))) (p_ob : pt L f ob (.inl (G.2 0, 98, .inl g3))) (p_ab : pt L f ab (.inl (G.2 0, 90, .inl g4))) (n1 : h ≠ o) : PMv l yX4_takeOver cX4_takeOver 2 1 0 0 G [.ref h, .ref o] L f (fun L1 f1 => ∃ g5 : Nat → Int32, ∃ g6 : Nat → Int32, kp L f L1 f1 [h, oa, aa] ∧ pt L1 f1 h (.inr (4, [.ref oa, .ref aa, .int o1, .int o2, .int o3, .int o4, .int o5])) ∧ pt L1 f1 oa (.inl (G.2 0, 98, .inl g5)) ∧ pt L1 f1 aa (.inl (G.2 0, 90, .inl g6))) := by
  refine PMv.of (post := fun L1 f1 => ∃ g5 : Nat → Int32, ∃ g6 : Nat → Int32, kp L f L1 f1 [h, oa, aa] ∧ pt L1 f1 h (.inr (4, [.ref oa, .ref aa, .int o1, .int o2, .int o3, .int o4, .int o5])) ∧ pt L1 f1 oa (.inl (G.2 0, 98, .inl g5)) ∧ pt L1 f1 aa (.inl (G.2 0, 90, .inl g6))) (own := RX4) (by decide) rfl (Nat.le_of_ble_eq_true rfl) (fun sz p e s m args below meth c A ls hA1 hname S Y hl => ?_)
  have hx := S.hx
  have hb := S.hb
  have hl : lv_has ls 2 [(0, .ref h), (1, .ref o)] := hl
  have hk : kp L f L f [h, oa, aa] := kp.rf
  refine lv_aload_n hx hb dX4_takeOver_0 rfl (lv_at hl 1 rfl) ?_
  refine pg_get S Y ok_X4 0 (by decide) kf4_9 (v := .ref ob) p_o rfl dX4_takeOver_1 ?_
  refine lv_iconst (v := 0) hx hb dX4_takeOver_4 (by decide) ?_
  refine lv_aload_n hx hb dX4_takeOver_5 rfl (lv_at hl 0 rfl) ?_
  refine pg_get S Y ok_X4 0 (by decide) kf4_9 (v := .ref oa) p_h rfl dX4_takeOver_6 ?_
  refine lv_iconst (v := 0) hx hb dX4_takeOver_9 (by decide) ?_
  refine lv_aload_n hx hb dX4_takeOver_10 rfl (lv_at hl 0 rfl) ?_
  refine pg_get S Y ok_X4 0 (by decide) kf4_9 (v := .ref oa) p_h rfl dX4_takeOver_11 ?_
  refine pg_alen S Y (k := 0) (v := 98) p_oa rfl rfl dX4_takeOver_14 ?_
  refine pg_copyi S Y hl.1 km4_22 kAn kAs kAi p_ob p_oa (by decide) (by decide) (by decide) (by decide) (by decide) (Nat.le_of_ble_eq_true rfl) (Nat.le_of_ble_eq_true rfl) dX4_takeOver_15 (fun f_112 H locs ef_112 Y => ?_)
  obtain ⟨g_111, eg_111⟩ : ∃ z, z = va_cpy (g3) (g1) (0 : Int32).toNatClampNeg (0 : Int32).toNatClampNeg (98 : Int32).toNatClampNeg := ⟨_, rfl⟩
  rw [← eg_111] at ef_112
  have p_h := p_h.up ef_112 ((p_h.neA p_oa))
  have p_aa := p_aa.up ef_112 ((p_aa.neN p_oa (by decide)))
  have p_o := p_o.up ef_112 ((p_o.neA p_oa))
  have p_ab := p_ab.up ef_112 ((p_ab.neN p_oa (by decide)))
  have p_oa := p_oa.me ef_112
  have hk := hk.up ef_112 (by simp)
  refine lv_aload_n hx hb dX4_takeOver_18 rfl (lv_at hl 1 rfl) ?_
  refine pg_get S Y ok_X4 1 (by decide) kf4_15 (v := .ref ab) p_o rfl dX4_takeOver_19 ?_
  refine lv_iconst (v := 0) hx hb dX4_takeOver_22 (by decide) ?_
  refine lv_aload_n hx hb dX4_takeOver_23 rfl (lv_at hl 0 rfl) ?_
  refine pg_get S Y ok_X4 1 (by decide) kf4_15 (v := .ref aa) p_h rfl dX4_takeOver_24 ?_
  refine lv_iconst (v := 0) hx hb dX4_takeOver_27 (by decide) ?_
  refine lv_aload_n hx hb dX4_takeOver_28 rfl (lv_at hl 0 rfl) ?_
  refine pg_get S Y ok_X4 1 (by decide) kf4_15 (v := .ref aa) p_h rfl dX4_takeOver_29 ?_
  refine pg_alen S Y (k := 0) (v := 90) p_aa rfl rfl dX4_takeOver_32 ?_
  refine pg_copyi S Y hl.1 km4_22 kAn kAs kAi p_ab p_aa (by decide) (by decide) (by decide) (by decide) (by decide) (Nat.le_of_ble_eq_true rfl) (Nat.le_of_ble_eq_true rfl) dX4_takeOver_33 (fun f_114 H locs ef_114 Y => ?_)
  obtain ⟨g_113, eg_113⟩ : ∃ z, z = va_cpy (g4) (g2) (0 : Int32).toNatClampNeg (0 : Int32).toNatClampNeg (90 : Int32).toNatClampNeg := ⟨_, rfl⟩
  rw [← eg_113] at ef_114
  have p_h := p_h.up ef_114 ((p_h.neA p_aa))
  have p_oa := p_oa.up ef_114 ((p_oa.neN p_aa (by decide)))
  have p_o := p_o.up ef_114 ((p_o.neA p_aa))
  have p_aa := p_aa.me ef_114
  have hk := hk.up ef_114 (by simp)
  refine lv_aload_n hx hb dX4_takeOver_36 rfl (lv_at hl 0 rfl) ?_
  refine lv_aload_n hx hb dX4_takeOver_37 rfl (lv_at hl 1 rfl) ?_
  refine pg_get S Y ok_X4 2 (by decide) kf4_28 (v := .int o1) p_o rfl dX4_takeOver_38 ?_
  refine pg_put S Y ok_X4 2 (by decide) kf4_28 rfl (fs' := [.ref oa, .ref aa, .int o1, .int h2, .int h3, .int h4, .int h5]) (v := .int o1) p_h rfl rfl rfl (Nat.le_of_ble_eq_true rfl) dX4_takeOver_41 (fun f_115 H locs ef_115 Y => ?_)
  have p_oa := p_oa.up ef_115 ((p_oa.neB p_h))
  have p_aa := p_aa.up ef_115 ((p_aa.neB p_h))
  have p_o := p_o.up ef_115 ((Ne.symm (n1)))
  have p_h := p_h.me ef_115
  have hk := hk.up ef_115 (by simp)
  refine lv_aload_n hx hb dX4_takeOver_44 rfl (lv_at hl 0 rfl) ?_
  refine lv_aload_n hx hb dX4_takeOver_45 rfl (lv_at hl 1 rfl) ?_
  refine pg_get S Y ok_X4 3 (by decide) kf4_31 (v := .int o2) p_o rfl dX4_takeOver_46 ?_
  refine pg_put S Y ok_X4 3 (by decide) kf4_31 rfl (fs' := [.ref oa, .ref aa, .int o1, .int o2, .int h3, .int h4, .int h5]) (v := .int o2) p_h rfl rfl rfl (Nat.le_of_ble_eq_true rfl) dX4_takeOver_49 (fun f_116 H locs ef_116 Y => ?_)
  have p_oa := p_oa.up ef_116 ((p_oa.neB p_h))
  have p_aa := p_aa.up ef_116 ((p_aa.neB p_h))
  have p_o := p_o.up ef_116 ((Ne.symm (n1)))
  have p_h := p_h.me ef_116
  have hk := hk.up ef_116 (by simp)
  refine lv_aload_n hx hb dX4_takeOver_52 rfl (lv_at hl 0 rfl) ?_
  refine lv_aload_n hx hb dX4_takeOver_53 rfl (lv_at hl 1 rfl) ?_
  refine pg_get S Y ok_X4 4 (by decide) kf4_34 (v := .int o3) p_o rfl dX4_takeOver_54 ?_
  refine pg_put S Y ok_X4 4 (by decide) kf4_34 rfl (fs' := [.ref oa, .ref aa, .int o1, .int o2, .int o3, .int h4, .int h5]) (v := .int o3) p_h rfl rfl rfl (Nat.le_of_ble_eq_true rfl) dX4_takeOver_57 (fun f_117 H locs ef_117 Y => ?_)
  have p_oa := p_oa.up ef_117 ((p_oa.neB p_h))
  have p_aa := p_aa.up ef_117 ((p_aa.neB p_h))
  have p_o := p_o.up ef_117 ((Ne.symm (n1)))
  have p_h := p_h.me ef_117
  have hk := hk.up ef_117 (by simp)
  refine lv_aload_n hx hb dX4_takeOver_60 rfl (lv_at hl 0 rfl) ?_
  refine lv_aload_n hx hb dX4_takeOver_61 rfl (lv_at hl 1 rfl) ?_
  refine pg_get S Y ok_X4 5 (by decide) kf4_37 (v := .int o4) p_o rfl dX4_takeOver_62 ?_
  refine pg_put S Y ok_X4 5 (by decide) kf4_37 rfl (fs' := [.ref oa, .ref aa, .int o1, .int o2, .int o3, .int o4, .int h5]) (v := .int o4) p_h rfl rfl rfl (Nat.le_of_ble_eq_true rfl) dX4_takeOver_65 (fun f_118 H locs ef_118 Y => ?_)
  have p_oa := p_oa.up ef_118 ((p_oa.neB p_h))
  have p_aa := p_aa.up ef_118 ((p_aa.neB p_h))
  have p_o := p_o.up ef_118 ((Ne.symm (n1)))
  have p_h := p_h.me ef_118
  have hk := hk.up ef_118 (by simp)
  refine lv_aload_n hx hb dX4_takeOver_68 rfl (lv_at hl 0 rfl) ?_
  refine lv_aload_n hx hb dX4_takeOver_69 rfl (lv_at hl 1 rfl) ?_
  refine pg_get S Y ok_X4 6 (by decide) kf4_18 (v := .int o5) p_o rfl dX4_takeOver_70 ?_
  refine pg_put S Y ok_X4 6 (by decide) kf4_18 rfl (fs' := [.ref oa, .ref aa, .int o1, .int o2, .int o3, .int o4, .int o5]) (v := .int o5) p_h rfl rfl rfl (Nat.le_of_ble_eq_true rfl) dX4_takeOver_73 (fun f_119 H locs ef_119 Y => ?_)
  have p_oa := p_oa.up ef_119 ((p_oa.neB p_h))
  have p_aa := p_aa.up ef_119 ((p_aa.neB p_h))
  have p_o := p_o.up ef_119 ((Ne.symm (n1)))
  have p_h := p_h.me ef_119
  have hk := hk.up ef_119 (by simp)
  exact prV (post := fun L1 f1 => ∃ g5 : Nat → Int32, ∃ g6 : Nat → Int32, kp L f L1 f1 [h, oa, aa] ∧ pt L1 f1 h (.inr (4, [.ref oa, .ref aa, .int o1, .int o2, .int o3, .int o4, .int o5])) ∧ pt L1 f1 oa (.inl (G.2 0, 98, .inl g5)) ∧ pt L1 f1 aa (.inl (G.2 0, 90, .inl g6))) S Y (by decide) (by decide) hA1 ⟨g_111, g_113, hk, p_h, p_oa, p_aa⟩ dX4_takeOver_76
