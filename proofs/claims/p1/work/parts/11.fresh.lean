theorem dJ6_bitCount_0f7a4_0 : decode cJ6_bitCount_0f7a4 0 = .ok (.iload_n 0, 1) := by decide +kernel
theorem dJ6_bitCount_0f7a4_1 : decode cJ6_bitCount_0f7a4 1 = .ok (.iload_n 0, 1) := by decide +kernel
theorem dJ6_bitCount_0f7a4_2 : decode cJ6_bitCount_0f7a4 2 = .ok (.iconst 1, 1) := by decide +kernel
theorem dJ6_bitCount_0f7a4_3 : decode cJ6_bitCount_0f7a4 3 = .ok (.iushr, 1) := by decide +kernel
theorem dJ6_bitCount_0f7a4_4 : decode cJ6_bitCount_0f7a4 4 = .ok (.ldc_w 265, 3) := by decide +kernel
theorem kk106_265 : inW (Cond.constant RJ6 265 (1431655765)) := ⟨List.mem_of_getElem? (i := 1042) (by decide +kernel), by decide +kernel⟩
theorem dJ6_bitCount_0f7a4_7 : decode cJ6_bitCount_0f7a4 7 = .ok (.iand, 1) := by decide +kernel
theorem dJ6_bitCount_0f7a4_8 : decode cJ6_bitCount_0f7a4 8 = .ok (.isub, 1) := by decide +kernel
theorem dJ6_bitCount_0f7a4_9 : decode cJ6_bitCount_0f7a4 9 = .ok (.istore_n 0, 1) := by decide +kernel
theorem dJ6_bitCount_0f7a4_10 : decode cJ6_bitCount_0f7a4 10 = .ok (.iload_n 0, 1) := by decide +kernel
theorem dJ6_bitCount_0f7a4_11 : decode cJ6_bitCount_0f7a4 11 = .ok (.ldc_w 266, 3) := by decide +kernel
theorem kk106_266 : inW (Cond.constant RJ6 266 (858993459)) := ⟨List.mem_of_getElem? (i := 1043) (by decide +kernel), by decide +kernel⟩
theorem dJ6_bitCount_0f7a4_14 : decode cJ6_bitCount_0f7a4 14 = .ok (.iand, 1) := by decide +kernel
theorem dJ6_bitCount_0f7a4_15 : decode cJ6_bitCount_0f7a4 15 = .ok (.iload_n 0, 1) := by decide +kernel
theorem dJ6_bitCount_0f7a4_16 : decode cJ6_bitCount_0f7a4 16 = .ok (.iconst 2, 1) := by decide +kernel
theorem dJ6_bitCount_0f7a4_17 : decode cJ6_bitCount_0f7a4 17 = .ok (.iushr, 1) := by decide +kernel
theorem dJ6_bitCount_0f7a4_18 : decode cJ6_bitCount_0f7a4 18 = .ok (.ldc_w 266, 3) := by decide +kernel
theorem dJ6_bitCount_0f7a4_21 : decode cJ6_bitCount_0f7a4 21 = .ok (.iand, 1) := by decide +kernel
theorem dJ6_bitCount_0f7a4_22 : decode cJ6_bitCount_0f7a4 22 = .ok (.iadd, 1) := by decide +kernel
theorem dJ6_bitCount_0f7a4_23 : decode cJ6_bitCount_0f7a4 23 = .ok (.istore_n 0, 1) := by decide +kernel
theorem dJ6_bitCount_0f7a4_24 : decode cJ6_bitCount_0f7a4 24 = .ok (.iload_n 0, 1) := by decide +kernel
theorem dJ6_bitCount_0f7a4_25 : decode cJ6_bitCount_0f7a4 25 = .ok (.iload_n 0, 1) := by decide +kernel
theorem dJ6_bitCount_0f7a4_26 : decode cJ6_bitCount_0f7a4 26 = .ok (.iconst 4, 1) := by decide +kernel
theorem dJ6_bitCount_0f7a4_27 : decode cJ6_bitCount_0f7a4 27 = .ok (.iushr, 1) := by decide +kernel
theorem dJ6_bitCount_0f7a4_28 : decode cJ6_bitCount_0f7a4 28 = .ok (.iadd, 1) := by decide +kernel
theorem dJ6_bitCount_0f7a4_29 : decode cJ6_bitCount_0f7a4 29 = .ok (.ldc_w 267, 3) := by decide +kernel
theorem kk106_267 : inW (Cond.constant RJ6 267 (252645135)) := ⟨List.mem_of_getElem? (i := 1044) (by decide +kernel), by decide +kernel⟩
theorem dJ6_bitCount_0f7a4_32 : decode cJ6_bitCount_0f7a4 32 = .ok (.iand, 1) := by decide +kernel
theorem dJ6_bitCount_0f7a4_33 : decode cJ6_bitCount_0f7a4 33 = .ok (.istore_n 0, 1) := by decide +kernel
theorem dJ6_bitCount_0f7a4_34 : decode cJ6_bitCount_0f7a4 34 = .ok (.iload_n 0, 1) := by decide +kernel
theorem dJ6_bitCount_0f7a4_35 : decode cJ6_bitCount_0f7a4 35 = .ok (.iload_n 0, 1) := by decide +kernel
theorem dJ6_bitCount_0f7a4_36 : decode cJ6_bitCount_0f7a4 36 = .ok (.bipush 8, 2) := by decide +kernel
theorem dJ6_bitCount_0f7a4_38 : decode cJ6_bitCount_0f7a4 38 = .ok (.iushr, 1) := by decide +kernel
theorem dJ6_bitCount_0f7a4_39 : decode cJ6_bitCount_0f7a4 39 = .ok (.iadd, 1) := by decide +kernel
theorem dJ6_bitCount_0f7a4_40 : decode cJ6_bitCount_0f7a4 40 = .ok (.istore_n 0, 1) := by decide +kernel
theorem dJ6_bitCount_0f7a4_41 : decode cJ6_bitCount_0f7a4 41 = .ok (.iload_n 0, 1) := by decide +kernel
theorem dJ6_bitCount_0f7a4_42 : decode cJ6_bitCount_0f7a4 42 = .ok (.iload_n 0, 1) := by decide +kernel
theorem dJ6_bitCount_0f7a4_43 : decode cJ6_bitCount_0f7a4 43 = .ok (.bipush 16, 2) := by decide +kernel
theorem dJ6_bitCount_0f7a4_45 : decode cJ6_bitCount_0f7a4 45 = .ok (.iushr, 1) := by decide +kernel
theorem dJ6_bitCount_0f7a4_46 : decode cJ6_bitCount_0f7a4 46 = .ok (.iadd, 1) := by decide +kernel
theorem dJ6_bitCount_0f7a4_47 : decode cJ6_bitCount_0f7a4 47 = .ok (.istore_n 0, 1) := by decide +kernel
theorem dJ6_bitCount_0f7a4_48 : decode cJ6_bitCount_0f7a4 48 = .ok (.iload_n 0, 1) := by decide +kernel
theorem dJ6_bitCount_0f7a4_49 : decode cJ6_bitCount_0f7a4 49 = .ok (.bipush 63, 2) := by decide +kernel
theorem dJ6_bitCount_0f7a4_51 : decode cJ6_bitCount_0f7a4 51 = .ok (.iand, 1) := by decide +kernel
theorem dJ6_bitCount_0f7a4_52 : decode cJ6_bitCount_0f7a4 52 = .ok (.ireturn, 1) := by decide +kernel
theorem dX4_written_0 : decode cX4_written 0 = .ok (.iload_n 1, 1) := by decide +kernel
theorem dX4_written_1 : decode cX4_written 1 = .ok (.ifCond .lt 20, 3) := by decide +kernel
theorem dX4_written_21 : decode cX4_written 21 = .ok (.bipush (-2), 2) := by decide +kernel
theorem dX4_written_23 : decode cX4_written 23 = .ok (.ireturn, 1) := by decide +kernel
theorem dX4_written_4 : decode cX4_written 4 = .ok (.iload_n 1, 1) := by decide +kernel
theorem dX4_written_5 : decode cX4_written 5 = .ok (.aload_n 0, 1) := by decide +kernel
theorem dX4_written_6 : decode cX4_written 6 = .ok (.getfield 31, 3) := by decide +kernel
theorem kf4_31 : inW (Cond.fieldLink RX4 31 "KneeOaths$Ledger" "acheCount" "I") := ⟨List.mem_of_getElem? (i := 168) (by decide +kernel), by decide +kernel⟩
theorem dX4_written_9 : decode cX4_written 9 = .ok (.if_icmp .ge 12, 3) := by decide +kernel
theorem dX4_writtenOf_0 : decode cX4_writtenOf 0 = .ok (.iconst 0, 1) := by decide +kernel
theorem dX4_writtenOf_1 : decode cX4_writtenOf 1 = .ok (.istore_n 2, 1) := by decide +kernel
theorem dX4_writtenOf_2 : decode cX4_writtenOf 2 = .ok (.iconst 0, 1) := by decide +kernel
theorem dX4_writtenOf_3 : decode cX4_writtenOf 3 = .ok (.istore_n 3, 1) := by decide +kernel
theorem dX4_writtenOf_4 : decode cX4_writtenOf 4 = .ok (.iload_n 3, 1) := by decide +kernel
theorem dX4_writtenOf_5 : decode cX4_writtenOf 5 = .ok (.aload_n 0, 1) := by decide +kernel
theorem dX4_writtenOf_6 : decode cX4_writtenOf 6 = .ok (.getfield 31, 3) := by decide +kernel
theorem dX4_writtenOf_9 : decode cX4_writtenOf 9 = .ok (.if_icmp .ge 33, 3) := by decide +kernel
theorem dX4_writtenOf_42 : decode cX4_writtenOf 42 = .ok (.iload_n 2, 1) := by decide +kernel
theorem dX4_writtenOf_43 : decode cX4_writtenOf 43 = .ok (.ireturn, 1) := by decide +kernel
theorem dX4_dayOfMost_0 : decode cX4_dayOfMost 0 = .ok (.iconst (-1), 1) := by decide +kernel
theorem dX4_dayOfMost_1 : decode cX4_dayOfMost 1 = .ok (.istore_n 1, 1) := by decide +kernel
theorem dX4_dayOfMost_2 : decode cX4_dayOfMost 2 = .ok (.iconst 0, 1) := by decide +kernel
theorem dX4_dayOfMost_3 : decode cX4_dayOfMost 3 = .ok (.istore_n 2, 1) := by decide +kernel
theorem dX4_dayOfMost_4 : decode cX4_dayOfMost 4 = .ok (.iconst 0, 1) := by decide +kernel
theorem dX4_dayOfMost_5 : decode cX4_dayOfMost 5 = .ok (.istore_n 3, 1) := by decide +kernel
theorem dX4_dayOfMost_6 : decode cX4_dayOfMost 6 = .ok (.iload_n 3, 1) := by decide +kernel
theorem dX4_dayOfMost_7 : decode cX4_dayOfMost 7 = .ok (.aload_n 0, 1) := by decide +kernel
theorem dX4_dayOfMost_8 : decode cX4_dayOfMost 8 = .ok (.getfield 31, 3) := by decide +kernel
theorem dX4_dayOfMost_11 : decode cX4_dayOfMost 11 = .ok (.if_icmp .ge 33, 3) := by decide +kernel
theorem dX4_dayOfMost_44 : decode cX4_dayOfMost 44 = .ok (.iload_n 1, 1) := by decide +kernel
theorem dX4_dayOfMost_45 : decode cX4_dayOfMost 45 = .ok (.ireturn, 1) := by decide +kernel
theorem dX4_marksOnKnee_0 : decode cX4_marksOnKnee 0 = .ok (.iconst 0, 1) := by decide +kernel
theorem dX4_marksOnKnee_1 : decode cX4_marksOnKnee 1 = .ok (.istore_n 3, 1) := by decide +kernel
theorem dX4_marksOnKnee_2 : decode cX4_marksOnKnee 2 = .ok (.iconst 0, 1) := by decide +kernel
theorem dX4_marksOnKnee_3 : decode cX4_marksOnKnee 3 = .ok (.istore 4, 2) := by decide +kernel
theorem dX4_marksOnKnee_5 : decode cX4_marksOnKnee 5 = .ok (.iload 4, 2) := by decide +kernel
theorem dX4_marksOnKnee_7 : decode cX4_marksOnKnee 7 = .ok (.aload_n 0, 1) := by decide +kernel
theorem dX4_marksOnKnee_8 : decode cX4_marksOnKnee 8 = .ok (.getfield 28, 3) := by decide +kernel
theorem dX4_marksOnKnee_11 : decode cX4_marksOnKnee 11 = .ok (.if_icmp .ge 33, 3) := by decide +kernel
theorem dX4_marksOnKnee_44 : decode cX4_marksOnKnee 44 = .ok (.iload_n 3, 1) := by decide +kernel
theorem dX4_marksOnKnee_45 : decode cX4_marksOnKnee 45 = .ok (.ireturn, 1) := by decide +kernel
theorem dX9_tell_0 : decode cX9_tell 0 = .ok (.aload_n 0, 1) := by decide +kernel
theorem dX9_tell_1 : decode cX9_tell 1 = .ok (.getfield 25, 3) := by decide +kernel
theorem ok_X9 : clOK 9 RX9 TX9 3 tyX9 := ⟨rfl, fun w h => ⟨(show ∀ w ∈ u_ws RX9 TX9 3, w ∈ lw_tbl by decide +kernel) w h, (show ∀ w ∈ u_ws RX9 TX9 3, gw w = true by decide +kernel) w h⟩, tyX9_ok, nmX9⟩
theorem kf9_25 : inW (Cond.fieldLink RX9 25 "KneeOaths$Told" "count" "I") := ⟨List.mem_of_getElem? (i := 220) (by decide +kernel), by decide +kernel⟩
theorem dX9_tell_4 : decode cX9_tell 4 = .ok (.aload_n 0, 1) := by decide +kernel
theorem dX9_tell_5 : decode cX9_tell 5 = .ok (.getfield 21, 3) := by decide +kernel
theorem kf9_21 : inW (Cond.fieldLink RX9 21 "KneeOaths$Told" "limit" "I") := ⟨List.mem_of_getElem? (i := 219) (by decide +kernel), by decide +kernel⟩
theorem dX9_tell_8 : decode cX9_tell 8 = .ok (.if_icmp .lt 6, 3) := by decide +kernel
theorem dX9_tell_14 : decode cX9_tell 14 = .ok (.aload_n 0, 1) := by decide +kernel
theorem dX9_tell_15 : decode cX9_tell 15 = .ok (.getfield 25, 3) := by decide +kernel
theorem dX9_tell_18 : decode cX9_tell 18 = .ok (.iconst 3, 1) := by decide +kernel
theorem dX9_tell_19 : decode cX9_tell 19 = .ok (.imul, 1) := by decide +kernel
theorem dX9_tell_20 : decode cX9_tell 20 = .ok (.istore 4, 2) := by decide +kernel
theorem dX9_tell_22 : decode cX9_tell 22 = .ok (.aload_n 0, 1) := by decide +kernel
theorem dX9_tell_23 : decode cX9_tell 23 = .ok (.getfield 9, 3) := by decide +kernel
theorem kf9_9 : inW (Cond.fieldLink RX9 9 "KneeOaths$Told" "cells" "[I") := ⟨List.mem_of_getElem? (i := 218) (by decide +kernel), by decide +kernel⟩
theorem dX9_tell_26 : decode cX9_tell 26 = .ok (.iload 4, 2) := by decide +kernel
theorem dX9_tell_28 : decode cX9_tell 28 = .ok (.iload_n 1, 1) := by decide +kernel
theorem dX9_tell_29 : decode cX9_tell 29 = .ok (.iastore, 1) := by decide +kernel
theorem dX9_tell_30 : decode cX9_tell 30 = .ok (.aload_n 0, 1) := by decide +kernel
theorem dX9_tell_31 : decode cX9_tell 31 = .ok (.getfield 9, 3) := by decide +kernel
theorem dX9_tell_34 : decode cX9_tell 34 = .ok (.iload 4, 2) := by decide +kernel
theorem dX9_tell_36 : decode cX9_tell 36 = .ok (.iconst 1, 1) := by decide +kernel
theorem dX9_tell_37 : decode cX9_tell 37 = .ok (.iadd, 1) := by decide +kernel
theorem dX9_tell_38 : decode cX9_tell 38 = .ok (.iload_n 2, 1) := by decide +kernel
theorem dX9_tell_39 : decode cX9_tell 39 = .ok (.iastore, 1) := by decide +kernel
theorem dX9_tell_40 : decode cX9_tell 40 = .ok (.aload_n 0, 1) := by decide +kernel
theorem dX9_tell_41 : decode cX9_tell 41 = .ok (.getfield 9, 3) := by decide +kernel
theorem dX9_tell_44 : decode cX9_tell 44 = .ok (.iload 4, 2) := by decide +kernel
theorem dX9_tell_46 : decode cX9_tell 46 = .ok (.iconst 2, 1) := by decide +kernel
theorem dX9_tell_47 : decode cX9_tell 47 = .ok (.iadd, 1) := by decide +kernel
theorem dX9_tell_48 : decode cX9_tell 48 = .ok (.iload_n 3, 1) := by decide +kernel
theorem dX9_tell_49 : decode cX9_tell 49 = .ok (.iastore, 1) := by decide +kernel
theorem dX9_tell_50 : decode cX9_tell 50 = .ok (.aload_n 0, 1) := by decide +kernel
theorem dX9_tell_51 : decode cX9_tell 51 = .ok (.dup, 1) := by decide +kernel
theorem dX9_tell_52 : decode cX9_tell 52 = .ok (.getfield 25, 3) := by decide +kernel
theorem dX9_tell_55 : decode cX9_tell 55 = .ok (.iconst 1, 1) := by decide +kernel
theorem dX9_tell_56 : decode cX9_tell 56 = .ok (.iadd, 1) := by decide +kernel
theorem dX9_tell_57 : decode cX9_tell 57 = .ok (.putfield 25, 3) := by decide +kernel
theorem dX9_tell_60 : decode cX9_tell 60 = .ok (.aload_n 0, 1) := by decide +kernel
theorem dX9_tell_61 : decode cX9_tell 61 = .ok (.getfield 25, 3) := by decide +kernel
theorem dX9_tell_64 : decode cX9_tell 64 = .ok (.ireturn, 1) := by decide +kernel
theorem dX9_forget_0 : decode cX9_forget 0 = .ok (.aload_n 0, 1) := by decide +kernel
theorem dX9_forget_1 : decode cX9_forget 1 = .ok (.iconst 0, 1) := by decide +kernel
theorem dX9_forget_2 : decode cX9_forget 2 = .ok (.putfield 25, 3) := by decide +kernel
theorem dX9_forget_5 : decode cX9_forget 5 = .ok (.iconst 0, 1) := by decide +kernel
theorem dX9_forget_6 : decode cX9_forget 6 = .ok (.ireturn, 1) := by decide +kernel
theorem dX10_has_0 : decode cX10_has 0 = .ok (.iload_n 1, 1) := by decide +kernel
theorem dX10_has_1 : decode cX10_has 1 = .ok (.ifCond .lt 15, 3) := by decide +kernel
theorem dX10_has_16 : decode cX10_has 16 = .ok (.iconst 0, 1) := by decide +kernel
theorem dX10_has_17 : decode cX10_has 17 = .ok (.ireturn, 1) := by decide +kernel
theorem dX10_has_4 : decode cX10_has 4 = .ok (.iload_n 1, 1) := by decide +kernel
theorem dX10_has_5 : decode cX10_has 5 = .ok (.aload_n 0, 1) := by decide +kernel
theorem dX10_has_6 : decode cX10_has 6 = .ok (.getfield 80, 3) := by decide +kernel
theorem ok_X10 : clOK 10 RX10 TX10 15 tyX10 := ⟨rfl, fun w h => ⟨(show ∀ w ∈ u_ws RX10 TX10 15, w ∈ lw_tbl by decide +kernel) w h, (show ∀ w ∈ u_ws RX10 TX10 15, gw w = true by decide +kernel) w h⟩, tyX10_ok, nmX10⟩
theorem kf10_80 : inW (Cond.fieldLink RX10 80 "KneeOaths$World" "people" "I") := ⟨List.mem_of_getElem? (i := 288) (by decide +kernel), by decide +kernel⟩
theorem dX10_has_9 : decode cX10_has 9 = .ok (.if_icmp .ge 7, 3) := by decide +kernel
theorem dX10_script_0 : decode cX10_script 0 = .ok (.iload_n 1, 1) := by decide +kernel
theorem dX10_script_1 : decode cX10_script 1 = .ok (.ifCond .lt 20, 3) := by decide +kernel
theorem dX10_script_21 : decode cX10_script 21 = .ok (.aconst_null, 1) := by decide +kernel
theorem dX10_script_22 : decode cX10_script 22 = .ok (.areturn, 1) := by decide +kernel
theorem dX10_script_4 : decode cX10_script 4 = .ok (.iload_n 1, 1) := by decide +kernel
theorem dX10_script_5 : decode cX10_script 5 = .ok (.aload_n 0, 1) := by decide +kernel
theorem dX10_script_6 : decode cX10_script 6 = .ok (.getfield 67, 3) := by decide +kernel
theorem kf10_67 : inW (Cond.fieldLink RX10 67 "KneeOaths$World" "textCount" "I") := ⟨List.mem_of_getElem? (i := 293) (by decide +kernel), by decide +kernel⟩
theorem dX10_script_9 : decode cX10_script 9 = .ok (.if_icmp .ge 12, 3) := by decide +kernel
theorem dX10_freeScript_0 : decode cX10_freeScript 0 = .ok (.aload_n 0, 1) := by decide +kernel
theorem dX10_freeScript_1 : decode cX10_freeScript 1 = .ok (.getfield 67, 3) := by decide +kernel
theorem dX10_freeScript_4 : decode cX10_freeScript 4 = .ok (.iconst 4, 1) := by decide +kernel
theorem dX10_freeScript_5 : decode cX10_freeScript 5 = .ok (.if_icmp .ge 15, 3) := by decide +kernel
theorem dX10_freeScript_8 : decode cX10_freeScript 8 = .ok (.aload_n 0, 1) := by decide +kernel
theorem dX10_freeScript_9 : decode cX10_freeScript 9 = .ok (.getfield 20, 3) := by decide +kernel
theorem kf10_20 : inW (Cond.fieldLink RX10 20 "KneeOaths$World" "scripts" "[LKneeOaths$Script;") := ⟨List.mem_of_getElem? (i := 263) (by decide +kernel), by decide +kernel⟩
theorem dX10_freeScript_12 : decode cX10_freeScript 12 = .ok (.aload_n 0, 1) := by decide +kernel
theorem dX10_freeScript_13 : decode cX10_freeScript 13 = .ok (.getfield 67, 3) := by decide +kernel
theorem dX10_freeScript_16 : decode cX10_freeScript 16 = .ok (.aaload, 1) := by decide +kernel
theorem dX10_freeScript_17 : decode cX10_freeScript 17 = .ok (.goto 4, 3) := by decide +kernel
theorem dX10_freeScript_21 : decode cX10_freeScript 21 = .ok (.areturn, 1) := by decide +kernel
theorem dX10_keepScript_0 : decode cX10_keepScript 0 = .ok (.aload_n 0, 1) := by decide +kernel
theorem dX10_keepScript_1 : decode cX10_keepScript 1 = .ok (.dup, 1) := by decide +kernel
theorem dX10_keepScript_2 : decode cX10_keepScript 2 = .ok (.getfield 67, 3) := by decide +kernel
theorem dX10_keepScript_5 : decode cX10_keepScript 5 = .ok (.iconst 1, 1) := by decide +kernel
theorem dX10_keepScript_6 : decode cX10_keepScript 6 = .ok (.iadd, 1) := by decide +kernel
theorem dX10_keepScript_7 : decode cX10_keepScript 7 = .ok (.putfield 67, 3) := by decide +kernel
theorem dX10_keepScript_10 : decode cX10_keepScript 10 = .ok (.aload_n 0, 1) := by decide +kernel
theorem dX10_keepScript_11 : decode cX10_keepScript 11 = .ok (.getfield 67, 3) := by decide +kernel
theorem dX10_keepScript_14 : decode cX10_keepScript 14 = .ok (.iconst 1, 1) := by decide +kernel
theorem dX10_keepScript_15 : decode cX10_keepScript 15 = .ok (.isub, 1) := by decide +kernel
theorem dX10_keepScript_16 : decode cX10_keepScript 16 = .ok (.ireturn, 1) := by decide +kernel
theorem dX10_putUnder_0 : decode cX10_putUnder 0 = .ok (.iload_n 1, 1) := by decide +kernel
theorem dX10_putUnder_1 : decode cX10_putUnder 1 = .ok (.iconst (-1), 1) := by decide +kernel
theorem dX10_putUnder_2 : decode cX10_putUnder 2 = .ok (.if_icmp .eq 13, 3) := by decide +kernel
theorem dX10_putUnder_15 : decode cX10_putUnder 15 = .ok (.aload_n 0, 1) := by decide +kernel
theorem dX10_putUnder_16 : decode cX10_putUnder 16 = .ok (.iload_n 1, 1) := by decide +kernel
theorem dX10_putUnder_17 : decode cX10_putUnder 17 = .ok (.putfield 56, 3) := by decide +kernel
theorem kf10_56 : inW (Cond.fieldLink RX10 56 "KneeOaths$World" "ruling" "I") := ⟨List.mem_of_getElem? (i := 295) (by decide +kernel), by decide +kernel⟩
theorem dX10_putUnder_20 : decode cX10_putUnder 20 = .ok (.iconst 1, 1) := by decide +kernel
theorem dX10_putUnder_21 : decode cX10_putUnder 21 = .ok (.ireturn, 1) := by decide +kernel
theorem dX10_putUnder_5 : decode cX10_putUnder 5 = .ok (.aload_n 0, 1) := by decide +kernel
theorem dX10_putUnder_6 : decode cX10_putUnder 6 = .ok (.iload_n 1, 1) := by decide +kernel
theorem dX10_putUnder_7 : decode cX10_putUnder 7 = .ok (.invokevirtual 93, 3) := by decide +kernel
theorem cw_X10_script : CWv yX10_script cX10_script 2 (some (.object "KneeOaths$Script")) 1 := ⟨⟨⟨List.mem_of_getElem? (i := 126) (by decide +kernel), by decide +kernel⟩, ⟨List.mem_of_getElem? (i := 867) (by decide +kernel), by decide +kernel⟩, by decide +kernel⟩, ⟨List.mem_of_getElem? (i := 865) (by decide +kernel), by decide +kernel⟩, ⟨List.mem_of_getElem? (i := 866) (by decide +kernel), by decide +kernel⟩⟩
theorem km10_93 : inW (Cond.methodLink RX10 93 yX10_script) := ⟨List.mem_of_getElem? (i := 864) (by decide +kernel), by decide +kernel⟩
theorem dX10_putUnder_10 : decode cX10_putUnder 10 = .ok (.ifnonnull 5, 3) := by decide +kernel
theorem dX10_putUnder_13 : decode cX10_putUnder 13 = .ok (.iconst 0, 1) := by decide +kernel
theorem dX10_putUnder_14 : decode cX10_putUnder 14 = .ok (.ireturn, 1) := by decide +kernel
theorem dX10_welcome_0 : decode cX10_welcome 0 = .ok (.aload_n 0, 1) := by decide +kernel
theorem dX10_welcome_1 : decode cX10_welcome 1 = .ok (.getfield 80, 3) := by decide +kernel
theorem dX10_welcome_4 : decode cX10_welcome 4 = .ok (.bipush 6, 2) := by decide +kernel
theorem dX10_welcome_6 : decode cX10_welcome 6 = .ok (.if_icmp .ge 23, 3) := by decide +kernel
theorem dX10_welcome_9 : decode cX10_welcome 9 = .ok (.iload_n 1, 1) := by decide +kernel
theorem dX10_welcome_10 : decode cX10_welcome 10 = .ok (.iconst 0, 1) := by decide +kernel
theorem dX10_welcome_11 : decode cX10_welcome 11 = .ok (.bipush 9, 2) := by decide +kernel
theorem dX10_welcome_13 : decode cX10_welcome 13 = .ok (.invokestatic 89, 3) := by decide +kernel
theorem cw_X11_within : CWs yX11_within cX11_within 3 (some .boolean) 3 := ⟨⟨⟨List.mem_of_getElem? (i := 124) (by decide +kernel), by decide +kernel⟩, ⟨List.mem_of_getElem? (i := 543) (by decide +kernel), by decide +kernel⟩, by decide +kernel⟩, ⟨List.mem_of_getElem? (i := 542) (by decide +kernel), by decide +kernel⟩⟩
theorem km10_89 : inW (Cond.methodLinkNest RX10 89 yX11_within "KneeOaths") := ⟨List.mem_of_getElem? (i := 541) (by decide +kernel), by decide +kernel⟩
theorem dX10_welcome_16 : decode cX10_welcome 16 = .ok (.ifCond .eq 13, 3) := by decide +kernel
theorem dX10_welcome_29 : decode cX10_welcome 29 = .ok (.iconst (-1), 1) := by decide +kernel
theorem dX10_welcome_30 : decode cX10_welcome 30 = .ok (.ireturn, 1) := by decide +kernel
theorem dX10_welcome_19 : decode cX10_welcome 19 = .ok (.iload_n 2, 1) := by decide +kernel
theorem dX10_welcome_20 : decode cX10_welcome 20 = .ok (.iconst 0, 1) := by decide +kernel
theorem dX10_welcome_21 : decode cX10_welcome 21 = .ok (.bipush 99, 2) := by decide +kernel
theorem dX10_welcome_23 : decode cX10_welcome 23 = .ok (.invokestatic 89, 3) := by decide +kernel
theorem dX10_welcome_26 : decode cX10_welcome 26 = .ok (.ifCond .ne 5, 3) := by decide +kernel
theorem dX10_welcome_31 : decode cX10_welcome 31 = .ok (.aload_n 0, 1) := by decide +kernel
theorem dX10_welcome_32 : decode cX10_welcome 32 = .ok (.getfield 9, 3) := by decide +kernel
theorem kf10_9 : inW (Cond.fieldLink RX10 9 "KneeOaths$World" "toughs" "[I") := ⟨List.mem_of_getElem? (i := 261) (by decide +kernel), by decide +kernel⟩
theorem dX10_welcome_35 : decode cX10_welcome 35 = .ok (.aload_n 0, 1) := by decide +kernel
theorem dX10_welcome_36 : decode cX10_welcome 36 = .ok (.getfield 80, 3) := by decide +kernel
theorem dX10_welcome_39 : decode cX10_welcome 39 = .ok (.iload_n 1, 1) := by decide +kernel
theorem dX10_welcome_40 : decode cX10_welcome 40 = .ok (.iastore, 1) := by decide +kernel
theorem dX10_welcome_41 : decode cX10_welcome 41 = .ok (.aload_n 0, 1) := by decide +kernel
theorem dX10_welcome_42 : decode cX10_welcome 42 = .ok (.getfield 15, 3) := by decide +kernel
theorem kf10_15 : inW (Cond.fieldLink RX10 15 "KneeOaths$World" "ages" "[I") := ⟨List.mem_of_getElem? (i := 262) (by decide +kernel), by decide +kernel⟩
theorem dX10_welcome_45 : decode cX10_welcome 45 = .ok (.aload_n 0, 1) := by decide +kernel
theorem dX10_welcome_46 : decode cX10_welcome 46 = .ok (.getfield 80, 3) := by decide +kernel
theorem dX10_welcome_49 : decode cX10_welcome 49 = .ok (.iload_n 2, 1) := by decide +kernel
theorem dX10_welcome_50 : decode cX10_welcome 50 = .ok (.iastore, 1) := by decide +kernel
theorem dX10_welcome_51 : decode cX10_welcome 51 = .ok (.aload_n 0, 1) := by decide +kernel
theorem dX10_welcome_52 : decode cX10_welcome 52 = .ok (.dup, 1) := by decide +kernel
theorem dX10_welcome_53 : decode cX10_welcome 53 = .ok (.getfield 80, 3) := by decide +kernel
theorem dX10_welcome_56 : decode cX10_welcome 56 = .ok (.iconst 1, 1) := by decide +kernel
theorem dX10_welcome_57 : decode cX10_welcome 57 = .ok (.iadd, 1) := by decide +kernel
theorem dX10_welcome_58 : decode cX10_welcome 58 = .ok (.putfield 80, 3) := by decide +kernel
theorem dX10_welcome_61 : decode cX10_welcome 61 = .ok (.aload_n 0, 1) := by decide +kernel
theorem dX10_welcome_62 : decode cX10_welcome 62 = .ok (.getfield 80, 3) := by decide +kernel
theorem dX10_welcome_65 : decode cX10_welcome 65 = .ok (.iconst 1, 1) := by decide +kernel
theorem dX10_welcome_66 : decode cX10_welcome 66 = .ok (.isub, 1) := by decide +kernel
theorem dX10_welcome_67 : decode cX10_welcome 67 = .ok (.ireturn, 1) := by decide +kernel
theorem dX10_takeBack_0 : decode cX10_takeBack 0 = .ok (.aload_n 0, 1) := by decide +kernel
theorem dX10_takeBack_1 : decode cX10_takeBack 1 = .ok (.getfield 86, 3) := by decide +kernel
theorem kf10_86 : inW (Cond.fieldLink RX10 86 "KneeOaths$World" "steps" "I") := ⟨List.mem_of_getElem? (i := 300) (by decide +kernel), by decide +kernel⟩
theorem dX10_takeBack_4 : decode cX10_takeBack 4 = .ok (.ifCond .ne 5, 3) := by decide +kernel
theorem dX10_takeBack_7 : decode cX10_takeBack 7 = .ok (.iconst 0, 1) := by decide +kernel
theorem dX10_takeBack_8 : decode cX10_takeBack 8 = .ok (.ireturn, 1) := by decide +kernel
theorem dX6_isRing_0 : decode cX6_isRing 0 = .ok (.iload_n 1, 1) := by decide +kernel
theorem dX6_isRing_1 : decode cX6_isRing 1 = .ok (.ifCond .le 19, 3) := by decide +kernel
theorem dX6_isRing_20 : decode cX6_isRing 20 = .ok (.iconst 0, 1) := by decide +kernel
theorem dX6_isRing_21 : decode cX6_isRing 21 = .ok (.ireturn, 1) := by decide +kernel
theorem dX6_isRing_4 : decode cX6_isRing 4 = .ok (.iload_n 1, 1) := by decide +kernel
theorem dX6_isRing_5 : decode cX6_isRing 5 = .ok (.iconst 1, 1) := by decide +kernel
theorem dX6_isRing_6 : decode cX6_isRing 6 = .ok (.aload_n 0, 1) := by decide +kernel
theorem dX6_isRing_7 : decode cX6_isRing 7 = .ok (.getfield 9, 3) := by decide +kernel
theorem ok_X6 : clOK 6 RX6 TX6 2 tyX6 := ⟨rfl, fun w h => ⟨(show ∀ w ∈ u_ws RX6 TX6 2, w ∈ lw_tbl by decide +kernel) w h, (show ∀ w ∈ u_ws RX6 TX6 2, gw w = true by decide +kernel) w h⟩, tyX6_ok, nmX6⟩
theorem kf6_9 : inW (Cond.fieldLink RX6 9 "KneeOaths$Rings" "world" "LKneeOaths$World;") := ⟨List.mem_of_getElem? (i := 404) (by decide +kernel), by decide +kernel⟩
theorem dX6_isRing_10 : decode cX6_isRing 10 = .ok (.getfield 15, 3) := by decide +kernel
theorem kf6_15 : inW (Cond.fieldLinkNest RX6 15 "KneeOaths$World" "now" "LKneeOaths$Ledger;" "KneeOaths") := ⟨List.mem_of_getElem? (i := 265) (by decide +kernel), by decide +kernel⟩
theorem dX6_isRing_13 : decode cX6_isRing 13 = .ok (.getfield 31, 3) := by decide +kernel
theorem kf6_31 : inW (Cond.fieldLinkNest RX6 31 "KneeOaths$Ledger" "oathCount" "I" "KneeOaths") := ⟨List.mem_of_getElem? (i := 163) (by decide +kernel), by decide +kernel⟩
theorem dX6_isRing_16 : decode cX6_isRing 16 = .ok (.ishl, 1) := by decide +kernel
theorem dX6_isRing_17 : decode cX6_isRing 17 = .ok (.if_icmp .lt 5, 3) := by decide +kernel
theorem dX6_shortest_0 : decode cX6_shortest 0 = .ok (.aload_n 0, 1) := by decide +kernel
theorem dX6_shortest_1 : decode cX6_shortest 1 = .ok (.iconst 0, 1) := by decide +kernel
theorem dX6_shortest_2 : decode cX6_shortest 2 = .ok (.putfield 47, 3) := by decide +kernel
theorem kf6_47 : inW (Cond.fieldLink RX6 47 "KneeOaths$Rings" "best" "I") := ⟨List.mem_of_getElem? (i := 405) (by decide +kernel), by decide +kernel⟩
theorem dX6_shortest_5 : decode cX6_shortest 5 = .ok (.iconst 0, 1) := by decide +kernel
theorem dX6_shortest_6 : decode cX6_shortest 6 = .ok (.istore_n 1, 1) := by decide +kernel
theorem dX6_shortest_7 : decode cX6_shortest 7 = .ok (.iload_n 1, 1) := by decide +kernel
theorem dX6_shortest_8 : decode cX6_shortest 8 = .ok (.aload_n 0, 1) := by decide +kernel
theorem dX6_shortest_9 : decode cX6_shortest 9 = .ok (.getfield 9, 3) := by decide +kernel
theorem dX6_shortest_12 : decode cX6_shortest 12 = .ok (.getfield 50, 3) := by decide +kernel
theorem kf6_50 : inW (Cond.fieldLinkNest RX6 50 "KneeOaths$World" "people" "I" "KneeOaths") := ⟨List.mem_of_getElem? (i := 289) (by decide +kernel), by decide +kernel⟩
theorem dX6_shortest_15 : decode cX6_shortest 15 = .ok (.if_icmp .ge 18, 3) := by decide +kernel
theorem dX6_shortest_33 : decode cX6_shortest 33 = .ok (.aload_n 0, 1) := by decide +kernel
theorem dX6_shortest_34 : decode cX6_shortest 34 = .ok (.getfield 47, 3) := by decide +kernel
theorem dX6_shortest_37 : decode cX6_shortest 37 = .ok (.ireturn, 1) := by decide +kernel
theorem dX0_gatherClashes_0 : decode cX0_gatherClashes 0 = .ok (.iconst 0, 1) := by decide +kernel
theorem dX0_gatherClashes_1 : decode cX0_gatherClashes 1 = .ok (.istore_n 1, 1) := by decide +kernel
theorem dX0_gatherClashes_2 : decode cX0_gatherClashes 2 = .ok (.iconst 0, 1) := by decide +kernel
theorem dX0_gatherClashes_3 : decode cX0_gatherClashes 3 = .ok (.istore_n 2, 1) := by decide +kernel
theorem dX0_gatherClashes_4 : decode cX0_gatherClashes 4 = .ok (.iload_n 2, 1) := by decide +kernel
theorem dX0_gatherClashes_5 : decode cX0_gatherClashes 5 = .ok (.aload_n 0, 1) := by decide +kernel
theorem dX0_gatherClashes_6 : decode cX0_gatherClashes 6 = .ok (.getfield 18, 3) := by decide +kernel
theorem ok_X0 : clOK 0 RX0 TX0 3 tyX0 := ⟨rfl, fun w h => ⟨(show ∀ w ∈ u_ws RX0 TX0 3, w ∈ lw_tbl by decide +kernel) w h, (show ∀ w ∈ u_ws RX0 TX0 3, gw w = true by decide +kernel) w h⟩, tyX0_ok, nmX0⟩
theorem kf0_18 : inW (Cond.fieldLink RX0 18 "KneeOaths$Choices" "world" "LKneeOaths$World;") := ⟨List.mem_of_getElem? (i := 495) (by decide +kernel), by decide +kernel⟩
theorem dX0_gatherClashes_9 : decode cX0_gatherClashes 9 = .ok (.getfield 52, 3) := by decide +kernel
theorem kf0_52 : inW (Cond.fieldLinkNest RX0 52 "KneeOaths$World" "clashes" "LKneeOaths$Told;" "KneeOaths") := ⟨List.mem_of_getElem? (i := 277) (by decide +kernel), by decide +kernel⟩
theorem dX0_gatherClashes_12 : decode cX0_gatherClashes 12 = .ok (.getfield 56, 3) := by decide +kernel
theorem kf0_56 : inW (Cond.fieldLinkNest RX0 56 "KneeOaths$Told" "count" "I" "KneeOaths") := ⟨List.mem_of_getElem? (i := 221) (by decide +kernel), by decide +kernel⟩
theorem dX0_gatherClashes_15 : decode cX0_gatherClashes 15 = .ok (.if_icmp .ge 90, 3) := by decide +kernel
theorem dX0_gatherClashes_105 : decode cX0_gatherClashes 105 = .ok (.iload_n 1, 1) := by decide +kernel
theorem dX0_gatherClashes_106 : decode cX0_gatherClashes 106 = .ok (.ireturn, 1) := by decide +kernel
theorem dX0_fewestReleased_0 : decode cX0_fewestReleased 0 = .ok (.aload_n 0, 1) := by decide +kernel
theorem dX0_fewestReleased_1 : decode cX0_fewestReleased 1 = .ok (.invokevirtual 38, 3) := by decide +kernel
theorem cw_X0_gatherClashes : CWv yX0_gatherClashes cX0_gatherClashes 5 (some .int) 0 := ⟨⟨⟨List.mem_of_getElem? (i := 136) (by decide +kernel), by decide +kernel⟩, ⟨List.mem_of_getElem? (i := 1309) (by decide +kernel), by decide +kernel⟩, by decide +kernel⟩, ⟨List.mem_of_getElem? (i := 1308) (by decide +kernel), by decide +kernel⟩, ⟨List.mem_of_getElem? (i := 40) (by decide +kernel), by decide +kernel⟩⟩
theorem km0_38 : inW (Cond.methodLink RX0 38 yX0_gatherClashes) := ⟨List.mem_of_getElem? (i := 1306) (by decide +kernel), by decide +kernel⟩
theorem dX0_fewestReleased_4 : decode cX0_fewestReleased 4 = .ok (.istore_n 1, 1) := by decide +kernel
theorem dX0_fewestReleased_5 : decode cX0_fewestReleased 5 = .ok (.iconst 0, 1) := by decide +kernel
theorem dX0_fewestReleased_6 : decode cX0_fewestReleased 6 = .ok (.istore_n 2, 1) := by decide +kernel
theorem dX0_fewestReleased_7 : decode cX0_fewestReleased 7 = .ok (.iconst 0, 1) := by decide +kernel
theorem dX0_fewestReleased_8 : decode cX0_fewestReleased 8 = .ok (.istore_n 3, 1) := by decide +kernel
theorem dX0_fewestReleased_9 : decode cX0_fewestReleased 9 = .ok (.iload_n 3, 1) := by decide +kernel
theorem dX0_fewestReleased_10 : decode cX0_fewestReleased 10 = .ok (.iload_n 1, 1) := by decide +kernel
theorem dX0_fewestReleased_11 : decode cX0_fewestReleased 11 = .ok (.if_icmp .ge 18, 3) := by decide +kernel
theorem dX0_fewestReleased_29 : decode cX0_fewestReleased 29 = .ok (.iload_n 2, 1) := by decide +kernel
theorem dX0_fewestReleased_30 : decode cX0_fewestReleased 30 = .ok (.istore_n 3, 1) := by decide +kernel
theorem dX0_fewestReleased_31 : decode cX0_fewestReleased 31 = .ok (.iconst 0, 1) := by decide +kernel
theorem dX0_fewestReleased_32 : decode cX0_fewestReleased 32 = .ok (.istore 4, 2) := by decide +kernel
theorem dX0_fewestReleased_34 : decode cX0_fewestReleased 34 = .ok (.iload 4, 2) := by decide +kernel
theorem dX0_fewestReleased_36 : decode cX0_fewestReleased 36 = .ok (.iload_n 2, 1) := by decide +kernel
theorem dX0_fewestReleased_37 : decode cX0_fewestReleased 37 = .ok (.if_icmp .ge 43, 3) := by decide +kernel
theorem dX0_fewestReleased_80 : decode cX0_fewestReleased 80 = .ok (.iload_n 3, 1) := by decide +kernel
theorem dX0_fewestReleased_81 : decode cX0_fewestReleased 81 = .ok (.ireturn, 1) := by decide +kernel
theorem dX0_mostInTime_0 : decode cX0_mostInTime 0 = .ok (.iconst 0, 1) := by decide +kernel
theorem dX0_mostInTime_1 : decode cX0_mostInTime 1 = .ok (.istore_n 1, 1) := by decide +kernel
theorem dX0_mostInTime_2 : decode cX0_mostInTime 2 = .ok (.iconst 1, 1) := by decide +kernel
theorem dX0_mostInTime_3 : decode cX0_mostInTime 3 = .ok (.istore_n 2, 1) := by decide +kernel
theorem dX0_mostInTime_4 : decode cX0_mostInTime 4 = .ok (.iload_n 2, 1) := by decide +kernel
theorem dX0_mostInTime_5 : decode cX0_mostInTime 5 = .ok (.iconst 1, 1) := by decide +kernel
theorem dX0_mostInTime_6 : decode cX0_mostInTime 6 = .ok (.aload_n 0, 1) := by decide +kernel
theorem dX0_mostInTime_7 : decode cX0_mostInTime 7 = .ok (.getfield 18, 3) := by decide +kernel
theorem dX0_mostInTime_10 : decode cX0_mostInTime 10 = .ok (.getfield 62, 3) := by decide +kernel
theorem kf0_62 : inW (Cond.fieldLinkNest RX0 62 "KneeOaths$World" "words" "LKneeOaths$Told;" "KneeOaths") := ⟨List.mem_of_getElem? (i := 280) (by decide +kernel), by decide +kernel⟩
theorem dX0_mostInTime_13 : decode cX0_mostInTime 13 = .ok (.getfield 56, 3) := by decide +kernel
theorem dX0_mostInTime_16 : decode cX0_mostInTime 16 = .ok (.ishl, 1) := by decide +kernel
theorem dX0_mostInTime_17 : decode cX0_mostInTime 17 = .ok (.if_icmp .ge 30, 3) := by decide +kernel
theorem dX0_mostInTime_47 : decode cX0_mostInTime 47 = .ok (.iload_n 1, 1) := by decide +kernel
theorem dX0_mostInTime_48 : decode cX0_mostInTime 48 = .ok (.ireturn, 1) := by decide +kernel
theorem dX0_workOf_0 : decode cX0_workOf 0 = .ok (.iconst 0, 1) := by decide +kernel
theorem dX0_workOf_1 : decode cX0_workOf 1 = .ok (.istore_n 3, 1) := by decide +kernel
theorem dX0_workOf_2 : decode cX0_workOf 2 = .ok (.iconst 0, 1) := by decide +kernel
theorem dX0_workOf_3 : decode cX0_workOf 3 = .ok (.istore 4, 2) := by decide +kernel
theorem dX0_workOf_5 : decode cX0_workOf 5 = .ok (.iload 4, 2) := by decide +kernel
theorem dX0_workOf_7 : decode cX0_workOf 7 = .ok (.aload_n 0, 1) := by decide +kernel
theorem dX0_workOf_8 : decode cX0_workOf 8 = .ok (.getfield 18, 3) := by decide +kernel
theorem dX0_workOf_11 : decode cX0_workOf 11 = .ok (.getfield 62, 3) := by decide +kernel
theorem dX0_workOf_14 : decode cX0_workOf 14 = .ok (.getfield 56, 3) := by decide +kernel
theorem dX0_workOf_17 : decode cX0_workOf 17 = .ok (.if_icmp .ge 51, 3) := by decide +kernel
theorem dX0_workOf_68 : decode cX0_workOf 68 = .ok (.iload_n 3, 1) := by decide +kernel
theorem dX0_workOf_69 : decode cX0_workOf 69 = .ok (.ireturn, 1) := by decide +kernel
theorem dX0_fewestAsked_0 : decode cX0_fewestAsked 0 = .ok (.iconst 1, 1) := by decide +kernel
theorem dX0_fewestAsked_1 : decode cX0_fewestAsked 1 = .ok (.aload_n 0, 1) := by decide +kernel
theorem dX0_fewestAsked_2 : decode cX0_fewestAsked 2 = .ok (.getfield 18, 3) := by decide +kernel
theorem dX0_fewestAsked_5 : decode cX0_fewestAsked 5 = .ok (.getfield 72, 3) := by decide +kernel
theorem kf0_72 : inW (Cond.fieldLinkNest RX0 72 "KneeOaths$World" "people" "I" "KneeOaths") := ⟨List.mem_of_getElem? (i := 290) (by decide +kernel), by decide +kernel⟩
theorem dX0_fewestAsked_8 : decode cX0_fewestAsked 8 = .ok (.ishl, 1) := by decide +kernel
theorem dX0_fewestAsked_9 : decode cX0_fewestAsked 9 = .ok (.iconst 1, 1) := by decide +kernel
theorem dX0_fewestAsked_10 : decode cX0_fewestAsked 10 = .ok (.isub, 1) := by decide +kernel
theorem dX0_fewestAsked_11 : decode cX0_fewestAsked 11 = .ok (.istore_n 1, 1) := by decide +kernel
theorem dX0_fewestAsked_12 : decode cX0_fewestAsked 12 = .ok (.iconst 0, 1) := by decide +kernel
theorem dX0_fewestAsked_13 : decode cX0_fewestAsked 13 = .ok (.istore_n 2, 1) := by decide +kernel
theorem dX0_fewestAsked_14 : decode cX0_fewestAsked 14 = .ok (.iload_n 2, 1) := by decide +kernel
theorem dX0_fewestAsked_15 : decode cX0_fewestAsked 15 = .ok (.iconst 1, 1) := by decide +kernel
theorem dX0_fewestAsked_16 : decode cX0_fewestAsked 16 = .ok (.aload_n 0, 1) := by decide +kernel
theorem dX0_fewestAsked_17 : decode cX0_fewestAsked 17 = .ok (.getfield 18, 3) := by decide +kernel
theorem dX0_fewestAsked_20 : decode cX0_fewestAsked 20 = .ok (.getfield 72, 3) := by decide +kernel
theorem dX0_fewestAsked_23 : decode cX0_fewestAsked 23 = .ok (.ishl, 1) := by decide +kernel
theorem dX0_fewestAsked_24 : decode cX0_fewestAsked 24 = .ok (.if_icmp .ge 30, 3) := by decide +kernel
theorem dX0_fewestAsked_27 : decode cX0_fewestAsked 27 = .ok (.iload_n 2, 1) := by decide +kernel
theorem dX0_fewestAsked_28 : decode cX0_fewestAsked 28 = .ok (.invokestatic 42, 3) := by decide +kernel
theorem cw_X106_bitCount_0f7a4 : CWs yJ6_bitCount_0f7a4 cJ6_bitCount_0f7a4 1 (some .int) 1 := ⟨⟨⟨List.mem_of_getElem? (i := 144) (by decide +kernel), by decide +kernel⟩, ⟨List.mem_of_getElem? (i := 1041) (by decide +kernel), by decide +kernel⟩, by decide +kernel⟩, ⟨List.mem_of_getElem? (i := 1040) (by decide +kernel), by decide +kernel⟩⟩
theorem km0_42 : inW (Cond.methodLink RX0 42 yJ6_bitCount_0f7a4) := ⟨List.mem_of_getElem? (i := 1311) (by decide +kernel), by decide +kernel⟩
theorem dX0_fewestAsked_31 : decode cX0_fewestAsked 31 = .ok (.iload_n 1, 1) := by decide +kernel
theorem dX0_fewestAsked_32 : decode cX0_fewestAsked 32 = .ok (.invokestatic 42, 3) := by decide +kernel
theorem dX0_fewestAsked_35 : decode cX0_fewestAsked 35 = .ok (.if_icmp .ge 13, 3) := by decide +kernel
theorem dX0_fewestAsked_48 : decode cX0_fewestAsked 48 = .ok (.iinc 2 1, 3) := by decide +kernel
theorem dX0_fewestAsked_51 : decode cX0_fewestAsked 51 = .ok (.goto (-37), 3) := by decide +kernel
theorem dX0_fewestAsked_54 : decode cX0_fewestAsked 54 = .ok (.iload_n 1, 1) := by decide +kernel
theorem dX0_fewestAsked_55 : decode cX0_fewestAsked 55 = .ok (.ireturn, 1) := by decide +kernel
theorem dX0_fewestKnowing_0 : decode cX0_fewestKnowing 0 = .ok (.iconst 0, 1) := by decide +kernel
theorem dX0_fewestKnowing_1 : decode cX0_fewestKnowing 1 = .ok (.istore_n 1, 1) := by decide +kernel
theorem dX0_fewestKnowing_2 : decode cX0_fewestKnowing 2 = .ok (.iconst 0, 1) := by decide +kernel
theorem dX0_fewestKnowing_3 : decode cX0_fewestKnowing 3 = .ok (.istore_n 2, 1) := by decide +kernel
theorem dX0_fewestKnowing_4 : decode cX0_fewestKnowing 4 = .ok (.iload_n 2, 1) := by decide +kernel
theorem dX0_fewestKnowing_5 : decode cX0_fewestKnowing 5 = .ok (.aload_n 0, 1) := by decide +kernel
theorem dX0_fewestKnowing_6 : decode cX0_fewestKnowing 6 = .ok (.getfield 18, 3) := by decide +kernel
theorem dX0_fewestKnowing_9 : decode cX0_fewestKnowing 9 = .ok (.getfield 72, 3) := by decide +kernel
theorem dX0_fewestKnowing_12 : decode cX0_fewestKnowing 12 = .ok (.if_icmp .ge 35, 3) := by decide +kernel
theorem dX0_fewestKnowing_47 : decode cX0_fewestKnowing 47 = .ok (.iconst 1, 1) := by decide +kernel
theorem dX0_fewestKnowing_48 : decode cX0_fewestKnowing 48 = .ok (.aload_n 0, 1) := by decide +kernel
theorem dX0_fewestKnowing_49 : decode cX0_fewestKnowing 49 = .ok (.getfield 18, 3) := by decide +kernel
theorem dX0_fewestKnowing_52 : decode cX0_fewestKnowing 52 = .ok (.getfield 72, 3) := by decide +kernel
theorem dX0_fewestKnowing_55 : decode cX0_fewestKnowing 55 = .ok (.ishl, 1) := by decide +kernel
theorem dX0_fewestKnowing_56 : decode cX0_fewestKnowing 56 = .ok (.iconst 1, 1) := by decide +kernel
theorem dX0_fewestKnowing_57 : decode cX0_fewestKnowing 57 = .ok (.isub, 1) := by decide +kernel
theorem dX0_fewestKnowing_58 : decode cX0_fewestKnowing 58 = .ok (.istore_n 2, 1) := by decide +kernel
theorem dX0_fewestKnowing_59 : decode cX0_fewestKnowing 59 = .ok (.iconst 0, 1) := by decide +kernel
theorem dX0_fewestKnowing_60 : decode cX0_fewestKnowing 60 = .ok (.istore_n 3, 1) := by decide +kernel
theorem dX0_fewestKnowing_61 : decode cX0_fewestKnowing 61 = .ok (.iload_n 3, 1) := by decide +kernel
theorem dX0_fewestKnowing_62 : decode cX0_fewestKnowing 62 = .ok (.iconst 1, 1) := by decide +kernel
theorem dX0_fewestKnowing_63 : decode cX0_fewestKnowing 63 = .ok (.aload_n 0, 1) := by decide +kernel
theorem dX0_fewestKnowing_64 : decode cX0_fewestKnowing 64 = .ok (.getfield 18, 3) := by decide +kernel
theorem dX0_fewestKnowing_67 : decode cX0_fewestKnowing 67 = .ok (.getfield 72, 3) := by decide +kernel
theorem dX0_fewestKnowing_70 : decode cX0_fewestKnowing 70 = .ok (.ishl, 1) := by decide +kernel
theorem dX0_fewestKnowing_71 : decode cX0_fewestKnowing 71 = .ok (.if_icmp .ge 31, 3) := by decide +kernel
theorem dX0_fewestKnowing_74 : decode cX0_fewestKnowing 74 = .ok (.iload_n 3, 1) := by decide +kernel
theorem dX0_fewestKnowing_75 : decode cX0_fewestKnowing 75 = .ok (.invokestatic 42, 3) := by decide +kernel
theorem dX0_fewestKnowing_78 : decode cX0_fewestKnowing 78 = .ok (.iload_n 2, 1) := by decide +kernel
theorem dX0_fewestKnowing_79 : decode cX0_fewestKnowing 79 = .ok (.invokestatic 42, 3) := by decide +kernel
theorem dX0_fewestKnowing_82 : decode cX0_fewestKnowing 82 = .ok (.if_icmp .ge 14, 3) := by decide +kernel
theorem dX0_fewestKnowing_96 : decode cX0_fewestKnowing 96 = .ok (.iinc 3 1, 3) := by decide +kernel
theorem dX0_fewestKnowing_99 : decode cX0_fewestKnowing 99 = .ok (.goto (-38), 3) := by decide +kernel
theorem dX0_fewestKnowing_102 : decode cX0_fewestKnowing 102 = .ok (.iload_n 2, 1) := by decide +kernel
theorem dX0_fewestKnowing_103 : decode cX0_fewestKnowing 103 = .ok (.ireturn, 1) := by decide +kernel
theorem dX0_mostOften_0 : decode cX0_mostOften 0 = .ok (.iconst (-1), 1) := by decide +kernel
theorem dX0_mostOften_1 : decode cX0_mostOften 1 = .ok (.istore_n 1, 1) := by decide +kernel
theorem dX0_mostOften_2 : decode cX0_mostOften 2 = .ok (.iconst 0, 1) := by decide +kernel
theorem dX0_mostOften_3 : decode cX0_mostOften 3 = .ok (.istore_n 2, 1) := by decide +kernel
theorem dX0_mostOften_4 : decode cX0_mostOften 4 = .ok (.iconst 0, 1) := by decide +kernel
theorem dX0_mostOften_5 : decode cX0_mostOften 5 = .ok (.istore_n 3, 1) := by decide +kernel
theorem dX0_mostOften_6 : decode cX0_mostOften 6 = .ok (.iload_n 3, 1) := by decide +kernel
theorem dX0_mostOften_7 : decode cX0_mostOften 7 = .ok (.aload_n 0, 1) := by decide +kernel
theorem dX0_mostOften_8 : decode cX0_mostOften 8 = .ok (.getfield 18, 3) := by decide +kernel
theorem dX0_mostOften_11 : decode cX0_mostOften 11 = .ok (.getfield 72, 3) := by decide +kernel
theorem dX0_mostOften_14 : decode cX0_mostOften 14 = .ok (.if_icmp .ge 27, 3) := by decide +kernel
theorem dX0_mostOften_41 : decode cX0_mostOften 41 = .ok (.iload_n 1, 1) := by decide +kernel
theorem dX0_mostOften_42 : decode cX0_mostOften 42 = .ok (.ireturn, 1) := by decide +kernel
theorem dX0_unbroken_0 : decode cX0_unbroken 0 = .ok (.iconst 1, 1) := by decide +kernel
theorem dX0_unbroken_1 : decode cX0_unbroken 1 = .ok (.aload_n 0, 1) := by decide +kernel
theorem dX0_unbroken_2 : decode cX0_unbroken 2 = .ok (.getfield 18, 3) := by decide +kernel
theorem dX0_unbroken_5 : decode cX0_unbroken 5 = .ok (.getfield 72, 3) := by decide +kernel
theorem dX0_unbroken_8 : decode cX0_unbroken 8 = .ok (.ishl, 1) := by decide +kernel
theorem dX0_unbroken_9 : decode cX0_unbroken 9 = .ok (.iconst 1, 1) := by decide +kernel
theorem dX0_unbroken_10 : decode cX0_unbroken 10 = .ok (.isub, 1) := by decide +kernel
theorem dX0_unbroken_11 : decode cX0_unbroken 11 = .ok (.istore_n 1, 1) := by decide +kernel
theorem dX0_unbroken_12 : decode cX0_unbroken 12 = .ok (.iconst 0, 1) := by decide +kernel
theorem dX0_unbroken_13 : decode cX0_unbroken 13 = .ok (.istore_n 2, 1) := by decide +kernel
theorem dX0_unbroken_14 : decode cX0_unbroken 14 = .ok (.iload_n 2, 1) := by decide +kernel
theorem dX0_unbroken_15 : decode cX0_unbroken 15 = .ok (.aload_n 0, 1) := by decide +kernel
theorem dX0_unbroken_16 : decode cX0_unbroken 16 = .ok (.getfield 18, 3) := by decide +kernel
theorem dX0_unbroken_19 : decode cX0_unbroken 19 = .ok (.getfield 22, 3) := by decide +kernel
theorem kf0_22 : inW (Cond.fieldLinkNest RX0 22 "KneeOaths$World" "now" "LKneeOaths$Ledger;" "KneeOaths") := ⟨List.mem_of_getElem? (i := 266) (by decide +kernel), by decide +kernel⟩
theorem dX0_unbroken_22 : decode cX0_unbroken 22 = .ok (.getfield 28, 3) := by decide +kernel
theorem kf0_28 : inW (Cond.fieldLinkNest RX0 28 "KneeOaths$Ledger" "oathCount" "I" "KneeOaths") := ⟨List.mem_of_getElem? (i := 161) (by decide +kernel), by decide +kernel⟩
theorem dX0_unbroken_25 : decode cX0_unbroken 25 = .ok (.if_icmp .ge 44, 3) := by decide +kernel
theorem dX0_unbroken_69 : decode cX0_unbroken 69 = .ok (.iload_n 1, 1) := by decide +kernel
theorem dX0_unbroken_70 : decode cX0_unbroken 70 = .ok (.ireturn, 1) := by decide +kernel
theorem dX1_swearIn_0 : decode cX1_swearIn 0 = .ok (.aload_n 0, 1) := by decide +kernel
theorem dX1_swearIn_1 : decode cX1_swearIn 1 = .ok (.getfield 15, 3) := by decide +kernel
theorem ok_X1 : clOK 1 RX1 TX1 5 tyX1 := ⟨rfl, fun w h => ⟨(show ∀ w ∈ u_ws RX1 TX1 5, w ∈ lw_tbl by decide +kernel) w h, (show ∀ w ∈ u_ws RX1 TX1 5, gw w = true by decide +kernel) w h⟩, tyX1_ok, nmX1⟩
theorem kf1_15 : inW (Cond.fieldLink RX1 15 "KneeOaths$Deeds" "world" "LKneeOaths$World;") := ⟨List.mem_of_getElem? (i := 417) (by decide +kernel), by decide +kernel⟩
theorem dX1_swearIn_4 : decode cX1_swearIn 4 = .ok (.iload_n 1, 1) := by decide +kernel
theorem dX1_swearIn_5 : decode cX1_swearIn 5 = .ok (.invokevirtual 36, 3) := by decide +kernel
theorem cw_X10_has : CWv yX10_has cX10_has 2 (some .boolean) 1 := ⟨⟨⟨List.mem_of_getElem? (i := 126) (by decide +kernel), by decide +kernel⟩, ⟨List.mem_of_getElem? (i := 879) (by decide +kernel), by decide +kernel⟩, by decide +kernel⟩, ⟨List.mem_of_getElem? (i := 877) (by decide +kernel), by decide +kernel⟩, ⟨List.mem_of_getElem? (i := 878) (by decide +kernel), by decide +kernel⟩⟩
theorem km1_36 : inW (Cond.methodLink RX1 36 yX10_has) := ⟨List.mem_of_getElem? (i := 876) (by decide +kernel), by decide +kernel⟩
theorem dX1_swearIn_8 : decode cX1_swearIn 8 = .ok (.ifCond .eq 54, 3) := by decide +kernel
theorem dX1_swearIn_62 : decode cX1_swearIn 62 = .ok (.iconst (-1), 1) := by decide +kernel
theorem dX1_swearIn_63 : decode cX1_swearIn 63 = .ok (.ireturn, 1) := by decide +kernel
theorem dX1_breakOath_0 : decode cX1_breakOath 0 = .ok (.aload_n 0, 1) := by decide +kernel
theorem dX1_breakOath_1 : decode cX1_breakOath 1 = .ok (.getfield 15, 3) := by decide +kernel
theorem dX1_breakOath_4 : decode cX1_breakOath 4 = .ok (.getfield 40, 3) := by decide +kernel
theorem kf1_40 : inW (Cond.fieldLinkNest RX1 40 "KneeOaths$World" "now" "LKneeOaths$Ledger;" "KneeOaths") := ⟨List.mem_of_getElem? (i := 269) (by decide +kernel), by decide +kernel⟩
theorem dX1_breakOath_7 : decode cX1_breakOath 7 = .ok (.iload_n 1, 1) := by decide +kernel
theorem dX1_breakOath_8 : decode cX1_breakOath 8 = .ok (.iconst 4, 1) := by decide +kernel
theorem dX1_breakOath_9 : decode cX1_breakOath 9 = .ok (.invokevirtual 59, 3) := by decide +kernel
theorem km1_59 : inW (Cond.methodLink RX1 59 yX4_get) := ⟨List.mem_of_getElem? (i := 912) (by decide +kernel), by decide +kernel⟩
theorem dX1_breakOath_12 : decode cX1_breakOath 12 = .ok (.ifCond .eq 5, 3) := by decide +kernel
theorem dX1_breakOath_15 : decode cX1_breakOath 15 = .ok (.iconst 0, 1) := by decide +kernel
theorem dX1_breakOath_16 : decode cX1_breakOath 16 = .ok (.ireturn, 1) := by decide +kernel
theorem dX1_releaseOath_0 : decode cX1_releaseOath 0 = .ok (.aload_n 0, 1) := by decide +kernel
theorem dX1_releaseOath_1 : decode cX1_releaseOath 1 = .ok (.getfield 15, 3) := by decide +kernel
theorem dX1_releaseOath_4 : decode cX1_releaseOath 4 = .ok (.getfield 40, 3) := by decide +kernel
theorem dX1_releaseOath_7 : decode cX1_releaseOath 7 = .ok (.iload_n 1, 1) := by decide +kernel
theorem dX1_releaseOath_8 : decode cX1_releaseOath 8 = .ok (.invokevirtual 67, 3) := by decide +kernel
theorem km1_67 : inW (Cond.methodLink RX1 67 yX4_unreleased) := ⟨List.mem_of_getElem? (i := 925) (by decide +kernel), by decide +kernel⟩
theorem dX1_releaseOath_11 : decode cX1_releaseOath 11 = .ok (.ifCond .ne 5, 3) := by decide +kernel
theorem dX1_releaseOath_14 : decode cX1_releaseOath 14 = .ok (.iconst 0, 1) := by decide +kernel
theorem dX1_releaseOath_15 : decode cX1_releaseOath 15 = .ok (.ireturn, 1) := by decide +kernel
theorem dX1_kneelDown_0 : decode cX1_kneelDown 0 = .ok (.aload_n 0, 1) := by decide +kernel
theorem dX1_kneelDown_1 : decode cX1_kneelDown 1 = .ok (.getfield 15, 3) := by decide +kernel
theorem dX1_kneelDown_4 : decode cX1_kneelDown 4 = .ok (.iload_n 1, 1) := by decide +kernel
theorem dX1_kneelDown_5 : decode cX1_kneelDown 5 = .ok (.invokevirtual 36, 3) := by decide +kernel
theorem dX1_kneelDown_8 : decode cX1_kneelDown 8 = .ok (.ifCond .ne 5, 3) := by decide +kernel
theorem dX1_kneelDown_11 : decode cX1_kneelDown 11 = .ok (.iconst 0, 1) := by decide +kernel
theorem dX1_kneelDown_12 : decode cX1_kneelDown 12 = .ok (.ireturn, 1) := by decide +kernel
theorem dX1_slide_0 : decode cX1_slide 0 = .ok (.aload_n 0, 1) := by decide +kernel
theorem dX1_slide_1 : decode cX1_slide 1 = .ok (.getfield 15, 3) := by decide +kernel
theorem dX1_slide_4 : decode cX1_slide 4 = .ok (.iload_n 1, 1) := by decide +kernel
theorem dX1_slide_5 : decode cX1_slide 5 = .ok (.invokevirtual 36, 3) := by decide +kernel
theorem dX1_slide_8 : decode cX1_slide 8 = .ok (.ifCond .eq 12, 3) := by decide +kernel
theorem dX1_slide_20 : decode cX1_slide 20 = .ok (.iconst 0, 1) := by decide +kernel
theorem dX1_slide_21 : decode cX1_slide 21 = .ok (.ireturn, 1) := by decide +kernel
theorem dX1_strikeOut_0 : decode cX1_strikeOut 0 = .ok (.aload_n 0, 1) := by decide +kernel
theorem dX1_strikeOut_1 : decode cX1_strikeOut 1 = .ok (.getfield 23, 3) := by decide +kernel
theorem kf1_23 : inW (Cond.fieldLink RX1 23 "KneeOaths$Deeds" "rings" "LKneeOaths$Rings;") := ⟨List.mem_of_getElem? (i := 419) (by decide +kernel), by decide +kernel⟩
theorem dX1_strikeOut_4 : decode cX1_strikeOut 4 = .ok (.iload_n 1, 1) := by decide +kernel
theorem dX1_strikeOut_5 : decode cX1_strikeOut 5 = .ok (.invokevirtual 92, 3) := by decide +kernel
theorem cw_X6_isRing : CWv yX6_isRing cX6_isRing 8 (some .boolean) 1 := ⟨⟨⟨List.mem_of_getElem? (i := 132) (by decide +kernel), by decide +kernel⟩, ⟨List.mem_of_getElem? (i := 1038) (by decide +kernel), by decide +kernel⟩, by decide +kernel⟩, ⟨List.mem_of_getElem? (i := 1036) (by decide +kernel), by decide +kernel⟩, ⟨List.mem_of_getElem? (i := 1037) (by decide +kernel), by decide +kernel⟩⟩
theorem km1_92 : inW (Cond.methodLink RX1 92 yX6_isRing) := ⟨List.mem_of_getElem? (i := 1035) (by decide +kernel), by decide +kernel⟩
theorem dX1_strikeOut_8 : decode cX1_strikeOut 8 = .ok (.ifCond .ne 5, 3) := by decide +kernel
theorem dX1_strikeOut_11 : decode cX1_strikeOut 11 = .ok (.iconst (-1), 1) := by decide +kernel
theorem dX1_strikeOut_12 : decode cX1_strikeOut 12 = .ok (.ireturn, 1) := by decide +kernel
theorem dX2_daysToFade_0 : decode cX2_daysToFade 0 = .ok (.aload_n 0, 1) := by decide +kernel
theorem dX2_daysToFade_1 : decode cX2_daysToFade 1 = .ok (.getfield 9, 3) := by decide +kernel
theorem ok_X2 : clOK 2 RX2 TX2 4 tyX2 := ⟨rfl, fun w h => ⟨(show ∀ w ∈ u_ws RX2 TX2 4, w ∈ lw_tbl by decide +kernel) w h, (show ∀ w ∈ u_ws RX2 TX2 4, gw w = true by decide +kernel) w h⟩, tyX2_ok, nmX2⟩
theorem kf2_9 : inW (Cond.fieldLink RX2 9 "KneeOaths$Foresight" "world" "LKneeOaths$World;") := ⟨List.mem_of_getElem? (i := 439) (by decide +kernel), by decide +kernel⟩
theorem dX2_daysToFade_4 : decode cX2_daysToFade 4 = .ok (.getfield 27, 3) := by decide +kernel
theorem kf2_27 : inW (Cond.fieldLinkNest RX2 27 "KneeOaths$World" "now" "LKneeOaths$Ledger;" "KneeOaths") := ⟨List.mem_of_getElem? (i := 267) (by decide +kernel), by decide +kernel⟩
theorem dX2_daysToFade_7 : decode cX2_daysToFade 7 = .ok (.iload_n 1, 1) := by decide +kernel
theorem dX2_daysToFade_8 : decode cX2_daysToFade 8 = .ok (.invokevirtual 55, 3) := by decide +kernel
theorem km2_55 : inW (Cond.methodLink RX2 55 yX4_unreleased) := ⟨List.mem_of_getElem? (i := 1207) (by decide +kernel), by decide +kernel⟩
theorem dX2_daysToFade_11 : decode cX2_daysToFade 11 = .ok (.ifCond .ne 5, 3) := by decide +kernel
theorem dX2_daysToFade_14 : decode cX2_daysToFade 14 = .ok (.iconst (-1), 1) := by decide +kernel
theorem dX2_daysToFade_15 : decode cX2_daysToFade 15 = .ok (.ireturn, 1) := by decide +kernel
theorem dX5_size_0 : decode cX5_size 0 = .ok (.aload_n 0, 1) := by decide +kernel
theorem dX5_size_1 : decode cX5_size 1 = .ok (.getfield 31, 3) := by decide +kernel
theorem ok_X5 : clOK 5 RX5 TX5 14 tyX5 := ⟨rfl, fun w h => ⟨(show ∀ w ∈ u_ws RX5 TX5 14, w ∈ lw_tbl by decide +kernel) w h, (show ∀ w ∈ u_ws RX5 TX5 14, gw w = true by decide +kernel) w h⟩, tyX5_ok, nmX5⟩
theorem kf5_31 : inW (Cond.fieldLink RX5 31 "KneeOaths$Reader" "length" "I") := ⟨List.mem_of_getElem? (i := 343) (by decide +kernel), by decide +kernel⟩
theorem dX5_size_4 : decode cX5_size 4 = .ok (.ireturn, 1) := by decide +kernel
theorem dX5_faultKind_0 : decode cX5_faultKind 0 = .ok (.aload_n 0, 1) := by decide +kernel
theorem dX5_faultKind_1 : decode cX5_faultKind 1 = .ok (.getfield 24, 3) := by decide +kernel
theorem kf5_24 : inW (Cond.fieldLink RX5 24 "KneeOaths$Reader" "faultKind" "I") := ⟨List.mem_of_getElem? (i := 351) (by decide +kernel), by decide +kernel⟩
theorem dX5_faultKind_4 : decode cX5_faultKind 4 = .ok (.ireturn, 1) := by decide +kernel
theorem dX5_faultPlace_0 : decode cX5_faultPlace 0 = .ok (.aload_n 0, 1) := by decide +kernel
theorem dX5_faultPlace_1 : decode cX5_faultPlace 1 = .ok (.getfield 28, 3) := by decide +kernel
theorem kf5_28 : inW (Cond.fieldLink RX5 28 "KneeOaths$Reader" "faultPlace" "I") := ⟨List.mem_of_getElem? (i := 352) (by decide +kernel), by decide +kernel⟩
theorem dX5_faultPlace_4 : decode cX5_faultPlace 4 = .ok (.ireturn, 1) := by decide +kernel
theorem dX5_cutTo_0 : decode cX5_cutTo 0 = .ok (.iload_n 1, 1) := by decide +kernel
theorem dX5_cutTo_1 : decode cX5_cutTo 1 = .ok (.ifCond .lt 11, 3) := by decide +kernel
theorem dX5_cutTo_12 : decode cX5_cutTo 12 = .ok (.iconst 0, 1) := by decide +kernel
theorem dX5_cutTo_13 : decode cX5_cutTo 13 = .ok (.ireturn, 1) := by decide +kernel
theorem dX5_cutTo_4 : decode cX5_cutTo 4 = .ok (.iload_n 1, 1) := by decide +kernel
theorem dX5_cutTo_5 : decode cX5_cutTo 5 = .ok (.aload_n 0, 1) := by decide +kernel
theorem dX5_cutTo_6 : decode cX5_cutTo 6 = .ok (.getfield 31, 3) := by decide +kernel
theorem dX5_cutTo_9 : decode cX5_cutTo 9 = .ok (.if_icmp .le 5, 3) := by decide +kernel
theorem dX5_cutTo_14 : decode cX5_cutTo 14 = .ok (.aload_n 0, 1) := by decide +kernel
theorem dX5_cutTo_15 : decode cX5_cutTo 15 = .ok (.iload_n 1, 1) := by decide +kernel
theorem dX5_cutTo_16 : decode cX5_cutTo 16 = .ok (.putfield 31, 3) := by decide +kernel
theorem dX5_cutTo_19 : decode cX5_cutTo 19 = .ok (.iconst 1, 1) := by decide +kernel
theorem dX5_cutTo_20 : decode cX5_cutTo 20 = .ok (.ireturn, 1) := by decide +kernel
set_option maxHeartbeats 4000000 in
set_option maxRecDepth 100000 in
theorem c_bitCount0 {l : Launch} {G : GG} {L : List Nat} {f : HF}     : PMp l yJ6_bitCount_0f7a4 cJ6_bitCount_0f7a4 1 .int 0 0 0 G [.int 0] L f (fun r => r = 0) := by
  refine PMi.of (post := fun r L1 f1 => (r = 0) ∧ L1 = L ∧ f1 = f) (own := RJ6) (by decide) rfl (Nat.le_of_ble_eq_true rfl) (fun sz p e s m args below meth c A ls hA1 hname S Y hl => ?_)
  have hx := S.hx
  have hb := S.hb
  have hl : lv_has ls 1 [(0, .int 0)] := hl
  refine lv_iload_n hx hb dJ6_bitCount_0f7a4_0 rfl (lv_at hl 0 rfl) ?_
  refine lv_iload_n hx hb dJ6_bitCount_0f7a4_1 rfl (lv_at hl 0 rfl) ?_
  refine lv_iconst (v := 1) hx hb dJ6_bitCount_0f7a4_2 (by decide) ?_
  refine lv_iushr (v := 0) hx hb dJ6_bitCount_0f7a4_3 (by decide) ?_
  refine lv_ldcw (v := 1431655765) hx hb S.ow (S.w kk106_265) dJ6_bitCount_0f7a4_4 ?_
  refine lv_iand hx hb dJ6_bitCount_0f7a4_7 ?_
  refine lv_fold (z := 0) (by decide) ?_
  refine lv_isub hx hb dJ6_bitCount_0f7a4_8 ?_
  refine lv_fold (z := 0) (by decide) ?_
  refine lv_istore_n (lv' := [(0, .int 0)]) hx hb dJ6_bitCount_0f7a4_9 rfl hl (by decide) rfl (fun ls hl => ?_)
  refine lv_iload_n hx hb dJ6_bitCount_0f7a4_10 rfl (lv_at hl 0 rfl) ?_
  refine lv_ldcw (v := 858993459) hx hb S.ow (S.w kk106_266) dJ6_bitCount_0f7a4_11 ?_
  refine lv_iand hx hb dJ6_bitCount_0f7a4_14 ?_
  refine lv_fold (z := 0) (by decide) ?_
  refine lv_iload_n hx hb dJ6_bitCount_0f7a4_15 rfl (lv_at hl 0 rfl) ?_
  refine lv_iconst (v := 2) hx hb dJ6_bitCount_0f7a4_16 (by decide) ?_
  refine lv_iushr (v := 0) hx hb dJ6_bitCount_0f7a4_17 (by decide) ?_
  refine lv_ldcw (v := 858993459) hx hb S.ow (S.w kk106_266) dJ6_bitCount_0f7a4_18 ?_
  refine lv_iand hx hb dJ6_bitCount_0f7a4_21 ?_
  refine lv_fold (z := 0) (by decide) ?_
  refine lv_iadd hx hb dJ6_bitCount_0f7a4_22 ?_
  refine lv_fold (z := 0) (by decide) ?_
  refine lv_istore_n (lv' := [(0, .int 0)]) hx hb dJ6_bitCount_0f7a4_23 rfl hl (by decide) rfl (fun ls hl => ?_)
  refine lv_iload_n hx hb dJ6_bitCount_0f7a4_24 rfl (lv_at hl 0 rfl) ?_
  refine lv_iload_n hx hb dJ6_bitCount_0f7a4_25 rfl (lv_at hl 0 rfl) ?_
  refine lv_iconst (v := 4) hx hb dJ6_bitCount_0f7a4_26 (by decide) ?_
  refine lv_iushr (v := 0) hx hb dJ6_bitCount_0f7a4_27 (by decide) ?_
  refine lv_iadd hx hb dJ6_bitCount_0f7a4_28 ?_
  refine lv_fold (z := 0) (by decide) ?_
  refine lv_ldcw (v := 252645135) hx hb S.ow (S.w kk106_267) dJ6_bitCount_0f7a4_29 ?_
  refine lv_iand hx hb dJ6_bitCount_0f7a4_32 ?_
  refine lv_fold (z := 0) (by decide) ?_
  refine lv_istore_n (lv' := [(0, .int 0)]) hx hb dJ6_bitCount_0f7a4_33 rfl hl (by decide) rfl (fun ls hl => ?_)
  refine lv_iload_n hx hb dJ6_bitCount_0f7a4_34 rfl (lv_at hl 0 rfl) ?_
  refine lv_iload_n hx hb dJ6_bitCount_0f7a4_35 rfl (lv_at hl 0 rfl) ?_
  refine lv_bipush (v := 8) hx hb dJ6_bitCount_0f7a4_36 (by decide) ?_
  refine lv_iushr (v := 0) hx hb dJ6_bitCount_0f7a4_38 (by decide) ?_
  refine lv_iadd hx hb dJ6_bitCount_0f7a4_39 ?_
  refine lv_fold (z := 0) (by decide) ?_
  refine lv_istore_n (lv' := [(0, .int 0)]) hx hb dJ6_bitCount_0f7a4_40 rfl hl (by decide) rfl (fun ls hl => ?_)
  refine lv_iload_n hx hb dJ6_bitCount_0f7a4_41 rfl (lv_at hl 0 rfl) ?_
  refine lv_iload_n hx hb dJ6_bitCount_0f7a4_42 rfl (lv_at hl 0 rfl) ?_
  refine lv_bipush (v := 16) hx hb dJ6_bitCount_0f7a4_43 (by decide) ?_
  refine lv_iushr (v := 0) hx hb dJ6_bitCount_0f7a4_45 (by decide) ?_
  refine lv_iadd hx hb dJ6_bitCount_0f7a4_46 ?_
  refine lv_fold (z := 0) (by decide) ?_
  refine lv_istore_n (lv' := [(0, .int 0)]) hx hb dJ6_bitCount_0f7a4_47 rfl hl (by decide) rfl (fun ls hl => ?_)
  refine lv_iload_n hx hb dJ6_bitCount_0f7a4_48 rfl (lv_at hl 0 rfl) ?_
  refine lv_bipush (v := 63) hx hb dJ6_bitCount_0f7a4_49 (by decide) ?_
  refine lv_iand hx hb dJ6_bitCount_0f7a4_51 ?_
  refine lv_fold (z := 0) (by decide) ?_
  exact prI (post := fun r L1 f1 => (r = 0) ∧ L1 = L ∧ f1 = f) S Y rfl (by decide) (by decide) hA1 ⟨rfl, rfl, rfl⟩ dJ6_bitCount_0f7a4_52
set_option maxHeartbeats 4000000 in
set_option maxRecDepth 100000 in
theorem c_X4_written {l : Launch} {G : GG} {L : List Nat} {f : HF} {h oa aa : Nat} {i k : Int32}  (p_h : pt L f h (.inr (4, [.ref oa, .ref aa, .int 0, .int 0, .int 0, .int 0, .int 137])))  : PMp l yX4_written cX4_written 3 .int 0 0 0 G [.ref h, .int i, .int k] L f (fun r => r = (-2)) := by
  refine PMi.of (post := fun r L1 f1 => (r = (-2)) ∧ L1 = L ∧ f1 = f) (own := RX4) (by decide) rfl (Nat.le_of_ble_eq_true rfl) (fun sz p e s m args below meth c A ls hA1 hname S Y hl => ?_)
  have hx := S.hx
  have hb := S.hb
  have hl : lv_has ls 3 [(0, .ref h), (1, .int i), (2, .int k)] := hl
  refine lv_iload_n hx hb dX4_written_0 rfl (lv_at hl 1 rfl) ?_
  refine lv_if_lt (tgt := 21) hx hb dX4_written_1 (by decide) (fun c_10 => ?_) (fun c_10 => ?_)
  · refine lv_bipush (v := (-2)) hx hb dX4_written_21 (by decide) ?_
    exact prI (post := fun r L1 f1 => (r = (-2)) ∧ L1 = L ∧ f1 = f) S Y rfl (by decide) (by decide) hA1 ⟨rfl, rfl, rfl⟩ dX4_written_23
  · refine lv_iload_n hx hb dX4_written_4 rfl (lv_at hl 1 rfl) ?_
    refine lv_aload_n hx hb dX4_written_5 rfl (lv_at hl 0 rfl) ?_
    refine pg_get S Y ok_X4 3 (by decide) kf4_31 (v := .int 0) p_h rfl dX4_written_6 ?_
    refine lv_icmp_ge (tgt := 21) hx hb dX4_written_9 (by decide) (fun _ => ?_) (fun h => absurd (i_ge c_10) h)
    refine lv_bipush (v := (-2)) hx hb dX4_written_21 (by decide) ?_
    exact prI (post := fun r L1 f1 => (r = (-2)) ∧ L1 = L ∧ f1 = f) S Y rfl (by decide) (by decide) hA1 ⟨rfl, rfl, rfl⟩ dX4_written_23
set_option maxHeartbeats 4000000 in
set_option maxRecDepth 100000 in
theorem c_X4_writtenOf {l : Launch} {G : GG} {L : List Nat} {f : HF} {h oa aa : Nat} {o : Int32}  (p_h : pt L f h (.inr (4, [.ref oa, .ref aa, .int 0, .int 0, .int 0, .int 0, .int 137])))  : PMp l yX4_writtenOf cX4_writtenOf 4 .int 0 0 0 G [.ref h, .int o] L f (fun r => r = 0) := by
  refine PMi.of (post := fun r L1 f1 => (r = 0) ∧ L1 = L ∧ f1 = f) (own := RX4) (by decide) rfl (Nat.le_of_ble_eq_true rfl) (fun sz p e s m args below meth c A ls hA1 hname S Y hl => ?_)
  have hx := S.hx
  have hb := S.hb
  have hl : lv_has ls 4 [(0, .ref h), (1, .int o)] := hl
  refine lv_iconst (v := 0) hx hb dX4_writtenOf_0 (by decide) ?_
  refine lv_istore_n (lv' := [(2, .int 0), (0, .ref h), (1, .int o)]) hx hb dX4_writtenOf_1 rfl hl (by decide) rfl (fun ls hl => ?_)
  refine lv_iconst (v := 0) hx hb dX4_writtenOf_2 (by decide) ?_
  refine lv_istore_n (lv' := [(3, .int 0), (2, .int 0), (0, .ref h), (1, .int o)]) hx hb dX4_writtenOf_3 rfl hl (by decide) rfl (fun ls hl => ?_)
  refine lv_iload_n hx hb dX4_writtenOf_4 rfl (lv_at hl 0 rfl) ?_
  refine lv_aload_n hx hb dX4_writtenOf_5 rfl (lv_at hl 2 rfl) ?_
  refine pg_get S Y ok_X4 3 (by decide) kf4_31 (v := .int 0) p_h rfl dX4_writtenOf_6 ?_
  refine lv_icmp_ge (tgt := 42) hx hb dX4_writtenOf_9 (by decide) (fun _ => ?_) (fun h => absurd (by decide) h)
  refine lv_iload_n hx hb dX4_writtenOf_42 rfl (lv_at hl 1 rfl) ?_
  exact prI (post := fun r L1 f1 => (r = 0) ∧ L1 = L ∧ f1 = f) S Y rfl (by decide) (by decide) hA1 ⟨rfl, rfl, rfl⟩ dX4_writtenOf_43
set_option maxHeartbeats 4000000 in
set_option maxRecDepth 100000 in
theorem c_X4_dayOfMost {l : Launch} {G : GG} {L : List Nat} {f : HF} {h oa aa : Nat}  (p_h : pt L f h (.inr (4, [.ref oa, .ref aa, .int 0, .int 0, .int 0, .int 0, .int 137])))  : PMp l yX4_dayOfMost cX4_dayOfMost 4 .int 0 0 0 G [.ref h] L f (fun r => r = (-1)) := by
  refine PMi.of (post := fun r L1 f1 => (r = (-1)) ∧ L1 = L ∧ f1 = f) (own := RX4) (by decide) rfl (Nat.le_of_ble_eq_true rfl) (fun sz p e s m args below meth c A ls hA1 hname S Y hl => ?_)
  have hx := S.hx
  have hb := S.hb
  have hl : lv_has ls 4 [(0, .ref h)] := hl
  refine lv_iconst (v := (-1)) hx hb dX4_dayOfMost_0 (by decide) ?_
  refine lv_istore_n (lv' := [(1, .int (-1)), (0, .ref h)]) hx hb dX4_dayOfMost_1 rfl hl (by decide) rfl (fun ls hl => ?_)
  refine lv_iconst (v := 0) hx hb dX4_dayOfMost_2 (by decide) ?_
  refine lv_istore_n (lv' := [(2, .int 0), (1, .int (-1)), (0, .ref h)]) hx hb dX4_dayOfMost_3 rfl hl (by decide) rfl (fun ls hl => ?_)
  refine lv_iconst (v := 0) hx hb dX4_dayOfMost_4 (by decide) ?_
  refine lv_istore_n (lv' := [(3, .int 0), (2, .int 0), (1, .int (-1)), (0, .ref h)]) hx hb dX4_dayOfMost_5 rfl hl (by decide) rfl (fun ls hl => ?_)
  refine lv_iload_n hx hb dX4_dayOfMost_6 rfl (lv_at hl 0 rfl) ?_
  refine lv_aload_n hx hb dX4_dayOfMost_7 rfl (lv_at hl 3 rfl) ?_
  refine pg_get S Y ok_X4 3 (by decide) kf4_31 (v := .int 0) p_h rfl dX4_dayOfMost_8 ?_
  refine lv_icmp_ge (tgt := 44) hx hb dX4_dayOfMost_11 (by decide) (fun _ => ?_) (fun h => absurd (by decide) h)
  refine lv_iload_n hx hb dX4_dayOfMost_44 rfl (lv_at hl 2 rfl) ?_
  exact prI (post := fun r L1 f1 => (r = (-1)) ∧ L1 = L ∧ f1 = f) S Y rfl (by decide) (by decide) hA1 ⟨rfl, rfl, rfl⟩ dX4_dayOfMost_45
set_option maxHeartbeats 4000000 in
set_option maxRecDepth 100000 in
theorem c_X4_marksOnKnee {l : Launch} {G : GG} {L : List Nat} {f : HF} {h oa aa : Nat} {o k : Int32}  (p_h : pt L f h (.inr (4, [.ref oa, .ref aa, .int 0, .int 0, .int 0, .int 0, .int 137])))  : PMp l yX4_marksOnKnee cX4_marksOnKnee 5 .int 0 0 0 G [.ref h, .int o, .int k] L f (fun r => r = 0) := by
  refine PMi.of (post := fun r L1 f1 => (r = 0) ∧ L1 = L ∧ f1 = f) (own := RX4) (by decide) rfl (Nat.le_of_ble_eq_true rfl) (fun sz p e s m args below meth c A ls hA1 hname S Y hl => ?_)
  have hx := S.hx
  have hb := S.hb
  have hl : lv_has ls 5 [(0, .ref h), (1, .int o), (2, .int k)] := hl
  refine lv_iconst (v := 0) hx hb dX4_marksOnKnee_0 (by decide) ?_
  refine lv_istore_n (lv' := [(3, .int 0), (0, .ref h), (1, .int o), (2, .int k)]) hx hb dX4_marksOnKnee_1 rfl hl (by decide) rfl (fun ls hl => ?_)
  refine lv_iconst (v := 0) hx hb dX4_marksOnKnee_2 (by decide) ?_
  refine lv_istore (lv' := [(4, .int 0), (3, .int 0), (0, .ref h), (1, .int o), (2, .int k)]) hx hb dX4_marksOnKnee_3 hl (by decide) rfl (fun ls hl => ?_)
  refine lv_iload hx hb dX4_marksOnKnee_5 (lv_at hl 0 rfl) ?_
  refine lv_aload_n hx hb dX4_marksOnKnee_7 rfl (lv_at hl 2 rfl) ?_
  refine pg_get S Y ok_X4 2 (by decide) kf4_28 (v := .int 0) p_h rfl dX4_marksOnKnee_8 ?_
  refine lv_icmp_ge (tgt := 44) hx hb dX4_marksOnKnee_11 (by decide) (fun _ => ?_) (fun h => absurd (by decide) h)
  refine lv_iload_n hx hb dX4_marksOnKnee_44 rfl (lv_at hl 1 rfl) ?_
  exact prI (post := fun r L1 f1 => (r = 0) ∧ L1 = L ∧ f1 = f) S Y rfl (by decide) (by decide) hA1 ⟨rfl, rfl, rfl⟩ dX4_marksOnKnee_45
set_option maxHeartbeats 4000000 in
set_option maxRecDepth 100000 in
theorem c_X9_tell {l : Launch} {G : GG} {L : List Nat} {f : HF} {h ce : Nat} {a b c0 : Int32} {g : Nat → Int32}  (p_h : pt L f h (.inr (9, [.ref ce, .int 8, .int 0]))) (p_ce : pt L f ce (.inl (G.2 0, 24, .inl g)))  : PMi l yX9_tell cX9_tell 5 .int 0 0 0 G [.ref h, .int a, .int b, .int c0] L f (fun r L1 f1 => r = 1) := by
  refine PMi.of (post := fun r L1 f1 => r = 1) (own := RX9) (by decide) rfl (Nat.le_of_ble_eq_true rfl) (fun sz p e s m args below meth c A ls hA1 hname S Y hl => ?_)
  have hx := S.hx
  have hb := S.hb
  have hl : lv_has ls 5 [(0, .ref h), (1, .int a), (2, .int b), (3, .int c0)] := hl
  refine lv_aload_n hx hb dX9_tell_0 rfl (lv_at hl 0 rfl) ?_
  refine pg_get S Y ok_X9 2 (by decide) kf9_25 (v := .int 0) p_h rfl dX9_tell_1 ?_
  refine lv_aload_n hx hb dX9_tell_4 rfl (lv_at hl 0 rfl) ?_
  refine pg_get S Y ok_X9 1 (by decide) kf9_21 (v := .int 8) p_h rfl dX9_tell_5 ?_
  refine lv_icmp_lt (tgt := 14) hx hb dX9_tell_8 (by decide) (fun _ => ?_) (fun h => absurd (by decide) h)
  refine lv_aload_n hx hb dX9_tell_14 rfl (lv_at hl 0 rfl) ?_
  refine pg_get S Y ok_X9 2 (by decide) kf9_25 (v := .int 0) p_h rfl dX9_tell_15 ?_
  refine lv_iconst (v := 3) hx hb dX9_tell_18 (by decide) ?_
  refine lv_imul hx hb dX9_tell_19 ?_
  refine lv_fold (z := 0) (by decide) ?_
  refine lv_istore (lv' := [(4, .int 0), (0, .ref h), (1, .int a), (2, .int b), (3, .int c0)]) hx hb dX9_tell_20 hl (by decide) rfl (fun ls hl => ?_)
  refine lv_aload_n hx hb dX9_tell_22 rfl (lv_at hl 1 rfl) ?_
  refine pg_get S Y ok_X9 0 (by decide) kf9_9 (v := .ref ce) p_h rfl dX9_tell_23 ?_
  refine lv_iload hx hb dX9_tell_26 (lv_at hl 0 rfl) ?_
  refine lv_iload_n hx hb dX9_tell_28 rfl (lv_at hl 2 rfl) ?_
  refine pg_iast S Y p_ce (by unfold vp_in; decide) dX9_tell_29 (fun f_12 H locs ef_12 Y => ?_)
  obtain ⟨g_11, eg_11⟩ : ∃ z, z = upd (g) (0 : Int32).toNatClampNeg a := ⟨_, rfl⟩
  rw [← eg_11] at ef_12
  have p_h := p_h.up ef_12 ((p_h.neA p_ce))
  have p_ce := p_ce.me ef_12
  refine lv_aload_n hx hb dX9_tell_30 rfl (lv_at hl 1 rfl) ?_
  refine pg_get S Y ok_X9 0 (by decide) kf9_9 (v := .ref ce) p_h rfl dX9_tell_31 ?_
  refine lv_iload hx hb dX9_tell_34 (lv_at hl 0 rfl) ?_
  refine lv_iconst (v := 1) hx hb dX9_tell_36 (by decide) ?_
  refine lv_iadd hx hb dX9_tell_37 ?_
  refine lv_fold (z := 1) (by decide) ?_
  refine lv_iload_n hx hb dX9_tell_38 rfl (lv_at hl 3 rfl) ?_
  refine pg_iast S Y p_ce (by unfold vp_in; decide) dX9_tell_39 (fun f_14 H locs ef_14 Y => ?_)
  obtain ⟨g_13, eg_13⟩ : ∃ z, z = upd (g_11) (1 : Int32).toNatClampNeg b := ⟨_, rfl⟩
  rw [← eg_13] at ef_14
  have p_h := p_h.up ef_14 ((p_h.neA p_ce))
  have p_ce := p_ce.me ef_14
  refine lv_aload_n hx hb dX9_tell_40 rfl (lv_at hl 1 rfl) ?_
  refine pg_get S Y ok_X9 0 (by decide) kf9_9 (v := .ref ce) p_h rfl dX9_tell_41 ?_
  refine lv_iload hx hb dX9_tell_44 (lv_at hl 0 rfl) ?_
  refine lv_iconst (v := 2) hx hb dX9_tell_46 (by decide) ?_
  refine lv_iadd hx hb dX9_tell_47 ?_
  refine lv_fold (z := 2) (by decide) ?_
  refine lv_iload_n hx hb dX9_tell_48 rfl (lv_at hl 4 rfl) ?_
  refine pg_iast S Y p_ce (by unfold vp_in; decide) dX9_tell_49 (fun f_16 H locs ef_16 Y => ?_)
  obtain ⟨g_15, eg_15⟩ : ∃ z, z = upd (g_13) (2 : Int32).toNatClampNeg c0 := ⟨_, rfl⟩
  rw [← eg_15] at ef_16
  have p_h := p_h.up ef_16 ((p_h.neA p_ce))
  have p_ce := p_ce.me ef_16
  refine lv_aload_n hx hb dX9_tell_50 rfl (lv_at hl 1 rfl) ?_
  refine lv_dup hx hb dX9_tell_51 rfl ?_
  refine pg_get S Y ok_X9 2 (by decide) kf9_25 (v := .int 0) p_h rfl dX9_tell_52 ?_
  refine lv_iconst (v := 1) hx hb dX9_tell_55 (by decide) ?_
  refine lv_iadd hx hb dX9_tell_56 ?_
  refine lv_fold (z := 1) (by decide) ?_
  refine pg_put S Y ok_X9 2 (by decide) kf9_25 rfl (fs' := [.ref ce, .int 8, .int 1]) (v := .int 1) p_h rfl rfl rfl (Nat.le_of_ble_eq_true rfl) dX9_tell_57 (fun f_17 H locs ef_17 Y => ?_)
  have p_ce := p_ce.up ef_17 ((p_ce.neB p_h))
  have p_h := p_h.me ef_17
  refine lv_aload_n hx hb dX9_tell_60 rfl (lv_at hl 1 rfl) ?_
  refine pg_get S Y ok_X9 2 (by decide) kf9_25 (v := .int 1) p_h rfl dX9_tell_61 ?_
  exact prI (post := fun r L1 f1 => r = 1) S Y rfl (by decide) (by decide) hA1 rfl dX9_tell_64
set_option maxHeartbeats 4000000 in
set_option maxRecDepth 100000 in
theorem c_X9_forget {l : Launch} {G : GG} {L : List Nat} {f : HF} {h ce : Nat} {li n : Int32}  (p_h : pt L f h (.inr (9, [.ref ce, .int li, .int n])))  : PMi l yX9_forget cX9_forget 1 .int 0 0 0 G [.ref h] L f (fun r L1 f1 => r = 0) := by
  refine PMi.of (post := fun r L1 f1 => r = 0) (own := RX9) (by decide) rfl (Nat.le_of_ble_eq_true rfl) (fun sz p e s m args below meth c A ls hA1 hname S Y hl => ?_)
  have hx := S.hx
  have hb := S.hb
  have hl : lv_has ls 1 [(0, .ref h)] := hl
  refine lv_aload_n hx hb dX9_forget_0 rfl (lv_at hl 0 rfl) ?_
  refine lv_iconst (v := 0) hx hb dX9_forget_1 (by decide) ?_
  refine pg_put S Y ok_X9 2 (by decide) kf9_25 rfl (fs' := [.ref ce, .int li, .int 0]) (v := .int 0) p_h rfl rfl rfl (Nat.le_of_ble_eq_true rfl) dX9_forget_2 (fun f_18 H locs ef_18 Y => ?_)
  have p_h := p_h.me ef_18
  refine lv_iconst (v := 0) hx hb dX9_forget_5 (by decide) ?_
  exact prI (post := fun r L1 f1 => r = 0) S Y rfl (by decide) (by decide) hA1 rfl dX9_forget_6
set_option maxHeartbeats 4000000 in
set_option maxRecDepth 100000 in
theorem c_X10_has {l : Launch} {G : GG} {L : List Nat} {f : HF} {h ta ag sc nw pa fe cl wo si we : Nat} {o : Int32}  (p_h : pt L f h (.inr (10, [.ref ta, .ref ag, .ref sc, .ref nw, .ref pa, .ref fe, .ref cl, .ref wo, .ref si, .ref we, .int 0, .int 0, .int (-1), .int 0, .int 0])))  : PMp l yX10_has cX10_has 2 .boolean 0 0 0 G [.ref h, .int o] L f (fun r => r = 0) := by
  refine PMi.of (post := fun r L1 f1 => (r = 0) ∧ L1 = L ∧ f1 = f) (own := RX10) (by decide) rfl (Nat.le_of_ble_eq_true rfl) (fun sz p e s m args below meth c A ls hA1 hname S Y hl => ?_)
  have hx := S.hx
  have hb := S.hb
  have hl : lv_has ls 2 [(0, .ref h), (1, .int o)] := hl
  refine lv_iload_n hx hb dX10_has_0 rfl (lv_at hl 1 rfl) ?_
  refine lv_if_lt (tgt := 16) hx hb dX10_has_1 (by decide) (fun c_19 => ?_) (fun c_19 => ?_)
  · refine lv_iconst (v := 0) hx hb dX10_has_16 (by decide) ?_
    exact prI (post := fun r L1 f1 => (r = 0) ∧ L1 = L ∧ f1 = f) S Y rfl (by decide) (by decide) hA1 ⟨rfl, rfl, rfl⟩ dX10_has_17
  · refine lv_iload_n hx hb dX10_has_4 rfl (lv_at hl 1 rfl) ?_
    refine lv_aload_n hx hb dX10_has_5 rfl (lv_at hl 0 rfl) ?_
    refine pg_get S Y ok_X10 10 (by decide) kf10_80 (v := .int 0) p_h rfl dX10_has_6 ?_
    refine lv_icmp_ge (tgt := 16) hx hb dX10_has_9 (by decide) (fun _ => ?_) (fun h => absurd (i_ge c_19) h)
    refine lv_iconst (v := 0) hx hb dX10_has_16 (by decide) ?_
    exact prI (post := fun r L1 f1 => (r = 0) ∧ L1 = L ∧ f1 = f) S Y rfl (by decide) (by decide) hA1 ⟨rfl, rfl, rfl⟩ dX10_has_17
set_option maxHeartbeats 4000000 in
set_option maxRecDepth 100000 in
theorem c_X10_script {l : Launch} {G : GG} {L : List Nat} {f : HF} {h ta ag sc nw pa fe cl wo si we : Nat} {t : Int32}  (p_h : pt L f h (.inr (10, [.ref ta, .ref ag, .ref sc, .ref nw, .ref pa, .ref fe, .ref cl, .ref wo, .ref si, .ref we, .int 0, .int 0, .int (-1), .int 0, .int 0])))  : PMw l yX10_script cX10_script 2 (.object "KneeOaths$Script") 0 0 0 G [.ref h, .int t] L f (fun r => r = none) := by
  refine PMq.of (post := fun r L1 f1 => (r = none) ∧ L1 = L ∧ f1 = f) (own := RX10) (by decide) rfl (Nat.le_of_ble_eq_true rfl) (fun sz p e s m args below meth c A ls hA1 hname S Y hl => ?_)
  have hx := S.hx
  have hb := S.hb
  have hl : lv_has ls 2 [(0, .ref h), (1, .int t)] := hl
  refine lv_iload_n hx hb dX10_script_0 rfl (lv_at hl 1 rfl) ?_
  refine lv_if_lt (tgt := 21) hx hb dX10_script_1 (by decide) (fun c_20 => ?_) (fun c_20 => ?_)
  · refine lv_null hx hb dX10_script_21 ?_
    exact prQ (post := fun r L1 f1 => (r = none) ∧ L1 = L ∧ f1 = f) (r := none) S Y rfl (by decide) (by decide) hA1 ⟨rfl, rfl, rfl⟩ dX10_script_22
  · refine lv_iload_n hx hb dX10_script_4 rfl (lv_at hl 1 rfl) ?_
    refine lv_aload_n hx hb dX10_script_5 rfl (lv_at hl 0 rfl) ?_
    refine pg_get S Y ok_X10 11 (by decide) kf10_67 (v := .int 0) p_h rfl dX10_script_6 ?_
    refine lv_icmp_ge (tgt := 21) hx hb dX10_script_9 (by decide) (fun _ => ?_) (fun h => absurd (i_ge c_20) h)
    refine lv_null hx hb dX10_script_21 ?_
    exact prQ (post := fun r L1 f1 => (r = none) ∧ L1 = L ∧ f1 = f) (r := none) S Y rfl (by decide) (by decide) hA1 ⟨rfl, rfl, rfl⟩ dX10_script_22
set_option maxHeartbeats 4000000 in
set_option maxRecDepth 100000 in
theorem c_X10_freeScript {l : Launch} {G : GG} {L : List Nat} {f : HF} {h ta ag sc nw pa fe cl wo si we : Nat} {sf : Nat → Option Nat} {s0 : Nat} (p_h : pt L f h (.inr (10, [.ref ta, .ref ag, .ref sc, .ref nw, .ref pa, .ref fe, .ref cl, .ref wo, .ref si, .ref we, .int 0, .int 0, .int (-1), .int 0, .int 0]))) (p_sc : pt L f sc (.inl (G.2 4, 4, .inr (.inr (.inr (.inr sf)))))) (hsf : sf 0 = some s0) : PMw l yX10_freeScript cX10_freeScript 1 (.object "KneeOaths$Script") 0 0 0 G [.ref h] L f (fun r => r = some s0) := by
  refine PMq.of (post := fun r L1 f1 => (r = some s0) ∧ L1 = L ∧ f1 = f) (own := RX10) (by decide) rfl (Nat.le_of_ble_eq_true rfl) (fun sz p e s m args below meth c A ls hA1 hname S Y hl => ?_)
  have hx := S.hx
  have hb := S.hb
  have hl : lv_has ls 1 [(0, .ref h)] := hl
  refine lv_aload_n hx hb dX10_freeScript_0 rfl (lv_at hl 0 rfl) ?_
  refine pg_get S Y ok_X10 11 (by decide) kf10_67 (v := .int 0) p_h rfl dX10_freeScript_1 ?_
  refine lv_iconst (v := 4) hx hb dX10_freeScript_4 (by decide) ?_
  refine lv_icmp_ge (tgt := 20) hx hb dX10_freeScript_5 (by decide) (fun h => absurd h (by decide)) (fun _ => ?_)
  refine lv_aload_n hx hb dX10_freeScript_8 rfl (lv_at hl 0 rfl) ?_
  refine pg_get S Y ok_X10 2 (by decide) kf10_20 (v := .ref sc) p_h rfl dX10_freeScript_9 ?_
  refine lv_aload_n hx hb dX10_freeScript_12 rfl (lv_at hl 0 rfl) ?_
  refine pg_get S Y ok_X10 11 (by decide) kf10_67 (v := .int 0) p_h rfl dX10_freeScript_13 ?_
  refine pg_aald S Y (k := 4) (o := s0) p_sc rfl (by unfold vp_in; decide) hsf dX10_freeScript_16 ?_
  refine lv_goto (tgt := 21) hx hb dX10_freeScript_17 (by decide) ?_
  exact prQ (post := fun r L1 f1 => (r = some s0) ∧ L1 = L ∧ f1 = f) (r := some s0) S Y rfl (by decide) (by decide) hA1 ⟨rfl, rfl, rfl⟩ dX10_freeScript_21
set_option maxHeartbeats 4000000 in
set_option maxRecDepth 100000 in
theorem c_X10_keepScript {l : Launch} {G : GG} {L : List Nat} {f : HF} {h ta ag sc nw pa fe cl wo si we : Nat}  (p_h : pt L f h (.inr (10, [.ref ta, .ref ag, .ref sc, .ref nw, .ref pa, .ref fe, .ref cl, .ref wo, .ref si, .ref we, .int 0, .int 0, .int (-1), .int 0, .int 0])))  : PMi l yX10_keepScript cX10_keepScript 1 .int 0 0 0 G [.ref h] L f (fun r L1 f1 => r = 0) := by
  refine PMi.of (post := fun r L1 f1 => r = 0) (own := RX10) (by decide) rfl (Nat.le_of_ble_eq_true rfl) (fun sz p e s m args below meth c A ls hA1 hname S Y hl => ?_)
  have hx := S.hx
  have hb := S.hb
  have hl : lv_has ls 1 [(0, .ref h)] := hl
  refine lv_aload_n hx hb dX10_keepScript_0 rfl (lv_at hl 0 rfl) ?_
  refine lv_dup hx hb dX10_keepScript_1 rfl ?_
  refine pg_get S Y ok_X10 11 (by decide) kf10_67 (v := .int 0) p_h rfl dX10_keepScript_2 ?_
  refine lv_iconst (v := 1) hx hb dX10_keepScript_5 (by decide) ?_
  refine lv_iadd hx hb dX10_keepScript_6 ?_
  refine lv_fold (z := 1) (by decide) ?_
  refine pg_put S Y ok_X10 11 (by decide) kf10_67 rfl (fs' := [.ref ta, .ref ag, .ref sc, .ref nw, .ref pa, .ref fe, .ref cl, .ref wo, .ref si, .ref we, .int 0, .int 1, .int (-1), .int 0, .int 0]) (v := .int 1) p_h rfl rfl rfl (Nat.le_of_ble_eq_true rfl) dX10_keepScript_7 (fun f_21 H locs ef_21 Y => ?_)
  have p_h := p_h.me ef_21
  refine lv_aload_n hx hb dX10_keepScript_10 rfl (lv_at hl 0 rfl) ?_
  refine pg_get S Y ok_X10 11 (by decide) kf10_67 (v := .int 1) p_h rfl dX10_keepScript_11 ?_
  refine lv_iconst (v := 1) hx hb dX10_keepScript_14 (by decide) ?_
  refine lv_isub hx hb dX10_keepScript_15 ?_
  refine lv_fold (z := 0) (by decide) ?_
  exact prI (post := fun r L1 f1 => r = 0) S Y rfl (by decide) (by decide) hA1 rfl dX10_keepScript_16
set_option maxHeartbeats 4000000 in
set_option maxRecDepth 100000 in
theorem c_X10_putUnder {l : Launch} {G : GG} {L : List Nat} {f : HF} {h ta ag sc nw pa fe cl wo si we : Nat} {t : Int32}  (p_h : pt L f h (.inr (10, [.ref ta, .ref ag, .ref sc, .ref nw, .ref pa, .ref fe, .ref cl, .ref wo, .ref si, .ref we, .int 0, .int 0, .int (-1), .int 0, .int 0])))  : PMi l yX10_putUnder cX10_putUnder 2 .boolean 1 0 0 G [.ref h, .int t] L f (fun r L1 f1 => r = if t = -1 then 1 else 0) := by
  refine PMi.of (post := fun r L1 f1 => r = if t = -1 then 1 else 0) (own := RX10) (by decide) rfl (Nat.le_of_ble_eq_true rfl) (fun sz p e s m args below meth c A ls hA1 hname S Y hl => ?_)
  have hx := S.hx
  have hb := S.hb
  have hl : lv_has ls 2 [(0, .ref h), (1, .int t)] := hl
  refine lv_iload_n hx hb dX10_putUnder_0 rfl (lv_at hl 1 rfl) ?_
  refine lv_iconst (v := (-1)) hx hb dX10_putUnder_1 (by decide) ?_
  refine lv_icmp_eq (tgt := 15) hx hb dX10_putUnder_2 (by decide) (fun c_22 => ?_) (fun c_22 => ?_)
  · refine lv_aload_n hx hb dX10_putUnder_15 rfl (lv_at hl 0 rfl) ?_
    refine lv_iload_n hx hb dX10_putUnder_16 rfl (lv_at hl 1 rfl) ?_
    refine pg_put S Y ok_X10 12 (by decide) kf10_56 rfl (fs' := [.ref ta, .ref ag, .ref sc, .ref nw, .ref pa, .ref fe, .ref cl, .ref wo, .ref si, .ref we, .int 0, .int 0, .int t, .int 0, .int 0]) (v := .int t) p_h rfl rfl rfl (Nat.le_of_ble_eq_true rfl) dX10_putUnder_17 (fun f_23 H locs ef_23 Y => ?_)
    have p_h := p_h.me ef_23
    refine lv_iconst (v := 1) hx hb dX10_putUnder_20 (by decide) ?_
    exact prI (post := fun r L1 f1 => r = if t = -1 then 1 else 0) S Y rfl (by decide) (by decide) hA1 (by rw [if_pos c_22]) dX10_putUnder_21
  · refine lv_aload_n hx hb dX10_putUnder_5 rfl (lv_at hl 0 rfl) ?_
    refine lv_iload_n hx hb dX10_putUnder_6 rfl (lv_at hl 1 rfl) ?_
    refine cVw (As := [.int t]) (rest := []) S Y (c_X10_script (l := l) p_h) cw_X10_script km10_93 p_h ok_X10.1 rfl rfl ⟨Nat.le_of_ble_eq_true rfl, Nat.le_of_ble_eq_true rfl⟩ hl.1 rfl (Nat.le_of_ble_eq_true rfl) ⟨Nat.le_of_ble_eq_true rfl, Nat.le_of_ble_eq_true rfl⟩ dX10_putUnder_7 (fun r_24 H locs er_24 Y => ?_)
    refine lv_foldv (z := .null) (by rw [er_24]; rfl) ?_
    refine lv_ifnonnullN hx hb dX10_putUnder_10 ?_
    refine lv_iconst (v := 0) hx hb dX10_putUnder_13 (by decide) ?_
    exact prI (post := fun r L1 f1 => r = if t = -1 then 1 else 0) S Y rfl (by decide) (by decide) hA1 (by rw [if_neg c_22]) dX10_putUnder_14
set_option maxHeartbeats 4000000 in
set_option maxRecDepth 100000 in
theorem c_X10_welcome {l : Launch} {G : GG} {L : List Nat} {f : HF} {h ta ag sc nw pa fe cl wo si we : Nat} {t a : Int32} {g1 g2 : Nat → Int32}  (p_h : pt L f h (.inr (10, [.ref ta, .ref ag, .ref sc, .ref nw, .ref pa, .ref fe, .ref cl, .ref wo, .ref si, .ref we, .int 0, .int 0, .int (-1), .int 0, .int 0]))) (p_ta : pt L f ta (.inl (G.2 0, 6, .inl g1))) (p_ag : pt L f ag (.inl (G.2 0, 6, .inl g2))) (n1 : ta ≠ ag) : PMi l yX10_welcome cX10_welcome 3 .int 1 0 0 G [.ref h, .int t, .int a] L f (fun r L1 f1 => r = if wi t 0 9 = 0 then -1 else if wi a 0 99 = 0 then -1 else 0) := by
  refine PMi.of (post := fun r L1 f1 => r = if wi t 0 9 = 0 then -1 else if wi a 0 99 = 0 then -1 else 0) (own := RX10) (by decide) rfl (Nat.le_of_ble_eq_true rfl) (fun sz p e s m args below meth c A ls hA1 hname S Y hl => ?_)
  have hx := S.hx
  have hb := S.hb
  have hl : lv_has ls 3 [(0, .ref h), (1, .int t), (2, .int a)] := hl
  refine lv_aload_n hx hb dX10_welcome_0 rfl (lv_at hl 0 rfl) ?_
  refine pg_get S Y ok_X10 10 (by decide) kf10_80 (v := .int 0) p_h rfl dX10_welcome_1 ?_
  refine lv_bipush (v := 6) hx hb dX10_welcome_4 (by decide) ?_
  refine lv_icmp_ge (tgt := 29) hx hb dX10_welcome_6 (by decide) (fun h => absurd h (by decide)) (fun _ => ?_)
  refine lv_iload_n hx hb dX10_welcome_9 rfl (lv_at hl 1 rfl) ?_
  refine lv_iconst (v := 0) hx hb dX10_welcome_10 (by decide) ?_
  refine lv_bipush (v := 9) hx hb dX10_welcome_11 (by decide) ?_
  refine cNp (As := [.int t, .int 0, .int 9]) (rest := []) S Y (c_X11_within (l := l)) cw_X11_within km10_89 rfl ⟨Nat.le_of_ble_eq_true rfl, Nat.le_of_ble_eq_true rfl⟩ hl.1 rfl (Nat.le_of_ble_eq_true rfl) ⟨Nat.le_of_ble_eq_true rfl, Nat.le_of_ble_eq_true rfl⟩ dX10_welcome_13 (fun r_25 H locs er_25 Y => ?_)
  refine lv_fold (z := (wi t 0 9)) er_25 ?_
  refine lv_if_eq (tgt := 29) hx hb dX10_welcome_16 (by decide) (fun c_26 => ?_) (fun c_26 => ?_)
  · refine lv_iconst (v := (-1)) hx hb dX10_welcome_29 (by decide) ?_
    exact prI (post := fun r L1 f1 => r = if wi t 0 9 = 0 then -1 else if wi a 0 99 = 0 then -1 else 0) S Y rfl (by decide) (by decide) hA1 (by rw [if_pos c_26]) dX10_welcome_30
  · refine lv_iload_n hx hb dX10_welcome_19 rfl (lv_at hl 2 rfl) ?_
    refine lv_iconst (v := 0) hx hb dX10_welcome_20 (by decide) ?_
    refine lv_bipush (v := 99) hx hb dX10_welcome_21 (by decide) ?_
    refine cNp (As := [.int a, .int 0, .int 99]) (rest := []) S Y (c_X11_within (l := l)) cw_X11_within km10_89 rfl ⟨Nat.le_of_ble_eq_true rfl, Nat.le_of_ble_eq_true rfl⟩ hl.1 rfl (Nat.le_of_ble_eq_true rfl) ⟨Nat.le_of_ble_eq_true rfl, Nat.le_of_ble_eq_true rfl⟩ dX10_welcome_23 (fun r_27 H locs er_27 Y => ?_)
    refine lv_fold (z := (wi a 0 99)) er_27 ?_
    refine lv_if_ne (tgt := 31) hx hb dX10_welcome_26 (by decide) (fun c_28 => ?_) (fun c_28 => ?_)
    · refine lv_aload_n hx hb dX10_welcome_31 rfl (lv_at hl 0 rfl) ?_
      refine pg_get S Y ok_X10 0 (by decide) kf10_9 (v := .ref ta) p_h rfl dX10_welcome_32 ?_
      refine lv_aload_n hx hb dX10_welcome_35 rfl (lv_at hl 0 rfl) ?_
      refine pg_get S Y ok_X10 10 (by decide) kf10_80 (v := .int 0) p_h rfl dX10_welcome_36 ?_
      refine lv_iload_n hx hb dX10_welcome_39 rfl (lv_at hl 1 rfl) ?_
      refine pg_iast S Y p_ta (by unfold vp_in; decide) dX10_welcome_40 (fun f_30 H locs ef_30 Y => ?_)
      obtain ⟨g_29, eg_29⟩ : ∃ z, z = upd (g1) (0 : Int32).toNatClampNeg t := ⟨_, rfl⟩
      rw [← eg_29] at ef_30
      have p_h := p_h.up ef_30 ((p_h.neA p_ta))
      have p_ag := p_ag.up ef_30 ((Ne.symm (n1)))
      have p_ta := p_ta.me ef_30
      refine lv_aload_n hx hb dX10_welcome_41 rfl (lv_at hl 0 rfl) ?_
      refine pg_get S Y ok_X10 1 (by decide) kf10_15 (v := .ref ag) p_h rfl dX10_welcome_42 ?_
      refine lv_aload_n hx hb dX10_welcome_45 rfl (lv_at hl 0 rfl) ?_
      refine pg_get S Y ok_X10 10 (by decide) kf10_80 (v := .int 0) p_h rfl dX10_welcome_46 ?_
      refine lv_iload_n hx hb dX10_welcome_49 rfl (lv_at hl 2 rfl) ?_
      refine pg_iast S Y p_ag (by unfold vp_in; decide) dX10_welcome_50 (fun f_32 H locs ef_32 Y => ?_)
      obtain ⟨g_31, eg_31⟩ : ∃ z, z = upd (g2) (0 : Int32).toNatClampNeg a := ⟨_, rfl⟩
      rw [← eg_31] at ef_32
      have p_h := p_h.up ef_32 ((p_h.neA p_ag))
      have p_ta := p_ta.up ef_32 ((n1))
      have p_ag := p_ag.me ef_32
      refine lv_aload_n hx hb dX10_welcome_51 rfl (lv_at hl 0 rfl) ?_
      refine lv_dup hx hb dX10_welcome_52 rfl ?_
      refine pg_get S Y ok_X10 10 (by decide) kf10_80 (v := .int 0) p_h rfl dX10_welcome_53 ?_
      refine lv_iconst (v := 1) hx hb dX10_welcome_56 (by decide) ?_
      refine lv_iadd hx hb dX10_welcome_57 ?_
      refine lv_fold (z := 1) (by decide) ?_
      refine pg_put S Y ok_X10 10 (by decide) kf10_80 rfl (fs' := [.ref ta, .ref ag, .ref sc, .ref nw, .ref pa, .ref fe, .ref cl, .ref wo, .ref si, .ref we, .int 1, .int 0, .int (-1), .int 0, .int 0]) (v := .int 1) p_h rfl rfl rfl (Nat.le_of_ble_eq_true rfl) dX10_welcome_58 (fun f_33 H locs ef_33 Y => ?_)
      have p_ta := p_ta.up ef_33 ((p_ta.neB p_h))
      have p_ag := p_ag.up ef_33 ((p_ag.neB p_h))
      have p_h := p_h.me ef_33
      refine lv_aload_n hx hb dX10_welcome_61 rfl (lv_at hl 0 rfl) ?_
      refine pg_get S Y ok_X10 10 (by decide) kf10_80 (v := .int 1) p_h rfl dX10_welcome_62 ?_
      refine lv_iconst (v := 1) hx hb dX10_welcome_65 (by decide) ?_
      refine lv_isub hx hb dX10_welcome_66 ?_
      refine lv_fold (z := 0) (by decide) ?_
      exact prI (post := fun r L1 f1 => r = if wi t 0 9 = 0 then -1 else if wi a 0 99 = 0 then -1 else 0) S Y rfl (by decide) (by decide) hA1 (by rw [if_neg c_26, if_neg c_28]) dX10_welcome_67
    · refine lv_iconst (v := (-1)) hx hb dX10_welcome_29 (by decide) ?_
      exact prI (post := fun r L1 f1 => r = if wi t 0 9 = 0 then -1 else if wi a 0 99 = 0 then -1 else 0) S Y rfl (by decide) (by decide) hA1 (by rw [if_neg c_26, if_pos c_28]) dX10_welcome_30
set_option maxHeartbeats 4000000 in
set_option maxRecDepth 100000 in
theorem c_X10_takeBack {l : Launch} {G : GG} {L : List Nat} {f : HF} {h ta ag sc nw pa fe cl wo si we : Nat}  (p_h : pt L f h (.inr (10, [.ref ta, .ref ag, .ref sc, .ref nw, .ref pa, .ref fe, .ref cl, .ref wo, .ref si, .ref we, .int 0, .int 0, .int (-1), .int 0, .int 0])))  : PMp l yX10_takeBack cX10_takeBack 1 .boolean 0 0 0 G [.ref h] L f (fun r => r = 0) := by
  refine PMi.of (post := fun r L1 f1 => (r = 0) ∧ L1 = L ∧ f1 = f) (own := RX10) (by decide) rfl (Nat.le_of_ble_eq_true rfl) (fun sz p e s m args below meth c A ls hA1 hname S Y hl => ?_)
  have hx := S.hx
  have hb := S.hb
  have hl : lv_has ls 1 [(0, .ref h)] := hl
  refine lv_aload_n hx hb dX10_takeBack_0 rfl (lv_at hl 0 rfl) ?_
  refine pg_get S Y ok_X10 14 (by decide) kf10_86 (v := .int 0) p_h rfl dX10_takeBack_1 ?_
  refine lv_if_ne (tgt := 9) hx hb dX10_takeBack_4 (by decide) (fun h => absurd (by decide) h) (fun _ => ?_)
  refine lv_iconst (v := 0) hx hb dX10_takeBack_7 (by decide) ?_
  exact prI (post := fun r L1 f1 => (r = 0) ∧ L1 = L ∧ f1 = f) S Y rfl (by decide) (by decide) hA1 ⟨rfl, rfl, rfl⟩ dX10_takeBack_8
set_option maxHeartbeats 4000000 in
set_option maxRecDepth 100000 in
theorem c_X6_isRing {l : Launch} {G : GG} {L : List Nat} {f : HF} {h w ta ag sc nw pa fe cl wo si we oa aa : Nat} {o be : Int32}  (p_h : pt L f h (.inr (6, [.ref w, .int be]))) (p_w : pt L f w (.inr (10, [.ref ta, .ref ag, .ref sc, .ref nw, .ref pa, .ref fe, .ref cl, .ref wo, .ref si, .ref we, .int 0, .int 0, .int (-1), .int 0, .int 0]))) (p_nw : pt L f nw (.inr (4, [.ref oa, .ref aa, .int 0, .int 0, .int 0, .int 0, .int 137])))  : PMp l yX6_isRing cX6_isRing 8 .boolean 0 0 0 G [.ref h, .int o] L f (fun r => r = 0) := by
  refine PMi.of (post := fun r L1 f1 => (r = 0) ∧ L1 = L ∧ f1 = f) (own := RX6) (by decide) rfl (Nat.le_of_ble_eq_true rfl) (fun sz p e s m args below meth c A ls hA1 hname S Y hl => ?_)
  have hx := S.hx
  have hb := S.hb
  have hl : lv_has ls 8 [(0, .ref h), (1, .int o)] := hl
  refine lv_iload_n hx hb dX6_isRing_0 rfl (lv_at hl 1 rfl) ?_
  refine lv_if_le (tgt := 20) hx hb dX6_isRing_1 (by decide) (fun c_34 => ?_) (fun c_34 => ?_)
  · refine lv_iconst (v := 0) hx hb dX6_isRing_20 (by decide) ?_
    exact prI (post := fun r L1 f1 => (r = 0) ∧ L1 = L ∧ f1 = f) S Y rfl (by decide) (by decide) hA1 ⟨rfl, rfl, rfl⟩ dX6_isRing_21
  · refine lv_iload_n hx hb dX6_isRing_4 rfl (lv_at hl 1 rfl) ?_
    refine lv_iconst (v := 1) hx hb dX6_isRing_5 (by decide) ?_
    refine lv_aload_n hx hb dX6_isRing_6 rfl (lv_at hl 0 rfl) ?_
    refine pg_get S Y ok_X6 0 (by decide) kf6_9 (v := .ref w) p_h rfl dX6_isRing_7 ?_
    refine pg_getN S Y ok_X10 3 (by decide) kf6_15 (v := .ref nw) p_w rfl dX6_isRing_10 ?_
    refine pg_getN S Y ok_X4 2 (by decide) kf6_31 (v := .int 0) p_nw rfl dX6_isRing_13 ?_
    refine lv_ishl hx hb dX6_isRing_16 ?_
    refine lv_fold (z := 1) (by decide) ?_
    refine lv_icmp_lt (tgt := 22) hx hb dX6_isRing_17 (by decide) (fun h => absurd h (i_ngt (i_pos1 c_34))) (fun _ => ?_)
    refine lv_iconst (v := 0) hx hb dX6_isRing_20 (by decide) ?_
    exact prI (post := fun r L1 f1 => (r = 0) ∧ L1 = L ∧ f1 = f) S Y rfl (by decide) (by decide) hA1 ⟨rfl, rfl, rfl⟩ dX6_isRing_21
set_option maxHeartbeats 4000000 in
set_option maxRecDepth 100000 in
theorem c_X6_shortest {l : Launch} {G : GG} {L : List Nat} {f : HF} {h w ta ag sc nw pa fe cl wo si we oa aa : Nat} {be : Int32}  (p_h : pt L f h (.inr (6, [.ref w, .int be]))) (p_w : pt L f w (.inr (10, [.ref ta, .ref ag, .ref sc, .ref nw, .ref pa, .ref fe, .ref cl, .ref wo, .ref si, .ref we, .int 0, .int 0, .int (-1), .int 0, .int 0]))) (p_nw : pt L f nw (.inr (4, [.ref oa, .ref aa, .int 0, .int 0, .int 0, .int 0, .int 137])))  : PMi l yX6_shortest cX6_shortest 2 .int 0 0 0 G [.ref h] L f (fun r L1 f1 => r = 0) := by
  refine PMi.of (post := fun r L1 f1 => r = 0) (own := RX6) (by decide) rfl (Nat.le_of_ble_eq_true rfl) (fun sz p e s m args below meth c A ls hA1 hname S Y hl => ?_)
  have hx := S.hx
  have hb := S.hb
  have hl : lv_has ls 2 [(0, .ref h)] := hl
  refine lv_aload_n hx hb dX6_shortest_0 rfl (lv_at hl 0 rfl) ?_
  refine lv_iconst (v := 0) hx hb dX6_shortest_1 (by decide) ?_
  refine pg_put S Y ok_X6 1 (by decide) kf6_47 rfl (fs' := [.ref w, .int 0]) (v := .int 0) p_h rfl rfl rfl (Nat.le_of_ble_eq_true rfl) dX6_shortest_2 (fun f_35 H locs ef_35 Y => ?_)
  have p_w := p_w.up ef_35 ((p_w.neK p_h (by decide)))
  have p_nw := p_nw.up ef_35 ((p_nw.neK p_h (by decide)))
  have p_h := p_h.me ef_35
  refine lv_iconst (v := 0) hx hb dX6_shortest_5 (by decide) ?_
  refine lv_istore_n (lv' := [(1, .int 0), (0, .ref h)]) hx hb dX6_shortest_6 rfl hl (by decide) rfl (fun ls hl => ?_)
  refine lv_iload_n hx hb dX6_shortest_7 rfl (lv_at hl 0 rfl) ?_
  refine lv_aload_n hx hb dX6_shortest_8 rfl (lv_at hl 1 rfl) ?_
  refine pg_get S Y ok_X6 0 (by decide) kf6_9 (v := .ref w) p_h rfl dX6_shortest_9 ?_
  refine pg_getN S Y ok_X10 10 (by decide) kf6_50 (v := .int 0) p_w rfl dX6_shortest_12 ?_
  refine lv_icmp_ge (tgt := 33) hx hb dX6_shortest_15 (by decide) (fun _ => ?_) (fun h => absurd (by decide) h)
  refine lv_aload_n hx hb dX6_shortest_33 rfl (lv_at hl 1 rfl) ?_
  refine pg_get S Y ok_X6 1 (by decide) kf6_47 (v := .int 0) p_h rfl dX6_shortest_34 ?_
  exact prI (post := fun r L1 f1 => r = 0) S Y rfl (by decide) (by decide) hA1 rfl dX6_shortest_37
set_option maxHeartbeats 4000000 in
set_option maxRecDepth 100000 in
theorem c_X0_gatherClashes {l : Launch} {G : GG} {L : List Nat} {f : HF} {h w pr kn ta ag sc nw pa fe cl wo si we cc : Nat}  (p_h : pt L f h (.inr (0, [.ref w, .ref pr, .ref kn]))) (p_w : pt L f w (.inr (10, [.ref ta, .ref ag, .ref sc, .ref nw, .ref pa, .ref fe, .ref cl, .ref wo, .ref si, .ref we, .int 0, .int 0, .int (-1), .int 0, .int 0]))) (p_cl : pt L f cl (.inr (9, [.ref cc, .int 8, .int 0])))  : PMp l yX0_gatherClashes cX0_gatherClashes 5 .int 0 0 0 G [.ref h] L f (fun r => r = 0) := by
  refine PMi.of (post := fun r L1 f1 => (r = 0) ∧ L1 = L ∧ f1 = f) (own := RX0) (by decide) rfl (Nat.le_of_ble_eq_true rfl) (fun sz p e s m args below meth c A ls hA1 hname S Y hl => ?_)
  have hx := S.hx
  have hb := S.hb
  have hl : lv_has ls 5 [(0, .ref h)] := hl
  refine lv_iconst (v := 0) hx hb dX0_gatherClashes_0 (by decide) ?_
  refine lv_istore_n (lv' := [(1, .int 0), (0, .ref h)]) hx hb dX0_gatherClashes_1 rfl hl (by decide) rfl (fun ls hl => ?_)
  refine lv_iconst (v := 0) hx hb dX0_gatherClashes_2 (by decide) ?_
  refine lv_istore_n (lv' := [(2, .int 0), (1, .int 0), (0, .ref h)]) hx hb dX0_gatherClashes_3 rfl hl (by decide) rfl (fun ls hl => ?_)
  refine lv_iload_n hx hb dX0_gatherClashes_4 rfl (lv_at hl 0 rfl) ?_
  refine lv_aload_n hx hb dX0_gatherClashes_5 rfl (lv_at hl 2 rfl) ?_
  refine pg_get S Y ok_X0 0 (by decide) kf0_18 (v := .ref w) p_h rfl dX0_gatherClashes_6 ?_
  refine pg_getN S Y ok_X10 6 (by decide) kf0_52 (v := .ref cl) p_w rfl dX0_gatherClashes_9 ?_
  refine pg_getN S Y ok_X9 2 (by decide) kf0_56 (v := .int 0) p_cl rfl dX0_gatherClashes_12 ?_
  refine lv_icmp_ge (tgt := 105) hx hb dX0_gatherClashes_15 (by decide) (fun _ => ?_) (fun h => absurd (by decide) h)
  refine lv_iload_n hx hb dX0_gatherClashes_105 rfl (lv_at hl 1 rfl) ?_
  exact prI (post := fun r L1 f1 => (r = 0) ∧ L1 = L ∧ f1 = f) S Y rfl (by decide) (by decide) hA1 ⟨rfl, rfl, rfl⟩ dX0_gatherClashes_106
set_option maxHeartbeats 4000000 in
set_option maxRecDepth 100000 in
theorem c_X0_fewestReleased {l : Launch} {G : GG} {L : List Nat} {f : HF} {h w pr kn ta ag sc nw pa fe cl wo si we cc : Nat}  (p_h : pt L f h (.inr (0, [.ref w, .ref pr, .ref kn]))) (p_w : pt L f w (.inr (10, [.ref ta, .ref ag, .ref sc, .ref nw, .ref pa, .ref fe, .ref cl, .ref wo, .ref si, .ref we, .int 0, .int 0, .int (-1), .int 0, .int 0]))) (p_cl : pt L f cl (.inr (9, [.ref cc, .int 8, .int 0])))  : PMp l yX0_fewestReleased cX0_fewestReleased 5 .int 1 0 0 G [.ref h] L f (fun r => r = 0) := by
  refine PMi.of (post := fun r L1 f1 => (r = 0) ∧ L1 = L ∧ f1 = f) (own := RX0) (by decide) rfl (Nat.le_of_ble_eq_true rfl) (fun sz p e s m args below meth c A ls hA1 hname S Y hl => ?_)
  have hx := S.hx
  have hb := S.hb
  have hl : lv_has ls 5 [(0, .ref h)] := hl
  refine lv_aload_n hx hb dX0_fewestReleased_0 rfl (lv_at hl 0 rfl) ?_
  refine cVp (As := []) (rest := []) S Y (c_X0_gatherClashes (l := l) p_h p_w p_cl) cw_X0_gatherClashes km0_38 p_h ok_X0.1 rfl rfl ⟨Nat.le_of_ble_eq_true rfl, Nat.le_of_ble_eq_true rfl⟩ hl.1 rfl (Nat.le_of_ble_eq_true rfl) ⟨Nat.le_of_ble_eq_true rfl, Nat.le_of_ble_eq_true rfl⟩ dX0_fewestReleased_1 (fun r_36 H locs er_36 Y => ?_)
  refine lv_fold (z := 0) er_36 ?_
  refine lv_istore_n (lv' := [(1, .int 0), (0, .ref h)]) hx hb dX0_fewestReleased_4 rfl hl (by decide) rfl (fun ls hl => ?_)
  refine lv_iconst (v := 0) hx hb dX0_fewestReleased_5 (by decide) ?_
  refine lv_istore_n (lv' := [(2, .int 0), (1, .int 0), (0, .ref h)]) hx hb dX0_fewestReleased_6 rfl hl (by decide) rfl (fun ls hl => ?_)
  refine lv_iconst (v := 0) hx hb dX0_fewestReleased_7 (by decide) ?_
  refine lv_istore_n (lv' := [(3, .int 0), (2, .int 0), (1, .int 0), (0, .ref h)]) hx hb dX0_fewestReleased_8 rfl hl (by decide) rfl (fun ls hl => ?_)
  refine lv_iload_n hx hb dX0_fewestReleased_9 rfl (lv_at hl 0 rfl) ?_
  refine lv_iload_n hx hb dX0_fewestReleased_10 rfl (lv_at hl 2 rfl) ?_
  refine lv_icmp_ge (tgt := 29) hx hb dX0_fewestReleased_11 (by decide) (fun _ => ?_) (fun h => absurd (by decide) h)
  refine lv_iload_n hx hb dX0_fewestReleased_29 rfl (lv_at hl 1 rfl) ?_
  refine lv_istore_n (lv' := [(3, .int 0), (2, .int 0), (1, .int 0), (0, .ref h)]) hx hb dX0_fewestReleased_30 rfl hl (by decide) rfl (fun ls hl => ?_)
  refine lv_iconst (v := 0) hx hb dX0_fewestReleased_31 (by decide) ?_
  refine lv_istore (lv' := [(4, .int 0), (3, .int 0), (2, .int 0), (1, .int 0), (0, .ref h)]) hx hb dX0_fewestReleased_32 hl (by decide) rfl (fun ls hl => ?_)
  refine lv_iload hx hb dX0_fewestReleased_34 (lv_at hl 0 rfl) ?_
  refine lv_iload_n hx hb dX0_fewestReleased_36 rfl (lv_at hl 2 rfl) ?_
  refine lv_icmp_ge (tgt := 80) hx hb dX0_fewestReleased_37 (by decide) (fun _ => ?_) (fun h => absurd (by decide) h)
  refine lv_iload_n hx hb dX0_fewestReleased_80 rfl (lv_at hl 1 rfl) ?_
  exact prI (post := fun r L1 f1 => (r = 0) ∧ L1 = L ∧ f1 = f) S Y rfl (by decide) (by decide) hA1 ⟨rfl, rfl, rfl⟩ dX0_fewestReleased_81
set_option maxHeartbeats 4000000 in
set_option maxRecDepth 100000 in
theorem c_X0_mostInTime {l : Launch} {G : GG} {L : List Nat} {f : HF} {h w pr kn ta ag sc nw pa fe cl wo si we oc : Nat}  (p_h : pt L f h (.inr (0, [.ref w, .ref pr, .ref kn]))) (p_w : pt L f w (.inr (10, [.ref ta, .ref ag, .ref sc, .ref nw, .ref pa, .ref fe, .ref cl, .ref wo, .ref si, .ref we, .int 0, .int 0, .int (-1), .int 0, .int 0]))) (p_wo : pt L f wo (.inr (9, [.ref oc, .int 8, .int 0])))  : PMp l yX0_mostInTime cX0_mostInTime 3 .int 0 0 0 G [.ref h] L f (fun r => r = 0) := by
  refine PMi.of (post := fun r L1 f1 => (r = 0) ∧ L1 = L ∧ f1 = f) (own := RX0) (by decide) rfl (Nat.le_of_ble_eq_true rfl) (fun sz p e s m args below meth c A ls hA1 hname S Y hl => ?_)
  have hx := S.hx
  have hb := S.hb
  have hl : lv_has ls 3 [(0, .ref h)] := hl
  refine lv_iconst (v := 0) hx hb dX0_mostInTime_0 (by decide) ?_
  refine lv_istore_n (lv' := [(1, .int 0), (0, .ref h)]) hx hb dX0_mostInTime_1 rfl hl (by decide) rfl (fun ls hl => ?_)
  refine lv_iconst (v := 1) hx hb dX0_mostInTime_2 (by decide) ?_
  refine lv_istore_n (lv' := [(2, .int 1), (1, .int 0), (0, .ref h)]) hx hb dX0_mostInTime_3 rfl hl (by decide) rfl (fun ls hl => ?_)
  refine lv_iload_n hx hb dX0_mostInTime_4 rfl (lv_at hl 0 rfl) ?_
  refine lv_iconst (v := 1) hx hb dX0_mostInTime_5 (by decide) ?_
  refine lv_aload_n hx hb dX0_mostInTime_6 rfl (lv_at hl 2 rfl) ?_
  refine pg_get S Y ok_X0 0 (by decide) kf0_18 (v := .ref w) p_h rfl dX0_mostInTime_7 ?_
  refine pg_getN S Y ok_X10 7 (by decide) kf0_62 (v := .ref wo) p_w rfl dX0_mostInTime_10 ?_
  refine pg_getN S Y ok_X9 2 (by decide) kf0_56 (v := .int 0) p_wo rfl dX0_mostInTime_13 ?_
  refine lv_ishl hx hb dX0_mostInTime_16 ?_
  refine lv_fold (z := 1) (by decide) ?_
  refine lv_icmp_ge (tgt := 47) hx hb dX0_mostInTime_17 (by decide) (fun _ => ?_) (fun h => absurd (by decide) h)
  refine lv_iload_n hx hb dX0_mostInTime_47 rfl (lv_at hl 1 rfl) ?_
  exact prI (post := fun r L1 f1 => (r = 0) ∧ L1 = L ∧ f1 = f) S Y rfl (by decide) (by decide) hA1 ⟨rfl, rfl, rfl⟩ dX0_mostInTime_48
set_option maxHeartbeats 4000000 in
set_option maxRecDepth 100000 in
theorem c_X0_workOf {l : Launch} {G : GG} {L : List Nat} {f : HF} {h w pr kn ta ag sc nw pa fe cl wo si we oc : Nat} {a b : Int32}  (p_h : pt L f h (.inr (0, [.ref w, .ref pr, .ref kn]))) (p_w : pt L f w (.inr (10, [.ref ta, .ref ag, .ref sc, .ref nw, .ref pa, .ref fe, .ref cl, .ref wo, .ref si, .ref we, .int 0, .int 0, .int (-1), .int 0, .int 0]))) (p_wo : pt L f wo (.inr (9, [.ref oc, .int 8, .int 0])))  : PMp l yX0_workOf cX0_workOf 5 .int 0 0 0 G [.ref h, .int a, .int b] L f (fun r => r = 0) := by
  refine PMi.of (post := fun r L1 f1 => (r = 0) ∧ L1 = L ∧ f1 = f) (own := RX0) (by decide) rfl (Nat.le_of_ble_eq_true rfl) (fun sz p e s m args below meth c A ls hA1 hname S Y hl => ?_)
  have hx := S.hx
  have hb := S.hb
  have hl : lv_has ls 5 [(0, .ref h), (1, .int a), (2, .int b)] := hl
  refine lv_iconst (v := 0) hx hb dX0_workOf_0 (by decide) ?_
  refine lv_istore_n (lv' := [(3, .int 0), (0, .ref h), (1, .int a), (2, .int b)]) hx hb dX0_workOf_1 rfl hl (by decide) rfl (fun ls hl => ?_)
  refine lv_iconst (v := 0) hx hb dX0_workOf_2 (by decide) ?_
  refine lv_istore (lv' := [(4, .int 0), (3, .int 0), (0, .ref h), (1, .int a), (2, .int b)]) hx hb dX0_workOf_3 hl (by decide) rfl (fun ls hl => ?_)
  refine lv_iload hx hb dX0_workOf_5 (lv_at hl 0 rfl) ?_
  refine lv_aload_n hx hb dX0_workOf_7 rfl (lv_at hl 2 rfl) ?_
  refine pg_get S Y ok_X0 0 (by decide) kf0_18 (v := .ref w) p_h rfl dX0_workOf_8 ?_
  refine pg_getN S Y ok_X10 7 (by decide) kf0_62 (v := .ref wo) p_w rfl dX0_workOf_11 ?_
  refine pg_getN S Y ok_X9 2 (by decide) kf0_56 (v := .int 0) p_wo rfl dX0_workOf_14 ?_
  refine lv_icmp_ge (tgt := 68) hx hb dX0_workOf_17 (by decide) (fun _ => ?_) (fun h => absurd (by decide) h)
  refine lv_iload_n hx hb dX0_workOf_68 rfl (lv_at hl 1 rfl) ?_
  exact prI (post := fun r L1 f1 => (r = 0) ∧ L1 = L ∧ f1 = f) S Y rfl (by decide) (by decide) hA1 ⟨rfl, rfl, rfl⟩ dX0_workOf_69
set_option maxHeartbeats 4000000 in
set_option maxRecDepth 100000 in
theorem c_X0_fewestAsked {l : Launch} {G : GG} {L : List Nat} {f : HF} {h w pr kn ta ag sc nw pa fe cl wo si we : Nat}  (p_h : pt L f h (.inr (0, [.ref w, .ref pr, .ref kn]))) (p_w : pt L f w (.inr (10, [.ref ta, .ref ag, .ref sc, .ref nw, .ref pa, .ref fe, .ref cl, .ref wo, .ref si, .ref we, .int 0, .int 0, .int (-1), .int 0, .int 0])))  : PMp l yX0_fewestAsked cX0_fewestAsked 3 .int 1 0 0 G [.ref h] L f (fun r => r = 0) := by
  refine PMi.of (post := fun r L1 f1 => (r = 0) ∧ L1 = L ∧ f1 = f) (own := RX0) (by decide) rfl (Nat.le_of_ble_eq_true rfl) (fun sz p e s m args below meth c A ls hA1 hname S Y hl => ?_)
  have hx := S.hx
  have hb := S.hb
  have hl : lv_has ls 3 [(0, .ref h)] := hl
  refine lv_iconst (v := 1) hx hb dX0_fewestAsked_0 (by decide) ?_
  refine lv_aload_n hx hb dX0_fewestAsked_1 rfl (lv_at hl 0 rfl) ?_
  refine pg_get S Y ok_X0 0 (by decide) kf0_18 (v := .ref w) p_h rfl dX0_fewestAsked_2 ?_
  refine pg_getN S Y ok_X10 10 (by decide) kf0_72 (v := .int 0) p_w rfl dX0_fewestAsked_5 ?_
  refine lv_ishl hx hb dX0_fewestAsked_8 ?_
  refine lv_fold (z := 1) (by decide) ?_
  refine lv_iconst (v := 1) hx hb dX0_fewestAsked_9 (by decide) ?_
  refine lv_isub hx hb dX0_fewestAsked_10 ?_
  refine lv_fold (z := 0) (by decide) ?_
  refine lv_istore_n (lv' := [(1, .int 0), (0, .ref h)]) hx hb dX0_fewestAsked_11 rfl hl (by decide) rfl (fun ls hl => ?_)
  refine lv_iconst (v := 0) hx hb dX0_fewestAsked_12 (by decide) ?_
  refine lv_istore_n (lv' := [(2, .int 0), (1, .int 0), (0, .ref h)]) hx hb dX0_fewestAsked_13 rfl hl (by decide) rfl (fun ls hl => ?_)
  refine lv_iload_n hx hb dX0_fewestAsked_14 rfl (lv_at hl 0 rfl) ?_
  refine lv_iconst (v := 1) hx hb dX0_fewestAsked_15 (by decide) ?_
  refine lv_aload_n hx hb dX0_fewestAsked_16 rfl (lv_at hl 2 rfl) ?_
  refine pg_get S Y ok_X0 0 (by decide) kf0_18 (v := .ref w) p_h rfl dX0_fewestAsked_17 ?_
  refine pg_getN S Y ok_X10 10 (by decide) kf0_72 (v := .int 0) p_w rfl dX0_fewestAsked_20 ?_
  refine lv_ishl hx hb dX0_fewestAsked_23 ?_
  refine lv_fold (z := 1) (by decide) ?_
  refine lv_icmp_ge (tgt := 54) hx hb dX0_fewestAsked_24 (by decide) (fun h => absurd h (by decide)) (fun _ => ?_)
  refine lv_iload_n hx hb dX0_fewestAsked_27 rfl (lv_at hl 0 rfl) ?_
  refine cSp (As := [.int 0]) (rest := []) S Y (c_bitCount0 (l := l)) cw_X106_bitCount_0f7a4 km0_42 rfl ⟨Nat.le_of_ble_eq_true rfl, Nat.le_of_ble_eq_true rfl⟩ hl.1 rfl (Nat.le_of_ble_eq_true rfl) ⟨Nat.le_of_ble_eq_true rfl, Nat.le_of_ble_eq_true rfl⟩ dX0_fewestAsked_28 (fun r_37 H locs er_37 Y => ?_)
  refine lv_fold (z := 0) er_37 ?_
  refine lv_iload_n hx hb dX0_fewestAsked_31 rfl (lv_at hl 1 rfl) ?_
  refine cSp (As := [.int 0]) (rest := [.int 0]) S Y (c_bitCount0 (l := l)) cw_X106_bitCount_0f7a4 km0_42 rfl ⟨Nat.le_of_ble_eq_true rfl, Nat.le_of_ble_eq_true rfl⟩ hl.1 rfl (Nat.le_of_ble_eq_true rfl) ⟨Nat.le_of_ble_eq_true rfl, Nat.le_of_ble_eq_true rfl⟩ dX0_fewestAsked_32 (fun r_38 H locs er_38 Y => ?_)
  refine lv_fold (z := 0) er_38 ?_
  refine lv_icmp_ge (tgt := 48) hx hb dX0_fewestAsked_35 (by decide) (fun _ => ?_) (fun h => absurd (by decide) h)
  refine lv_iinc (v := 1) (lv' := [(2, .int 1), (1, .int 0), (0, .ref h)]) hx hb dX0_fewestAsked_48 hl (k := 0) rfl (by decide) (by decide) rfl (fun ls hl => ?_)
  refine lv_goto (tgt := 14) hx hb dX0_fewestAsked_51 (by decide) ?_
  refine lv_iload_n hx hb dX0_fewestAsked_14 rfl (lv_at hl 0 rfl) ?_
  refine lv_iconst (v := 1) hx hb dX0_fewestAsked_15 (by decide) ?_
  refine lv_aload_n hx hb dX0_fewestAsked_16 rfl (lv_at hl 2 rfl) ?_
  refine pg_get S Y ok_X0 0 (by decide) kf0_18 (v := .ref w) p_h rfl dX0_fewestAsked_17 ?_
  refine pg_getN S Y ok_X10 10 (by decide) kf0_72 (v := .int 0) p_w rfl dX0_fewestAsked_20 ?_
  refine lv_ishl hx hb dX0_fewestAsked_23 ?_
  refine lv_fold (z := 1) (by decide) ?_
  refine lv_icmp_ge (tgt := 54) hx hb dX0_fewestAsked_24 (by decide) (fun _ => ?_) (fun h => absurd (by decide) h)
  refine lv_iload_n hx hb dX0_fewestAsked_54 rfl (lv_at hl 1 rfl) ?_
  exact prI (post := fun r L1 f1 => (r = 0) ∧ L1 = L ∧ f1 = f) S Y rfl (by decide) (by decide) hA1 ⟨rfl, rfl, rfl⟩ dX0_fewestAsked_55
set_option maxHeartbeats 4000000 in
set_option maxRecDepth 100000 in
theorem c_X0_fewestKnowing {l : Launch} {G : GG} {L : List Nat} {f : HF} {h w pr kn ta ag sc nw pa fe cl wo si we : Nat}  (p_h : pt L f h (.inr (0, [.ref w, .ref pr, .ref kn]))) (p_w : pt L f w (.inr (10, [.ref ta, .ref ag, .ref sc, .ref nw, .ref pa, .ref fe, .ref cl, .ref wo, .ref si, .ref we, .int 0, .int 0, .int (-1), .int 0, .int 0])))  : PMp l yX0_fewestKnowing cX0_fewestKnowing 4 .int 1 0 0 G [.ref h] L f (fun r => r = 0) := by
  refine PMi.of (post := fun r L1 f1 => (r = 0) ∧ L1 = L ∧ f1 = f) (own := RX0) (by decide) rfl (Nat.le_of_ble_eq_true rfl) (fun sz p e s m args below meth c A ls hA1 hname S Y hl => ?_)
  have hx := S.hx
  have hb := S.hb
  have hl : lv_has ls 4 [(0, .ref h)] := hl
  refine lv_iconst (v := 0) hx hb dX0_fewestKnowing_0 (by decide) ?_
  refine lv_istore_n (lv' := [(1, .int 0), (0, .ref h)]) hx hb dX0_fewestKnowing_1 rfl hl (by decide) rfl (fun ls hl => ?_)
  refine lv_iconst (v := 0) hx hb dX0_fewestKnowing_2 (by decide) ?_
  refine lv_istore_n (lv' := [(2, .int 0), (1, .int 0), (0, .ref h)]) hx hb dX0_fewestKnowing_3 rfl hl (by decide) rfl (fun ls hl => ?_)
  refine lv_iload_n hx hb dX0_fewestKnowing_4 rfl (lv_at hl 0 rfl) ?_
  refine lv_aload_n hx hb dX0_fewestKnowing_5 rfl (lv_at hl 2 rfl) ?_
  refine pg_get S Y ok_X0 0 (by decide) kf0_18 (v := .ref w) p_h rfl dX0_fewestKnowing_6 ?_
  refine pg_getN S Y ok_X10 10 (by decide) kf0_72 (v := .int 0) p_w rfl dX0_fewestKnowing_9 ?_
  refine lv_icmp_ge (tgt := 47) hx hb dX0_fewestKnowing_12 (by decide) (fun _ => ?_) (fun h => absurd (by decide) h)
  refine lv_iconst (v := 1) hx hb dX0_fewestKnowing_47 (by decide) ?_
  refine lv_aload_n hx hb dX0_fewestKnowing_48 rfl (lv_at hl 2 rfl) ?_
  refine pg_get S Y ok_X0 0 (by decide) kf0_18 (v := .ref w) p_h rfl dX0_fewestKnowing_49 ?_
  refine pg_getN S Y ok_X10 10 (by decide) kf0_72 (v := .int 0) p_w rfl dX0_fewestKnowing_52 ?_
  refine lv_ishl hx hb dX0_fewestKnowing_55 ?_
  refine lv_fold (z := 1) (by decide) ?_
  refine lv_iconst (v := 1) hx hb dX0_fewestKnowing_56 (by decide) ?_
  refine lv_isub hx hb dX0_fewestKnowing_57 ?_
  refine lv_fold (z := 0) (by decide) ?_
  refine lv_istore_n (lv' := [(2, .int 0), (1, .int 0), (0, .ref h)]) hx hb dX0_fewestKnowing_58 rfl hl (by decide) rfl (fun ls hl => ?_)
  refine lv_iconst (v := 0) hx hb dX0_fewestKnowing_59 (by decide) ?_
  refine lv_istore_n (lv' := [(3, .int 0), (2, .int 0), (1, .int 0), (0, .ref h)]) hx hb dX0_fewestKnowing_60 rfl hl (by decide) rfl (fun ls hl => ?_)
  refine lv_iload_n hx hb dX0_fewestKnowing_61 rfl (lv_at hl 0 rfl) ?_
  refine lv_iconst (v := 1) hx hb dX0_fewestKnowing_62 (by decide) ?_
  refine lv_aload_n hx hb dX0_fewestKnowing_63 rfl (lv_at hl 3 rfl) ?_
  refine pg_get S Y ok_X0 0 (by decide) kf0_18 (v := .ref w) p_h rfl dX0_fewestKnowing_64 ?_
  refine pg_getN S Y ok_X10 10 (by decide) kf0_72 (v := .int 0) p_w rfl dX0_fewestKnowing_67 ?_
  refine lv_ishl hx hb dX0_fewestKnowing_70 ?_
  refine lv_fold (z := 1) (by decide) ?_
  refine lv_icmp_ge (tgt := 102) hx hb dX0_fewestKnowing_71 (by decide) (fun h => absurd h (by decide)) (fun _ => ?_)
  refine lv_iload_n hx hb dX0_fewestKnowing_74 rfl (lv_at hl 0 rfl) ?_
  refine cSp (As := [.int 0]) (rest := []) S Y (c_bitCount0 (l := l)) cw_X106_bitCount_0f7a4 km0_42 rfl ⟨Nat.le_of_ble_eq_true rfl, Nat.le_of_ble_eq_true rfl⟩ hl.1 rfl (Nat.le_of_ble_eq_true rfl) ⟨Nat.le_of_ble_eq_true rfl, Nat.le_of_ble_eq_true rfl⟩ dX0_fewestKnowing_75 (fun r_39 H locs er_39 Y => ?_)
  refine lv_fold (z := 0) er_39 ?_
  refine lv_iload_n hx hb dX0_fewestKnowing_78 rfl (lv_at hl 1 rfl) ?_
  refine cSp (As := [.int 0]) (rest := [.int 0]) S Y (c_bitCount0 (l := l)) cw_X106_bitCount_0f7a4 km0_42 rfl ⟨Nat.le_of_ble_eq_true rfl, Nat.le_of_ble_eq_true rfl⟩ hl.1 rfl (Nat.le_of_ble_eq_true rfl) ⟨Nat.le_of_ble_eq_true rfl, Nat.le_of_ble_eq_true rfl⟩ dX0_fewestKnowing_79 (fun r_40 H locs er_40 Y => ?_)
  refine lv_fold (z := 0) er_40 ?_
  refine lv_icmp_ge (tgt := 96) hx hb dX0_fewestKnowing_82 (by decide) (fun _ => ?_) (fun h => absurd (by decide) h)
  refine lv_iinc (v := 1) (lv' := [(3, .int 1), (2, .int 0), (1, .int 0), (0, .ref h)]) hx hb dX0_fewestKnowing_96 hl (k := 0) rfl (by decide) (by decide) rfl (fun ls hl => ?_)
  refine lv_goto (tgt := 61) hx hb dX0_fewestKnowing_99 (by decide) ?_
  refine lv_iload_n hx hb dX0_fewestKnowing_61 rfl (lv_at hl 0 rfl) ?_
  refine lv_iconst (v := 1) hx hb dX0_fewestKnowing_62 (by decide) ?_
  refine lv_aload_n hx hb dX0_fewestKnowing_63 rfl (lv_at hl 3 rfl) ?_
  refine pg_get S Y ok_X0 0 (by decide) kf0_18 (v := .ref w) p_h rfl dX0_fewestKnowing_64 ?_
  refine pg_getN S Y ok_X10 10 (by decide) kf0_72 (v := .int 0) p_w rfl dX0_fewestKnowing_67 ?_
  refine lv_ishl hx hb dX0_fewestKnowing_70 ?_
  refine lv_fold (z := 1) (by decide) ?_
  refine lv_icmp_ge (tgt := 102) hx hb dX0_fewestKnowing_71 (by decide) (fun _ => ?_) (fun h => absurd (by decide) h)
  refine lv_iload_n hx hb dX0_fewestKnowing_102 rfl (lv_at hl 1 rfl) ?_
  exact prI (post := fun r L1 f1 => (r = 0) ∧ L1 = L ∧ f1 = f) S Y rfl (by decide) (by decide) hA1 ⟨rfl, rfl, rfl⟩ dX0_fewestKnowing_103
set_option maxHeartbeats 4000000 in
set_option maxRecDepth 100000 in
theorem c_X0_mostOften {l : Launch} {G : GG} {L : List Nat} {f : HF} {h w pr kn ta ag sc nw pa fe cl wo si we : Nat}  (p_h : pt L f h (.inr (0, [.ref w, .ref pr, .ref kn]))) (p_w : pt L f w (.inr (10, [.ref ta, .ref ag, .ref sc, .ref nw, .ref pa, .ref fe, .ref cl, .ref wo, .ref si, .ref we, .int 0, .int 0, .int (-1), .int 0, .int 0])))  : PMp l yX0_mostOften cX0_mostOften 5 .int 0 0 0 G [.ref h] L f (fun r => r = (-1)) := by
  refine PMi.of (post := fun r L1 f1 => (r = (-1)) ∧ L1 = L ∧ f1 = f) (own := RX0) (by decide) rfl (Nat.le_of_ble_eq_true rfl) (fun sz p e s m args below meth c A ls hA1 hname S Y hl => ?_)
  have hx := S.hx
  have hb := S.hb
  have hl : lv_has ls 5 [(0, .ref h)] := hl
  refine lv_iconst (v := (-1)) hx hb dX0_mostOften_0 (by decide) ?_
  refine lv_istore_n (lv' := [(1, .int (-1)), (0, .ref h)]) hx hb dX0_mostOften_1 rfl hl (by decide) rfl (fun ls hl => ?_)
  refine lv_iconst (v := 0) hx hb dX0_mostOften_2 (by decide) ?_
  refine lv_istore_n (lv' := [(2, .int 0), (1, .int (-1)), (0, .ref h)]) hx hb dX0_mostOften_3 rfl hl (by decide) rfl (fun ls hl => ?_)
  refine lv_iconst (v := 0) hx hb dX0_mostOften_4 (by decide) ?_
  refine lv_istore_n (lv' := [(3, .int 0), (2, .int 0), (1, .int (-1)), (0, .ref h)]) hx hb dX0_mostOften_5 rfl hl (by decide) rfl (fun ls hl => ?_)
  refine lv_iload_n hx hb dX0_mostOften_6 rfl (lv_at hl 0 rfl) ?_
  refine lv_aload_n hx hb dX0_mostOften_7 rfl (lv_at hl 3 rfl) ?_
  refine pg_get S Y ok_X0 0 (by decide) kf0_18 (v := .ref w) p_h rfl dX0_mostOften_8 ?_
  refine pg_getN S Y ok_X10 10 (by decide) kf0_72 (v := .int 0) p_w rfl dX0_mostOften_11 ?_
  refine lv_icmp_ge (tgt := 41) hx hb dX0_mostOften_14 (by decide) (fun _ => ?_) (fun h => absurd (by decide) h)
  refine lv_iload_n hx hb dX0_mostOften_41 rfl (lv_at hl 2 rfl) ?_
  exact prI (post := fun r L1 f1 => (r = (-1)) ∧ L1 = L ∧ f1 = f) S Y rfl (by decide) (by decide) hA1 ⟨rfl, rfl, rfl⟩ dX0_mostOften_42
set_option maxHeartbeats 4000000 in
set_option maxRecDepth 100000 in
theorem c_X0_unbroken {l : Launch} {G : GG} {L : List Nat} {f : HF} {h w pr kn ta ag sc nw pa fe cl wo si we oa aa : Nat}  (p_h : pt L f h (.inr (0, [.ref w, .ref pr, .ref kn]))) (p_w : pt L f w (.inr (10, [.ref ta, .ref ag, .ref sc, .ref nw, .ref pa, .ref fe, .ref cl, .ref wo, .ref si, .ref we, .int 0, .int 0, .int (-1), .int 0, .int 0]))) (p_nw : pt L f nw (.inr (4, [.ref oa, .ref aa, .int 0, .int 0, .int 0, .int 0, .int 137])))  : PMp l yX0_unbroken cX0_unbroken 3 .int 0 0 0 G [.ref h] L f (fun r => r = 0) := by
  refine PMi.of (post := fun r L1 f1 => (r = 0) ∧ L1 = L ∧ f1 = f) (own := RX0) (by decide) rfl (Nat.le_of_ble_eq_true rfl) (fun sz p e s m args below meth c A ls hA1 hname S Y hl => ?_)
  have hx := S.hx
  have hb := S.hb
  have hl : lv_has ls 3 [(0, .ref h)] := hl
  refine lv_iconst (v := 1) hx hb dX0_unbroken_0 (by decide) ?_
  refine lv_aload_n hx hb dX0_unbroken_1 rfl (lv_at hl 0 rfl) ?_
  refine pg_get S Y ok_X0 0 (by decide) kf0_18 (v := .ref w) p_h rfl dX0_unbroken_2 ?_
  refine pg_getN S Y ok_X10 10 (by decide) kf0_72 (v := .int 0) p_w rfl dX0_unbroken_5 ?_
  refine lv_ishl hx hb dX0_unbroken_8 ?_
  refine lv_fold (z := 1) (by decide) ?_
  refine lv_iconst (v := 1) hx hb dX0_unbroken_9 (by decide) ?_
  refine lv_isub hx hb dX0_unbroken_10 ?_
  refine lv_fold (z := 0) (by decide) ?_
  refine lv_istore_n (lv' := [(1, .int 0), (0, .ref h)]) hx hb dX0_unbroken_11 rfl hl (by decide) rfl (fun ls hl => ?_)
  refine lv_iconst (v := 0) hx hb dX0_unbroken_12 (by decide) ?_
  refine lv_istore_n (lv' := [(2, .int 0), (1, .int 0), (0, .ref h)]) hx hb dX0_unbroken_13 rfl hl (by decide) rfl (fun ls hl => ?_)
  refine lv_iload_n hx hb dX0_unbroken_14 rfl (lv_at hl 0 rfl) ?_
  refine lv_aload_n hx hb dX0_unbroken_15 rfl (lv_at hl 2 rfl) ?_
  refine pg_get S Y ok_X0 0 (by decide) kf0_18 (v := .ref w) p_h rfl dX0_unbroken_16 ?_
  refine pg_getN S Y ok_X10 3 (by decide) kf0_22 (v := .ref nw) p_w rfl dX0_unbroken_19 ?_
  refine pg_getN S Y ok_X4 2 (by decide) kf0_28 (v := .int 0) p_nw rfl dX0_unbroken_22 ?_
  refine lv_icmp_ge (tgt := 69) hx hb dX0_unbroken_25 (by decide) (fun _ => ?_) (fun h => absurd (by decide) h)
  refine lv_iload_n hx hb dX0_unbroken_69 rfl (lv_at hl 1 rfl) ?_
  exact prI (post := fun r L1 f1 => (r = 0) ∧ L1 = L ∧ f1 = f) S Y rfl (by decide) (by decide) hA1 ⟨rfl, rfl, rfl⟩ dX0_unbroken_70
set_option maxHeartbeats 4000000 in
set_option maxRecDepth 100000 in
theorem c_X1_swearIn {l : Launch} {G : GG} {L : List Nat} {f : HF} {h w jd rg mo ta ag sc nw pa fe cl wo si we : Nat} {a b c0 d0 : Int32}  (p_h : pt L f h (.inr (1, [.ref w, .ref jd, .ref rg, .ref mo, .int 0]))) (p_w : pt L f w (.inr (10, [.ref ta, .ref ag, .ref sc, .ref nw, .ref pa, .ref fe, .ref cl, .ref wo, .ref si, .ref we, .int 0, .int 0, .int (-1), .int 0, .int 0])))  : PMp l yX1_swearIn cX1_swearIn 5 .int 1 0 0 G [.ref h, .int a, .int b, .int c0, .int d0] L f (fun r => r = (-1)) := by
  refine PMi.of (post := fun r L1 f1 => (r = (-1)) ∧ L1 = L ∧ f1 = f) (own := RX1) (by decide) rfl (Nat.le_of_ble_eq_true rfl) (fun sz p e s m args below meth c A ls hA1 hname S Y hl => ?_)
  have hx := S.hx
  have hb := S.hb
  have hl : lv_has ls 5 [(0, .ref h), (1, .int a), (2, .int b), (3, .int c0), (4, .int d0)] := hl
  refine lv_aload_n hx hb dX1_swearIn_0 rfl (lv_at hl 0 rfl) ?_
  refine pg_get S Y ok_X1 0 (by decide) kf1_15 (v := .ref w) p_h rfl dX1_swearIn_1 ?_
  refine lv_iload_n hx hb dX1_swearIn_4 rfl (lv_at hl 1 rfl) ?_
  refine cVp (As := [.int a]) (rest := []) S Y (c_X10_has (l := l) p_w) cw_X10_has km1_36 p_w ok_X10.1 rfl rfl ⟨Nat.le_of_ble_eq_true rfl, Nat.le_of_ble_eq_true rfl⟩ hl.1 rfl (Nat.le_of_ble_eq_true rfl) ⟨Nat.le_of_ble_eq_true rfl, Nat.le_of_ble_eq_true rfl⟩ dX1_swearIn_5 (fun r_41 H locs er_41 Y => ?_)
  refine lv_fold (z := 0) er_41 ?_
  refine lv_if_eq (tgt := 62) hx hb dX1_swearIn_8 (by decide) (fun _ => ?_) (fun h => absurd (by decide) h)
  refine lv_iconst (v := (-1)) hx hb dX1_swearIn_62 (by decide) ?_
  exact prI (post := fun r L1 f1 => (r = (-1)) ∧ L1 = L ∧ f1 = f) S Y rfl (by decide) (by decide) hA1 ⟨rfl, rfl, rfl⟩ dX1_swearIn_63
set_option maxHeartbeats 4000000 in
set_option maxRecDepth 100000 in
theorem c_X1_breakOath {l : Launch} {G : GG} {L : List Nat} {f : HF} {h w jd rg mo ta ag sc nw pa fe cl wo si we oa aa : Nat} {o : Int32}  (p_h : pt L f h (.inr (1, [.ref w, .ref jd, .ref rg, .ref mo, .int 0]))) (p_w : pt L f w (.inr (10, [.ref ta, .ref ag, .ref sc, .ref nw, .ref pa, .ref fe, .ref cl, .ref wo, .ref si, .ref we, .int 0, .int 0, .int (-1), .int 0, .int 0]))) (p_nw : pt L f nw (.inr (4, [.ref oa, .ref aa, .int 0, .int 0, .int 0, .int 0, .int 137])))  : PMp l yX1_breakOath cX1_breakOath 2 .boolean 1 0 0 G [.ref h, .int o] L f (fun r => r = 0) := by
  refine PMi.of (post := fun r L1 f1 => (r = 0) ∧ L1 = L ∧ f1 = f) (own := RX1) (by decide) rfl (Nat.le_of_ble_eq_true rfl) (fun sz p e s m args below meth c A ls hA1 hname S Y hl => ?_)
  have hx := S.hx
  have hb := S.hb
  have hl : lv_has ls 2 [(0, .ref h), (1, .int o)] := hl
  refine lv_aload_n hx hb dX1_breakOath_0 rfl (lv_at hl 0 rfl) ?_
  refine pg_get S Y ok_X1 0 (by decide) kf1_15 (v := .ref w) p_h rfl dX1_breakOath_1 ?_
  refine pg_getN S Y ok_X10 3 (by decide) kf1_40 (v := .ref nw) p_w rfl dX1_breakOath_4 ?_
  refine lv_iload_n hx hb dX1_breakOath_7 rfl (lv_at hl 1 rfl) ?_
  refine lv_iconst (v := 4) hx hb dX1_breakOath_8 (by decide) ?_
  refine cVp (As := [.int o, .int 4]) (rest := []) S Y (c_X4_get (l := l) p_nw) cw_X4_get km1_59 p_nw ok_X4.1 rfl rfl ⟨Nat.le_of_ble_eq_true rfl, Nat.le_of_ble_eq_true rfl⟩ hl.1 rfl (Nat.le_of_ble_eq_true rfl) ⟨Nat.le_of_ble_eq_true rfl, Nat.le_of_ble_eq_true rfl⟩ dX1_breakOath_9 (fun r_42 H locs er_42 Y => ?_)
  refine lv_fold (z := (-1)) er_42 ?_
  refine lv_if_eq (tgt := 17) hx hb dX1_breakOath_12 (by decide) (fun h => absurd h (by decide)) (fun _ => ?_)
  refine lv_iconst (v := 0) hx hb dX1_breakOath_15 (by decide) ?_
  exact prI (post := fun r L1 f1 => (r = 0) ∧ L1 = L ∧ f1 = f) S Y rfl (by decide) (by decide) hA1 ⟨rfl, rfl, rfl⟩ dX1_breakOath_16
set_option maxHeartbeats 4000000 in
set_option maxRecDepth 100000 in
theorem c_X1_releaseOath {l : Launch} {G : GG} {L : List Nat} {f : HF} {h w jd rg mo ta ag sc nw pa fe cl wo si we oa aa : Nat} {o : Int32}  (p_h : pt L f h (.inr (1, [.ref w, .ref jd, .ref rg, .ref mo, .int 0]))) (p_w : pt L f w (.inr (10, [.ref ta, .ref ag, .ref sc, .ref nw, .ref pa, .ref fe, .ref cl, .ref wo, .ref si, .ref we, .int 0, .int 0, .int (-1), .int 0, .int 0]))) (p_nw : pt L f nw (.inr (4, [.ref oa, .ref aa, .int 0, .int 0, .int 0, .int 0, .int 137])))  : PMp l yX1_releaseOath cX1_releaseOath 2 .boolean 2 0 0 G [.ref h, .int o] L f (fun r => r = 0) := by
  refine PMi.of (post := fun r L1 f1 => (r = 0) ∧ L1 = L ∧ f1 = f) (own := RX1) (by decide) rfl (Nat.le_of_ble_eq_true rfl) (fun sz p e s m args below meth c A ls hA1 hname S Y hl => ?_)
  have hx := S.hx
  have hb := S.hb
  have hl : lv_has ls 2 [(0, .ref h), (1, .int o)] := hl
  refine lv_aload_n hx hb dX1_releaseOath_0 rfl (lv_at hl 0 rfl) ?_
  refine pg_get S Y ok_X1 0 (by decide) kf1_15 (v := .ref w) p_h rfl dX1_releaseOath_1 ?_
  refine pg_getN S Y ok_X10 3 (by decide) kf1_40 (v := .ref nw) p_w rfl dX1_releaseOath_4 ?_
  refine lv_iload_n hx hb dX1_releaseOath_7 rfl (lv_at hl 1 rfl) ?_
  refine cVp (As := [.int o]) (rest := []) S Y (c_X4_unreleased (l := l) p_nw) cw_X4_unreleased km1_67 p_nw ok_X4.1 rfl rfl ⟨Nat.le_of_ble_eq_true rfl, Nat.le_of_ble_eq_true rfl⟩ hl.1 rfl (Nat.le_of_ble_eq_true rfl) ⟨Nat.le_of_ble_eq_true rfl, Nat.le_of_ble_eq_true rfl⟩ dX1_releaseOath_8 (fun r_43 H locs er_43 Y => ?_)
  refine lv_fold (z := 0) er_43 ?_
  refine lv_if_ne (tgt := 16) hx hb dX1_releaseOath_11 (by decide) (fun h => absurd (by decide) h) (fun _ => ?_)
  refine lv_iconst (v := 0) hx hb dX1_releaseOath_14 (by decide) ?_
  exact prI (post := fun r L1 f1 => (r = 0) ∧ L1 = L ∧ f1 = f) S Y rfl (by decide) (by decide) hA1 ⟨rfl, rfl, rfl⟩ dX1_releaseOath_15
set_option maxHeartbeats 4000000 in
set_option maxRecDepth 100000 in
theorem c_X1_kneelDown {l : Launch} {G : GG} {L : List Nat} {f : HF} {h w jd rg mo ta ag sc nw pa fe cl wo si we : Nat} {o : Int32}  (p_h : pt L f h (.inr (1, [.ref w, .ref jd, .ref rg, .ref mo, .int 0]))) (p_w : pt L f w (.inr (10, [.ref ta, .ref ag, .ref sc, .ref nw, .ref pa, .ref fe, .ref cl, .ref wo, .ref si, .ref we, .int 0, .int 0, .int (-1), .int 0, .int 0])))  : PMp l yX1_kneelDown cX1_kneelDown 2 .boolean 1 0 0 G [.ref h, .int o] L f (fun r => r = 0) := by
  refine PMi.of (post := fun r L1 f1 => (r = 0) ∧ L1 = L ∧ f1 = f) (own := RX1) (by decide) rfl (Nat.le_of_ble_eq_true rfl) (fun sz p e s m args below meth c A ls hA1 hname S Y hl => ?_)
  have hx := S.hx
  have hb := S.hb
  have hl : lv_has ls 2 [(0, .ref h), (1, .int o)] := hl
  refine lv_aload_n hx hb dX1_kneelDown_0 rfl (lv_at hl 0 rfl) ?_
  refine pg_get S Y ok_X1 0 (by decide) kf1_15 (v := .ref w) p_h rfl dX1_kneelDown_1 ?_
  refine lv_iload_n hx hb dX1_kneelDown_4 rfl (lv_at hl 1 rfl) ?_
  refine cVp (As := [.int o]) (rest := []) S Y (c_X10_has (l := l) p_w) cw_X10_has km1_36 p_w ok_X10.1 rfl rfl ⟨Nat.le_of_ble_eq_true rfl, Nat.le_of_ble_eq_true rfl⟩ hl.1 rfl (Nat.le_of_ble_eq_true rfl) ⟨Nat.le_of_ble_eq_true rfl, Nat.le_of_ble_eq_true rfl⟩ dX1_kneelDown_5 (fun r_44 H locs er_44 Y => ?_)
  refine lv_fold (z := 0) er_44 ?_
  refine lv_if_ne (tgt := 13) hx hb dX1_kneelDown_8 (by decide) (fun h => absurd (by decide) h) (fun _ => ?_)
  refine lv_iconst (v := 0) hx hb dX1_kneelDown_11 (by decide) ?_
  exact prI (post := fun r L1 f1 => (r = 0) ∧ L1 = L ∧ f1 = f) S Y rfl (by decide) (by decide) hA1 ⟨rfl, rfl, rfl⟩ dX1_kneelDown_12
set_option maxHeartbeats 4000000 in
set_option maxRecDepth 100000 in
theorem c_X1_slide {l : Launch} {G : GG} {L : List Nat} {f : HF} {h w jd rg mo ta ag sc nw pa fe cl wo si we : Nat} {o k : Int32}  (p_h : pt L f h (.inr (1, [.ref w, .ref jd, .ref rg, .ref mo, .int 0]))) (p_w : pt L f w (.inr (10, [.ref ta, .ref ag, .ref sc, .ref nw, .ref pa, .ref fe, .ref cl, .ref wo, .ref si, .ref we, .int 0, .int 0, .int (-1), .int 0, .int 0])))  : PMp l yX1_slide cX1_slide 4 .boolean 1 0 0 G [.ref h, .int o, .int k] L f (fun r => r = 0) := by
  refine PMi.of (post := fun r L1 f1 => (r = 0) ∧ L1 = L ∧ f1 = f) (own := RX1) (by decide) rfl (Nat.le_of_ble_eq_true rfl) (fun sz p e s m args below meth c A ls hA1 hname S Y hl => ?_)
  have hx := S.hx
  have hb := S.hb
  have hl : lv_has ls 4 [(0, .ref h), (1, .int o), (2, .int k)] := hl
  refine lv_aload_n hx hb dX1_slide_0 rfl (lv_at hl 0 rfl) ?_
  refine pg_get S Y ok_X1 0 (by decide) kf1_15 (v := .ref w) p_h rfl dX1_slide_1 ?_
  refine lv_iload_n hx hb dX1_slide_4 rfl (lv_at hl 1 rfl) ?_
  refine cVp (As := [.int o]) (rest := []) S Y (c_X10_has (l := l) p_w) cw_X10_has km1_36 p_w ok_X10.1 rfl rfl ⟨Nat.le_of_ble_eq_true rfl, Nat.le_of_ble_eq_true rfl⟩ hl.1 rfl (Nat.le_of_ble_eq_true rfl) ⟨Nat.le_of_ble_eq_true rfl, Nat.le_of_ble_eq_true rfl⟩ dX1_slide_5 (fun r_45 H locs er_45 Y => ?_)
  refine lv_fold (z := 0) er_45 ?_
  refine lv_if_eq (tgt := 20) hx hb dX1_slide_8 (by decide) (fun _ => ?_) (fun h => absurd (by decide) h)
  refine lv_iconst (v := 0) hx hb dX1_slide_20 (by decide) ?_
  exact prI (post := fun r L1 f1 => (r = 0) ∧ L1 = L ∧ f1 = f) S Y rfl (by decide) (by decide) hA1 ⟨rfl, rfl, rfl⟩ dX1_slide_21
set_option maxHeartbeats 4000000 in
set_option maxRecDepth 100000 in
theorem c_X1_strikeOut {l : Launch} {G : GG} {L : List Nat} {f : HF} {h w jd rg mo ta ag sc nw pa fe cl wo si we oa aa : Nat} {o be : Int32}  (p_h : pt L f h (.inr (1, [.ref w, .ref jd, .ref rg, .ref mo, .int 0]))) (p_w : pt L f w (.inr (10, [.ref ta, .ref ag, .ref sc, .ref nw, .ref pa, .ref fe, .ref cl, .ref wo, .ref si, .ref we, .int 0, .int 0, .int (-1), .int 0, .int 0]))) (p_rg : pt L f rg (.inr (6, [.ref w, .int be]))) (p_nw : pt L f nw (.inr (4, [.ref oa, .ref aa, .int 0, .int 0, .int 0, .int 0, .int 137])))  : PMp l yX1_strikeOut cX1_strikeOut 6 .int 1 0 0 G [.ref h, .int o] L f (fun r => r = (-1)) := by
  refine PMi.of (post := fun r L1 f1 => (r = (-1)) ∧ L1 = L ∧ f1 = f) (own := RX1) (by decide) rfl (Nat.le_of_ble_eq_true rfl) (fun sz p e s m args below meth c A ls hA1 hname S Y hl => ?_)
  have hx := S.hx
  have hb := S.hb
  have hl : lv_has ls 6 [(0, .ref h), (1, .int o)] := hl
  refine lv_aload_n hx hb dX1_strikeOut_0 rfl (lv_at hl 0 rfl) ?_
  refine pg_get S Y ok_X1 2 (by decide) kf1_23 (v := .ref rg) p_h rfl dX1_strikeOut_1 ?_
  refine lv_iload_n hx hb dX1_strikeOut_4 rfl (lv_at hl 1 rfl) ?_
  refine cVp (As := [.int o]) (rest := []) S Y (c_X6_isRing (l := l) p_rg p_w p_nw) cw_X6_isRing km1_92 p_rg ok_X6.1 rfl rfl ⟨Nat.le_of_ble_eq_true rfl, Nat.le_of_ble_eq_true rfl⟩ hl.1 rfl (Nat.le_of_ble_eq_true rfl) ⟨Nat.le_of_ble_eq_true rfl, Nat.le_of_ble_eq_true rfl⟩ dX1_strikeOut_5 (fun r_46 H locs er_46 Y => ?_)
  refine lv_fold (z := 0) er_46 ?_
  refine lv_if_ne (tgt := 13) hx hb dX1_strikeOut_8 (by decide) (fun h => absurd (by decide) h) (fun _ => ?_)
  refine lv_iconst (v := (-1)) hx hb dX1_strikeOut_11 (by decide) ?_
  exact prI (post := fun r L1 f1 => (r = (-1)) ∧ L1 = L ∧ f1 = f) S Y rfl (by decide) (by decide) hA1 ⟨rfl, rfl, rfl⟩ dX1_strikeOut_12
set_option maxHeartbeats 4000000 in
set_option maxRecDepth 100000 in
theorem c_X2_daysToFade {l : Launch} {G : GG} {L : List Nat} {f : HF} {h w jd dd sl ta ag sc nw pa fe cl wo si we oa aa : Nat} {o : Int32}  (p_h : pt L f h (.inr (2, [.ref w, .ref jd, .ref dd, .ref sl]))) (p_w : pt L f w (.inr (10, [.ref ta, .ref ag, .ref sc, .ref nw, .ref pa, .ref fe, .ref cl, .ref wo, .ref si, .ref we, .int 0, .int 0, .int (-1), .int 0, .int 0]))) (p_nw : pt L f nw (.inr (4, [.ref oa, .ref aa, .int 0, .int 0, .int 0, .int 0, .int 137])))  : PMp l yX2_daysToFade cX2_daysToFade 4 .int 2 0 0 G [.ref h, .int o] L f (fun r => r = (-1)) := by
  refine PMi.of (post := fun r L1 f1 => (r = (-1)) ∧ L1 = L ∧ f1 = f) (own := RX2) (by decide) rfl (Nat.le_of_ble_eq_true rfl) (fun sz p e s m args below meth c A ls hA1 hname S Y hl => ?_)
  have hx := S.hx
  have hb := S.hb
  have hl : lv_has ls 4 [(0, .ref h), (1, .int o)] := hl
  refine lv_aload_n hx hb dX2_daysToFade_0 rfl (lv_at hl 0 rfl) ?_
  refine pg_get S Y ok_X2 0 (by decide) kf2_9 (v := .ref w) p_h rfl dX2_daysToFade_1 ?_
  refine pg_getN S Y ok_X10 3 (by decide) kf2_27 (v := .ref nw) p_w rfl dX2_daysToFade_4 ?_
  refine lv_iload_n hx hb dX2_daysToFade_7 rfl (lv_at hl 1 rfl) ?_
  refine cVp (As := [.int o]) (rest := []) S Y (c_X4_unreleased (l := l) p_nw) cw_X4_unreleased km2_55 p_nw ok_X4.1 rfl rfl ⟨Nat.le_of_ble_eq_true rfl, Nat.le_of_ble_eq_true rfl⟩ hl.1 rfl (Nat.le_of_ble_eq_true rfl) ⟨Nat.le_of_ble_eq_true rfl, Nat.le_of_ble_eq_true rfl⟩ dX2_daysToFade_8 (fun r_47 H locs er_47 Y => ?_)
  refine lv_fold (z := 0) er_47 ?_
  refine lv_if_ne (tgt := 16) hx hb dX2_daysToFade_11 (by decide) (fun h => absurd (by decide) h) (fun _ => ?_)
  refine lv_iconst (v := (-1)) hx hb dX2_daysToFade_14 (by decide) ?_
  exact prI (post := fun r L1 f1 => (r = (-1)) ∧ L1 = L ∧ f1 = f) S Y rfl (by decide) (by decide) hA1 ⟨rfl, rfl, rfl⟩ dX2_daysToFade_15
set_option maxHeartbeats 4000000 in
set_option maxRecDepth 100000 in
theorem c_X5_size {l : Launch} {G : GG} {L : List Nat} {f : HF} {h tp ki pl va : Nat}  (p_h : pt L f h (.inr (5, [.ref tp, .ref ki, .ref pl, .ref va, .int 0, .int 0, .int 0, .int 0, .int 0, .int 0, .int 0, .null, .int (-1), .int (-1)])))  : PMp l yX5_size cX5_size 1 .int 0 0 0 G [.ref h] L f (fun r => r = 0) := by
  refine PMi.of (post := fun r L1 f1 => (r = 0) ∧ L1 = L ∧ f1 = f) (own := RX5) (by decide) rfl (Nat.le_of_ble_eq_true rfl) (fun sz p e s m args below meth c A ls hA1 hname S Y hl => ?_)
  have hx := S.hx
  have hb := S.hb
  have hl : lv_has ls 1 [(0, .ref h)] := hl
  refine lv_aload_n hx hb dX5_size_0 rfl (lv_at hl 0 rfl) ?_
  refine pg_get S Y ok_X5 4 (by decide) kf5_31 (v := .int 0) p_h rfl dX5_size_1 ?_
  exact prI (post := fun r L1 f1 => (r = 0) ∧ L1 = L ∧ f1 = f) S Y rfl (by decide) (by decide) hA1 ⟨rfl, rfl, rfl⟩ dX5_size_4
set_option maxHeartbeats 4000000 in
set_option maxRecDepth 100000 in
theorem c_X5_faultKind {l : Launch} {G : GG} {L : List Nat} {f : HF} {h tp ki pl va : Nat}  (p_h : pt L f h (.inr (5, [.ref tp, .ref ki, .ref pl, .ref va, .int 0, .int 0, .int 0, .int 0, .int 0, .int 0, .int 0, .null, .int (-1), .int (-1)])))  : PMp l yX5_faultKind cX5_faultKind 1 .int 0 0 0 G [.ref h] L f (fun r => r = (-1)) := by
  refine PMi.of (post := fun r L1 f1 => (r = (-1)) ∧ L1 = L ∧ f1 = f) (own := RX5) (by decide) rfl (Nat.le_of_ble_eq_true rfl) (fun sz p e s m args below meth c A ls hA1 hname S Y hl => ?_)
  have hx := S.hx
  have hb := S.hb
  have hl : lv_has ls 1 [(0, .ref h)] := hl
  refine lv_aload_n hx hb dX5_faultKind_0 rfl (lv_at hl 0 rfl) ?_
  refine pg_get S Y ok_X5 12 (by decide) kf5_24 (v := .int (-1)) p_h rfl dX5_faultKind_1 ?_
  exact prI (post := fun r L1 f1 => (r = (-1)) ∧ L1 = L ∧ f1 = f) S Y rfl (by decide) (by decide) hA1 ⟨rfl, rfl, rfl⟩ dX5_faultKind_4
set_option maxHeartbeats 4000000 in
set_option maxRecDepth 100000 in
theorem c_X5_faultPlace {l : Launch} {G : GG} {L : List Nat} {f : HF} {h tp ki pl va : Nat}  (p_h : pt L f h (.inr (5, [.ref tp, .ref ki, .ref pl, .ref va, .int 0, .int 0, .int 0, .int 0, .int 0, .int 0, .int 0, .null, .int (-1), .int (-1)])))  : PMp l yX5_faultPlace cX5_faultPlace 1 .int 0 0 0 G [.ref h] L f (fun r => r = (-1)) := by
  refine PMi.of (post := fun r L1 f1 => (r = (-1)) ∧ L1 = L ∧ f1 = f) (own := RX5) (by decide) rfl (Nat.le_of_ble_eq_true rfl) (fun sz p e s m args below meth c A ls hA1 hname S Y hl => ?_)
  have hx := S.hx
  have hb := S.hb
  have hl : lv_has ls 1 [(0, .ref h)] := hl
  refine lv_aload_n hx hb dX5_faultPlace_0 rfl (lv_at hl 0 rfl) ?_
  refine pg_get S Y ok_X5 13 (by decide) kf5_28 (v := .int (-1)) p_h rfl dX5_faultPlace_1 ?_
  exact prI (post := fun r L1 f1 => (r = (-1)) ∧ L1 = L ∧ f1 = f) S Y rfl (by decide) (by decide) hA1 ⟨rfl, rfl, rfl⟩ dX5_faultPlace_4
set_option maxHeartbeats 4000000 in
set_option maxRecDepth 100000 in
theorem c_X5_cutTo {l : Launch} {G : GG} {L : List Nat} {f : HF} {h tp ki pl va : Nat} {n : Int32}  (p_h : pt L f h (.inr (5, [.ref tp, .ref ki, .ref pl, .ref va, .int 0, .int 0, .int 0, .int 0, .int 0, .int 0, .int 0, .null, .int (-1), .int (-1)])))  : PMi l yX5_cutTo cX5_cutTo 2 .boolean 0 0 0 G [.ref h, .int n] L f (fun r L1 f1 => r = wi n 0 0) := by
  refine PMi.of (post := fun r L1 f1 => r = wi n 0 0) (own := RX5) (by decide) rfl (Nat.le_of_ble_eq_true rfl) (fun sz p e s m args below meth c A ls hA1 hname S Y hl => ?_)
  have hx := S.hx
  have hb := S.hb
  have hl : lv_has ls 2 [(0, .ref h), (1, .int n)] := hl
  refine lv_iload_n hx hb dX5_cutTo_0 rfl (lv_at hl 1 rfl) ?_
  refine lv_if_lt (tgt := 12) hx hb dX5_cutTo_1 (by decide) (fun c_48 => ?_) (fun c_48 => ?_)
  · refine lv_iconst (v := 0) hx hb dX5_cutTo_12 (by decide) ?_
    exact prI (post := fun r L1 f1 => r = wi n 0 0) S Y rfl (by decide) (by decide) hA1 (by unfold wi; rw [if_pos c_48]) dX5_cutTo_13
  · refine lv_iload_n hx hb dX5_cutTo_4 rfl (lv_at hl 1 rfl) ?_
    refine lv_aload_n hx hb dX5_cutTo_5 rfl (lv_at hl 0 rfl) ?_
    refine pg_get S Y ok_X5 4 (by decide) kf5_31 (v := .int 0) p_h rfl dX5_cutTo_6 ?_
    refine lv_icmp_le (tgt := 14) hx hb dX5_cutTo_9 (by decide) (fun c_49 => ?_) (fun c_49 => ?_)
    · refine lv_aload_n hx hb dX5_cutTo_14 rfl (lv_at hl 0 rfl) ?_
      refine lv_iload_n hx hb dX5_cutTo_15 rfl (lv_at hl 1 rfl) ?_
      refine pg_put S Y ok_X5 4 (by decide) kf5_31 rfl (fs' := [.ref tp, .ref ki, .ref pl, .ref va, .int n, .int 0, .int 0, .int 0, .int 0, .int 0, .int 0, .null, .int (-1), .int (-1)]) (v := .int n) p_h rfl rfl rfl (Nat.le_of_ble_eq_true rfl) dX5_cutTo_16 (fun f_50 H locs ef_50 Y => ?_)
      have p_h := p_h.me ef_50
      refine lv_iconst (v := 1) hx hb dX5_cutTo_19 (by decide) ?_
      exact prI (post := fun r L1 f1 => r = wi n 0 0) S Y rfl (by decide) (by decide) hA1 (by unfold wi; rw [if_neg c_48, if_neg (i_ngt c_49)]) dX5_cutTo_20
    · refine lv_iconst (v := 0) hx hb dX5_cutTo_12 (by decide) ?_
      exact prI (post := fun r L1 f1 => r = wi n 0 0) S Y rfl (by decide) (by decide) hA1 (by unfold wi; rw [if_neg c_48, if_pos (i_lt c_49)]) dX5_cutTo_13
