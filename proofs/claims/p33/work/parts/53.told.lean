theorem dX9_get_0 : decode cX9_get 0 = .ok (.iload_n 1, 1) := by decide +kernel
theorem dX9_get_1 : decode cX9_get 1 = .ok (.ifCond .lt 20, 3) := by decide +kernel
theorem dX9_get_21 : decode cX9_get 21 = .ok (.iconst (-1), 1) := by decide +kernel
theorem dX9_get_22 : decode cX9_get 22 = .ok (.ireturn, 1) := by decide +kernel
theorem dX9_get_4 : decode cX9_get 4 = .ok (.iload_n 1, 1) := by decide +kernel
theorem dX9_get_5 : decode cX9_get 5 = .ok (.aload_n 0, 1) := by decide +kernel
theorem dX9_get_6 : decode cX9_get 6 = .ok (.getfield 25, 3) := by decide +kernel
theorem ok_X9 : clOK 9 RX9 TX9 3 tyX9 := ⟨rfl, fun w h => ⟨(show ∀ w ∈ u_ws RX9 TX9 3, w ∈ lw_tbl by decide +kernel) w h, (show ∀ w ∈ u_ws RX9 TX9 3, gw w = true by decide +kernel) w h⟩, tyX9_ok, nmX9⟩
theorem kf9_25 : inW (Cond.fieldLink RX9 25 "KneeOaths$Told" "count" "I") := ⟨List.mem_of_getElem? (i := 220) (by decide +kernel), by decide +kernel⟩
theorem dX9_get_9 : decode cX9_get 9 = .ok (.if_icmp .ge 12, 3) := by decide +kernel
theorem dX9_get_12 : decode cX9_get 12 = .ok (.iload_n 2, 1) := by decide +kernel
theorem dX9_get_13 : decode cX9_get 13 = .ok (.ifCond .lt 8, 3) := by decide +kernel
theorem dX9_get_16 : decode cX9_get 16 = .ok (.iload_n 2, 1) := by decide +kernel
theorem dX9_get_17 : decode cX9_get 17 = .ok (.iconst 3, 1) := by decide +kernel
theorem dX9_get_18 : decode cX9_get 18 = .ok (.if_icmp .lt 5, 3) := by decide +kernel
theorem dX9_get_23 : decode cX9_get 23 = .ok (.aload_n 0, 1) := by decide +kernel
theorem dX9_get_24 : decode cX9_get 24 = .ok (.getfield 9, 3) := by decide +kernel
theorem kf9_9 : inW (Cond.fieldLink RX9 9 "KneeOaths$Told" "cells" "[I") := ⟨List.mem_of_getElem? (i := 218) (by decide +kernel), by decide +kernel⟩
theorem dX9_get_27 : decode cX9_get 27 = .ok (.iload_n 1, 1) := by decide +kernel
theorem dX9_get_28 : decode cX9_get 28 = .ok (.iconst 3, 1) := by decide +kernel
theorem dX9_get_29 : decode cX9_get 29 = .ok (.imul, 1) := by decide +kernel
theorem dX9_get_30 : decode cX9_get 30 = .ok (.iload_n 2, 1) := by decide +kernel
theorem dX9_get_31 : decode cX9_get 31 = .ok (.iadd, 1) := by decide +kernel
theorem dX9_get_32 : decode cX9_get 32 = .ok (.iaload, 1) := by decide +kernel
theorem dX9_get_33 : decode cX9_get 33 = .ok (.ireturn, 1) := by decide +kernel
theorem dX9_forget_0 : decode cX9_forget 0 = .ok (.aload_n 0, 1) := by decide +kernel
theorem dX9_forget_1 : decode cX9_forget 1 = .ok (.iconst 0, 1) := by decide +kernel
theorem dX9_forget_2 : decode cX9_forget 2 = .ok (.putfield 25, 3) := by decide +kernel
theorem dX9_forget_5 : decode cX9_forget 5 = .ok (.iconst 0, 1) := by decide +kernel
theorem dX9_forget_6 : decode cX9_forget 6 = .ok (.ireturn, 1) := by decide +kernel
theorem dX9_tell_0 : decode cX9_tell 0 = .ok (.aload_n 0, 1) := by decide +kernel
theorem dX9_tell_1 : decode cX9_tell 1 = .ok (.getfield 25, 3) := by decide +kernel
theorem dX9_tell_4 : decode cX9_tell 4 = .ok (.aload_n 0, 1) := by decide +kernel
theorem dX9_tell_5 : decode cX9_tell 5 = .ok (.getfield 21, 3) := by decide +kernel
theorem kf9_21 : inW (Cond.fieldLink RX9 21 "KneeOaths$Told" "limit" "I") := ⟨List.mem_of_getElem? (i := 219) (by decide +kernel), by decide +kernel⟩
theorem dX9_tell_8 : decode cX9_tell 8 = .ok (.if_icmp .lt 6, 3) := by decide +kernel
theorem dX9_tell_14 : decode cX9_tell 14 = .ok (.aload_n 0, 1) := by decide +kernel
theorem dX9_tell_15 : decode cX9_tell 15 = .ok (.getfield 25, 3) := by decide +kernel
theorem dX9_tell_18 : decode cX9_tell 18 = .ok (.iconst 3, 1) := by decide +kernel
theorem dX9_tell_19 : decode cX9_tell 19 = .ok (.imul, 1) := by decide +kernel
theorem dX9_tell_20 : decode cX9_tell 20 = .ok (.istore 4, 2) := by decide +kernel
theorem dX9_tell_22 : decode cX9_tell 22 = .ok (.aload_n 0, 1) := by decide +kernel
theorem dX9_tell_23 : decode cX9_tell 23 = .ok (.getfield 9, 3) := by decide +kernel
theorem dX9_tell_26 : decode cX9_tell 26 = .ok (.iload 4, 2) := by decide +kernel
theorem dX9_tell_28 : decode cX9_tell 28 = .ok (.iload_n 1, 1) := by decide +kernel
theorem dX9_tell_29 : decode cX9_tell 29 = .ok (.iastore, 1) := by decide +kernel
theorem dX9_tell_30 : decode cX9_tell 30 = .ok (.aload_n 0, 1) := by decide +kernel
theorem dX9_tell_31 : decode cX9_tell 31 = .ok (.getfield 9, 3) := by decide +kernel
theorem dX9_tell_34 : decode cX9_tell 34 = .ok (.iload 4, 2) := by decide +kernel
theorem dX9_tell_36 : decode cX9_tell 36 = .ok (.iconst 1, 1) := by decide +kernel
theorem dX9_tell_37 : decode cX9_tell 37 = .ok (.iadd, 1) := by decide +kernel
theorem dX9_tell_38 : decode cX9_tell 38 = .ok (.iload_n 2, 1) := by decide +kernel
theorem dX9_tell_39 : decode cX9_tell 39 = .ok (.iastore, 1) := by decide +kernel
theorem dX9_tell_40 : decode cX9_tell 40 = .ok (.aload_n 0, 1) := by decide +kernel
theorem dX9_tell_41 : decode cX9_tell 41 = .ok (.getfield 9, 3) := by decide +kernel
theorem dX9_tell_44 : decode cX9_tell 44 = .ok (.iload 4, 2) := by decide +kernel
theorem dX9_tell_46 : decode cX9_tell 46 = .ok (.iconst 2, 1) := by decide +kernel
theorem dX9_tell_47 : decode cX9_tell 47 = .ok (.iadd, 1) := by decide +kernel
theorem dX9_tell_48 : decode cX9_tell 48 = .ok (.iload_n 3, 1) := by decide +kernel
theorem dX9_tell_49 : decode cX9_tell 49 = .ok (.iastore, 1) := by decide +kernel
theorem dX9_tell_50 : decode cX9_tell 50 = .ok (.aload_n 0, 1) := by decide +kernel
theorem dX9_tell_51 : decode cX9_tell 51 = .ok (.dup, 1) := by decide +kernel
theorem dX9_tell_52 : decode cX9_tell 52 = .ok (.getfield 25, 3) := by decide +kernel
theorem dX9_tell_55 : decode cX9_tell 55 = .ok (.iconst 1, 1) := by decide +kernel
theorem dX9_tell_56 : decode cX9_tell 56 = .ok (.iadd, 1) := by decide +kernel
theorem dX9_tell_57 : decode cX9_tell 57 = .ok (.putfield 25, 3) := by decide +kernel
theorem dX9_tell_60 : decode cX9_tell 60 = .ok (.aload_n 0, 1) := by decide +kernel
theorem dX9_tell_61 : decode cX9_tell 61 = .ok (.getfield 25, 3) := by decide +kernel
theorem dX9_tell_64 : decode cX9_tell 64 = .ok (.ireturn, 1) := by decide +kernel
theorem dX9_tell_11 : decode cX9_tell 11 = .ok (.bipush (-2), 2) := by decide +kernel
theorem dX9_tell_13 : decode cX9_tell 13 = .ok (.ireturn, 1) := by decide +kernel
theorem dX9_takeOver_0 : decode cX9_takeOver 0 = .ok (.aload_n 1, 1) := by decide +kernel
theorem dX9_takeOver_1 : decode cX9_takeOver 1 = .ok (.getfield 9, 3) := by decide +kernel
theorem dX9_takeOver_4 : decode cX9_takeOver 4 = .ok (.iconst 0, 1) := by decide +kernel
theorem dX9_takeOver_5 : decode cX9_takeOver 5 = .ok (.aload_n 0, 1) := by decide +kernel
theorem dX9_takeOver_6 : decode cX9_takeOver 6 = .ok (.getfield 9, 3) := by decide +kernel
theorem dX9_takeOver_9 : decode cX9_takeOver 9 = .ok (.iconst 0, 1) := by decide +kernel
theorem dX9_takeOver_10 : decode cX9_takeOver 10 = .ok (.aload_n 0, 1) := by decide +kernel
theorem dX9_takeOver_11 : decode cX9_takeOver 11 = .ok (.getfield 9, 3) := by decide +kernel
theorem dX9_takeOver_14 : decode cX9_takeOver 14 = .ok (.arraylength, 1) := by decide +kernel
theorem dX9_takeOver_15 : decode cX9_takeOver 15 = .ok (.invokestatic 28, 3) := by decide +kernel
theorem km9_28 : inW (Cond.methodLink RX9 28 arraycopyName) := ⟨List.mem_of_getElem? (i := 1480) (by decide +kernel), by decide +kernel⟩
theorem dX9_takeOver_18 : decode cX9_takeOver 18 = .ok (.aload_n 0, 1) := by decide +kernel
theorem dX9_takeOver_19 : decode cX9_takeOver 19 = .ok (.aload_n 1, 1) := by decide +kernel
theorem dX9_takeOver_20 : decode cX9_takeOver 20 = .ok (.getfield 25, 3) := by decide +kernel
theorem dX9_takeOver_23 : decode cX9_takeOver 23 = .ok (.putfield 25, 3) := by decide +kernel
theorem dX9_takeOver_26 : decode cX9_takeOver 26 = .ok (.return_, 1) := by decide +kernel
theorem dX7_clear_0 : decode cX7_clear 0 = .ok (.aload_n 0, 1) := by decide +kernel
theorem dX7_clear_1 : decode cX7_clear 1 = .ok (.iconst 0, 1) := by decide +kernel
theorem dX7_clear_2 : decode cX7_clear 2 = .ok (.putfield 27, 3) := by decide +kernel
theorem ok_X7 : clOK 7 RX7 TX7 7 tyX7 := ⟨rfl, fun w h => ⟨(show ∀ w ∈ u_ws RX7 TX7 7, w ∈ lw_tbl by decide +kernel) w h, (show ∀ w ∈ u_ws RX7 TX7 7, gw w = true by decide +kernel) w h⟩, tyX7_ok, nmX7⟩
theorem kf7_27 : inW (Cond.fieldLink RX7 27 "KneeOaths$Script" "length" "I") := ⟨List.mem_of_getElem? (i := 242) (by decide +kernel), by decide +kernel⟩
theorem dX7_clear_5 : decode cX7_clear 5 = .ok (.aload_n 0, 1) := by decide +kernel
theorem dX7_clear_6 : decode cX7_clear 6 = .ok (.iconst 0, 1) := by decide +kernel
theorem dX7_clear_7 : decode cX7_clear 7 = .ok (.putfield 31, 3) := by decide +kernel
theorem kf7_31 : inW (Cond.fieldLink RX7 31 "KneeOaths$Script" "clauseCount" "I") := ⟨List.mem_of_getElem? (i := 244) (by decide +kernel), by decide +kernel⟩
theorem dX7_clear_10 : decode cX7_clear 10 = .ok (.iconst 0, 1) := by decide +kernel
theorem dX7_clear_11 : decode cX7_clear 11 = .ok (.istore_n 1, 1) := by decide +kernel
theorem dX7_clear_12 : decode cX7_clear 12 = .ok (.iload_n 1, 1) := by decide +kernel
theorem dX7_clear_13 : decode cX7_clear 13 = .ok (.iconst 3, 1) := by decide +kernel
theorem dX7_clear_14 : decode cX7_clear 14 = .ok (.if_icmp .ge 23, 3) := by decide +kernel
theorem dX7_clear_17 : decode cX7_clear 17 = .ok (.aload_n 0, 1) := by decide +kernel
theorem dX7_clear_18 : decode cX7_clear 18 = .ok (.getfield 18, 3) := by decide +kernel
theorem kf7_18 : inW (Cond.fieldLink RX7 18 "KneeOaths$Script" "lawFrom" "[I") := ⟨List.mem_of_getElem? (i := 239) (by decide +kernel), by decide +kernel⟩
theorem dX7_clear_21 : decode cX7_clear 21 = .ok (.iload_n 1, 1) := by decide +kernel
theorem dX7_clear_22 : decode cX7_clear 22 = .ok (.iconst 0, 1) := by decide +kernel
theorem dX7_clear_23 : decode cX7_clear 23 = .ok (.iastore, 1) := by decide +kernel
theorem dX7_clear_24 : decode cX7_clear 24 = .ok (.aload_n 0, 1) := by decide +kernel
theorem dX7_clear_25 : decode cX7_clear 25 = .ok (.getfield 21, 3) := by decide +kernel
theorem kf7_21 : inW (Cond.fieldLink RX7 21 "KneeOaths$Script" "lawTo" "[I") := ⟨List.mem_of_getElem? (i := 240) (by decide +kernel), by decide +kernel⟩
theorem dX7_clear_28 : decode cX7_clear 28 = .ok (.iload_n 1, 1) := by decide +kernel
theorem dX7_clear_29 : decode cX7_clear 29 = .ok (.iconst 0, 1) := by decide +kernel
theorem dX7_clear_30 : decode cX7_clear 30 = .ok (.iastore, 1) := by decide +kernel
theorem dX7_clear_31 : decode cX7_clear 31 = .ok (.iinc 1 1, 3) := by decide +kernel
theorem dX7_clear_34 : decode cX7_clear 34 = .ok (.goto (-22), 3) := by decide +kernel
theorem dX7_clear_37 : decode cX7_clear 37 = .ok (.return_, 1) := by decide +kernel
theorem dX7_takeOver_0 : decode cX7_takeOver 0 = .ok (.aload_n 1, 1) := by decide +kernel
theorem dX7_takeOver_1 : decode cX7_takeOver 1 = .ok (.getfield 9, 3) := by decide +kernel
theorem kf7_9 : inW (Cond.fieldLink RX7 9 "KneeOaths$Script" "doings" "[I") := ⟨List.mem_of_getElem? (i := 237) (by decide +kernel), by decide +kernel⟩
theorem dX7_takeOver_4 : decode cX7_takeOver 4 = .ok (.iconst 0, 1) := by decide +kernel
theorem dX7_takeOver_5 : decode cX7_takeOver 5 = .ok (.aload_n 0, 1) := by decide +kernel
theorem dX7_takeOver_6 : decode cX7_takeOver 6 = .ok (.getfield 9, 3) := by decide +kernel
theorem dX7_takeOver_9 : decode cX7_takeOver 9 = .ok (.iconst 0, 1) := by decide +kernel
theorem dX7_takeOver_10 : decode cX7_takeOver 10 = .ok (.aload_n 0, 1) := by decide +kernel
theorem dX7_takeOver_11 : decode cX7_takeOver 11 = .ok (.getfield 9, 3) := by decide +kernel
theorem dX7_takeOver_14 : decode cX7_takeOver 14 = .ok (.arraylength, 1) := by decide +kernel
theorem dX7_takeOver_15 : decode cX7_takeOver 15 = .ok (.invokestatic 34, 3) := by decide +kernel
theorem km7_34 : inW (Cond.methodLink RX7 34 arraycopyName) := ⟨List.mem_of_getElem? (i := 1475) (by decide +kernel), by decide +kernel⟩
theorem dX7_takeOver_18 : decode cX7_takeOver 18 = .ok (.aload_n 1, 1) := by decide +kernel
theorem dX7_takeOver_19 : decode cX7_takeOver 19 = .ok (.getfield 15, 3) := by decide +kernel
theorem kf7_15 : inW (Cond.fieldLink RX7 15 "KneeOaths$Script" "numbers" "[I") := ⟨List.mem_of_getElem? (i := 238) (by decide +kernel), by decide +kernel⟩
theorem dX7_takeOver_22 : decode cX7_takeOver 22 = .ok (.iconst 0, 1) := by decide +kernel
theorem dX7_takeOver_23 : decode cX7_takeOver 23 = .ok (.aload_n 0, 1) := by decide +kernel
theorem dX7_takeOver_24 : decode cX7_takeOver 24 = .ok (.getfield 15, 3) := by decide +kernel
theorem dX7_takeOver_27 : decode cX7_takeOver 27 = .ok (.iconst 0, 1) := by decide +kernel
theorem dX7_takeOver_28 : decode cX7_takeOver 28 = .ok (.aload_n 0, 1) := by decide +kernel
theorem dX7_takeOver_29 : decode cX7_takeOver 29 = .ok (.getfield 15, 3) := by decide +kernel
theorem dX7_takeOver_32 : decode cX7_takeOver 32 = .ok (.arraylength, 1) := by decide +kernel
theorem dX7_takeOver_33 : decode cX7_takeOver 33 = .ok (.invokestatic 34, 3) := by decide +kernel
theorem dX7_takeOver_36 : decode cX7_takeOver 36 = .ok (.aload_n 1, 1) := by decide +kernel
theorem dX7_takeOver_37 : decode cX7_takeOver 37 = .ok (.getfield 18, 3) := by decide +kernel
theorem dX7_takeOver_40 : decode cX7_takeOver 40 = .ok (.iconst 0, 1) := by decide +kernel
theorem dX7_takeOver_41 : decode cX7_takeOver 41 = .ok (.aload_n 0, 1) := by decide +kernel
theorem dX7_takeOver_42 : decode cX7_takeOver 42 = .ok (.getfield 18, 3) := by decide +kernel
theorem dX7_takeOver_45 : decode cX7_takeOver 45 = .ok (.iconst 0, 1) := by decide +kernel
theorem dX7_takeOver_46 : decode cX7_takeOver 46 = .ok (.aload_n 0, 1) := by decide +kernel
theorem dX7_takeOver_47 : decode cX7_takeOver 47 = .ok (.getfield 18, 3) := by decide +kernel
theorem dX7_takeOver_50 : decode cX7_takeOver 50 = .ok (.arraylength, 1) := by decide +kernel
theorem dX7_takeOver_51 : decode cX7_takeOver 51 = .ok (.invokestatic 34, 3) := by decide +kernel
theorem dX7_takeOver_54 : decode cX7_takeOver 54 = .ok (.aload_n 1, 1) := by decide +kernel
theorem dX7_takeOver_55 : decode cX7_takeOver 55 = .ok (.getfield 21, 3) := by decide +kernel
theorem dX7_takeOver_58 : decode cX7_takeOver 58 = .ok (.iconst 0, 1) := by decide +kernel
theorem dX7_takeOver_59 : decode cX7_takeOver 59 = .ok (.aload_n 0, 1) := by decide +kernel
theorem dX7_takeOver_60 : decode cX7_takeOver 60 = .ok (.getfield 21, 3) := by decide +kernel
theorem dX7_takeOver_63 : decode cX7_takeOver 63 = .ok (.iconst 0, 1) := by decide +kernel
theorem dX7_takeOver_64 : decode cX7_takeOver 64 = .ok (.aload_n 0, 1) := by decide +kernel
theorem dX7_takeOver_65 : decode cX7_takeOver 65 = .ok (.getfield 21, 3) := by decide +kernel
theorem dX7_takeOver_68 : decode cX7_takeOver 68 = .ok (.arraylength, 1) := by decide +kernel
theorem dX7_takeOver_69 : decode cX7_takeOver 69 = .ok (.invokestatic 34, 3) := by decide +kernel
theorem dX7_takeOver_72 : decode cX7_takeOver 72 = .ok (.aload_n 1, 1) := by decide +kernel
theorem dX7_takeOver_73 : decode cX7_takeOver 73 = .ok (.getfield 24, 3) := by decide +kernel
theorem kf7_24 : inW (Cond.fieldLink RX7 24 "KneeOaths$Script" "clauses" "[I") := ⟨List.mem_of_getElem? (i := 241) (by decide +kernel), by decide +kernel⟩
theorem dX7_takeOver_76 : decode cX7_takeOver 76 = .ok (.iconst 0, 1) := by decide +kernel
theorem dX7_takeOver_77 : decode cX7_takeOver 77 = .ok (.aload_n 0, 1) := by decide +kernel
theorem dX7_takeOver_78 : decode cX7_takeOver 78 = .ok (.getfield 24, 3) := by decide +kernel
theorem dX7_takeOver_81 : decode cX7_takeOver 81 = .ok (.iconst 0, 1) := by decide +kernel
theorem dX7_takeOver_82 : decode cX7_takeOver 82 = .ok (.aload_n 0, 1) := by decide +kernel
theorem dX7_takeOver_83 : decode cX7_takeOver 83 = .ok (.getfield 24, 3) := by decide +kernel
theorem dX7_takeOver_86 : decode cX7_takeOver 86 = .ok (.arraylength, 1) := by decide +kernel
theorem dX7_takeOver_87 : decode cX7_takeOver 87 = .ok (.invokestatic 34, 3) := by decide +kernel
theorem dX7_takeOver_90 : decode cX7_takeOver 90 = .ok (.aload_n 0, 1) := by decide +kernel
theorem dX7_takeOver_91 : decode cX7_takeOver 91 = .ok (.aload_n 1, 1) := by decide +kernel
theorem dX7_takeOver_92 : decode cX7_takeOver 92 = .ok (.getfield 27, 3) := by decide +kernel
theorem dX7_takeOver_95 : decode cX7_takeOver 95 = .ok (.putfield 27, 3) := by decide +kernel
theorem dX7_takeOver_98 : decode cX7_takeOver 98 = .ok (.aload_n 0, 1) := by decide +kernel
theorem dX7_takeOver_99 : decode cX7_takeOver 99 = .ok (.aload_n 1, 1) := by decide +kernel
theorem dX7_takeOver_100 : decode cX7_takeOver 100 = .ok (.getfield 31, 3) := by decide +kernel
theorem dX7_takeOver_103 : decode cX7_takeOver 103 = .ok (.putfield 31, 3) := by decide +kernel
theorem dX7_takeOver_106 : decode cX7_takeOver 106 = .ok (.return_, 1) := by decide +kernel
theorem dX7_add_0 : decode cX7_add 0 = .ok (.aload_n 0, 1) := by decide +kernel
theorem dX7_add_1 : decode cX7_add 1 = .ok (.getfield 27, 3) := by decide +kernel
theorem dX7_add_4 : decode cX7_add 4 = .ok (.sipush 300, 3) := by decide +kernel
theorem dX7_add_7 : decode cX7_add 7 = .ok (.if_icmp .lt 5, 3) := by decide +kernel
theorem dX7_add_12 : decode cX7_add 12 = .ok (.aload_n 0, 1) := by decide +kernel
theorem dX7_add_13 : decode cX7_add 13 = .ok (.getfield 9, 3) := by decide +kernel
theorem dX7_add_16 : decode cX7_add 16 = .ok (.aload_n 0, 1) := by decide +kernel
theorem dX7_add_17 : decode cX7_add 17 = .ok (.getfield 27, 3) := by decide +kernel
theorem dX7_add_20 : decode cX7_add 20 = .ok (.iload_n 1, 1) := by decide +kernel
theorem dX7_add_21 : decode cX7_add 21 = .ok (.iastore, 1) := by decide +kernel
theorem dX7_add_22 : decode cX7_add 22 = .ok (.aload_n 0, 1) := by decide +kernel
theorem dX7_add_23 : decode cX7_add 23 = .ok (.getfield 15, 3) := by decide +kernel
theorem dX7_add_26 : decode cX7_add 26 = .ok (.aload_n 0, 1) := by decide +kernel
theorem dX7_add_27 : decode cX7_add 27 = .ok (.getfield 27, 3) := by decide +kernel
theorem dX7_add_30 : decode cX7_add 30 = .ok (.iload_n 2, 1) := by decide +kernel
theorem dX7_add_31 : decode cX7_add 31 = .ok (.iastore, 1) := by decide +kernel
theorem dX7_add_32 : decode cX7_add 32 = .ok (.aload_n 0, 1) := by decide +kernel
theorem dX7_add_33 : decode cX7_add 33 = .ok (.dup, 1) := by decide +kernel
theorem dX7_add_34 : decode cX7_add 34 = .ok (.getfield 27, 3) := by decide +kernel
theorem dX7_add_37 : decode cX7_add 37 = .ok (.iconst 1, 1) := by decide +kernel
theorem dX7_add_38 : decode cX7_add 38 = .ok (.iadd, 1) := by decide +kernel
theorem dX7_add_39 : decode cX7_add 39 = .ok (.putfield 27, 3) := by decide +kernel
theorem dX7_add_42 : decode cX7_add 42 = .ok (.aload_n 0, 1) := by decide +kernel
theorem dX7_add_43 : decode cX7_add 43 = .ok (.getfield 27, 3) := by decide +kernel
theorem dX7_add_46 : decode cX7_add 46 = .ok (.iconst 1, 1) := by decide +kernel
theorem dX7_add_47 : decode cX7_add 47 = .ok (.isub, 1) := by decide +kernel
theorem dX7_add_48 : decode cX7_add 48 = .ok (.ireturn, 1) := by decide +kernel
theorem dX7_add_10 : decode cX7_add 10 = .ok (.iconst (-1), 1) := by decide +kernel
theorem dX7_add_11 : decode cX7_add 11 = .ok (.ireturn, 1) := by decide +kernel
theorem dX7_leadHere_0 : decode cX7_leadHere 0 = .ok (.iload_n 1, 1) := by decide +kernel
theorem dX7_leadHere_1 : decode cX7_leadHere 1 = .ok (.ifCond .lt 21, 3) := by decide +kernel
theorem dX7_leadHere_22 : decode cX7_leadHere 22 = .ok (.return_, 1) := by decide +kernel
theorem dX7_leadHere_4 : decode cX7_leadHere 4 = .ok (.iload_n 1, 1) := by decide +kernel
theorem dX7_leadHere_5 : decode cX7_leadHere 5 = .ok (.aload_n 0, 1) := by decide +kernel
theorem dX7_leadHere_6 : decode cX7_leadHere 6 = .ok (.getfield 27, 3) := by decide +kernel
theorem dX7_leadHere_9 : decode cX7_leadHere 9 = .ok (.if_icmp .ge 13, 3) := by decide +kernel
theorem dX7_leadHere_12 : decode cX7_leadHere 12 = .ok (.aload_n 0, 1) := by decide +kernel
theorem dX7_leadHere_13 : decode cX7_leadHere 13 = .ok (.getfield 15, 3) := by decide +kernel
theorem dX7_leadHere_16 : decode cX7_leadHere 16 = .ok (.iload_n 1, 1) := by decide +kernel
theorem dX7_leadHere_17 : decode cX7_leadHere 17 = .ok (.aload_n 0, 1) := by decide +kernel
theorem dX7_leadHere_18 : decode cX7_leadHere 18 = .ok (.getfield 27, 3) := by decide +kernel
theorem dX7_leadHere_21 : decode cX7_leadHere 21 = .ok (.iastore, 1) := by decide +kernel
theorem dX7_addLaw_0 : decode cX7_addLaw 0 = .ok (.iload_n 1, 1) := by decide +kernel
theorem dX7_addLaw_1 : decode cX7_addLaw 1 = .ok (.ifCond .lt 25, 3) := by decide +kernel
theorem dX7_addLaw_26 : decode cX7_addLaw 26 = .ok (.return_, 1) := by decide +kernel
theorem dX7_addLaw_4 : decode cX7_addLaw 4 = .ok (.iload_n 1, 1) := by decide +kernel
theorem dX7_addLaw_5 : decode cX7_addLaw 5 = .ok (.iconst 3, 1) := by decide +kernel
theorem dX7_addLaw_6 : decode cX7_addLaw 6 = .ok (.if_icmp .ge 20, 3) := by decide +kernel
theorem dX7_addLaw_9 : decode cX7_addLaw 9 = .ok (.aload_n 0, 1) := by decide +kernel
theorem dX7_addLaw_10 : decode cX7_addLaw 10 = .ok (.getfield 18, 3) := by decide +kernel
theorem dX7_addLaw_13 : decode cX7_addLaw 13 = .ok (.iload_n 1, 1) := by decide +kernel
theorem dX7_addLaw_14 : decode cX7_addLaw 14 = .ok (.iload_n 2, 1) := by decide +kernel
theorem dX7_addLaw_15 : decode cX7_addLaw 15 = .ok (.iastore, 1) := by decide +kernel
theorem dX7_addLaw_16 : decode cX7_addLaw 16 = .ok (.aload_n 0, 1) := by decide +kernel
theorem dX7_addLaw_17 : decode cX7_addLaw 17 = .ok (.getfield 21, 3) := by decide +kernel
theorem dX7_addLaw_20 : decode cX7_addLaw 20 = .ok (.iload_n 1, 1) := by decide +kernel
theorem dX7_addLaw_21 : decode cX7_addLaw 21 = .ok (.aload_n 0, 1) := by decide +kernel
theorem dX7_addLaw_22 : decode cX7_addLaw 22 = .ok (.getfield 27, 3) := by decide +kernel
theorem dX7_addLaw_25 : decode cX7_addLaw 25 = .ok (.iastore, 1) := by decide +kernel
theorem dX7_hasLaw_0 : decode cX7_hasLaw 0 = .ok (.iload_n 1, 1) := by decide +kernel
theorem dX7_hasLaw_1 : decode cX7_hasLaw 1 = .ok (.ifCond .lt 27, 3) := by decide +kernel
theorem dX7_hasLaw_28 : decode cX7_hasLaw 28 = .ok (.iconst 0, 1) := by decide +kernel
theorem dX7_hasLaw_29 : decode cX7_hasLaw 29 = .ok (.ireturn, 1) := by decide +kernel
theorem dX7_hasLaw_4 : decode cX7_hasLaw 4 = .ok (.iload_n 1, 1) := by decide +kernel
theorem dX7_hasLaw_5 : decode cX7_hasLaw 5 = .ok (.iconst 3, 1) := by decide +kernel
theorem dX7_hasLaw_6 : decode cX7_hasLaw 6 = .ok (.if_icmp .ge 22, 3) := by decide +kernel
theorem dX7_hasLaw_9 : decode cX7_hasLaw 9 = .ok (.aload_n 0, 1) := by decide +kernel
theorem dX7_hasLaw_10 : decode cX7_hasLaw 10 = .ok (.getfield 18, 3) := by decide +kernel
theorem dX7_hasLaw_13 : decode cX7_hasLaw 13 = .ok (.iload_n 1, 1) := by decide +kernel
theorem dX7_hasLaw_14 : decode cX7_hasLaw 14 = .ok (.iaload, 1) := by decide +kernel
theorem dX7_hasLaw_15 : decode cX7_hasLaw 15 = .ok (.aload_n 0, 1) := by decide +kernel
theorem dX7_hasLaw_16 : decode cX7_hasLaw 16 = .ok (.getfield 21, 3) := by decide +kernel
theorem dX7_hasLaw_19 : decode cX7_hasLaw 19 = .ok (.iload_n 1, 1) := by decide +kernel
theorem dX7_hasLaw_20 : decode cX7_hasLaw 20 = .ok (.iaload, 1) := by decide +kernel
theorem dX7_hasLaw_21 : decode cX7_hasLaw 21 = .ok (.if_icmp .ge 7, 3) := by decide +kernel
theorem dX7_hasLaw_24 : decode cX7_hasLaw 24 = .ok (.iconst 1, 1) := by decide +kernel
theorem dX7_hasLaw_25 : decode cX7_hasLaw 25 = .ok (.goto 4, 3) := by decide +kernel
theorem dX7_lawStart_0 : decode cX7_lawStart 0 = .ok (.iload_n 1, 1) := by decide +kernel
theorem dX7_lawStart_1 : decode cX7_lawStart 1 = .ok (.ifCond .lt 17, 3) := by decide +kernel
theorem dX7_lawStart_18 : decode cX7_lawStart 18 = .ok (.iconst 0, 1) := by decide +kernel
theorem dX7_lawStart_19 : decode cX7_lawStart 19 = .ok (.ireturn, 1) := by decide +kernel
theorem dX7_lawStart_4 : decode cX7_lawStart 4 = .ok (.iload_n 1, 1) := by decide +kernel
theorem dX7_lawStart_5 : decode cX7_lawStart 5 = .ok (.iconst 3, 1) := by decide +kernel
theorem dX7_lawStart_6 : decode cX7_lawStart 6 = .ok (.if_icmp .ge 12, 3) := by decide +kernel
theorem dX7_lawStart_9 : decode cX7_lawStart 9 = .ok (.aload_n 0, 1) := by decide +kernel
theorem dX7_lawStart_10 : decode cX7_lawStart 10 = .ok (.getfield 18, 3) := by decide +kernel
theorem dX7_lawStart_13 : decode cX7_lawStart 13 = .ok (.iload_n 1, 1) := by decide +kernel
theorem dX7_lawStart_14 : decode cX7_lawStart 14 = .ok (.iaload, 1) := by decide +kernel
theorem dX7_lawStart_15 : decode cX7_lawStart 15 = .ok (.goto 4, 3) := by decide +kernel
theorem dX7_lawEnd_0 : decode cX7_lawEnd 0 = .ok (.iload_n 1, 1) := by decide +kernel
theorem dX7_lawEnd_1 : decode cX7_lawEnd 1 = .ok (.ifCond .lt 17, 3) := by decide +kernel
theorem dX7_lawEnd_18 : decode cX7_lawEnd 18 = .ok (.iconst 0, 1) := by decide +kernel
theorem dX7_lawEnd_19 : decode cX7_lawEnd 19 = .ok (.ireturn, 1) := by decide +kernel
theorem dX7_lawEnd_4 : decode cX7_lawEnd 4 = .ok (.iload_n 1, 1) := by decide +kernel
theorem dX7_lawEnd_5 : decode cX7_lawEnd 5 = .ok (.iconst 3, 1) := by decide +kernel
theorem dX7_lawEnd_6 : decode cX7_lawEnd 6 = .ok (.if_icmp .ge 12, 3) := by decide +kernel
theorem dX7_lawEnd_9 : decode cX7_lawEnd 9 = .ok (.aload_n 0, 1) := by decide +kernel
theorem dX7_lawEnd_10 : decode cX7_lawEnd 10 = .ok (.getfield 21, 3) := by decide +kernel
theorem dX7_lawEnd_13 : decode cX7_lawEnd 13 = .ok (.iload_n 1, 1) := by decide +kernel
theorem dX7_lawEnd_14 : decode cX7_lawEnd 14 = .ok (.iaload, 1) := by decide +kernel
theorem dX7_lawEnd_15 : decode cX7_lawEnd 15 = .ok (.goto 4, 3) := by decide +kernel
theorem dX7_doing_0 : decode cX7_doing 0 = .ok (.iload_n 1, 1) := by decide +kernel
theorem dX7_doing_1 : decode cX7_doing 1 = .ok (.ifCond .lt 20, 3) := by decide +kernel
theorem dX7_doing_21 : decode cX7_doing 21 = .ok (.iconst (-1), 1) := by decide +kernel
theorem dX7_doing_22 : decode cX7_doing 22 = .ok (.ireturn, 1) := by decide +kernel
theorem dX7_doing_4 : decode cX7_doing 4 = .ok (.iload_n 1, 1) := by decide +kernel
theorem dX7_doing_5 : decode cX7_doing 5 = .ok (.aload_n 0, 1) := by decide +kernel
theorem dX7_doing_6 : decode cX7_doing 6 = .ok (.getfield 27, 3) := by decide +kernel
theorem dX7_doing_9 : decode cX7_doing 9 = .ok (.if_icmp .ge 12, 3) := by decide +kernel
theorem dX7_doing_12 : decode cX7_doing 12 = .ok (.aload_n 0, 1) := by decide +kernel
theorem dX7_doing_13 : decode cX7_doing 13 = .ok (.getfield 9, 3) := by decide +kernel
theorem dX7_doing_16 : decode cX7_doing 16 = .ok (.iload_n 1, 1) := by decide +kernel
theorem dX7_doing_17 : decode cX7_doing 17 = .ok (.iaload, 1) := by decide +kernel
theorem dX7_doing_18 : decode cX7_doing 18 = .ok (.goto 4, 3) := by decide +kernel
theorem dX7_number_0 : decode cX7_number 0 = .ok (.iload_n 1, 1) := by decide +kernel
theorem dX7_number_1 : decode cX7_number 1 = .ok (.ifCond .lt 20, 3) := by decide +kernel
theorem dX7_number_21 : decode cX7_number 21 = .ok (.iconst (-1), 1) := by decide +kernel
theorem dX7_number_22 : decode cX7_number 22 = .ok (.ireturn, 1) := by decide +kernel
theorem dX7_number_4 : decode cX7_number 4 = .ok (.iload_n 1, 1) := by decide +kernel
theorem dX7_number_5 : decode cX7_number 5 = .ok (.aload_n 0, 1) := by decide +kernel
theorem dX7_number_6 : decode cX7_number 6 = .ok (.getfield 27, 3) := by decide +kernel
theorem dX7_number_9 : decode cX7_number 9 = .ok (.if_icmp .ge 12, 3) := by decide +kernel
theorem dX7_number_12 : decode cX7_number 12 = .ok (.aload_n 0, 1) := by decide +kernel
theorem dX7_number_13 : decode cX7_number 13 = .ok (.getfield 15, 3) := by decide +kernel
theorem dX7_number_16 : decode cX7_number 16 = .ok (.iload_n 1, 1) := by decide +kernel
theorem dX7_number_17 : decode cX7_number 17 = .ok (.iaload, 1) := by decide +kernel
theorem dX7_number_18 : decode cX7_number 18 = .ok (.goto 4, 3) := by decide +kernel
theorem dX7_isFull_0 : decode cX7_isFull 0 = .ok (.aload_n 0, 1) := by decide +kernel
theorem dX7_isFull_1 : decode cX7_isFull 1 = .ok (.getfield 31, 3) := by decide +kernel
theorem dX7_isFull_4 : decode cX7_isFull 4 = .ok (.bipush 24, 2) := by decide +kernel
theorem dX7_isFull_6 : decode cX7_isFull 6 = .ok (.if_icmp .lt 7, 3) := by decide +kernel
theorem dX7_isFull_13 : decode cX7_isFull 13 = .ok (.iconst 0, 1) := by decide +kernel
theorem dX7_isFull_14 : decode cX7_isFull 14 = .ok (.ireturn, 1) := by decide +kernel
theorem dX7_isFull_9 : decode cX7_isFull 9 = .ok (.iconst 1, 1) := by decide +kernel
theorem dX7_isFull_10 : decode cX7_isFull 10 = .ok (.goto 4, 3) := by decide +kernel
theorem dX7_setClause_0 : decode cX7_setClause 0 = .ok (.aload_n 0, 1) := by decide +kernel
theorem dX7_setClause_1 : decode cX7_setClause 1 = .ok (.getfield 31, 3) := by decide +kernel
theorem dX7_setClause_4 : decode cX7_setClause 4 = .ok (.ifCond .le 28, 3) := by decide +kernel
theorem dX7_setClause_32 : decode cX7_setClause 32 = .ok (.return_, 1) := by decide +kernel
theorem dX7_setClause_7 : decode cX7_setClause 7 = .ok (.iload_n 1, 1) := by decide +kernel
theorem dX7_setClause_8 : decode cX7_setClause 8 = .ok (.ifCond .lt 24, 3) := by decide +kernel
theorem dX7_setClause_11 : decode cX7_setClause 11 = .ok (.iload_n 1, 1) := by decide +kernel
theorem dX7_setClause_12 : decode cX7_setClause 12 = .ok (.iconst 5, 1) := by decide +kernel
theorem dX7_setClause_13 : decode cX7_setClause 13 = .ok (.if_icmp .ge 19, 3) := by decide +kernel
theorem dX7_setClause_16 : decode cX7_setClause 16 = .ok (.aload_n 0, 1) := by decide +kernel
theorem dX7_setClause_17 : decode cX7_setClause 17 = .ok (.getfield 24, 3) := by decide +kernel
theorem dX7_setClause_20 : decode cX7_setClause 20 = .ok (.aload_n 0, 1) := by decide +kernel
theorem dX7_setClause_21 : decode cX7_setClause 21 = .ok (.getfield 31, 3) := by decide +kernel
theorem dX7_setClause_24 : decode cX7_setClause 24 = .ok (.iconst 1, 1) := by decide +kernel
theorem dX7_setClause_25 : decode cX7_setClause 25 = .ok (.isub, 1) := by decide +kernel
theorem dX7_setClause_26 : decode cX7_setClause 26 = .ok (.iconst 5, 1) := by decide +kernel
theorem dX7_setClause_27 : decode cX7_setClause 27 = .ok (.imul, 1) := by decide +kernel
theorem dX7_setClause_28 : decode cX7_setClause 28 = .ok (.iload_n 1, 1) := by decide +kernel
theorem dX7_setClause_29 : decode cX7_setClause 29 = .ok (.iadd, 1) := by decide +kernel
theorem dX7_setClause_30 : decode cX7_setClause 30 = .ok (.iload_n 2, 1) := by decide +kernel
theorem dX7_setClause_31 : decode cX7_setClause 31 = .ok (.iastore, 1) := by decide +kernel
theorem dX7_addClause_0 : decode cX7_addClause 0 = .ok (.aload_n 0, 1) := by decide +kernel
theorem dX7_addClause_1 : decode cX7_addClause 1 = .ok (.getfield 31, 3) := by decide +kernel
theorem dX7_addClause_4 : decode cX7_addClause 4 = .ok (.bipush 24, 2) := by decide +kernel
theorem dX7_addClause_6 : decode cX7_addClause 6 = .ok (.if_icmp .ge 19, 3) := by decide +kernel
theorem dX7_addClause_25 : decode cX7_addClause 25 = .ok (.return_, 1) := by decide +kernel
theorem dX7_addClause_9 : decode cX7_addClause 9 = .ok (.aload_n 0, 1) := by decide +kernel
theorem dX7_addClause_10 : decode cX7_addClause 10 = .ok (.dup, 1) := by decide +kernel
theorem dX7_addClause_11 : decode cX7_addClause 11 = .ok (.getfield 31, 3) := by decide +kernel
theorem dX7_addClause_14 : decode cX7_addClause 14 = .ok (.iconst 1, 1) := by decide +kernel
theorem dX7_addClause_15 : decode cX7_addClause 15 = .ok (.iadd, 1) := by decide +kernel
theorem dX7_addClause_16 : decode cX7_addClause 16 = .ok (.putfield 31, 3) := by decide +kernel
theorem dX7_addClause_19 : decode cX7_addClause 19 = .ok (.aload_n 0, 1) := by decide +kernel
theorem dX7_addClause_20 : decode cX7_addClause 20 = .ok (.iconst 0, 1) := by decide +kernel
theorem dX7_addClause_21 : decode cX7_addClause 21 = .ok (.iload_n 1, 1) := by decide +kernel
theorem dX7_addClause_22 : decode cX7_addClause 22 = .ok (.invokevirtual 40, 3) := by decide +kernel
theorem cw_X7_setClause : CWv yX7_setClause cX7_setClause 3 none 2 := ⟨⟨⟨List.mem_of_getElem? (i := 129) (by decide +kernel), by decide +kernel⟩, ⟨List.mem_of_getElem? (i := 757) (by decide +kernel), by decide +kernel⟩, by decide +kernel⟩, ⟨List.mem_of_getElem? (i := 755) (by decide +kernel), by decide +kernel⟩, ⟨List.mem_of_getElem? (i := 756) (by decide +kernel), by decide +kernel⟩⟩
theorem km7_40 : inW (Cond.methodLink RX7 40 yX7_setClause) := ⟨List.mem_of_getElem? (i := 754) (by decide +kernel), by decide +kernel⟩
theorem dX7_clause_0 : decode cX7_clause 0 = .ok (.iload_n 1, 1) := by decide +kernel
theorem dX7_clause_1 : decode cX7_clause 1 = .ok (.ifCond .lt 20, 3) := by decide +kernel
theorem dX7_clause_21 : decode cX7_clause 21 = .ok (.iconst (-1), 1) := by decide +kernel
theorem dX7_clause_22 : decode cX7_clause 22 = .ok (.ireturn, 1) := by decide +kernel
theorem dX7_clause_4 : decode cX7_clause 4 = .ok (.iload_n 1, 1) := by decide +kernel
theorem dX7_clause_5 : decode cX7_clause 5 = .ok (.aload_n 0, 1) := by decide +kernel
theorem dX7_clause_6 : decode cX7_clause 6 = .ok (.getfield 31, 3) := by decide +kernel
theorem dX7_clause_9 : decode cX7_clause 9 = .ok (.if_icmp .ge 12, 3) := by decide +kernel
theorem dX7_clause_12 : decode cX7_clause 12 = .ok (.iload_n 2, 1) := by decide +kernel
theorem dX7_clause_13 : decode cX7_clause 13 = .ok (.ifCond .lt 8, 3) := by decide +kernel
theorem dX7_clause_16 : decode cX7_clause 16 = .ok (.iload_n 2, 1) := by decide +kernel
theorem dX7_clause_17 : decode cX7_clause 17 = .ok (.iconst 5, 1) := by decide +kernel
theorem dX7_clause_18 : decode cX7_clause 18 = .ok (.if_icmp .lt 5, 3) := by decide +kernel
theorem dX7_clause_23 : decode cX7_clause 23 = .ok (.aload_n 0, 1) := by decide +kernel
theorem dX7_clause_24 : decode cX7_clause 24 = .ok (.getfield 24, 3) := by decide +kernel
theorem dX7_clause_27 : decode cX7_clause 27 = .ok (.iload_n 1, 1) := by decide +kernel
theorem dX7_clause_28 : decode cX7_clause 28 = .ok (.iconst 5, 1) := by decide +kernel
theorem dX7_clause_29 : decode cX7_clause 29 = .ok (.imul, 1) := by decide +kernel
theorem dX7_clause_30 : decode cX7_clause 30 = .ok (.iload_n 2, 1) := by decide +kernel
theorem dX7_clause_31 : decode cX7_clause 31 = .ok (.iadd, 1) := by decide +kernel
theorem dX7_clause_32 : decode cX7_clause 32 = .ok (.iaload, 1) := by decide +kernel
theorem dX7_clause_33 : decode cX7_clause 33 = .ok (.ireturn, 1) := by decide +kernel
set_option maxHeartbeats 4000000 in
set_option maxRecDepth 100000 in
theorem x_X9_get {l : Launch} {G : GG}  {L : List Nat} {f : HF} {ad : Nat → Nat → Nat} {rs : FS} {fc : Int × Int} {tc w : Nat → Int × Int} {q : Nat → (Nat → Int32) → Prop} {j : Nat} {i1 i2 : Int32} (I : SH (spC rs fc tc w q) nnC G ad L f) (hW : WBp w 8) (hT : WBp tc 4) (hQ : QIp q) (hj : j < 10) : PMp l yX9_get cX9_get 3 .int 0 0 0 G [.ref (ad 20 j), .int i1, .int i2] L f (fun r => True) := by
  refine PMi.of (post := fun r L1 f1 => (True) ∧ L1 = L ∧ f1 = f) (own := RX9) (by decide) rfl (Nat.le_of_ble_eq_true rfl) (fun sz p e s m args below meth c A ls hA1 hname S Y hl => ?_)
  have hx := S.hx
  have hb := S.hb
  have hl : lv_has ls 3 [(0, .ref (ad 20 j)), (1, .int i1), (2, .int i2)] := hl
  refine lv_iload_n hx hb dX9_get_0 rfl (lv_at hl 1 rfl) ?_
  refine lv_if_lt (tgt := 21) hx hb dX9_get_1 (by decide) (fun c_4239 => ?_) (fun c_4239 => ?_)
  · have B_4240 : bn (-2147483648) (-1) i1 := bn_w (bn_ltl c_4239 (bn_any i1) (show bn 0 0 (0 : Int32) from bn_k (by decide))) (by decide)
    refine lv_iconst (v := (-1)) hx hb dX9_get_21 (by decide) ?_
    exact prI (post := fun r L1 f1 => (True) ∧ L1 = L ∧ f1 = f) S Y rfl (by decide) (by decide) hA1 ⟨trivial, rfl, rfl⟩ dX9_get_22
  · have B_4241 : bn 0 2147483647 i1 := bn_w (bn_gel c_4239 (bn_any i1) (show bn 0 0 (0 : Int32) from bn_k (by decide))) (by decide)
    refine lv_iload_n hx hb dX9_get_4 rfl (lv_at hl 1 rfl) ?_
    refine lv_aload_n hx hb dX9_get_5 rfl (lv_at hl 0 rfl) ?_
    obtain ⟨v_4242, v_4244, p_ad_20_j, b_4243, b_4245⟩ := opnC_20 (j := j) I hj
    have p_ad_20_j : pt L f (ad 20 j) (.inr (9, [.ref (ad 21 j), .int v_4242, .int v_4244])) := p_ad_20_j
    refine pg_get S Y ok_X9 2 (by decide) kf9_25 (v := .int v_4244) p_ad_20_j rfl dX9_get_6 ?_
    refine lv_icmp_ge (tgt := 21) hx hb dX9_get_9 (by decide) (fun c_4246 => ?_) (fun c_4246 => ?_)
    · refine lv_iconst (v := (-1)) hx hb dX9_get_21 (by decide) ?_
      exact prI (post := fun r L1 f1 => (True) ∧ L1 = L ∧ f1 = f) S Y rfl (by decide) (by decide) hA1 ⟨trivial, rfl, rfl⟩ dX9_get_22
    · have B_4247 : bn 1 8 v_4244 := bn_w (bn_gtl c_4246 (bn_w (a' := 0) (b' := 8) b_4245 (hW j)) B_4241) (by decide)
      have B_4248 : bn 0 7 i1 := bn_w (bn_gtr c_4246 (bn_w (a' := 0) (b' := 8) b_4245 (hW j)) B_4241) (by decide)
      refine lv_iload_n hx hb dX9_get_12 rfl (lv_at hl 2 rfl) ?_
      refine lv_if_lt (tgt := 21) hx hb dX9_get_13 (by decide) (fun c_4249 => ?_) (fun c_4249 => ?_)
      · have B_4250 : bn (-2147483648) (-1) i2 := bn_w (bn_ltl c_4249 (bn_any i2) (show bn 0 0 (0 : Int32) from bn_k (by decide))) (by decide)
        refine lv_iconst (v := (-1)) hx hb dX9_get_21 (by decide) ?_
        exact prI (post := fun r L1 f1 => (True) ∧ L1 = L ∧ f1 = f) S Y rfl (by decide) (by decide) hA1 ⟨trivial, rfl, rfl⟩ dX9_get_22
      · have B_4251 : bn 0 2147483647 i2 := bn_w (bn_gel c_4249 (bn_any i2) (show bn 0 0 (0 : Int32) from bn_k (by decide))) (by decide)
        refine lv_iload_n hx hb dX9_get_16 rfl (lv_at hl 2 rfl) ?_
        refine lv_iconst (v := 3) hx hb dX9_get_17 (by decide) ?_
        refine lv_icmp_lt (tgt := 23) hx hb dX9_get_18 (by decide) (fun c_4252 => ?_) (fun c_4252 => ?_)
        · have B_4253 : bn 0 2 i2 := bn_w (bn_ltl c_4252 B_4251 (show bn 3 3 (3 : Int32) from bn_k (by decide))) (by decide)
          refine lv_aload_n hx hb dX9_get_23 rfl (lv_at hl 0 rfl) ?_
          refine pg_get S Y ok_X9 0 (by decide) kf9_9 (v := .ref (ad 21 j)) p_ad_20_j rfl dX9_get_24 ?_
          refine lv_iload_n hx hb dX9_get_27 rfl (lv_at hl 1 rfl) ?_
          refine lv_iconst (v := 3) hx hb dX9_get_28 (by decide) ?_
          refine lv_imul hx hb dX9_get_29 ?_
          refine lv_topi (fun x_4255 ex_4255 => ?_)
          refine lv_iload_n hx hb dX9_get_30 rfl (lv_at hl 2 rfl) ?_
          refine lv_iadd hx hb dX9_get_31 ?_
          refine lv_topi (fun x_4256 ex_4256 => ?_)
          obtain ⟨g_4257, p_ad_21_j, o_4258⟩ := I.opi (k := 21) (j := j) hj rfl
          have p_ad_21_j : pt L f (ad 21 j) (.inl (G.2 0, 24, .inl g_4257)) := p_ad_21_j
          obtain ⟨v_4259, ev_4259⟩ : ∃ z, z = g_4257 (x_4256 : Int32).toNatClampNeg := ⟨_, rfl⟩
          refine pg_iald S Y (v := v_4259) p_ad_21_j (vp_bn (bn_eq ex_4256 (bn_add (bn_eq ex_4255 (bn_mul B_4248 (show bn 3 3 (3 : Int32) from bn_k (by decide)) (by decide))) B_4253 (by decide))) (by decide)) ev_4259.symm dX9_get_32 ?_
          exact prI (post := fun r L1 f1 => (True) ∧ L1 = L ∧ f1 = f) S Y rfl (by decide) (by decide) hA1 ⟨trivial, rfl, rfl⟩ dX9_get_33
        · have B_4254 : bn 3 2147483647 i2 := bn_w (bn_gel c_4252 B_4251 (show bn 3 3 (3 : Int32) from bn_k (by decide))) (by decide)
          refine lv_iconst (v := (-1)) hx hb dX9_get_21 (by decide) ?_
          exact prI (post := fun r L1 f1 => (True) ∧ L1 = L ∧ f1 = f) S Y rfl (by decide) (by decide) hA1 ⟨trivial, rfl, rfl⟩ dX9_get_22
set_option maxHeartbeats 4000000 in
set_option maxRecDepth 100000 in
theorem x_X9_forget {l : Launch} {G : GG}  {L : List Nat} {f : HF} {ad : Nat → Nat → Nat} {rs : FS} {fc : Int × Int} {tc w : Nat → Int × Int} {q : Nat → (Nat → Int32) → Prop} {j : Nat} (I : SH (spC rs fc tc w q) nnC G ad L f) (hW : WBp w 8) (hT : WBp tc 4) (hQ : QIp q) (hj : j < 10) (hz : (w j).1 ≤ 0 ∧ 8 ≤ (w j).2) (hq : ∀ g, q j g) : PMi l yX9_forget cX9_forget 1 .int 0 0 0 G [.ref (ad 20 j)] L f (fun r L1 f1 => bn 0 0 r ∧ SH (spC rs fc tc w q) nnC G ad L1 f1) := by
  refine PMi.of (post := fun r L1 f1 => bn 0 0 r ∧ SH (spC rs fc tc w q) nnC G ad L1 f1) (own := RX9) (by decide) rfl (Nat.le_of_ble_eq_true rfl) (fun sz p e s m args below meth c A ls hA1 hname S Y hl => ?_)
  have hx := S.hx
  have hb := S.hb
  have hl : lv_has ls 1 [(0, .ref (ad 20 j))] := hl
  refine lv_aload_n hx hb dX9_forget_0 rfl (lv_at hl 0 rfl) ?_
  refine lv_iconst (v := 0) hx hb dX9_forget_1 (by decide) ?_
  obtain ⟨v_4270, v_4272, p_ad_20_j, b_4271, b_4273⟩ := opnC_20 (j := j) I hj
  have p_ad_20_j : pt L f (ad 20 j) (.inr (9, [.ref (ad 21 j), .int v_4270, .int v_4272])) := p_ad_20_j
  refine pg_put S Y ok_X9 2 (by decide) kf9_25 rfl (fs' := [.ref (ad 21 j), .int v_4270, .int 0]) (v := .int 0) p_ad_20_j rfl rfl rfl (Nat.le_of_ble_eq_true rfl) dX9_forget_2 (fun f_4274 H locs ef_4274 Y => ?_)
  have p_ad_20_j := p_ad_20_j.me ef_4274
  have I := I.up (k := 20) (j := j) hj ef_4274 (okE_o (okFs_c okV_r (okFs_c (okV_p b_4271) (okFs_c (okV_p (bn_w (show bn 0 0 (0 : Int32) from bn_k (by decide)) ⟨Int.le_trans hz.1 (by decide), Int.le_trans (by decide) hz.2⟩)) okFs_n))))
  refine lv_iconst (v := 0) hx hb dX9_forget_5 (by decide) ?_
  exact prI (post := fun r L1 f1 => bn 0 0 r ∧ SH (spC rs fc tc w q) nnC G ad L1 f1) S Y rfl (by decide) (by decide) hA1 ⟨bn_w (show bn 0 0 (0 : Int32) from bn_k (by decide)) (by decide), I⟩ dX9_forget_6
set_option maxHeartbeats 4000000 in
set_option maxRecDepth 100000 in
theorem x_X9_tell {l : Launch} {G : GG}  {L : List Nat} {f : HF} {ad : Nat → Nat → Nat} {rs : FS} {fc : Int × Int} {tc w : Nat → Int × Int} {q : Nat → (Nat → Int32) → Prop} {j : Nat} {i1 i2 i3 : Int32} (I : SH (spC rs fc tc w q) nnC G ad L f) (hW : WBp w 8) (hT : WBp tc 4) (hQ : QIp q) (hj : j < 10) (hz : (w j).1 ≤ 0 ∧ 8 ≤ (w j).2) (hq : ∀ g, q j g) : PMi l yX9_tell cX9_tell 5 .int 0 0 0 G [.ref (ad 20 j), .int i1, .int i2, .int i3] L f (fun r L1 f1 => SH (spC rs fc tc w q) nnC G ad L1 f1) := by
  refine PMi.of (post := fun r L1 f1 => SH (spC rs fc tc w q) nnC G ad L1 f1) (own := RX9) (by decide) rfl (Nat.le_of_ble_eq_true rfl) (fun sz p e s m args below meth c A ls hA1 hname S Y hl => ?_)
  have hx := S.hx
  have hb := S.hb
  have hl : lv_has ls 5 [(0, .ref (ad 20 j)), (1, .int i1), (2, .int i2), (3, .int i3)] := hl
  refine lv_aload_n hx hb dX9_tell_0 rfl (lv_at hl 0 rfl) ?_
  obtain ⟨v_4315, v_4317, p_ad_20_j, b_4316, b_4318⟩ := opnC_20 (j := j) I hj
  have p_ad_20_j : pt L f (ad 20 j) (.inr (9, [.ref (ad 21 j), .int v_4315, .int v_4317])) := p_ad_20_j
  refine pg_get S Y ok_X9 2 (by decide) kf9_25 (v := .int v_4317) p_ad_20_j rfl dX9_tell_1 ?_
  refine lv_aload_n hx hb dX9_tell_4 rfl (lv_at hl 0 rfl) ?_
  refine pg_get S Y ok_X9 1 (by decide) kf9_21 (v := .int v_4315) p_ad_20_j rfl dX9_tell_5 ?_
  refine lv_icmp_lt (tgt := 14) hx hb dX9_tell_8 (by decide) (fun c_4319 => ?_) (fun c_4319 => ?_)
  · have B_4320 : bn 0 7 v_4317 := bn_w (bn_ltl c_4319 (bn_w (a' := 0) (b' := 8) b_4318 (hW j)) (bn_w (a' := 0) (b' := 8) b_4316 (lmt_b j))) (by decide)
    have B_4321 : bn 1 8 v_4315 := bn_w (bn_ltr c_4319 (bn_w (a' := 0) (b' := 8) b_4318 (hW j)) (bn_w (a' := 0) (b' := 8) b_4316 (lmt_b j))) (by decide)
    refine lv_aload_n hx hb dX9_tell_14 rfl (lv_at hl 0 rfl) ?_
    refine pg_get S Y ok_X9 2 (by decide) kf9_25 (v := .int v_4317) p_ad_20_j rfl dX9_tell_15 ?_
    refine lv_iconst (v := 3) hx hb dX9_tell_18 (by decide) ?_
    refine lv_imul hx hb dX9_tell_19 ?_
    refine lv_topi (fun x_4322 ex_4322 => ?_)
    refine lv_istore (lv' := [(4, .int x_4322), (0, .ref (ad 20 j)), (1, .int i1), (2, .int i2), (3, .int i3)]) hx hb dX9_tell_20 hl (by decide) rfl (fun ls hl => ?_)
    refine lv_aload_n hx hb dX9_tell_22 rfl (lv_at hl 1 rfl) ?_
    refine pg_get S Y ok_X9 0 (by decide) kf9_9 (v := .ref (ad 21 j)) p_ad_20_j rfl dX9_tell_23 ?_
    refine lv_iload hx hb dX9_tell_26 (lv_at hl 0 rfl) ?_
    refine lv_iload_n hx hb dX9_tell_28 rfl (lv_at hl 2 rfl) ?_
    obtain ⟨g_4323, p_ad_21_j, o_4324⟩ := I.opi (k := 21) (j := j) hj rfl
    have p_ad_21_j : pt L f (ad 21 j) (.inl (G.2 0, 24, .inl g_4323)) := p_ad_21_j
    refine pg_iast S Y p_ad_21_j (vp_bn (bn_eq ex_4322 (bn_mul B_4320 (show bn 3 3 (3 : Int32) from bn_k (by decide)) (by decide))) (by decide)) dX9_tell_29 (fun f_4326 H locs ef_4326 Y => ?_)
    obtain ⟨g_4325, eg_4325⟩ : ∃ z, z = upd (g_4323) (x_4322 : Int32).toNatClampNeg i1 := ⟨_, rfl⟩
    rw [← eg_4325] at ef_4326
    have p_ad_20_j := p_ad_20_j.up ef_4326 (I.ne (k := 20) (j := j) (k' := 21) (j' := j) hj hj (Or.inl (by decide)))
    have p_ad_21_j := p_ad_21_j.me ef_4326
    have I := I.up (k := 21) (j := j) hj ef_4326 (okE_a (g := g_4325) (hq g_4325))
    refine lv_aload_n hx hb dX9_tell_30 rfl (lv_at hl 1 rfl) ?_
    refine pg_get S Y ok_X9 0 (by decide) kf9_9 (v := .ref (ad 21 j)) p_ad_20_j rfl dX9_tell_31 ?_
    refine lv_iload hx hb dX9_tell_34 (lv_at hl 0 rfl) ?_
    refine lv_iconst (v := 1) hx hb dX9_tell_36 (by decide) ?_
    refine lv_iadd hx hb dX9_tell_37 ?_
    refine lv_topi (fun x_4327 ex_4327 => ?_)
    refine lv_iload_n hx hb dX9_tell_38 rfl (lv_at hl 3 rfl) ?_
    refine pg_iast S Y p_ad_21_j (vp_bn (bn_eq ex_4327 (bn_add (bn_eq ex_4322 (bn_mul B_4320 (show bn 3 3 (3 : Int32) from bn_k (by decide)) (by decide))) (show bn 1 1 (1 : Int32) from bn_k (by decide)) (by decide))) (by decide)) dX9_tell_39 (fun f_4329 H locs ef_4329 Y => ?_)
    obtain ⟨g_4328, eg_4328⟩ : ∃ z, z = upd (g_4325) (x_4327 : Int32).toNatClampNeg i2 := ⟨_, rfl⟩
    rw [← eg_4328] at ef_4329
    have p_ad_20_j := p_ad_20_j.up ef_4329 (I.ne (k := 20) (j := j) (k' := 21) (j' := j) hj hj (Or.inl (by decide)))
    have p_ad_21_j := p_ad_21_j.me ef_4329
    have I := I.up (k := 21) (j := j) hj ef_4329 (okE_a (g := g_4328) (hq g_4328))
    refine lv_aload_n hx hb dX9_tell_40 rfl (lv_at hl 1 rfl) ?_
    refine pg_get S Y ok_X9 0 (by decide) kf9_9 (v := .ref (ad 21 j)) p_ad_20_j rfl dX9_tell_41 ?_
    refine lv_iload hx hb dX9_tell_44 (lv_at hl 0 rfl) ?_
    refine lv_iconst (v := 2) hx hb dX9_tell_46 (by decide) ?_
    refine lv_iadd hx hb dX9_tell_47 ?_
    refine lv_topi (fun x_4330 ex_4330 => ?_)
    refine lv_iload_n hx hb dX9_tell_48 rfl (lv_at hl 4 rfl) ?_
    refine pg_iast S Y p_ad_21_j (vp_bn (bn_eq ex_4330 (bn_add (bn_eq ex_4322 (bn_mul B_4320 (show bn 3 3 (3 : Int32) from bn_k (by decide)) (by decide))) (show bn 2 2 (2 : Int32) from bn_k (by decide)) (by decide))) (by decide)) dX9_tell_49 (fun f_4332 H locs ef_4332 Y => ?_)
    obtain ⟨g_4331, eg_4331⟩ : ∃ z, z = upd (g_4328) (x_4330 : Int32).toNatClampNeg i3 := ⟨_, rfl⟩
    rw [← eg_4331] at ef_4332
    have p_ad_20_j := p_ad_20_j.up ef_4332 (I.ne (k := 20) (j := j) (k' := 21) (j' := j) hj hj (Or.inl (by decide)))
    have p_ad_21_j := p_ad_21_j.me ef_4332
    have I := I.up (k := 21) (j := j) hj ef_4332 (okE_a (g := g_4331) (hq g_4331))
    refine lv_aload_n hx hb dX9_tell_50 rfl (lv_at hl 1 rfl) ?_
    refine lv_dup hx hb dX9_tell_51 rfl ?_
    refine pg_get S Y ok_X9 2 (by decide) kf9_25 (v := .int v_4317) p_ad_20_j rfl dX9_tell_52 ?_
    refine lv_iconst (v := 1) hx hb dX9_tell_55 (by decide) ?_
    refine lv_iadd hx hb dX9_tell_56 ?_
    refine lv_topi (fun x_4333 ex_4333 => ?_)
    refine pg_put S Y ok_X9 2 (by decide) kf9_25 rfl (fs' := [.ref (ad 21 j), .int v_4315, .int x_4333]) (v := .int x_4333) p_ad_20_j rfl rfl rfl (Nat.le_of_ble_eq_true rfl) dX9_tell_57 (fun f_4334 H locs ef_4334 Y => ?_)
    have p_ad_21_j := p_ad_21_j.up ef_4334 (I.ne (k := 21) (j := j) (k' := 20) (j' := j) hj hj (Or.inl (by decide)))
    have p_ad_20_j := p_ad_20_j.me ef_4334
    have I := I.up (k := 20) (j := j) hj ef_4334 (okE_o (okFs_c okV_r (okFs_c (okV_p b_4316) (okFs_c (okV_p (bn_w (bn_eq ex_4333 (bn_add B_4320 (show bn 1 1 (1 : Int32) from bn_k (by decide)) (by decide))) ⟨Int.le_trans hz.1 (by decide), Int.le_trans (by decide) hz.2⟩)) okFs_n))))
    refine lv_aload_n hx hb dX9_tell_60 rfl (lv_at hl 1 rfl) ?_
    refine pg_get S Y ok_X9 2 (by decide) kf9_25 (v := .int x_4333) p_ad_20_j rfl dX9_tell_61 ?_
    exact prI (post := fun r L1 f1 => SH (spC rs fc tc w q) nnC G ad L1 f1) S Y rfl (by decide) (by decide) hA1 I dX9_tell_64
  · refine lv_bipush (v := (-2)) hx hb dX9_tell_11 (by decide) ?_
    exact prI (post := fun r L1 f1 => SH (spC rs fc tc w q) nnC G ad L1 f1) S Y rfl (by decide) (by decide) hA1 I dX9_tell_13
theorem va_cpy24 {g1 g2 : Nat → Int32} {k n : Nat} (hk : k < n) : va_cpy g1 g2 (0 : Int32).toNatClampNeg (0 : Int32).toNatClampNeg n k = g1 k := by
  unfold va_cpy
  rw [show (0 : Int32).toNatClampNeg = 0 from rfl, if_pos ⟨Nat.zero_le _, by omega⟩]
  congr 1; omega
theorem QI_stf {q : Nat → (Nat → Int32) → Prop} {i j : Nat} (hQ : QIp q) : QIp (stf q j (q i)) := by
  intro j2 g g2 h
  by_cases z : j2 = j
  · subst z; rw [stf_s]; exact hQ i g g2 h
  · rw [stf_n z]; exact hQ j2 g g2 h
theorem WI_stf {w : Nat → Int × Int} {i j : Nat} {c : Int} (hW : WBp w c) : WBp (stf w j (w i)) c := by
  intro k
  by_cases z : k = j
  · subst z; rw [stf_s]; exact hW i
  · rw [stf_n z]; exact hW k
set_option maxHeartbeats 4000000 in
set_option maxRecDepth 100000 in
theorem x_X9_takeOver {l : Launch} {G : GG}  {L : List Nat} {f : HF} {ad : Nat → Nat → Nat} {rs : FS} {fc : Int × Int} {tc w : Nat → Int × Int} {q : Nat → (Nat → Int32) → Prop} {j i : Nat} (I : SH (spC rs fc tc w q) nnC G ad L f) (hW : WBp w 8) (hT : WBp tc 4) (hQ : QIp q) (hj : j < 10) (hi : i < 10) (hne : j ≠ i) : PMv l yX9_takeOver cX9_takeOver 2 1 0 0 G [.ref (ad 20 j), .ref (ad 20 i)] L f (fun L1 f1 => ∃ w2 : Nat → Int × Int, ∃ q2 : Nat → (Nat → Int32) → Prop, SH (spC rs fc tc w2 q2) nnC G ad L1 f1 ∧ w2 j = w i ∧ (∀ k, k ≠ j → w2 k = w k) ∧ q2 j = q i ∧ (∀ k, k ≠ j → q2 k = q k) ∧ WBp w2 8 ∧ (QIp q2)) := by
  refine PMv.of (post := fun L1 f1 => ∃ w2 : Nat → Int × Int, ∃ q2 : Nat → (Nat → Int32) → Prop, SH (spC rs fc tc w2 q2) nnC G ad L1 f1 ∧ w2 j = w i ∧ (∀ k, k ≠ j → w2 k = w k) ∧ q2 j = q i ∧ (∀ k, k ≠ j → q2 k = q k) ∧ WBp w2 8 ∧ (QIp q2)) (own := RX9) (by decide) rfl (Nat.le_of_ble_eq_true rfl) (fun sz p e s m args below meth c A ls hA1 hname S Y hl => ?_)
  have hx := S.hx
  have hb := S.hb
  have hl : lv_has ls 2 [(0, .ref (ad 20 j)), (1, .ref (ad 20 i))] := hl
  refine lv_aload_n hx hb dX9_takeOver_0 rfl (lv_at hl 1 rfl) ?_
  obtain ⟨v_4365, v_4367, p_ad_20_i, b_4366, b_4368⟩ := opnC_20 (j := i) I hi
  have p_ad_20_i : pt L f (ad 20 i) (.inr (9, [.ref (ad 21 i), .int v_4365, .int v_4367])) := p_ad_20_i
  refine pg_get S Y ok_X9 0 (by decide) kf9_9 (v := .ref (ad 21 i)) p_ad_20_i rfl dX9_takeOver_1 ?_
  refine lv_iconst (v := 0) hx hb dX9_takeOver_4 (by decide) ?_
  refine lv_aload_n hx hb dX9_takeOver_5 rfl (lv_at hl 0 rfl) ?_
  obtain ⟨v_4369, v_4371, p_ad_20_j, b_4370, b_4372⟩ := opnC_20 (j := j) I hj
  have p_ad_20_j : pt L f (ad 20 j) (.inr (9, [.ref (ad 21 j), .int v_4369, .int v_4371])) := p_ad_20_j
  refine pg_get S Y ok_X9 0 (by decide) kf9_9 (v := .ref (ad 21 j)) p_ad_20_j rfl dX9_takeOver_6 ?_
  refine lv_iconst (v := 0) hx hb dX9_takeOver_9 (by decide) ?_
  refine lv_aload_n hx hb dX9_takeOver_10 rfl (lv_at hl 0 rfl) ?_
  refine pg_get S Y ok_X9 0 (by decide) kf9_9 (v := .ref (ad 21 j)) p_ad_20_j rfl dX9_takeOver_11 ?_
  obtain ⟨g_4373, p_ad_21_j, o_4374⟩ := I.opi (k := 21) (j := j) hj rfl
  have p_ad_21_j : pt L f (ad 21 j) (.inl (G.2 0, 24, .inl g_4373)) := p_ad_21_j
  refine pg_alen S Y (k := 0) (v := 24) p_ad_21_j rfl rfl dX9_takeOver_14 ?_
  obtain ⟨g_4375, p_ad_21_i, o_4376⟩ := I.opi (k := 21) (j := i) hi rfl
  have p_ad_21_i : pt L f (ad 21 i) (.inl (G.2 0, 24, .inl g_4375)) := p_ad_21_i
  refine pg_copyi S Y hl.1 km9_28 kAn kAs kAi p_ad_21_i p_ad_21_j (by decide) (by decide) (by decide) (by decide) (by decide) (Nat.le_of_ble_eq_true rfl) (Nat.le_of_ble_eq_true rfl) dX9_takeOver_15 (fun f_4378 H locs ef_4378 Y => ?_)
  obtain ⟨g_4377, eg_4377⟩ : ∃ z, z = va_cpy (g_4375) (g_4373) (0 : Int32).toNatClampNeg (0 : Int32).toNatClampNeg (24 : Int32).toNatClampNeg := ⟨_, rfl⟩
  rw [← eg_4377] at ef_4378
  have p_ad_20_i := p_ad_20_i.up ef_4378 (I.ne (k := 20) (j := i) (k' := 21) (j' := j) hi hj (Or.inl (by decide)))
  have p_ad_20_j := p_ad_20_j.up ef_4378 (I.ne (k := 20) (j := j) (k' := 21) (j' := j) hj hj (Or.inl (by decide)))
  have p_ad_21_i := p_ad_21_i.up ef_4378 (I.ne (k := 21) (j := i) (k' := 21) (j' := j) hi hj (Or.inr (Ne.symm hne)))
  have p_ad_21_j := p_ad_21_j.me ef_4378
  have I := I.upS (sp' := spC rs fc tc w (stf q j (q i))) (k := 21) (j := j) hj ef_4378 (okE_a (P := stf q j (q i) j) (g := g_4377) (by rw [stf_s]; exact hQ _ _ _ (fun k hk => by rw [eg_4377]; exact (va_cpy24 hk).symm) o_4376)) qC
  refine lv_aload_n hx hb dX9_takeOver_18 rfl (lv_at hl 0 rfl) ?_
  refine lv_aload_n hx hb dX9_takeOver_19 rfl (lv_at hl 1 rfl) ?_
  refine pg_get S Y ok_X9 2 (by decide) kf9_25 (v := .int v_4367) p_ad_20_i rfl dX9_takeOver_20 ?_
  refine pg_put S Y ok_X9 2 (by decide) kf9_25 rfl (fs' := [.ref (ad 21 j), .int v_4369, .int v_4367]) (v := .int v_4367) p_ad_20_j rfl rfl rfl (Nat.le_of_ble_eq_true rfl) dX9_takeOver_23 (fun f_4379 H locs ef_4379 Y => ?_)
  have p_ad_20_i := p_ad_20_i.up ef_4379 (I.ne (k := 20) (j := i) (k' := 20) (j' := j) hi hj (Or.inr (Ne.symm hne)))
  have p_ad_21_j := p_ad_21_j.up ef_4379 (I.ne (k := 21) (j := j) (k' := 20) (j' := j) hj hj (Or.inl (by decide)))
  have p_ad_21_i := p_ad_21_i.up ef_4379 (I.ne (k := 21) (j := i) (k' := 20) (j' := j) hi hj (Or.inl (by decide)))
  have p_ad_20_j := p_ad_20_j.me ef_4379
  have I := I.upS (sp' := spC rs fc tc (stf w j (w i)) (stf q j (q i))) (k := 20) (j := j) hj ef_4379 (okE_o (okFs_c okV_r (okFs_c (okV_p b_4370) (okFs_c (okV_p (q := stf w j (w i) j) (by rw [stf_s]; exact b_4368)) okFs_n)))) wC
  exact prV (post := fun L1 f1 => ∃ w2 : Nat → Int × Int, ∃ q2 : Nat → (Nat → Int32) → Prop, SH (spC rs fc tc w2 q2) nnC G ad L1 f1 ∧ w2 j = w i ∧ (∀ k, k ≠ j → w2 k = w k) ∧ q2 j = q i ∧ (∀ k, k ≠ j → q2 k = q k) ∧ WBp w2 8 ∧ (QIp q2)) S Y (by decide) (by decide) hA1 ⟨stf w j (w i), stf q j (q i), I, stf_s, fun k h => stf_n h, stf_s, fun k h => stf_n h, WI_stf hW, QI_stf hQ⟩ dX9_takeOver_26
set_option maxHeartbeats 4000000 in
set_option maxRecDepth 100000 in
theorem x_X7_clear {l : Launch} {G : GG}  {L : List Nat} {f : HF} {ad : Nat → Nat → Nat} {rs : FS} {fc : Int × Int} {tc w : Nat → Int × Int} {q : Nat → (Nat → Int32) → Prop} {j : Nat} (I : SH (spC rs fc tc w q) nnC G ad L f) (hW : WBp w 8) (hT : WBp tc 4) (hQ : QIp q) (hj : j < 8) : PMv l yX7_clear cX7_clear 2 0 0 0 G [.ref (ad 30 j)] L f (fun L1 f1 => SH (spC rs fc tc w q) nnC G ad L1 f1) := by
  refine PMv.of (post := fun L1 f1 => SH (spC rs fc tc w q) nnC G ad L1 f1) (own := RX7) (by decide) rfl (Nat.le_of_ble_eq_true rfl) (fun sz p e s m args below meth c A ls hA1 hname S Y hl => ?_)
  have hx := S.hx
  have hb := S.hb
  have hl : lv_has ls 2 [(0, .ref (ad 30 j))] := hl
  have J_12 : ∀ (n12 : Nat) (y12_1 : Int32) (L_12 : List Nat) (f_12 : HF) (H : Heap) (locs : List Loc) (ls : Array Slot), (SH (spC rs fc tc w q) nnC G ad L_12 f_12) → (bn 0 3 y12_1) → (((3 : Int) - y12_1.toInt).toNat = n12) → (DY G A s [] L_12 f_12 H locs) → (lv_has ls 2 [(0, .ref (ad 30 j)), (1, .int y12_1)]) → W p l e (rmD 0 0 0) s m args below meth c H locs (0) (0) (MQ below (va_Qv (fun (u : List Nat × HF) => (fun L1 f1 => SH (spC rs fc tc w q) nnC G ad L1 f1) u.1 u.2) (fun u t => pOut G (va_A (va_pl L f) sz) u.1 u.2 t) (va_A (va_pl L f) sz)) args s 0 0 A) (F0 m 12 ls []) := by
    intro n12
    induction n12 using Nat.strongRecOn with
    | _ n12 ih12 =>
      intro y12_1 L_12 f_12 H locs ls I b_y12_1 hm12 Y hl
      refine lv_iload_n hx hb dX7_clear_12 rfl (lv_at hl 1 rfl) ?_
      refine lv_iconst (v := 3) hx hb dX7_clear_13 (by decide) ?_
      refine lv_icmp_ge (tgt := 37) hx hb dX7_clear_14 (by decide) (fun c_4463 => ?_) (fun c_4463 => ?_)
      · have B_4464 : bn 3 3 y12_1 := bn_w (bn_ler c_4463 (show bn 3 3 (3 : Int32) from bn_k (by decide)) b_y12_1) (by decide)
        exact prV (post := fun L1 f1 => SH (spC rs fc tc w q) nnC G ad L1 f1) S Y (by decide) (by decide) hA1 I dX7_clear_37
      · have B_4465 : bn 0 2 y12_1 := bn_w (bn_gtr c_4463 (show bn 3 3 (3 : Int32) from bn_k (by decide)) b_y12_1) (by decide)
        refine lv_aload_n hx hb dX7_clear_17 rfl (lv_at hl 0 rfl) ?_
        obtain ⟨v_4466, v_4468, p_ad_30_j, b_4467, b_4469⟩ := opnC_30 (j := j) I hj
        have p_ad_30_j : pt L_12 f_12 (ad 30 j) (.inr (7, [.ref (ad 31 j), .ref (ad 32 j), .ref (ad 33 j), .ref (ad 34 j), .ref (ad 35 j), .int v_4466, .int v_4468])) := p_ad_30_j
        refine pg_get S Y ok_X7 2 (by decide) kf7_18 (v := .ref (ad 33 j)) p_ad_30_j rfl dX7_clear_18 ?_
        refine lv_iload_n hx hb dX7_clear_21 rfl (lv_at hl 1 rfl) ?_
        refine lv_iconst (v := 0) hx hb dX7_clear_22 (by decide) ?_
        obtain ⟨g_4470, p_ad_33_j, o_4471⟩ := I.opi (k := 33) (j := j) hj rfl
        have p_ad_33_j : pt L_12 f_12 (ad 33 j) (.inl (G.2 0, 3, .inl g_4470)) := p_ad_33_j
        refine pg_iast S Y p_ad_33_j (vp_bn B_4465 (by decide)) dX7_clear_23 (fun f_4473 H locs ef_4473 Y => ?_)
        obtain ⟨g_4472, eg_4472⟩ : ∃ z, z = upd (g_4470) (y12_1 : Int32).toNatClampNeg 0 := ⟨_, rfl⟩
        rw [← eg_4472] at ef_4473
        have p_ad_30_j := p_ad_30_j.up ef_4473 (I.ne (k := 30) (j := j) (k' := 33) (j' := j) hj hj (Or.inl (by decide)))
        have p_ad_33_j := p_ad_33_j.me ef_4473
        have I := I.up (k := 33) (j := j) hj ef_4473 (okE_a (g := g_4472) trivial)
        refine lv_aload_n hx hb dX7_clear_24 rfl (lv_at hl 0 rfl) ?_
        refine pg_get S Y ok_X7 3 (by decide) kf7_21 (v := .ref (ad 34 j)) p_ad_30_j rfl dX7_clear_25 ?_
        refine lv_iload_n hx hb dX7_clear_28 rfl (lv_at hl 1 rfl) ?_
        refine lv_iconst (v := 0) hx hb dX7_clear_29 (by decide) ?_
        obtain ⟨g_4474, p_ad_34_j, o_4475⟩ := I.opi (k := 34) (j := j) hj rfl
        have p_ad_34_j : pt L_12 f_4473 (ad 34 j) (.inl (G.2 0, 3, .inl g_4474)) := p_ad_34_j
        refine pg_iast S Y p_ad_34_j (vp_bn B_4465 (by decide)) dX7_clear_30 (fun f_4477 H locs ef_4477 Y => ?_)
        obtain ⟨g_4476, eg_4476⟩ : ∃ z, z = upd (g_4474) (y12_1 : Int32).toNatClampNeg 0 := ⟨_, rfl⟩
        rw [← eg_4476] at ef_4477
        have p_ad_30_j := p_ad_30_j.up ef_4477 (I.ne (k := 30) (j := j) (k' := 34) (j' := j) hj hj (Or.inl (by decide)))
        have p_ad_33_j := p_ad_33_j.up ef_4477 (I.ne (k := 33) (j := j) (k' := 34) (j' := j) hj hj (Or.inl (by decide)))
        have p_ad_34_j := p_ad_34_j.me ef_4477
        have I := I.up (k := 34) (j := j) hj ef_4477 (okE_a (g := g_4476) trivial)
        obtain ⟨x_4478, ex_4478⟩ : ∃ z : Int32, z = y12_1 + 1 := ⟨_, rfl⟩
        refine lv_iinc (v := x_4478) (lv' := [(1, .int x_4478), (0, .ref (ad 30 j))]) hx hb dX7_clear_31 hl (k := 1) rfl (by rw [ex_4478]; rfl) (by decide) rfl (fun ls hl => ?_)
        refine lv_goto (tgt := 12) hx hb dX7_clear_34 (by decide) ?_
        exact ih12 _ (by rw [← hm12]; exact ms_up (m := 1) ex_4478 (show bn 1 1 (1 : Int32) from bn_k (by decide)) B_4465 (bn_w (bn_eq ex_4478 (bn_add B_4465 (show bn 1 1 (1 : Int32) from bn_k (by decide)) (by decide))) (by decide) : bn 0 3 x_4478) (by decide)) x_4478 _ _  _ _ _ I (bn_w (bn_eq ex_4478 (bn_add B_4465 (show bn 1 1 (1 : Int32) from bn_k (by decide)) (by decide))) (by decide)) rfl Y (lv_sub hl [1, 0] rfl)
  refine lv_aload_n hx hb dX7_clear_0 rfl (lv_at hl 0 rfl) ?_
  refine lv_iconst (v := 0) hx hb dX7_clear_1 (by decide) ?_
  obtain ⟨v_4479, v_4481, p_ad_30_j, b_4480, b_4482⟩ := opnC_30 (j := j) I hj
  have p_ad_30_j : pt L f (ad 30 j) (.inr (7, [.ref (ad 31 j), .ref (ad 32 j), .ref (ad 33 j), .ref (ad 34 j), .ref (ad 35 j), .int v_4479, .int v_4481])) := p_ad_30_j
  refine pg_put S Y ok_X7 5 (by decide) kf7_27 rfl (fs' := [.ref (ad 31 j), .ref (ad 32 j), .ref (ad 33 j), .ref (ad 34 j), .ref (ad 35 j), .int 0, .int v_4481]) (v := .int 0) p_ad_30_j rfl rfl rfl (Nat.le_of_ble_eq_true rfl) dX7_clear_2 (fun f_4483 H locs ef_4483 Y => ?_)
  have p_ad_30_j := p_ad_30_j.me ef_4483
  have I := I.up (k := 30) (j := j) hj ef_4483 (okE_o (okFs_c okV_r (okFs_c okV_r (okFs_c okV_r (okFs_c okV_r (okFs_c okV_r (okFs_c (okV_i (bn_w (show bn 0 0 (0 : Int32) from bn_k (by decide)) (by decide))) (okFs_c (okV_i b_4482) okFs_n))))))))
  refine lv_aload_n hx hb dX7_clear_5 rfl (lv_at hl 0 rfl) ?_
  refine lv_iconst (v := 0) hx hb dX7_clear_6 (by decide) ?_
  refine pg_put S Y ok_X7 6 (by decide) kf7_31 rfl (fs' := [.ref (ad 31 j), .ref (ad 32 j), .ref (ad 33 j), .ref (ad 34 j), .ref (ad 35 j), .int 0, .int 0]) (v := .int 0) p_ad_30_j rfl rfl rfl (Nat.le_of_ble_eq_true rfl) dX7_clear_7 (fun f_4484 H locs ef_4484 Y => ?_)
  have p_ad_30_j := p_ad_30_j.me ef_4484
  have I := I.up (k := 30) (j := j) hj ef_4484 (okE_o (okFs_c okV_r (okFs_c okV_r (okFs_c okV_r (okFs_c okV_r (okFs_c okV_r (okFs_c (okV_i (bn_w (show bn 0 0 (0 : Int32) from bn_k (by decide)) (by decide))) (okFs_c (okV_i (bn_w (show bn 0 0 (0 : Int32) from bn_k (by decide)) (by decide))) okFs_n))))))))
  refine lv_iconst (v := 0) hx hb dX7_clear_10 (by decide) ?_
  refine lv_istore_n (lv' := [(1, .int 0), (0, .ref (ad 30 j))]) hx hb dX7_clear_11 rfl hl (by decide) rfl (fun ls hl => ?_)
  exact J_12 _ 0 _ _  _ _ _ I (bn_w (show bn 0 0 (0 : Int32) from bn_k (by decide)) (by decide)) rfl Y (lv_sub hl [1, 0] rfl)
set_option maxHeartbeats 4000000 in
set_option maxRecDepth 100000 in
theorem x_X7_takeOver {l : Launch} {G : GG}  {L : List Nat} {f : HF} {ad : Nat → Nat → Nat} {rs : FS} {fc : Int × Int} {tc w : Nat → Int × Int} {q : Nat → (Nat → Int32) → Prop} {j i : Nat} (I : SH (spC rs fc tc w q) nnC G ad L f) (hW : WBp w 8) (hT : WBp tc 4) (hQ : QIp q) (hj : j < 8) (hi : i < 8) (hne : j ≠ i) : PMv l yX7_takeOver cX7_takeOver 2 1 0 0 G [.ref (ad 30 j), .ref (ad 30 i)] L f (fun L1 f1 => SH (spC rs fc tc w q) nnC G ad L1 f1) := by
  refine PMv.of (post := fun L1 f1 => SH (spC rs fc tc w q) nnC G ad L1 f1) (own := RX7) (by decide) rfl (Nat.le_of_ble_eq_true rfl) (fun sz p e s m args below meth c A ls hA1 hname S Y hl => ?_)
  have hx := S.hx
  have hb := S.hb
  have hl : lv_has ls 2 [(0, .ref (ad 30 j)), (1, .ref (ad 30 i))] := hl
  refine lv_aload_n hx hb dX7_takeOver_0 rfl (lv_at hl 1 rfl) ?_
  obtain ⟨v_4565, v_4567, p_ad_30_i, b_4566, b_4568⟩ := opnC_30 (j := i) I hi
  have p_ad_30_i : pt L f (ad 30 i) (.inr (7, [.ref (ad 31 i), .ref (ad 32 i), .ref (ad 33 i), .ref (ad 34 i), .ref (ad 35 i), .int v_4565, .int v_4567])) := p_ad_30_i
  refine pg_get S Y ok_X7 0 (by decide) kf7_9 (v := .ref (ad 31 i)) p_ad_30_i rfl dX7_takeOver_1 ?_
  refine lv_iconst (v := 0) hx hb dX7_takeOver_4 (by decide) ?_
  refine lv_aload_n hx hb dX7_takeOver_5 rfl (lv_at hl 0 rfl) ?_
  obtain ⟨v_4569, v_4571, p_ad_30_j, b_4570, b_4572⟩ := opnC_30 (j := j) I hj
  have p_ad_30_j : pt L f (ad 30 j) (.inr (7, [.ref (ad 31 j), .ref (ad 32 j), .ref (ad 33 j), .ref (ad 34 j), .ref (ad 35 j), .int v_4569, .int v_4571])) := p_ad_30_j
  refine pg_get S Y ok_X7 0 (by decide) kf7_9 (v := .ref (ad 31 j)) p_ad_30_j rfl dX7_takeOver_6 ?_
  refine lv_iconst (v := 0) hx hb dX7_takeOver_9 (by decide) ?_
  refine lv_aload_n hx hb dX7_takeOver_10 rfl (lv_at hl 0 rfl) ?_
  refine pg_get S Y ok_X7 0 (by decide) kf7_9 (v := .ref (ad 31 j)) p_ad_30_j rfl dX7_takeOver_11 ?_
  obtain ⟨g_4573, p_ad_31_j, o_4574⟩ := I.opi (k := 31) (j := j) hj rfl
  have p_ad_31_j : pt L f (ad 31 j) (.inl (G.2 0, 300, .inl g_4573)) := p_ad_31_j
  refine pg_alen S Y (k := 0) (v := 300) p_ad_31_j rfl rfl dX7_takeOver_14 ?_
  obtain ⟨g_4575, p_ad_31_i, o_4576⟩ := I.opi (k := 31) (j := i) hi rfl
  have p_ad_31_i : pt L f (ad 31 i) (.inl (G.2 0, 300, .inl g_4575)) := p_ad_31_i
  refine pg_copyi S Y hl.1 km7_34 kAn kAs kAi p_ad_31_i p_ad_31_j (by decide) (by decide) (by decide) (by decide) (by decide) (Nat.le_of_ble_eq_true rfl) (Nat.le_of_ble_eq_true rfl) dX7_takeOver_15 (fun f_4578 H locs ef_4578 Y => ?_)
  obtain ⟨g_4577, eg_4577⟩ : ∃ z, z = va_cpy (g_4575) (g_4573) (0 : Int32).toNatClampNeg (0 : Int32).toNatClampNeg (300 : Int32).toNatClampNeg := ⟨_, rfl⟩
  rw [← eg_4577] at ef_4578
  have p_ad_30_i := p_ad_30_i.up ef_4578 (I.ne (k := 30) (j := i) (k' := 31) (j' := j) hi hj (Or.inl (by decide)))
  have p_ad_30_j := p_ad_30_j.up ef_4578 (I.ne (k := 30) (j := j) (k' := 31) (j' := j) hj hj (Or.inl (by decide)))
  have p_ad_31_i := p_ad_31_i.up ef_4578 (I.ne (k := 31) (j := i) (k' := 31) (j' := j) hi hj (Or.inr (Ne.symm hne)))
  have p_ad_31_j := p_ad_31_j.me ef_4578
  have I := I.up (k := 31) (j := j) hj ef_4578 (okE_a (g := g_4577) trivial)
  refine lv_aload_n hx hb dX7_takeOver_18 rfl (lv_at hl 1 rfl) ?_
  refine pg_get S Y ok_X7 1 (by decide) kf7_15 (v := .ref (ad 32 i)) p_ad_30_i rfl dX7_takeOver_19 ?_
  refine lv_iconst (v := 0) hx hb dX7_takeOver_22 (by decide) ?_
  refine lv_aload_n hx hb dX7_takeOver_23 rfl (lv_at hl 0 rfl) ?_
  refine pg_get S Y ok_X7 1 (by decide) kf7_15 (v := .ref (ad 32 j)) p_ad_30_j rfl dX7_takeOver_24 ?_
  refine lv_iconst (v := 0) hx hb dX7_takeOver_27 (by decide) ?_
  refine lv_aload_n hx hb dX7_takeOver_28 rfl (lv_at hl 0 rfl) ?_
  refine pg_get S Y ok_X7 1 (by decide) kf7_15 (v := .ref (ad 32 j)) p_ad_30_j rfl dX7_takeOver_29 ?_
  obtain ⟨g_4579, p_ad_32_j, o_4580⟩ := I.opi (k := 32) (j := j) hj rfl
  have p_ad_32_j : pt L f_4578 (ad 32 j) (.inl (G.2 0, 300, .inl g_4579)) := p_ad_32_j
  refine pg_alen S Y (k := 0) (v := 300) p_ad_32_j rfl rfl dX7_takeOver_32 ?_
  obtain ⟨g_4581, p_ad_32_i, o_4582⟩ := I.opi (k := 32) (j := i) hi rfl
  have p_ad_32_i : pt L f_4578 (ad 32 i) (.inl (G.2 0, 300, .inl g_4581)) := p_ad_32_i
  refine pg_copyi S Y hl.1 km7_34 kAn kAs kAi p_ad_32_i p_ad_32_j (by decide) (by decide) (by decide) (by decide) (by decide) (Nat.le_of_ble_eq_true rfl) (Nat.le_of_ble_eq_true rfl) dX7_takeOver_33 (fun f_4584 H locs ef_4584 Y => ?_)
  obtain ⟨g_4583, eg_4583⟩ : ∃ z, z = va_cpy (g_4581) (g_4579) (0 : Int32).toNatClampNeg (0 : Int32).toNatClampNeg (300 : Int32).toNatClampNeg := ⟨_, rfl⟩
  rw [← eg_4583] at ef_4584
  have p_ad_30_i := p_ad_30_i.up ef_4584 (I.ne (k := 30) (j := i) (k' := 32) (j' := j) hi hj (Or.inl (by decide)))
  have p_ad_30_j := p_ad_30_j.up ef_4584 (I.ne (k := 30) (j := j) (k' := 32) (j' := j) hj hj (Or.inl (by decide)))
  have p_ad_31_j := p_ad_31_j.up ef_4584 (I.ne (k := 31) (j := j) (k' := 32) (j' := j) hj hj (Or.inl (by decide)))
  have p_ad_31_i := p_ad_31_i.up ef_4584 (I.ne (k := 31) (j := i) (k' := 32) (j' := j) hi hj (Or.inl (by decide)))
  have p_ad_32_i := p_ad_32_i.up ef_4584 (I.ne (k := 32) (j := i) (k' := 32) (j' := j) hi hj (Or.inr (Ne.symm hne)))
  have p_ad_32_j := p_ad_32_j.me ef_4584
  have I := I.up (k := 32) (j := j) hj ef_4584 (okE_a (g := g_4583) trivial)
  refine lv_aload_n hx hb dX7_takeOver_36 rfl (lv_at hl 1 rfl) ?_
  refine pg_get S Y ok_X7 2 (by decide) kf7_18 (v := .ref (ad 33 i)) p_ad_30_i rfl dX7_takeOver_37 ?_
  refine lv_iconst (v := 0) hx hb dX7_takeOver_40 (by decide) ?_
  refine lv_aload_n hx hb dX7_takeOver_41 rfl (lv_at hl 0 rfl) ?_
  refine pg_get S Y ok_X7 2 (by decide) kf7_18 (v := .ref (ad 33 j)) p_ad_30_j rfl dX7_takeOver_42 ?_
  refine lv_iconst (v := 0) hx hb dX7_takeOver_45 (by decide) ?_
  refine lv_aload_n hx hb dX7_takeOver_46 rfl (lv_at hl 0 rfl) ?_
  refine pg_get S Y ok_X7 2 (by decide) kf7_18 (v := .ref (ad 33 j)) p_ad_30_j rfl dX7_takeOver_47 ?_
  obtain ⟨g_4585, p_ad_33_j, o_4586⟩ := I.opi (k := 33) (j := j) hj rfl
  have p_ad_33_j : pt L f_4584 (ad 33 j) (.inl (G.2 0, 3, .inl g_4585)) := p_ad_33_j
  refine pg_alen S Y (k := 0) (v := 3) p_ad_33_j rfl rfl dX7_takeOver_50 ?_
  obtain ⟨g_4587, p_ad_33_i, o_4588⟩ := I.opi (k := 33) (j := i) hi rfl
  have p_ad_33_i : pt L f_4584 (ad 33 i) (.inl (G.2 0, 3, .inl g_4587)) := p_ad_33_i
  refine pg_copyi S Y hl.1 km7_34 kAn kAs kAi p_ad_33_i p_ad_33_j (by decide) (by decide) (by decide) (by decide) (by decide) (Nat.le_of_ble_eq_true rfl) (Nat.le_of_ble_eq_true rfl) dX7_takeOver_51 (fun f_4590 H locs ef_4590 Y => ?_)
  obtain ⟨g_4589, eg_4589⟩ : ∃ z, z = va_cpy (g_4587) (g_4585) (0 : Int32).toNatClampNeg (0 : Int32).toNatClampNeg (3 : Int32).toNatClampNeg := ⟨_, rfl⟩
  rw [← eg_4589] at ef_4590
  have p_ad_30_i := p_ad_30_i.up ef_4590 (I.ne (k := 30) (j := i) (k' := 33) (j' := j) hi hj (Or.inl (by decide)))
  have p_ad_30_j := p_ad_30_j.up ef_4590 (I.ne (k := 30) (j := j) (k' := 33) (j' := j) hj hj (Or.inl (by decide)))
  have p_ad_31_j := p_ad_31_j.up ef_4590 (I.ne (k := 31) (j := j) (k' := 33) (j' := j) hj hj (Or.inl (by decide)))
  have p_ad_31_i := p_ad_31_i.up ef_4590 (I.ne (k := 31) (j := i) (k' := 33) (j' := j) hi hj (Or.inl (by decide)))
  have p_ad_32_j := p_ad_32_j.up ef_4590 (I.ne (k := 32) (j := j) (k' := 33) (j' := j) hj hj (Or.inl (by decide)))
  have p_ad_32_i := p_ad_32_i.up ef_4590 (I.ne (k := 32) (j := i) (k' := 33) (j' := j) hi hj (Or.inl (by decide)))
  have p_ad_33_i := p_ad_33_i.up ef_4590 (I.ne (k := 33) (j := i) (k' := 33) (j' := j) hi hj (Or.inr (Ne.symm hne)))
  have p_ad_33_j := p_ad_33_j.me ef_4590
  have I := I.up (k := 33) (j := j) hj ef_4590 (okE_a (g := g_4589) trivial)
  refine lv_aload_n hx hb dX7_takeOver_54 rfl (lv_at hl 1 rfl) ?_
  refine pg_get S Y ok_X7 3 (by decide) kf7_21 (v := .ref (ad 34 i)) p_ad_30_i rfl dX7_takeOver_55 ?_
  refine lv_iconst (v := 0) hx hb dX7_takeOver_58 (by decide) ?_
  refine lv_aload_n hx hb dX7_takeOver_59 rfl (lv_at hl 0 rfl) ?_
  refine pg_get S Y ok_X7 3 (by decide) kf7_21 (v := .ref (ad 34 j)) p_ad_30_j rfl dX7_takeOver_60 ?_
  refine lv_iconst (v := 0) hx hb dX7_takeOver_63 (by decide) ?_
  refine lv_aload_n hx hb dX7_takeOver_64 rfl (lv_at hl 0 rfl) ?_
  refine pg_get S Y ok_X7 3 (by decide) kf7_21 (v := .ref (ad 34 j)) p_ad_30_j rfl dX7_takeOver_65 ?_
  obtain ⟨g_4591, p_ad_34_j, o_4592⟩ := I.opi (k := 34) (j := j) hj rfl
  have p_ad_34_j : pt L f_4590 (ad 34 j) (.inl (G.2 0, 3, .inl g_4591)) := p_ad_34_j
  refine pg_alen S Y (k := 0) (v := 3) p_ad_34_j rfl rfl dX7_takeOver_68 ?_
  obtain ⟨g_4593, p_ad_34_i, o_4594⟩ := I.opi (k := 34) (j := i) hi rfl
  have p_ad_34_i : pt L f_4590 (ad 34 i) (.inl (G.2 0, 3, .inl g_4593)) := p_ad_34_i
  refine pg_copyi S Y hl.1 km7_34 kAn kAs kAi p_ad_34_i p_ad_34_j (by decide) (by decide) (by decide) (by decide) (by decide) (Nat.le_of_ble_eq_true rfl) (Nat.le_of_ble_eq_true rfl) dX7_takeOver_69 (fun f_4596 H locs ef_4596 Y => ?_)
  obtain ⟨g_4595, eg_4595⟩ : ∃ z, z = va_cpy (g_4593) (g_4591) (0 : Int32).toNatClampNeg (0 : Int32).toNatClampNeg (3 : Int32).toNatClampNeg := ⟨_, rfl⟩
  rw [← eg_4595] at ef_4596
  have p_ad_30_i := p_ad_30_i.up ef_4596 (I.ne (k := 30) (j := i) (k' := 34) (j' := j) hi hj (Or.inl (by decide)))
  have p_ad_30_j := p_ad_30_j.up ef_4596 (I.ne (k := 30) (j := j) (k' := 34) (j' := j) hj hj (Or.inl (by decide)))
  have p_ad_31_j := p_ad_31_j.up ef_4596 (I.ne (k := 31) (j := j) (k' := 34) (j' := j) hj hj (Or.inl (by decide)))
  have p_ad_31_i := p_ad_31_i.up ef_4596 (I.ne (k := 31) (j := i) (k' := 34) (j' := j) hi hj (Or.inl (by decide)))
  have p_ad_32_j := p_ad_32_j.up ef_4596 (I.ne (k := 32) (j := j) (k' := 34) (j' := j) hj hj (Or.inl (by decide)))
  have p_ad_32_i := p_ad_32_i.up ef_4596 (I.ne (k := 32) (j := i) (k' := 34) (j' := j) hi hj (Or.inl (by decide)))
  have p_ad_33_j := p_ad_33_j.up ef_4596 (I.ne (k := 33) (j := j) (k' := 34) (j' := j) hj hj (Or.inl (by decide)))
  have p_ad_33_i := p_ad_33_i.up ef_4596 (I.ne (k := 33) (j := i) (k' := 34) (j' := j) hi hj (Or.inl (by decide)))
  have p_ad_34_i := p_ad_34_i.up ef_4596 (I.ne (k := 34) (j := i) (k' := 34) (j' := j) hi hj (Or.inr (Ne.symm hne)))
  have p_ad_34_j := p_ad_34_j.me ef_4596
  have I := I.up (k := 34) (j := j) hj ef_4596 (okE_a (g := g_4595) trivial)
  refine lv_aload_n hx hb dX7_takeOver_72 rfl (lv_at hl 1 rfl) ?_
  refine pg_get S Y ok_X7 4 (by decide) kf7_24 (v := .ref (ad 35 i)) p_ad_30_i rfl dX7_takeOver_73 ?_
  refine lv_iconst (v := 0) hx hb dX7_takeOver_76 (by decide) ?_
  refine lv_aload_n hx hb dX7_takeOver_77 rfl (lv_at hl 0 rfl) ?_
  refine pg_get S Y ok_X7 4 (by decide) kf7_24 (v := .ref (ad 35 j)) p_ad_30_j rfl dX7_takeOver_78 ?_
  refine lv_iconst (v := 0) hx hb dX7_takeOver_81 (by decide) ?_
  refine lv_aload_n hx hb dX7_takeOver_82 rfl (lv_at hl 0 rfl) ?_
  refine pg_get S Y ok_X7 4 (by decide) kf7_24 (v := .ref (ad 35 j)) p_ad_30_j rfl dX7_takeOver_83 ?_
  obtain ⟨g_4597, p_ad_35_j, o_4598⟩ := I.opi (k := 35) (j := j) hj rfl
  have p_ad_35_j : pt L f_4596 (ad 35 j) (.inl (G.2 0, 120, .inl g_4597)) := p_ad_35_j
  refine pg_alen S Y (k := 0) (v := 120) p_ad_35_j rfl rfl dX7_takeOver_86 ?_
  obtain ⟨g_4599, p_ad_35_i, o_4600⟩ := I.opi (k := 35) (j := i) hi rfl
  have p_ad_35_i : pt L f_4596 (ad 35 i) (.inl (G.2 0, 120, .inl g_4599)) := p_ad_35_i
  refine pg_copyi S Y hl.1 km7_34 kAn kAs kAi p_ad_35_i p_ad_35_j (by decide) (by decide) (by decide) (by decide) (by decide) (Nat.le_of_ble_eq_true rfl) (Nat.le_of_ble_eq_true rfl) dX7_takeOver_87 (fun f_4602 H locs ef_4602 Y => ?_)
  obtain ⟨g_4601, eg_4601⟩ : ∃ z, z = va_cpy (g_4599) (g_4597) (0 : Int32).toNatClampNeg (0 : Int32).toNatClampNeg (120 : Int32).toNatClampNeg := ⟨_, rfl⟩
  rw [← eg_4601] at ef_4602
  have p_ad_30_i := p_ad_30_i.up ef_4602 (I.ne (k := 30) (j := i) (k' := 35) (j' := j) hi hj (Or.inl (by decide)))
  have p_ad_30_j := p_ad_30_j.up ef_4602 (I.ne (k := 30) (j := j) (k' := 35) (j' := j) hj hj (Or.inl (by decide)))
  have p_ad_31_j := p_ad_31_j.up ef_4602 (I.ne (k := 31) (j := j) (k' := 35) (j' := j) hj hj (Or.inl (by decide)))
  have p_ad_31_i := p_ad_31_i.up ef_4602 (I.ne (k := 31) (j := i) (k' := 35) (j' := j) hi hj (Or.inl (by decide)))
  have p_ad_32_j := p_ad_32_j.up ef_4602 (I.ne (k := 32) (j := j) (k' := 35) (j' := j) hj hj (Or.inl (by decide)))
  have p_ad_32_i := p_ad_32_i.up ef_4602 (I.ne (k := 32) (j := i) (k' := 35) (j' := j) hi hj (Or.inl (by decide)))
  have p_ad_33_j := p_ad_33_j.up ef_4602 (I.ne (k := 33) (j := j) (k' := 35) (j' := j) hj hj (Or.inl (by decide)))
  have p_ad_33_i := p_ad_33_i.up ef_4602 (I.ne (k := 33) (j := i) (k' := 35) (j' := j) hi hj (Or.inl (by decide)))
  have p_ad_34_j := p_ad_34_j.up ef_4602 (I.ne (k := 34) (j := j) (k' := 35) (j' := j) hj hj (Or.inl (by decide)))
  have p_ad_34_i := p_ad_34_i.up ef_4602 (I.ne (k := 34) (j := i) (k' := 35) (j' := j) hi hj (Or.inl (by decide)))
  have p_ad_35_i := p_ad_35_i.up ef_4602 (I.ne (k := 35) (j := i) (k' := 35) (j' := j) hi hj (Or.inr (Ne.symm hne)))
  have p_ad_35_j := p_ad_35_j.me ef_4602
  have I := I.up (k := 35) (j := j) hj ef_4602 (okE_a (g := g_4601) trivial)
  refine lv_aload_n hx hb dX7_takeOver_90 rfl (lv_at hl 0 rfl) ?_
  refine lv_aload_n hx hb dX7_takeOver_91 rfl (lv_at hl 1 rfl) ?_
  refine pg_get S Y ok_X7 5 (by decide) kf7_27 (v := .int v_4565) p_ad_30_i rfl dX7_takeOver_92 ?_
  refine pg_put S Y ok_X7 5 (by decide) kf7_27 rfl (fs' := [.ref (ad 31 j), .ref (ad 32 j), .ref (ad 33 j), .ref (ad 34 j), .ref (ad 35 j), .int v_4565, .int v_4571]) (v := .int v_4565) p_ad_30_j rfl rfl rfl (Nat.le_of_ble_eq_true rfl) dX7_takeOver_95 (fun f_4603 H locs ef_4603 Y => ?_)
  have p_ad_30_i := p_ad_30_i.up ef_4603 (I.ne (k := 30) (j := i) (k' := 30) (j' := j) hi hj (Or.inr (Ne.symm hne)))
  have p_ad_31_j := p_ad_31_j.up ef_4603 (I.ne (k := 31) (j := j) (k' := 30) (j' := j) hj hj (Or.inl (by decide)))
  have p_ad_31_i := p_ad_31_i.up ef_4603 (I.ne (k := 31) (j := i) (k' := 30) (j' := j) hi hj (Or.inl (by decide)))
  have p_ad_32_j := p_ad_32_j.up ef_4603 (I.ne (k := 32) (j := j) (k' := 30) (j' := j) hj hj (Or.inl (by decide)))
  have p_ad_32_i := p_ad_32_i.up ef_4603 (I.ne (k := 32) (j := i) (k' := 30) (j' := j) hi hj (Or.inl (by decide)))
  have p_ad_33_j := p_ad_33_j.up ef_4603 (I.ne (k := 33) (j := j) (k' := 30) (j' := j) hj hj (Or.inl (by decide)))
  have p_ad_33_i := p_ad_33_i.up ef_4603 (I.ne (k := 33) (j := i) (k' := 30) (j' := j) hi hj (Or.inl (by decide)))
  have p_ad_34_j := p_ad_34_j.up ef_4603 (I.ne (k := 34) (j := j) (k' := 30) (j' := j) hj hj (Or.inl (by decide)))
  have p_ad_34_i := p_ad_34_i.up ef_4603 (I.ne (k := 34) (j := i) (k' := 30) (j' := j) hi hj (Or.inl (by decide)))
  have p_ad_35_j := p_ad_35_j.up ef_4603 (I.ne (k := 35) (j := j) (k' := 30) (j' := j) hj hj (Or.inl (by decide)))
  have p_ad_35_i := p_ad_35_i.up ef_4603 (I.ne (k := 35) (j := i) (k' := 30) (j' := j) hi hj (Or.inl (by decide)))
  have p_ad_30_j := p_ad_30_j.me ef_4603
  have I := I.up (k := 30) (j := j) hj ef_4603 (okE_o (okFs_c okV_r (okFs_c okV_r (okFs_c okV_r (okFs_c okV_r (okFs_c okV_r (okFs_c (okV_i (bn_w b_4566 (by decide))) (okFs_c (okV_i b_4572) okFs_n))))))))
  refine lv_aload_n hx hb dX7_takeOver_98 rfl (lv_at hl 0 rfl) ?_
  refine lv_aload_n hx hb dX7_takeOver_99 rfl (lv_at hl 1 rfl) ?_
  refine pg_get S Y ok_X7 6 (by decide) kf7_31 (v := .int v_4567) p_ad_30_i rfl dX7_takeOver_100 ?_
  refine pg_put S Y ok_X7 6 (by decide) kf7_31 rfl (fs' := [.ref (ad 31 j), .ref (ad 32 j), .ref (ad 33 j), .ref (ad 34 j), .ref (ad 35 j), .int v_4565, .int v_4567]) (v := .int v_4567) p_ad_30_j rfl rfl rfl (Nat.le_of_ble_eq_true rfl) dX7_takeOver_103 (fun f_4604 H locs ef_4604 Y => ?_)
  have p_ad_30_i := p_ad_30_i.up ef_4604 (I.ne (k := 30) (j := i) (k' := 30) (j' := j) hi hj (Or.inr (Ne.symm hne)))
  have p_ad_31_j := p_ad_31_j.up ef_4604 (I.ne (k := 31) (j := j) (k' := 30) (j' := j) hj hj (Or.inl (by decide)))
  have p_ad_31_i := p_ad_31_i.up ef_4604 (I.ne (k := 31) (j := i) (k' := 30) (j' := j) hi hj (Or.inl (by decide)))
  have p_ad_32_j := p_ad_32_j.up ef_4604 (I.ne (k := 32) (j := j) (k' := 30) (j' := j) hj hj (Or.inl (by decide)))
  have p_ad_32_i := p_ad_32_i.up ef_4604 (I.ne (k := 32) (j := i) (k' := 30) (j' := j) hi hj (Or.inl (by decide)))
  have p_ad_33_j := p_ad_33_j.up ef_4604 (I.ne (k := 33) (j := j) (k' := 30) (j' := j) hj hj (Or.inl (by decide)))
  have p_ad_33_i := p_ad_33_i.up ef_4604 (I.ne (k := 33) (j := i) (k' := 30) (j' := j) hi hj (Or.inl (by decide)))
  have p_ad_34_j := p_ad_34_j.up ef_4604 (I.ne (k := 34) (j := j) (k' := 30) (j' := j) hj hj (Or.inl (by decide)))
  have p_ad_34_i := p_ad_34_i.up ef_4604 (I.ne (k := 34) (j := i) (k' := 30) (j' := j) hi hj (Or.inl (by decide)))
  have p_ad_35_j := p_ad_35_j.up ef_4604 (I.ne (k := 35) (j := j) (k' := 30) (j' := j) hj hj (Or.inl (by decide)))
  have p_ad_35_i := p_ad_35_i.up ef_4604 (I.ne (k := 35) (j := i) (k' := 30) (j' := j) hi hj (Or.inl (by decide)))
  have p_ad_30_j := p_ad_30_j.me ef_4604
  have I := I.up (k := 30) (j := j) hj ef_4604 (okE_o (okFs_c okV_r (okFs_c okV_r (okFs_c okV_r (okFs_c okV_r (okFs_c okV_r (okFs_c (okV_i (bn_w b_4566 (by decide))) (okFs_c (okV_i (bn_w b_4568 (by decide))) okFs_n))))))))
  exact prV (post := fun L1 f1 => SH (spC rs fc tc w q) nnC G ad L1 f1) S Y (by decide) (by decide) hA1 I dX7_takeOver_106
set_option maxHeartbeats 4000000 in
set_option maxRecDepth 100000 in
theorem x_X7_add {l : Launch} {G : GG}  {L : List Nat} {f : HF} {ad : Nat → Nat → Nat} {rs : FS} {fc : Int × Int} {tc w : Nat → Int × Int} {q : Nat → (Nat → Int32) → Prop} {j : Nat} {i1 i2 : Int32} (I : SH (spC rs fc tc w q) nnC G ad L f) (hW : WBp w 8) (hT : WBp tc 4) (hQ : QIp q) (hj : j < 8) : PMi l yX7_add cX7_add 3 .int 0 0 0 G [.ref (ad 30 j), .int i1, .int i2] L f (fun r L1 f1 => SH (spC rs fc tc w q) nnC G ad L1 f1) := by
  refine PMi.of (post := fun r L1 f1 => SH (spC rs fc tc w q) nnC G ad L1 f1) (own := RX7) (by decide) rfl (Nat.le_of_ble_eq_true rfl) (fun sz p e s m args below meth c A ls hA1 hname S Y hl => ?_)
  have hx := S.hx
  have hb := S.hb
  have hl : lv_has ls 3 [(0, .ref (ad 30 j)), (1, .int i1), (2, .int i2)] := hl
  refine lv_aload_n hx hb dX7_add_0 rfl (lv_at hl 0 rfl) ?_
  obtain ⟨v_4641, v_4643, p_ad_30_j, b_4642, b_4644⟩ := opnC_30 (j := j) I hj
  have p_ad_30_j : pt L f (ad 30 j) (.inr (7, [.ref (ad 31 j), .ref (ad 32 j), .ref (ad 33 j), .ref (ad 34 j), .ref (ad 35 j), .int v_4641, .int v_4643])) := p_ad_30_j
  refine pg_get S Y ok_X7 5 (by decide) kf7_27 (v := .int v_4641) p_ad_30_j rfl dX7_add_1 ?_
  refine lv_sipush (v := 300) hx hb dX7_add_4 (by decide) ?_
  refine lv_icmp_lt (tgt := 12) hx hb dX7_add_7 (by decide) (fun c_4645 => ?_) (fun c_4645 => ?_)
  · have B_4646 : bn 0 299 v_4641 := bn_w (bn_ltl c_4645 b_4642 (show bn 300 300 (300 : Int32) from bn_k (by decide))) (by decide)
    refine lv_aload_n hx hb dX7_add_12 rfl (lv_at hl 0 rfl) ?_
    refine pg_get S Y ok_X7 0 (by decide) kf7_9 (v := .ref (ad 31 j)) p_ad_30_j rfl dX7_add_13 ?_
    refine lv_aload_n hx hb dX7_add_16 rfl (lv_at hl 0 rfl) ?_
    refine pg_get S Y ok_X7 5 (by decide) kf7_27 (v := .int v_4641) p_ad_30_j rfl dX7_add_17 ?_
    refine lv_iload_n hx hb dX7_add_20 rfl (lv_at hl 1 rfl) ?_
    obtain ⟨g_4648, p_ad_31_j, o_4649⟩ := I.opi (k := 31) (j := j) hj rfl
    have p_ad_31_j : pt L f (ad 31 j) (.inl (G.2 0, 300, .inl g_4648)) := p_ad_31_j
    refine pg_iast S Y p_ad_31_j (vp_bn B_4646 (by decide)) dX7_add_21 (fun f_4651 H locs ef_4651 Y => ?_)
    obtain ⟨g_4650, eg_4650⟩ : ∃ z, z = upd (g_4648) (v_4641 : Int32).toNatClampNeg i1 := ⟨_, rfl⟩
    rw [← eg_4650] at ef_4651
    have p_ad_30_j := p_ad_30_j.up ef_4651 (I.ne (k := 30) (j := j) (k' := 31) (j' := j) hj hj (Or.inl (by decide)))
    have p_ad_31_j := p_ad_31_j.me ef_4651
    have I := I.up (k := 31) (j := j) hj ef_4651 (okE_a (g := g_4650) trivial)
    refine lv_aload_n hx hb dX7_add_22 rfl (lv_at hl 0 rfl) ?_
    refine pg_get S Y ok_X7 1 (by decide) kf7_15 (v := .ref (ad 32 j)) p_ad_30_j rfl dX7_add_23 ?_
    refine lv_aload_n hx hb dX7_add_26 rfl (lv_at hl 0 rfl) ?_
    refine pg_get S Y ok_X7 5 (by decide) kf7_27 (v := .int v_4641) p_ad_30_j rfl dX7_add_27 ?_
    refine lv_iload_n hx hb dX7_add_30 rfl (lv_at hl 2 rfl) ?_
    obtain ⟨g_4652, p_ad_32_j, o_4653⟩ := I.opi (k := 32) (j := j) hj rfl
    have p_ad_32_j : pt L f_4651 (ad 32 j) (.inl (G.2 0, 300, .inl g_4652)) := p_ad_32_j
    refine pg_iast S Y p_ad_32_j (vp_bn B_4646 (by decide)) dX7_add_31 (fun f_4655 H locs ef_4655 Y => ?_)
    obtain ⟨g_4654, eg_4654⟩ : ∃ z, z = upd (g_4652) (v_4641 : Int32).toNatClampNeg i2 := ⟨_, rfl⟩
    rw [← eg_4654] at ef_4655
    have p_ad_30_j := p_ad_30_j.up ef_4655 (I.ne (k := 30) (j := j) (k' := 32) (j' := j) hj hj (Or.inl (by decide)))
    have p_ad_31_j := p_ad_31_j.up ef_4655 (I.ne (k := 31) (j := j) (k' := 32) (j' := j) hj hj (Or.inl (by decide)))
    have p_ad_32_j := p_ad_32_j.me ef_4655
    have I := I.up (k := 32) (j := j) hj ef_4655 (okE_a (g := g_4654) trivial)
    refine lv_aload_n hx hb dX7_add_32 rfl (lv_at hl 0 rfl) ?_
    refine lv_dup hx hb dX7_add_33 rfl ?_
    refine pg_get S Y ok_X7 5 (by decide) kf7_27 (v := .int v_4641) p_ad_30_j rfl dX7_add_34 ?_
    refine lv_iconst (v := 1) hx hb dX7_add_37 (by decide) ?_
    refine lv_iadd hx hb dX7_add_38 ?_
    refine lv_topi (fun x_4656 ex_4656 => ?_)
    refine pg_put S Y ok_X7 5 (by decide) kf7_27 rfl (fs' := [.ref (ad 31 j), .ref (ad 32 j), .ref (ad 33 j), .ref (ad 34 j), .ref (ad 35 j), .int x_4656, .int v_4643]) (v := .int x_4656) p_ad_30_j rfl rfl rfl (Nat.le_of_ble_eq_true rfl) dX7_add_39 (fun f_4657 H locs ef_4657 Y => ?_)
    have p_ad_31_j := p_ad_31_j.up ef_4657 (I.ne (k := 31) (j := j) (k' := 30) (j' := j) hj hj (Or.inl (by decide)))
    have p_ad_32_j := p_ad_32_j.up ef_4657 (I.ne (k := 32) (j := j) (k' := 30) (j' := j) hj hj (Or.inl (by decide)))
    have p_ad_30_j := p_ad_30_j.me ef_4657
    have I := I.up (k := 30) (j := j) hj ef_4657 (okE_o (okFs_c okV_r (okFs_c okV_r (okFs_c okV_r (okFs_c okV_r (okFs_c okV_r (okFs_c (okV_i (bn_w (bn_eq ex_4656 (bn_add B_4646 (show bn 1 1 (1 : Int32) from bn_k (by decide)) (by decide))) (by decide))) (okFs_c (okV_i b_4644) okFs_n))))))))
    refine lv_aload_n hx hb dX7_add_42 rfl (lv_at hl 0 rfl) ?_
    refine pg_get S Y ok_X7 5 (by decide) kf7_27 (v := .int x_4656) p_ad_30_j rfl dX7_add_43 ?_
    refine lv_iconst (v := 1) hx hb dX7_add_46 (by decide) ?_
    refine lv_isub hx hb dX7_add_47 ?_
    refine lv_topi (fun x_4658 ex_4658 => ?_)
    exact prI (post := fun r L1 f1 => SH (spC rs fc tc w q) nnC G ad L1 f1) S Y rfl (by decide) (by decide) hA1 I dX7_add_48
  · have B_4647 : bn 300 300 v_4641 := bn_w (bn_gel c_4645 b_4642 (show bn 300 300 (300 : Int32) from bn_k (by decide))) (by decide)
    refine lv_iconst (v := (-1)) hx hb dX7_add_10 (by decide) ?_
    exact prI (post := fun r L1 f1 => SH (spC rs fc tc w q) nnC G ad L1 f1) S Y rfl (by decide) (by decide) hA1 I dX7_add_11
set_option maxHeartbeats 4000000 in
set_option maxRecDepth 100000 in
theorem x_X7_leadHere {l : Launch} {G : GG}  {L : List Nat} {f : HF} {ad : Nat → Nat → Nat} {rs : FS} {fc : Int × Int} {tc w : Nat → Int × Int} {q : Nat → (Nat → Int32) → Prop} {j : Nat} {i1 : Int32} (I : SH (spC rs fc tc w q) nnC G ad L f) (hW : WBp w 8) (hT : WBp tc 4) (hQ : QIp q) (hj : j < 8) : PMv l yX7_leadHere cX7_leadHere 2 0 0 0 G [.ref (ad 30 j), .int i1] L f (fun L1 f1 => SH (spC rs fc tc w q) nnC G ad L1 f1) := by
  refine PMv.of (post := fun L1 f1 => SH (spC rs fc tc w q) nnC G ad L1 f1) (own := RX7) (by decide) rfl (Nat.le_of_ble_eq_true rfl) (fun sz p e s m args below meth c A ls hA1 hname S Y hl => ?_)
  have hx := S.hx
  have hb := S.hb
  have hl : lv_has ls 2 [(0, .ref (ad 30 j)), (1, .int i1)] := hl
  refine lv_iload_n hx hb dX7_leadHere_0 rfl (lv_at hl 1 rfl) ?_
  refine lv_if_lt (tgt := 22) hx hb dX7_leadHere_1 (by decide) (fun c_4687 => ?_) (fun c_4687 => ?_)
  · have B_4688 : bn (-2147483648) (-1) i1 := bn_w (bn_ltl c_4687 (bn_any i1) (show bn 0 0 (0 : Int32) from bn_k (by decide))) (by decide)
    exact prV (post := fun L1 f1 => SH (spC rs fc tc w q) nnC G ad L1 f1) S Y (by decide) (by decide) hA1 I dX7_leadHere_22
  · have B_4689 : bn 0 2147483647 i1 := bn_w (bn_gel c_4687 (bn_any i1) (show bn 0 0 (0 : Int32) from bn_k (by decide))) (by decide)
    refine lv_iload_n hx hb dX7_leadHere_4 rfl (lv_at hl 1 rfl) ?_
    refine lv_aload_n hx hb dX7_leadHere_5 rfl (lv_at hl 0 rfl) ?_
    obtain ⟨v_4690, v_4692, p_ad_30_j, b_4691, b_4693⟩ := opnC_30 (j := j) I hj
    have p_ad_30_j : pt L f (ad 30 j) (.inr (7, [.ref (ad 31 j), .ref (ad 32 j), .ref (ad 33 j), .ref (ad 34 j), .ref (ad 35 j), .int v_4690, .int v_4692])) := p_ad_30_j
    refine pg_get S Y ok_X7 5 (by decide) kf7_27 (v := .int v_4690) p_ad_30_j rfl dX7_leadHere_6 ?_
    refine lv_icmp_ge (tgt := 22) hx hb dX7_leadHere_9 (by decide) (fun c_4694 => ?_) (fun c_4694 => ?_)
    · exact prV (post := fun L1 f1 => SH (spC rs fc tc w q) nnC G ad L1 f1) S Y (by decide) (by decide) hA1 I dX7_leadHere_22
    · have B_4695 : bn 1 300 v_4690 := bn_w (bn_gtl c_4694 b_4691 B_4689) (by decide)
      have B_4696 : bn 0 299 i1 := bn_w (bn_gtr c_4694 b_4691 B_4689) (by decide)
      refine lv_aload_n hx hb dX7_leadHere_12 rfl (lv_at hl 0 rfl) ?_
      refine pg_get S Y ok_X7 1 (by decide) kf7_15 (v := .ref (ad 32 j)) p_ad_30_j rfl dX7_leadHere_13 ?_
      refine lv_iload_n hx hb dX7_leadHere_16 rfl (lv_at hl 1 rfl) ?_
      refine lv_aload_n hx hb dX7_leadHere_17 rfl (lv_at hl 0 rfl) ?_
      refine pg_get S Y ok_X7 5 (by decide) kf7_27 (v := .int v_4690) p_ad_30_j rfl dX7_leadHere_18 ?_
      obtain ⟨g_4697, p_ad_32_j, o_4698⟩ := I.opi (k := 32) (j := j) hj rfl
      have p_ad_32_j : pt L f (ad 32 j) (.inl (G.2 0, 300, .inl g_4697)) := p_ad_32_j
      refine pg_iast S Y p_ad_32_j (vp_bn B_4696 (by decide)) dX7_leadHere_21 (fun f_4700 H locs ef_4700 Y => ?_)
      obtain ⟨g_4699, eg_4699⟩ : ∃ z, z = upd (g_4697) (i1 : Int32).toNatClampNeg v_4690 := ⟨_, rfl⟩
      rw [← eg_4699] at ef_4700
      have p_ad_30_j := p_ad_30_j.up ef_4700 (I.ne (k := 30) (j := j) (k' := 32) (j' := j) hj hj (Or.inl (by decide)))
      have p_ad_32_j := p_ad_32_j.me ef_4700
      have I := I.up (k := 32) (j := j) hj ef_4700 (okE_a (g := g_4699) trivial)
      exact prV (post := fun L1 f1 => SH (spC rs fc tc w q) nnC G ad L1 f1) S Y (by decide) (by decide) hA1 I dX7_leadHere_22
set_option maxHeartbeats 4000000 in
set_option maxRecDepth 100000 in
theorem x_X7_addLaw {l : Launch} {G : GG}  {L : List Nat} {f : HF} {ad : Nat → Nat → Nat} {rs : FS} {fc : Int × Int} {tc w : Nat → Int × Int} {q : Nat → (Nat → Int32) → Prop} {j : Nat} {i1 i2 : Int32} (I : SH (spC rs fc tc w q) nnC G ad L f) (hW : WBp w 8) (hT : WBp tc 4) (hQ : QIp q) (hj : j < 8) : PMv l yX7_addLaw cX7_addLaw 3 0 0 0 G [.ref (ad 30 j), .int i1, .int i2] L f (fun L1 f1 => SH (spC rs fc tc w q) nnC G ad L1 f1) := by
  refine PMv.of (post := fun L1 f1 => SH (spC rs fc tc w q) nnC G ad L1 f1) (own := RX7) (by decide) rfl (Nat.le_of_ble_eq_true rfl) (fun sz p e s m args below meth c A ls hA1 hname S Y hl => ?_)
  have hx := S.hx
  have hb := S.hb
  have hl : lv_has ls 3 [(0, .ref (ad 30 j)), (1, .int i1), (2, .int i2)] := hl
  refine lv_iload_n hx hb dX7_addLaw_0 rfl (lv_at hl 1 rfl) ?_
  refine lv_if_lt (tgt := 26) hx hb dX7_addLaw_1 (by decide) (fun c_4737 => ?_) (fun c_4737 => ?_)
  · have B_4738 : bn (-2147483648) (-1) i1 := bn_w (bn_ltl c_4737 (bn_any i1) (show bn 0 0 (0 : Int32) from bn_k (by decide))) (by decide)
    exact prV (post := fun L1 f1 => SH (spC rs fc tc w q) nnC G ad L1 f1) S Y (by decide) (by decide) hA1 I dX7_addLaw_26
  · have B_4739 : bn 0 2147483647 i1 := bn_w (bn_gel c_4737 (bn_any i1) (show bn 0 0 (0 : Int32) from bn_k (by decide))) (by decide)
    refine lv_iload_n hx hb dX7_addLaw_4 rfl (lv_at hl 1 rfl) ?_
    refine lv_iconst (v := 3) hx hb dX7_addLaw_5 (by decide) ?_
    refine lv_icmp_ge (tgt := 26) hx hb dX7_addLaw_6 (by decide) (fun c_4740 => ?_) (fun c_4740 => ?_)
    · have B_4741 : bn 3 2147483647 i1 := bn_w (bn_ler c_4740 (show bn 3 3 (3 : Int32) from bn_k (by decide)) B_4739) (by decide)
      exact prV (post := fun L1 f1 => SH (spC rs fc tc w q) nnC G ad L1 f1) S Y (by decide) (by decide) hA1 I dX7_addLaw_26
    · have B_4742 : bn 0 2 i1 := bn_w (bn_gtr c_4740 (show bn 3 3 (3 : Int32) from bn_k (by decide)) B_4739) (by decide)
      refine lv_aload_n hx hb dX7_addLaw_9 rfl (lv_at hl 0 rfl) ?_
      obtain ⟨v_4743, v_4745, p_ad_30_j, b_4744, b_4746⟩ := opnC_30 (j := j) I hj
      have p_ad_30_j : pt L f (ad 30 j) (.inr (7, [.ref (ad 31 j), .ref (ad 32 j), .ref (ad 33 j), .ref (ad 34 j), .ref (ad 35 j), .int v_4743, .int v_4745])) := p_ad_30_j
      refine pg_get S Y ok_X7 2 (by decide) kf7_18 (v := .ref (ad 33 j)) p_ad_30_j rfl dX7_addLaw_10 ?_
      refine lv_iload_n hx hb dX7_addLaw_13 rfl (lv_at hl 1 rfl) ?_
      refine lv_iload_n hx hb dX7_addLaw_14 rfl (lv_at hl 2 rfl) ?_
      obtain ⟨g_4747, p_ad_33_j, o_4748⟩ := I.opi (k := 33) (j := j) hj rfl
      have p_ad_33_j : pt L f (ad 33 j) (.inl (G.2 0, 3, .inl g_4747)) := p_ad_33_j
      refine pg_iast S Y p_ad_33_j (vp_bn B_4742 (by decide)) dX7_addLaw_15 (fun f_4750 H locs ef_4750 Y => ?_)
      obtain ⟨g_4749, eg_4749⟩ : ∃ z, z = upd (g_4747) (i1 : Int32).toNatClampNeg i2 := ⟨_, rfl⟩
      rw [← eg_4749] at ef_4750
      have p_ad_30_j := p_ad_30_j.up ef_4750 (I.ne (k := 30) (j := j) (k' := 33) (j' := j) hj hj (Or.inl (by decide)))
      have p_ad_33_j := p_ad_33_j.me ef_4750
      have I := I.up (k := 33) (j := j) hj ef_4750 (okE_a (g := g_4749) trivial)
      refine lv_aload_n hx hb dX7_addLaw_16 rfl (lv_at hl 0 rfl) ?_
      refine pg_get S Y ok_X7 3 (by decide) kf7_21 (v := .ref (ad 34 j)) p_ad_30_j rfl dX7_addLaw_17 ?_
      refine lv_iload_n hx hb dX7_addLaw_20 rfl (lv_at hl 1 rfl) ?_
      refine lv_aload_n hx hb dX7_addLaw_21 rfl (lv_at hl 0 rfl) ?_
      refine pg_get S Y ok_X7 5 (by decide) kf7_27 (v := .int v_4743) p_ad_30_j rfl dX7_addLaw_22 ?_
      obtain ⟨g_4751, p_ad_34_j, o_4752⟩ := I.opi (k := 34) (j := j) hj rfl
      have p_ad_34_j : pt L f_4750 (ad 34 j) (.inl (G.2 0, 3, .inl g_4751)) := p_ad_34_j
      refine pg_iast S Y p_ad_34_j (vp_bn B_4742 (by decide)) dX7_addLaw_25 (fun f_4754 H locs ef_4754 Y => ?_)
      obtain ⟨g_4753, eg_4753⟩ : ∃ z, z = upd (g_4751) (i1 : Int32).toNatClampNeg v_4743 := ⟨_, rfl⟩
      rw [← eg_4753] at ef_4754
      have p_ad_30_j := p_ad_30_j.up ef_4754 (I.ne (k := 30) (j := j) (k' := 34) (j' := j) hj hj (Or.inl (by decide)))
      have p_ad_33_j := p_ad_33_j.up ef_4754 (I.ne (k := 33) (j := j) (k' := 34) (j' := j) hj hj (Or.inl (by decide)))
      have p_ad_34_j := p_ad_34_j.me ef_4754
      have I := I.up (k := 34) (j := j) hj ef_4754 (okE_a (g := g_4753) trivial)
      exact prV (post := fun L1 f1 => SH (spC rs fc tc w q) nnC G ad L1 f1) S Y (by decide) (by decide) hA1 I dX7_addLaw_26
set_option maxHeartbeats 4000000 in
set_option maxRecDepth 100000 in
theorem x_X7_hasLaw {l : Launch} {G : GG}  {L : List Nat} {f : HF} {ad : Nat → Nat → Nat} {rs : FS} {fc : Int × Int} {tc w : Nat → Int × Int} {q : Nat → (Nat → Int32) → Prop} {j : Nat} {i1 : Int32} (I : SH (spC rs fc tc w q) nnC G ad L f) (hW : WBp w 8) (hT : WBp tc 4) (hQ : QIp q) (hj : j < 8) : PMp l yX7_hasLaw cX7_hasLaw 2 .boolean 0 0 0 G [.ref (ad 30 j), .int i1] L f (fun r => bn 0 1 r) := by
  refine PMi.of (post := fun r L1 f1 => (bn 0 1 r) ∧ L1 = L ∧ f1 = f) (own := RX7) (by decide) rfl (Nat.le_of_ble_eq_true rfl) (fun sz p e s m args below meth c A ls hA1 hname S Y hl => ?_)
  have hx := S.hx
  have hb := S.hb
  have hl : lv_has ls 2 [(0, .ref (ad 30 j)), (1, .int i1)] := hl
  refine lv_iload_n hx hb dX7_hasLaw_0 rfl (lv_at hl 1 rfl) ?_
  refine lv_if_lt (tgt := 28) hx hb dX7_hasLaw_1 (by decide) (fun c_4793 => ?_) (fun c_4793 => ?_)
  · have B_4794 : bn (-2147483648) (-1) i1 := bn_w (bn_ltl c_4793 (bn_any i1) (show bn 0 0 (0 : Int32) from bn_k (by decide))) (by decide)
    refine lv_iconst (v := 0) hx hb dX7_hasLaw_28 (by decide) ?_
    exact prI (post := fun r L1 f1 => (bn 0 1 r) ∧ L1 = L ∧ f1 = f) S Y rfl (by decide) (by decide) hA1 ⟨bn_w (show bn 0 0 (0 : Int32) from bn_k (by decide)) (by decide), rfl, rfl⟩ dX7_hasLaw_29
  · have B_4795 : bn 0 2147483647 i1 := bn_w (bn_gel c_4793 (bn_any i1) (show bn 0 0 (0 : Int32) from bn_k (by decide))) (by decide)
    refine lv_iload_n hx hb dX7_hasLaw_4 rfl (lv_at hl 1 rfl) ?_
    refine lv_iconst (v := 3) hx hb dX7_hasLaw_5 (by decide) ?_
    refine lv_icmp_ge (tgt := 28) hx hb dX7_hasLaw_6 (by decide) (fun c_4796 => ?_) (fun c_4796 => ?_)
    · have B_4797 : bn 3 2147483647 i1 := bn_w (bn_ler c_4796 (show bn 3 3 (3 : Int32) from bn_k (by decide)) B_4795) (by decide)
      refine lv_iconst (v := 0) hx hb dX7_hasLaw_28 (by decide) ?_
      exact prI (post := fun r L1 f1 => (bn 0 1 r) ∧ L1 = L ∧ f1 = f) S Y rfl (by decide) (by decide) hA1 ⟨bn_w (show bn 0 0 (0 : Int32) from bn_k (by decide)) (by decide), rfl, rfl⟩ dX7_hasLaw_29
    · have B_4798 : bn 0 2 i1 := bn_w (bn_gtr c_4796 (show bn 3 3 (3 : Int32) from bn_k (by decide)) B_4795) (by decide)
      refine lv_aload_n hx hb dX7_hasLaw_9 rfl (lv_at hl 0 rfl) ?_
      obtain ⟨v_4799, v_4801, p_ad_30_j, b_4800, b_4802⟩ := opnC_30 (j := j) I hj
      have p_ad_30_j : pt L f (ad 30 j) (.inr (7, [.ref (ad 31 j), .ref (ad 32 j), .ref (ad 33 j), .ref (ad 34 j), .ref (ad 35 j), .int v_4799, .int v_4801])) := p_ad_30_j
      refine pg_get S Y ok_X7 2 (by decide) kf7_18 (v := .ref (ad 33 j)) p_ad_30_j rfl dX7_hasLaw_10 ?_
      refine lv_iload_n hx hb dX7_hasLaw_13 rfl (lv_at hl 1 rfl) ?_
      obtain ⟨g_4803, p_ad_33_j, o_4804⟩ := I.opi (k := 33) (j := j) hj rfl
      have p_ad_33_j : pt L f (ad 33 j) (.inl (G.2 0, 3, .inl g_4803)) := p_ad_33_j
      obtain ⟨v_4805, ev_4805⟩ : ∃ z, z = g_4803 (i1 : Int32).toNatClampNeg := ⟨_, rfl⟩
      refine pg_iald S Y (v := v_4805) p_ad_33_j (vp_bn B_4798 (by decide)) ev_4805.symm dX7_hasLaw_14 ?_
      refine lv_aload_n hx hb dX7_hasLaw_15 rfl (lv_at hl 0 rfl) ?_
      refine pg_get S Y ok_X7 3 (by decide) kf7_21 (v := .ref (ad 34 j)) p_ad_30_j rfl dX7_hasLaw_16 ?_
      refine lv_iload_n hx hb dX7_hasLaw_19 rfl (lv_at hl 1 rfl) ?_
      obtain ⟨g_4806, p_ad_34_j, o_4807⟩ := I.opi (k := 34) (j := j) hj rfl
      have p_ad_34_j : pt L f (ad 34 j) (.inl (G.2 0, 3, .inl g_4806)) := p_ad_34_j
      obtain ⟨v_4808, ev_4808⟩ : ∃ z, z = g_4806 (i1 : Int32).toNatClampNeg := ⟨_, rfl⟩
      refine pg_iald S Y (v := v_4808) p_ad_34_j (vp_bn B_4798 (by decide)) ev_4808.symm dX7_hasLaw_20 ?_
      refine lv_icmp_ge (tgt := 28) hx hb dX7_hasLaw_21 (by decide) (fun c_4809 => ?_) (fun c_4809 => ?_)
      · refine lv_iconst (v := 0) hx hb dX7_hasLaw_28 (by decide) ?_
        exact prI (post := fun r L1 f1 => (bn 0 1 r) ∧ L1 = L ∧ f1 = f) S Y rfl (by decide) (by decide) hA1 ⟨bn_w (show bn 0 0 (0 : Int32) from bn_k (by decide)) (by decide), rfl, rfl⟩ dX7_hasLaw_29
      · have B_4810 : bn (-2147483647) 2147483647 v_4808 := bn_w (bn_gtl c_4809 (bn_any v_4808) (bn_any v_4805)) (by decide)
        have B_4811 : bn (-2147483648) 2147483646 v_4805 := bn_w (bn_gtr c_4809 (bn_any v_4808) (bn_any v_4805)) (by decide)
        refine lv_iconst (v := 1) hx hb dX7_hasLaw_24 (by decide) ?_
        refine lv_goto (tgt := 29) hx hb dX7_hasLaw_25 (by decide) ?_
        exact prI (post := fun r L1 f1 => (bn 0 1 r) ∧ L1 = L ∧ f1 = f) S Y rfl (by decide) (by decide) hA1 ⟨bn_w (show bn 1 1 (1 : Int32) from bn_k (by decide)) (by decide), rfl, rfl⟩ dX7_hasLaw_29
set_option maxHeartbeats 4000000 in
set_option maxRecDepth 100000 in
theorem x_X7_lawStart {l : Launch} {G : GG}  {L : List Nat} {f : HF} {ad : Nat → Nat → Nat} {rs : FS} {fc : Int × Int} {tc w : Nat → Int × Int} {q : Nat → (Nat → Int32) → Prop} {j : Nat} {i1 : Int32} (I : SH (spC rs fc tc w q) nnC G ad L f) (hW : WBp w 8) (hT : WBp tc 4) (hQ : QIp q) (hj : j < 8) : PMp l yX7_lawStart cX7_lawStart 2 .int 0 0 0 G [.ref (ad 30 j), .int i1] L f (fun r => True) := by
  refine PMi.of (post := fun r L1 f1 => (True) ∧ L1 = L ∧ f1 = f) (own := RX7) (by decide) rfl (Nat.le_of_ble_eq_true rfl) (fun sz p e s m args below meth c A ls hA1 hname S Y hl => ?_)
  have hx := S.hx
  have hb := S.hb
  have hl : lv_has ls 2 [(0, .ref (ad 30 j)), (1, .int i1)] := hl
  refine lv_iload_n hx hb dX7_lawStart_0 rfl (lv_at hl 1 rfl) ?_
  refine lv_if_lt (tgt := 18) hx hb dX7_lawStart_1 (by decide) (fun c_4838 => ?_) (fun c_4838 => ?_)
  · have B_4839 : bn (-2147483648) (-1) i1 := bn_w (bn_ltl c_4838 (bn_any i1) (show bn 0 0 (0 : Int32) from bn_k (by decide))) (by decide)
    refine lv_iconst (v := 0) hx hb dX7_lawStart_18 (by decide) ?_
    exact prI (post := fun r L1 f1 => (True) ∧ L1 = L ∧ f1 = f) S Y rfl (by decide) (by decide) hA1 ⟨trivial, rfl, rfl⟩ dX7_lawStart_19
  · have B_4840 : bn 0 2147483647 i1 := bn_w (bn_gel c_4838 (bn_any i1) (show bn 0 0 (0 : Int32) from bn_k (by decide))) (by decide)
    refine lv_iload_n hx hb dX7_lawStart_4 rfl (lv_at hl 1 rfl) ?_
    refine lv_iconst (v := 3) hx hb dX7_lawStart_5 (by decide) ?_
    refine lv_icmp_ge (tgt := 18) hx hb dX7_lawStart_6 (by decide) (fun c_4841 => ?_) (fun c_4841 => ?_)
    · have B_4842 : bn 3 2147483647 i1 := bn_w (bn_ler c_4841 (show bn 3 3 (3 : Int32) from bn_k (by decide)) B_4840) (by decide)
      refine lv_iconst (v := 0) hx hb dX7_lawStart_18 (by decide) ?_
      exact prI (post := fun r L1 f1 => (True) ∧ L1 = L ∧ f1 = f) S Y rfl (by decide) (by decide) hA1 ⟨trivial, rfl, rfl⟩ dX7_lawStart_19
    · have B_4843 : bn 0 2 i1 := bn_w (bn_gtr c_4841 (show bn 3 3 (3 : Int32) from bn_k (by decide)) B_4840) (by decide)
      refine lv_aload_n hx hb dX7_lawStart_9 rfl (lv_at hl 0 rfl) ?_
      obtain ⟨v_4844, v_4846, p_ad_30_j, b_4845, b_4847⟩ := opnC_30 (j := j) I hj
      have p_ad_30_j : pt L f (ad 30 j) (.inr (7, [.ref (ad 31 j), .ref (ad 32 j), .ref (ad 33 j), .ref (ad 34 j), .ref (ad 35 j), .int v_4844, .int v_4846])) := p_ad_30_j
      refine pg_get S Y ok_X7 2 (by decide) kf7_18 (v := .ref (ad 33 j)) p_ad_30_j rfl dX7_lawStart_10 ?_
      refine lv_iload_n hx hb dX7_lawStart_13 rfl (lv_at hl 1 rfl) ?_
      obtain ⟨g_4848, p_ad_33_j, o_4849⟩ := I.opi (k := 33) (j := j) hj rfl
      have p_ad_33_j : pt L f (ad 33 j) (.inl (G.2 0, 3, .inl g_4848)) := p_ad_33_j
      obtain ⟨v_4850, ev_4850⟩ : ∃ z, z = g_4848 (i1 : Int32).toNatClampNeg := ⟨_, rfl⟩
      refine pg_iald S Y (v := v_4850) p_ad_33_j (vp_bn B_4843 (by decide)) ev_4850.symm dX7_lawStart_14 ?_
      refine lv_goto (tgt := 19) hx hb dX7_lawStart_15 (by decide) ?_
      exact prI (post := fun r L1 f1 => (True) ∧ L1 = L ∧ f1 = f) S Y rfl (by decide) (by decide) hA1 ⟨trivial, rfl, rfl⟩ dX7_lawStart_19
set_option maxHeartbeats 4000000 in
set_option maxRecDepth 100000 in
theorem x_X7_lawEnd {l : Launch} {G : GG}  {L : List Nat} {f : HF} {ad : Nat → Nat → Nat} {rs : FS} {fc : Int × Int} {tc w : Nat → Int × Int} {q : Nat → (Nat → Int32) → Prop} {j : Nat} {i1 : Int32} (I : SH (spC rs fc tc w q) nnC G ad L f) (hW : WBp w 8) (hT : WBp tc 4) (hQ : QIp q) (hj : j < 8) : PMp l yX7_lawEnd cX7_lawEnd 2 .int 0 0 0 G [.ref (ad 30 j), .int i1] L f (fun r => True) := by
  refine PMi.of (post := fun r L1 f1 => (True) ∧ L1 = L ∧ f1 = f) (own := RX7) (by decide) rfl (Nat.le_of_ble_eq_true rfl) (fun sz p e s m args below meth c A ls hA1 hname S Y hl => ?_)
  have hx := S.hx
  have hb := S.hb
  have hl : lv_has ls 2 [(0, .ref (ad 30 j)), (1, .int i1)] := hl
  refine lv_iload_n hx hb dX7_lawEnd_0 rfl (lv_at hl 1 rfl) ?_
  refine lv_if_lt (tgt := 18) hx hb dX7_lawEnd_1 (by decide) (fun c_4877 => ?_) (fun c_4877 => ?_)
  · have B_4878 : bn (-2147483648) (-1) i1 := bn_w (bn_ltl c_4877 (bn_any i1) (show bn 0 0 (0 : Int32) from bn_k (by decide))) (by decide)
    refine lv_iconst (v := 0) hx hb dX7_lawEnd_18 (by decide) ?_
    exact prI (post := fun r L1 f1 => (True) ∧ L1 = L ∧ f1 = f) S Y rfl (by decide) (by decide) hA1 ⟨trivial, rfl, rfl⟩ dX7_lawEnd_19
  · have B_4879 : bn 0 2147483647 i1 := bn_w (bn_gel c_4877 (bn_any i1) (show bn 0 0 (0 : Int32) from bn_k (by decide))) (by decide)
    refine lv_iload_n hx hb dX7_lawEnd_4 rfl (lv_at hl 1 rfl) ?_
    refine lv_iconst (v := 3) hx hb dX7_lawEnd_5 (by decide) ?_
    refine lv_icmp_ge (tgt := 18) hx hb dX7_lawEnd_6 (by decide) (fun c_4880 => ?_) (fun c_4880 => ?_)
    · have B_4881 : bn 3 2147483647 i1 := bn_w (bn_ler c_4880 (show bn 3 3 (3 : Int32) from bn_k (by decide)) B_4879) (by decide)
      refine lv_iconst (v := 0) hx hb dX7_lawEnd_18 (by decide) ?_
      exact prI (post := fun r L1 f1 => (True) ∧ L1 = L ∧ f1 = f) S Y rfl (by decide) (by decide) hA1 ⟨trivial, rfl, rfl⟩ dX7_lawEnd_19
    · have B_4882 : bn 0 2 i1 := bn_w (bn_gtr c_4880 (show bn 3 3 (3 : Int32) from bn_k (by decide)) B_4879) (by decide)
      refine lv_aload_n hx hb dX7_lawEnd_9 rfl (lv_at hl 0 rfl) ?_
      obtain ⟨v_4883, v_4885, p_ad_30_j, b_4884, b_4886⟩ := opnC_30 (j := j) I hj
      have p_ad_30_j : pt L f (ad 30 j) (.inr (7, [.ref (ad 31 j), .ref (ad 32 j), .ref (ad 33 j), .ref (ad 34 j), .ref (ad 35 j), .int v_4883, .int v_4885])) := p_ad_30_j
      refine pg_get S Y ok_X7 3 (by decide) kf7_21 (v := .ref (ad 34 j)) p_ad_30_j rfl dX7_lawEnd_10 ?_
      refine lv_iload_n hx hb dX7_lawEnd_13 rfl (lv_at hl 1 rfl) ?_
      obtain ⟨g_4887, p_ad_34_j, o_4888⟩ := I.opi (k := 34) (j := j) hj rfl
      have p_ad_34_j : pt L f (ad 34 j) (.inl (G.2 0, 3, .inl g_4887)) := p_ad_34_j
      obtain ⟨v_4889, ev_4889⟩ : ∃ z, z = g_4887 (i1 : Int32).toNatClampNeg := ⟨_, rfl⟩
      refine pg_iald S Y (v := v_4889) p_ad_34_j (vp_bn B_4882 (by decide)) ev_4889.symm dX7_lawEnd_14 ?_
      refine lv_goto (tgt := 19) hx hb dX7_lawEnd_15 (by decide) ?_
      exact prI (post := fun r L1 f1 => (True) ∧ L1 = L ∧ f1 = f) S Y rfl (by decide) (by decide) hA1 ⟨trivial, rfl, rfl⟩ dX7_lawEnd_19
set_option maxHeartbeats 4000000 in
set_option maxRecDepth 100000 in
theorem x_X7_doing {l : Launch} {G : GG}  {L : List Nat} {f : HF} {ad : Nat → Nat → Nat} {rs : FS} {fc : Int × Int} {tc w : Nat → Int × Int} {q : Nat → (Nat → Int32) → Prop} {j : Nat} {i1 : Int32} (I : SH (spC rs fc tc w q) nnC G ad L f) (hW : WBp w 8) (hT : WBp tc 4) (hQ : QIp q) (hj : j < 8) : PMp l yX7_doing cX7_doing 2 .int 0 0 0 G [.ref (ad 30 j), .int i1] L f (fun r => True) := by
  refine PMi.of (post := fun r L1 f1 => (True) ∧ L1 = L ∧ f1 = f) (own := RX7) (by decide) rfl (Nat.le_of_ble_eq_true rfl) (fun sz p e s m args below meth c A ls hA1 hname S Y hl => ?_)
  have hx := S.hx
  have hb := S.hb
  have hl : lv_has ls 2 [(0, .ref (ad 30 j)), (1, .int i1)] := hl
  refine lv_iload_n hx hb dX7_doing_0 rfl (lv_at hl 1 rfl) ?_
  refine lv_if_lt (tgt := 21) hx hb dX7_doing_1 (by decide) (fun c_4916 => ?_) (fun c_4916 => ?_)
  · have B_4917 : bn (-2147483648) (-1) i1 := bn_w (bn_ltl c_4916 (bn_any i1) (show bn 0 0 (0 : Int32) from bn_k (by decide))) (by decide)
    refine lv_iconst (v := (-1)) hx hb dX7_doing_21 (by decide) ?_
    exact prI (post := fun r L1 f1 => (True) ∧ L1 = L ∧ f1 = f) S Y rfl (by decide) (by decide) hA1 ⟨trivial, rfl, rfl⟩ dX7_doing_22
  · have B_4918 : bn 0 2147483647 i1 := bn_w (bn_gel c_4916 (bn_any i1) (show bn 0 0 (0 : Int32) from bn_k (by decide))) (by decide)
    refine lv_iload_n hx hb dX7_doing_4 rfl (lv_at hl 1 rfl) ?_
    refine lv_aload_n hx hb dX7_doing_5 rfl (lv_at hl 0 rfl) ?_
    obtain ⟨v_4919, v_4921, p_ad_30_j, b_4920, b_4922⟩ := opnC_30 (j := j) I hj
    have p_ad_30_j : pt L f (ad 30 j) (.inr (7, [.ref (ad 31 j), .ref (ad 32 j), .ref (ad 33 j), .ref (ad 34 j), .ref (ad 35 j), .int v_4919, .int v_4921])) := p_ad_30_j
    refine pg_get S Y ok_X7 5 (by decide) kf7_27 (v := .int v_4919) p_ad_30_j rfl dX7_doing_6 ?_
    refine lv_icmp_ge (tgt := 21) hx hb dX7_doing_9 (by decide) (fun c_4923 => ?_) (fun c_4923 => ?_)
    · refine lv_iconst (v := (-1)) hx hb dX7_doing_21 (by decide) ?_
      exact prI (post := fun r L1 f1 => (True) ∧ L1 = L ∧ f1 = f) S Y rfl (by decide) (by decide) hA1 ⟨trivial, rfl, rfl⟩ dX7_doing_22
    · have B_4924 : bn 1 300 v_4919 := bn_w (bn_gtl c_4923 b_4920 B_4918) (by decide)
      have B_4925 : bn 0 299 i1 := bn_w (bn_gtr c_4923 b_4920 B_4918) (by decide)
      refine lv_aload_n hx hb dX7_doing_12 rfl (lv_at hl 0 rfl) ?_
      refine pg_get S Y ok_X7 0 (by decide) kf7_9 (v := .ref (ad 31 j)) p_ad_30_j rfl dX7_doing_13 ?_
      refine lv_iload_n hx hb dX7_doing_16 rfl (lv_at hl 1 rfl) ?_
      obtain ⟨g_4926, p_ad_31_j, o_4927⟩ := I.opi (k := 31) (j := j) hj rfl
      have p_ad_31_j : pt L f (ad 31 j) (.inl (G.2 0, 300, .inl g_4926)) := p_ad_31_j
      obtain ⟨v_4928, ev_4928⟩ : ∃ z, z = g_4926 (i1 : Int32).toNatClampNeg := ⟨_, rfl⟩
      refine pg_iald S Y (v := v_4928) p_ad_31_j (vp_bn B_4925 (by decide)) ev_4928.symm dX7_doing_17 ?_
      refine lv_goto (tgt := 22) hx hb dX7_doing_18 (by decide) ?_
      exact prI (post := fun r L1 f1 => (True) ∧ L1 = L ∧ f1 = f) S Y rfl (by decide) (by decide) hA1 ⟨trivial, rfl, rfl⟩ dX7_doing_22
set_option maxHeartbeats 4000000 in
set_option maxRecDepth 100000 in
theorem x_X7_number {l : Launch} {G : GG}  {L : List Nat} {f : HF} {ad : Nat → Nat → Nat} {rs : FS} {fc : Int × Int} {tc w : Nat → Int × Int} {q : Nat → (Nat → Int32) → Prop} {j : Nat} {i1 : Int32} (I : SH (spC rs fc tc w q) nnC G ad L f) (hW : WBp w 8) (hT : WBp tc 4) (hQ : QIp q) (hj : j < 8) : PMp l yX7_number cX7_number 2 .int 0 0 0 G [.ref (ad 30 j), .int i1] L f (fun r => True) := by
  refine PMi.of (post := fun r L1 f1 => (True) ∧ L1 = L ∧ f1 = f) (own := RX7) (by decide) rfl (Nat.le_of_ble_eq_true rfl) (fun sz p e s m args below meth c A ls hA1 hname S Y hl => ?_)
  have hx := S.hx
  have hb := S.hb
  have hl : lv_has ls 2 [(0, .ref (ad 30 j)), (1, .int i1)] := hl
  refine lv_iload_n hx hb dX7_number_0 rfl (lv_at hl 1 rfl) ?_
  refine lv_if_lt (tgt := 21) hx hb dX7_number_1 (by decide) (fun c_4955 => ?_) (fun c_4955 => ?_)
  · have B_4956 : bn (-2147483648) (-1) i1 := bn_w (bn_ltl c_4955 (bn_any i1) (show bn 0 0 (0 : Int32) from bn_k (by decide))) (by decide)
    refine lv_iconst (v := (-1)) hx hb dX7_number_21 (by decide) ?_
    exact prI (post := fun r L1 f1 => (True) ∧ L1 = L ∧ f1 = f) S Y rfl (by decide) (by decide) hA1 ⟨trivial, rfl, rfl⟩ dX7_number_22
  · have B_4957 : bn 0 2147483647 i1 := bn_w (bn_gel c_4955 (bn_any i1) (show bn 0 0 (0 : Int32) from bn_k (by decide))) (by decide)
    refine lv_iload_n hx hb dX7_number_4 rfl (lv_at hl 1 rfl) ?_
    refine lv_aload_n hx hb dX7_number_5 rfl (lv_at hl 0 rfl) ?_
    obtain ⟨v_4958, v_4960, p_ad_30_j, b_4959, b_4961⟩ := opnC_30 (j := j) I hj
    have p_ad_30_j : pt L f (ad 30 j) (.inr (7, [.ref (ad 31 j), .ref (ad 32 j), .ref (ad 33 j), .ref (ad 34 j), .ref (ad 35 j), .int v_4958, .int v_4960])) := p_ad_30_j
    refine pg_get S Y ok_X7 5 (by decide) kf7_27 (v := .int v_4958) p_ad_30_j rfl dX7_number_6 ?_
    refine lv_icmp_ge (tgt := 21) hx hb dX7_number_9 (by decide) (fun c_4962 => ?_) (fun c_4962 => ?_)
    · refine lv_iconst (v := (-1)) hx hb dX7_number_21 (by decide) ?_
      exact prI (post := fun r L1 f1 => (True) ∧ L1 = L ∧ f1 = f) S Y rfl (by decide) (by decide) hA1 ⟨trivial, rfl, rfl⟩ dX7_number_22
    · have B_4963 : bn 1 300 v_4958 := bn_w (bn_gtl c_4962 b_4959 B_4957) (by decide)
      have B_4964 : bn 0 299 i1 := bn_w (bn_gtr c_4962 b_4959 B_4957) (by decide)
      refine lv_aload_n hx hb dX7_number_12 rfl (lv_at hl 0 rfl) ?_
      refine pg_get S Y ok_X7 1 (by decide) kf7_15 (v := .ref (ad 32 j)) p_ad_30_j rfl dX7_number_13 ?_
      refine lv_iload_n hx hb dX7_number_16 rfl (lv_at hl 1 rfl) ?_
      obtain ⟨g_4965, p_ad_32_j, o_4966⟩ := I.opi (k := 32) (j := j) hj rfl
      have p_ad_32_j : pt L f (ad 32 j) (.inl (G.2 0, 300, .inl g_4965)) := p_ad_32_j
      obtain ⟨v_4967, ev_4967⟩ : ∃ z, z = g_4965 (i1 : Int32).toNatClampNeg := ⟨_, rfl⟩
      refine pg_iald S Y (v := v_4967) p_ad_32_j (vp_bn B_4964 (by decide)) ev_4967.symm dX7_number_17 ?_
      refine lv_goto (tgt := 22) hx hb dX7_number_18 (by decide) ?_
      exact prI (post := fun r L1 f1 => (True) ∧ L1 = L ∧ f1 = f) S Y rfl (by decide) (by decide) hA1 ⟨trivial, rfl, rfl⟩ dX7_number_22
set_option maxHeartbeats 4000000 in
set_option maxRecDepth 100000 in
theorem x_X7_isFull {l : Launch} {G : GG}  {L : List Nat} {f : HF} {ad : Nat → Nat → Nat} {rs : FS} {fc : Int × Int} {tc w : Nat → Int × Int} {q : Nat → (Nat → Int32) → Prop} {j : Nat} (I : SH (spC rs fc tc w q) nnC G ad L f) (hW : WBp w 8) (hT : WBp tc 4) (hQ : QIp q) (hj : j < 8) : PMp l yX7_isFull cX7_isFull 1 .boolean 0 0 0 G [.ref (ad 30 j)] L f (fun r => bn 0 1 r) := by
  refine PMi.of (post := fun r L1 f1 => (bn 0 1 r) ∧ L1 = L ∧ f1 = f) (own := RX7) (by decide) rfl (Nat.le_of_ble_eq_true rfl) (fun sz p e s m args below meth c A ls hA1 hname S Y hl => ?_)
  have hx := S.hx
  have hb := S.hb
  have hl : lv_has ls 1 [(0, .ref (ad 30 j))] := hl
  refine lv_aload_n hx hb dX7_isFull_0 rfl (lv_at hl 0 rfl) ?_
  obtain ⟨v_4982, v_4984, p_ad_30_j, b_4983, b_4985⟩ := opnC_30 (j := j) I hj
  have p_ad_30_j : pt L f (ad 30 j) (.inr (7, [.ref (ad 31 j), .ref (ad 32 j), .ref (ad 33 j), .ref (ad 34 j), .ref (ad 35 j), .int v_4982, .int v_4984])) := p_ad_30_j
  refine pg_get S Y ok_X7 6 (by decide) kf7_31 (v := .int v_4984) p_ad_30_j rfl dX7_isFull_1 ?_
  refine lv_bipush (v := 24) hx hb dX7_isFull_4 (by decide) ?_
  refine lv_icmp_lt (tgt := 13) hx hb dX7_isFull_6 (by decide) (fun c_4986 => ?_) (fun c_4986 => ?_)
  · have B_4987 : bn 0 23 v_4984 := bn_w (bn_ltl c_4986 b_4985 (show bn 24 24 (24 : Int32) from bn_k (by decide))) (by decide)
    refine lv_iconst (v := 0) hx hb dX7_isFull_13 (by decide) ?_
    exact prI (post := fun r L1 f1 => (bn 0 1 r) ∧ L1 = L ∧ f1 = f) S Y rfl (by decide) (by decide) hA1 ⟨bn_w (show bn 0 0 (0 : Int32) from bn_k (by decide)) (by decide), rfl, rfl⟩ dX7_isFull_14
  · have B_4988 : bn 24 24 v_4984 := bn_w (bn_gel c_4986 b_4985 (show bn 24 24 (24 : Int32) from bn_k (by decide))) (by decide)
    refine lv_iconst (v := 1) hx hb dX7_isFull_9 (by decide) ?_
    refine lv_goto (tgt := 14) hx hb dX7_isFull_10 (by decide) ?_
    exact prI (post := fun r L1 f1 => (bn 0 1 r) ∧ L1 = L ∧ f1 = f) S Y rfl (by decide) (by decide) hA1 ⟨bn_w (show bn 1 1 (1 : Int32) from bn_k (by decide)) (by decide), rfl, rfl⟩ dX7_isFull_14
set_option maxHeartbeats 4000000 in
set_option maxRecDepth 100000 in
theorem x_X7_setClause {l : Launch} {G : GG}  {L : List Nat} {f : HF} {ad : Nat → Nat → Nat} {rs : FS} {fc : Int × Int} {tc w : Nat → Int × Int} {q : Nat → (Nat → Int32) → Prop} {j : Nat} {i1 i2 : Int32} (I : SH (spC rs fc tc w q) nnC G ad L f) (hW : WBp w 8) (hT : WBp tc 4) (hQ : QIp q) (hj : j < 8) : PMv l yX7_setClause cX7_setClause 3 0 0 0 G [.ref (ad 30 j), .int i1, .int i2] L f (fun L1 f1 => SH (spC rs fc tc w q) nnC G ad L1 f1) := by
  refine PMv.of (post := fun L1 f1 => SH (spC rs fc tc w q) nnC G ad L1 f1) (own := RX7) (by decide) rfl (Nat.le_of_ble_eq_true rfl) (fun sz p e s m args below meth c A ls hA1 hname S Y hl => ?_)
  have hx := S.hx
  have hb := S.hb
  have hl : lv_has ls 3 [(0, .ref (ad 30 j)), (1, .int i1), (2, .int i2)] := hl
  refine lv_aload_n hx hb dX7_setClause_0 rfl (lv_at hl 0 rfl) ?_
  obtain ⟨v_5029, v_5031, p_ad_30_j, b_5030, b_5032⟩ := opnC_30 (j := j) I hj
  have p_ad_30_j : pt L f (ad 30 j) (.inr (7, [.ref (ad 31 j), .ref (ad 32 j), .ref (ad 33 j), .ref (ad 34 j), .ref (ad 35 j), .int v_5029, .int v_5031])) := p_ad_30_j
  refine pg_get S Y ok_X7 6 (by decide) kf7_31 (v := .int v_5031) p_ad_30_j rfl dX7_setClause_1 ?_
  refine lv_if_le (tgt := 32) hx hb dX7_setClause_4 (by decide) (fun c_5033 => ?_) (fun c_5033 => ?_)
  · have B_5034 : bn 0 0 v_5031 := bn_w (bn_lel c_5033 b_5032 (show bn 0 0 (0 : Int32) from bn_k (by decide))) (by decide)
    exact prV (post := fun L1 f1 => SH (spC rs fc tc w q) nnC G ad L1 f1) S Y (by decide) (by decide) hA1 I dX7_setClause_32
  · have B_5035 : bn 1 24 v_5031 := bn_w (bn_gtl c_5033 b_5032 (show bn 0 0 (0 : Int32) from bn_k (by decide))) (by decide)
    refine lv_iload_n hx hb dX7_setClause_7 rfl (lv_at hl 1 rfl) ?_
    refine lv_if_lt (tgt := 32) hx hb dX7_setClause_8 (by decide) (fun c_5036 => ?_) (fun c_5036 => ?_)
    · have B_5037 : bn (-2147483648) (-1) i1 := bn_w (bn_ltl c_5036 (bn_any i1) (show bn 0 0 (0 : Int32) from bn_k (by decide))) (by decide)
      exact prV (post := fun L1 f1 => SH (spC rs fc tc w q) nnC G ad L1 f1) S Y (by decide) (by decide) hA1 I dX7_setClause_32
    · have B_5038 : bn 0 2147483647 i1 := bn_w (bn_gel c_5036 (bn_any i1) (show bn 0 0 (0 : Int32) from bn_k (by decide))) (by decide)
      refine lv_iload_n hx hb dX7_setClause_11 rfl (lv_at hl 1 rfl) ?_
      refine lv_iconst (v := 5) hx hb dX7_setClause_12 (by decide) ?_
      refine lv_icmp_ge (tgt := 32) hx hb dX7_setClause_13 (by decide) (fun c_5039 => ?_) (fun c_5039 => ?_)
      · have B_5040 : bn 5 2147483647 i1 := bn_w (bn_ler c_5039 (show bn 5 5 (5 : Int32) from bn_k (by decide)) B_5038) (by decide)
        exact prV (post := fun L1 f1 => SH (spC rs fc tc w q) nnC G ad L1 f1) S Y (by decide) (by decide) hA1 I dX7_setClause_32
      · have B_5041 : bn 0 4 i1 := bn_w (bn_gtr c_5039 (show bn 5 5 (5 : Int32) from bn_k (by decide)) B_5038) (by decide)
        refine lv_aload_n hx hb dX7_setClause_16 rfl (lv_at hl 0 rfl) ?_
        refine pg_get S Y ok_X7 4 (by decide) kf7_24 (v := .ref (ad 35 j)) p_ad_30_j rfl dX7_setClause_17 ?_
        refine lv_aload_n hx hb dX7_setClause_20 rfl (lv_at hl 0 rfl) ?_
        refine pg_get S Y ok_X7 6 (by decide) kf7_31 (v := .int v_5031) p_ad_30_j rfl dX7_setClause_21 ?_
        refine lv_iconst (v := 1) hx hb dX7_setClause_24 (by decide) ?_
        refine lv_isub hx hb dX7_setClause_25 ?_
        refine lv_topi (fun x_5042 ex_5042 => ?_)
        refine lv_iconst (v := 5) hx hb dX7_setClause_26 (by decide) ?_
        refine lv_imul hx hb dX7_setClause_27 ?_
        refine lv_topi (fun x_5043 ex_5043 => ?_)
        refine lv_iload_n hx hb dX7_setClause_28 rfl (lv_at hl 1 rfl) ?_
        refine lv_iadd hx hb dX7_setClause_29 ?_
        refine lv_topi (fun x_5044 ex_5044 => ?_)
        refine lv_iload_n hx hb dX7_setClause_30 rfl (lv_at hl 2 rfl) ?_
        obtain ⟨g_5045, p_ad_35_j, o_5046⟩ := I.opi (k := 35) (j := j) hj rfl
        have p_ad_35_j : pt L f (ad 35 j) (.inl (G.2 0, 120, .inl g_5045)) := p_ad_35_j
        refine pg_iast S Y p_ad_35_j (vp_bn (bn_eq ex_5044 (bn_add (bn_eq ex_5043 (bn_mul (bn_eq ex_5042 (bn_sub B_5035 (show bn 1 1 (1 : Int32) from bn_k (by decide)) (by decide))) (show bn 5 5 (5 : Int32) from bn_k (by decide)) (by decide))) B_5041 (by decide))) (by decide)) dX7_setClause_31 (fun f_5048 H locs ef_5048 Y => ?_)
        obtain ⟨g_5047, eg_5047⟩ : ∃ z, z = upd (g_5045) (x_5044 : Int32).toNatClampNeg i2 := ⟨_, rfl⟩
        rw [← eg_5047] at ef_5048
        have p_ad_30_j := p_ad_30_j.up ef_5048 (I.ne (k := 30) (j := j) (k' := 35) (j' := j) hj hj (Or.inl (by decide)))
        have p_ad_35_j := p_ad_35_j.me ef_5048
        have I := I.up (k := 35) (j := j) hj ef_5048 (okE_a (g := g_5047) trivial)
        exact prV (post := fun L1 f1 => SH (spC rs fc tc w q) nnC G ad L1 f1) S Y (by decide) (by decide) hA1 I dX7_setClause_32
set_option maxHeartbeats 4000000 in
set_option maxRecDepth 100000 in
theorem x_X7_addClause {l : Launch} {G : GG}  {L : List Nat} {f : HF} {ad : Nat → Nat → Nat} {rs : FS} {fc : Int × Int} {tc w : Nat → Int × Int} {q : Nat → (Nat → Int32) → Prop} {j : Nat} {i1 : Int32} (I : SH (spC rs fc tc w q) nnC G ad L f) (hW : WBp w 8) (hT : WBp tc 4) (hQ : QIp q) (hj : j < 8) : PMv l yX7_addClause cX7_addClause 2 1 0 0 G [.ref (ad 30 j), .int i1] L f (fun L1 f1 => SH (spC rs fc tc w q) nnC G ad L1 f1) := by
  refine PMv.of (post := fun L1 f1 => SH (spC rs fc tc w q) nnC G ad L1 f1) (own := RX7) (by decide) rfl (Nat.le_of_ble_eq_true rfl) (fun sz p e s m args below meth c A ls hA1 hname S Y hl => ?_)
  have hx := S.hx
  have hb := S.hb
  have hl : lv_has ls 2 [(0, .ref (ad 30 j)), (1, .int i1)] := hl
  refine lv_aload_n hx hb dX7_addClause_0 rfl (lv_at hl 0 rfl) ?_
  obtain ⟨v_5071, v_5073, p_ad_30_j, b_5072, b_5074⟩ := opnC_30 (j := j) I hj
  have p_ad_30_j : pt L f (ad 30 j) (.inr (7, [.ref (ad 31 j), .ref (ad 32 j), .ref (ad 33 j), .ref (ad 34 j), .ref (ad 35 j), .int v_5071, .int v_5073])) := p_ad_30_j
  refine pg_get S Y ok_X7 6 (by decide) kf7_31 (v := .int v_5073) p_ad_30_j rfl dX7_addClause_1 ?_
  refine lv_bipush (v := 24) hx hb dX7_addClause_4 (by decide) ?_
  refine lv_icmp_ge (tgt := 25) hx hb dX7_addClause_6 (by decide) (fun c_5075 => ?_) (fun c_5075 => ?_)
  · have B_5076 : bn 24 24 v_5073 := bn_w (bn_ler c_5075 (show bn 24 24 (24 : Int32) from bn_k (by decide)) b_5074) (by decide)
    exact prV (post := fun L1 f1 => SH (spC rs fc tc w q) nnC G ad L1 f1) S Y (by decide) (by decide) hA1 I dX7_addClause_25
  · have B_5077 : bn 0 23 v_5073 := bn_w (bn_gtr c_5075 (show bn 24 24 (24 : Int32) from bn_k (by decide)) b_5074) (by decide)
    refine lv_aload_n hx hb dX7_addClause_9 rfl (lv_at hl 0 rfl) ?_
    refine lv_dup hx hb dX7_addClause_10 rfl ?_
    refine pg_get S Y ok_X7 6 (by decide) kf7_31 (v := .int v_5073) p_ad_30_j rfl dX7_addClause_11 ?_
    refine lv_iconst (v := 1) hx hb dX7_addClause_14 (by decide) ?_
    refine lv_iadd hx hb dX7_addClause_15 ?_
    refine lv_topi (fun x_5078 ex_5078 => ?_)
    refine pg_put S Y ok_X7 6 (by decide) kf7_31 rfl (fs' := [.ref (ad 31 j), .ref (ad 32 j), .ref (ad 33 j), .ref (ad 34 j), .ref (ad 35 j), .int v_5071, .int x_5078]) (v := .int x_5078) p_ad_30_j rfl rfl rfl (Nat.le_of_ble_eq_true rfl) dX7_addClause_16 (fun f_5079 H locs ef_5079 Y => ?_)
    have p_ad_30_j := p_ad_30_j.me ef_5079
    have I := I.up (k := 30) (j := j) hj ef_5079 (okE_o (okFs_c okV_r (okFs_c okV_r (okFs_c okV_r (okFs_c okV_r (okFs_c okV_r (okFs_c (okV_i b_5072) (okFs_c (okV_i (bn_w (bn_eq ex_5078 (bn_add B_5077 (show bn 1 1 (1 : Int32) from bn_k (by decide)) (by decide))) (by decide))) okFs_n))))))))
    refine lv_aload_n hx hb dX7_addClause_19 rfl (lv_at hl 0 rfl) ?_
    refine lv_iconst (v := 0) hx hb dX7_addClause_20 (by decide) ?_
    refine lv_iload_n hx hb dX7_addClause_21 rfl (lv_at hl 1 rfl) ?_
    refine cVv (As := [.int 0, .int i1]) (rest := []) S Y (x_X7_setClause (l := l) (j := j) I hW hT hQ hj) cw_X7_setClause km7_40 p_ad_30_j ok_X7.1 rfl rfl ⟨Nat.le_of_ble_eq_true rfl, Nat.le_of_ble_eq_true rfl⟩ hl.1 rfl (Nat.le_of_ble_eq_true rfl) ⟨Nat.le_of_ble_eq_true rfl, Nat.le_of_ble_eq_true rfl⟩ dX7_addClause_22 (fun L_5080 f_5081 H locs I Y => ?_)
    exact prV (post := fun L1 f1 => SH (spC rs fc tc w q) nnC G ad L1 f1) S Y (by decide) (by decide) hA1 I dX7_addClause_25
set_option maxHeartbeats 4000000 in
set_option maxRecDepth 100000 in
theorem x_X7_clause {l : Launch} {G : GG}  {L : List Nat} {f : HF} {ad : Nat → Nat → Nat} {rs : FS} {fc : Int × Int} {tc w : Nat → Int × Int} {q : Nat → (Nat → Int32) → Prop} {j : Nat} {i1 i2 : Int32} (I : SH (spC rs fc tc w q) nnC G ad L f) (hW : WBp w 8) (hT : WBp tc 4) (hQ : QIp q) (hj : j < 8) : PMp l yX7_clause cX7_clause 3 .int 0 0 0 G [.ref (ad 30 j), .int i1, .int i2] L f (fun r => True) := by
  refine PMi.of (post := fun r L1 f1 => (True) ∧ L1 = L ∧ f1 = f) (own := RX7) (by decide) rfl (Nat.le_of_ble_eq_true rfl) (fun sz p e s m args below meth c A ls hA1 hname S Y hl => ?_)
  have hx := S.hx
  have hb := S.hb
  have hl : lv_has ls 3 [(0, .ref (ad 30 j)), (1, .int i1), (2, .int i2)] := hl
  refine lv_iload_n hx hb dX7_clause_0 rfl (lv_at hl 1 rfl) ?_
  refine lv_if_lt (tgt := 21) hx hb dX7_clause_1 (by decide) (fun c_5124 => ?_) (fun c_5124 => ?_)
  · have B_5125 : bn (-2147483648) (-1) i1 := bn_w (bn_ltl c_5124 (bn_any i1) (show bn 0 0 (0 : Int32) from bn_k (by decide))) (by decide)
    refine lv_iconst (v := (-1)) hx hb dX7_clause_21 (by decide) ?_
    exact prI (post := fun r L1 f1 => (True) ∧ L1 = L ∧ f1 = f) S Y rfl (by decide) (by decide) hA1 ⟨trivial, rfl, rfl⟩ dX7_clause_22
  · have B_5126 : bn 0 2147483647 i1 := bn_w (bn_gel c_5124 (bn_any i1) (show bn 0 0 (0 : Int32) from bn_k (by decide))) (by decide)
    refine lv_iload_n hx hb dX7_clause_4 rfl (lv_at hl 1 rfl) ?_
    refine lv_aload_n hx hb dX7_clause_5 rfl (lv_at hl 0 rfl) ?_
    obtain ⟨v_5127, v_5129, p_ad_30_j, b_5128, b_5130⟩ := opnC_30 (j := j) I hj
    have p_ad_30_j : pt L f (ad 30 j) (.inr (7, [.ref (ad 31 j), .ref (ad 32 j), .ref (ad 33 j), .ref (ad 34 j), .ref (ad 35 j), .int v_5127, .int v_5129])) := p_ad_30_j
    refine pg_get S Y ok_X7 6 (by decide) kf7_31 (v := .int v_5129) p_ad_30_j rfl dX7_clause_6 ?_
    refine lv_icmp_ge (tgt := 21) hx hb dX7_clause_9 (by decide) (fun c_5131 => ?_) (fun c_5131 => ?_)
    · refine lv_iconst (v := (-1)) hx hb dX7_clause_21 (by decide) ?_
      exact prI (post := fun r L1 f1 => (True) ∧ L1 = L ∧ f1 = f) S Y rfl (by decide) (by decide) hA1 ⟨trivial, rfl, rfl⟩ dX7_clause_22
    · have B_5132 : bn 1 24 v_5129 := bn_w (bn_gtl c_5131 b_5130 B_5126) (by decide)
      have B_5133 : bn 0 23 i1 := bn_w (bn_gtr c_5131 b_5130 B_5126) (by decide)
      refine lv_iload_n hx hb dX7_clause_12 rfl (lv_at hl 2 rfl) ?_
      refine lv_if_lt (tgt := 21) hx hb dX7_clause_13 (by decide) (fun c_5134 => ?_) (fun c_5134 => ?_)
      · have B_5135 : bn (-2147483648) (-1) i2 := bn_w (bn_ltl c_5134 (bn_any i2) (show bn 0 0 (0 : Int32) from bn_k (by decide))) (by decide)
        refine lv_iconst (v := (-1)) hx hb dX7_clause_21 (by decide) ?_
        exact prI (post := fun r L1 f1 => (True) ∧ L1 = L ∧ f1 = f) S Y rfl (by decide) (by decide) hA1 ⟨trivial, rfl, rfl⟩ dX7_clause_22
      · have B_5136 : bn 0 2147483647 i2 := bn_w (bn_gel c_5134 (bn_any i2) (show bn 0 0 (0 : Int32) from bn_k (by decide))) (by decide)
        refine lv_iload_n hx hb dX7_clause_16 rfl (lv_at hl 2 rfl) ?_
        refine lv_iconst (v := 5) hx hb dX7_clause_17 (by decide) ?_
        refine lv_icmp_lt (tgt := 23) hx hb dX7_clause_18 (by decide) (fun c_5137 => ?_) (fun c_5137 => ?_)
        · have B_5138 : bn 0 4 i2 := bn_w (bn_ltl c_5137 B_5136 (show bn 5 5 (5 : Int32) from bn_k (by decide))) (by decide)
          refine lv_aload_n hx hb dX7_clause_23 rfl (lv_at hl 0 rfl) ?_
          refine pg_get S Y ok_X7 4 (by decide) kf7_24 (v := .ref (ad 35 j)) p_ad_30_j rfl dX7_clause_24 ?_
          refine lv_iload_n hx hb dX7_clause_27 rfl (lv_at hl 1 rfl) ?_
          refine lv_iconst (v := 5) hx hb dX7_clause_28 (by decide) ?_
          refine lv_imul hx hb dX7_clause_29 ?_
          refine lv_topi (fun x_5140 ex_5140 => ?_)
          refine lv_iload_n hx hb dX7_clause_30 rfl (lv_at hl 2 rfl) ?_
          refine lv_iadd hx hb dX7_clause_31 ?_
          refine lv_topi (fun x_5141 ex_5141 => ?_)
          obtain ⟨g_5142, p_ad_35_j, o_5143⟩ := I.opi (k := 35) (j := j) hj rfl
          have p_ad_35_j : pt L f (ad 35 j) (.inl (G.2 0, 120, .inl g_5142)) := p_ad_35_j
          obtain ⟨v_5144, ev_5144⟩ : ∃ z, z = g_5142 (x_5141 : Int32).toNatClampNeg := ⟨_, rfl⟩
          refine pg_iald S Y (v := v_5144) p_ad_35_j (vp_bn (bn_eq ex_5141 (bn_add (bn_eq ex_5140 (bn_mul B_5133 (show bn 5 5 (5 : Int32) from bn_k (by decide)) (by decide))) B_5138 (by decide))) (by decide)) ev_5144.symm dX7_clause_32 ?_
          exact prI (post := fun r L1 f1 => (True) ∧ L1 = L ∧ f1 = f) S Y rfl (by decide) (by decide) hA1 ⟨trivial, rfl, rfl⟩ dX7_clause_33
        · have B_5139 : bn 5 2147483647 i2 := bn_w (bn_gel c_5137 B_5136 (show bn 5 5 (5 : Int32) from bn_k (by decide))) (by decide)
          refine lv_iconst (v := (-1)) hx hb dX7_clause_21 (by decide) ?_
          exact prI (post := fun r L1 f1 => (True) ∧ L1 = L ∧ f1 = f) S Y rfl (by decide) (by decide) hA1 ⟨trivial, rfl, rfl⟩ dX7_clause_22
