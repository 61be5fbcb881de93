theorem dX9_get_0 : decode cX9_get 0 = .ok (.iload_n 1, 1) := by decide +kernel
theorem dX9_get_1 : decode cX9_get 1 = .ok (.ifCond .lt 20, 3) := by decide +kernel
theorem dX9_get_21 : decode cX9_get 21 = .ok (.iconst (-1), 1) := by decide +kernel
theorem dX9_get_22 : decode cX9_get 22 = .ok (.ireturn, 1) := by decide +kernel
theorem dX9_get_4 : decode cX9_get 4 = .ok (.iload_n 1, 1) := by decide +kernel
theorem dX9_get_5 : decode cX9_get 5 = .ok (.aload_n 0, 1) := by decide +kernel
theorem dX9_get_6 : decode cX9_get 6 = .ok (.getfield 25, 3) := by decide +kernel
theorem ok_X9 : clOK 9 RX9 TX9 3 tyX9 := ⟨rfl, fun w h => ⟨(show ∀ w ∈ u_ws RX9 TX9 3, w ∈ lw_tbl by decide +kernel) w h, (show ∀ w ∈ u_ws RX9 TX9 3, gw w = true by decide +kernel) w h⟩, tyX9_ok, nmX9⟩
theorem kf9_25 : inW (Cond.fieldLink RX9 25 "KneeOaths$Told" "count" "I") := ⟨List.mem_of_getElem? (i := 220) (by decide +kernel), by decide +kernel⟩
theorem dX9_get_9 : decode cX9_get 9 = .ok (.if_icmp .ge 12, 3) := by decide +kernel
theorem dX9_get_12 : decode cX9_get 12 = .ok (.iload_n 2, 1) := by decide +kernel
theorem dX9_get_13 : decode cX9_get 13 = .ok (.ifCond .lt 8, 3) := by decide +kernel
theorem dX9_get_16 : decode cX9_get 16 = .ok (.iload_n 2, 1) := by decide +kernel
theorem dX9_get_17 : decode cX9_get 17 = .ok (.iconst 3, 1) := by decide +kernel
theorem dX9_get_18 : decode cX9_get 18 = .ok (.if_icmp .lt 5, 3) := by decide +kernel
theorem dX9_get_23 : decode cX9_get 23 = .ok (.aload_n 0, 1) := by decide +kernel
theorem dX9_get_24 : decode cX9_get 24 = .ok (.getfield 9, 3) := by decide +kernel
theorem kf9_9 : inW (Cond.fieldLink RX9 9 "KneeOaths$Told" "cells" "[I") := ⟨List.mem_of_getElem? (i := 218) (by decide +kernel), by decide +kernel⟩
theorem dX9_get_27 : decode cX9_get 27 = .ok (.iload_n 1, 1) := by decide +kernel
theorem dX9_get_28 : decode cX9_get 28 = .ok (.iconst 3, 1) := by decide +kernel
theorem dX9_get_29 : decode cX9_get 29 = .ok (.imul, 1) := by decide +kernel
theorem dX9_get_30 : decode cX9_get 30 = .ok (.iload_n 2, 1) := by decide +kernel
theorem dX9_get_31 : decode cX9_get 31 = .ok (.iadd, 1) := by decide +kernel
theorem dX9_get_32 : decode cX9_get 32 = .ok (.iaload, 1) := by decide +kernel
theorem dX9_get_33 : decode cX9_get 33 = .ok (.ireturn, 1) := by decide +kernel
theorem dX9_forget_0 : decode cX9_forget 0 = .ok (.aload_n 0, 1) := by decide +kernel
theorem dX9_forget_1 : decode cX9_forget 1 = .ok (.iconst 0, 1) := by decide +kernel
theorem dX9_forget_2 : decode cX9_forget 2 = .ok (.putfield 25, 3) := by decide +kernel
theorem dX9_forget_5 : decode cX9_forget 5 = .ok (.iconst 0, 1) := by decide +kernel
theorem dX9_forget_6 : decode cX9_forget 6 = .ok (.ireturn, 1) := by decide +kernel
theorem dX9_tell_0 : decode cX9_tell 0 = .ok (.aload_n 0, 1) := by decide +kernel
theorem dX9_tell_1 : decode cX9_tell 1 = .ok (.getfield 25, 3) := by decide +kernel
theorem dX9_tell_4 : decode cX9_tell 4 = .ok (.aload_n 0, 1) := by decide +kernel
theorem dX9_tell_5 : decode cX9_tell 5 = .ok (.getfield 21, 3) := by decide +kernel
theorem kf9_21 : inW (Cond.fieldLink RX9 21 "KneeOaths$Told" "limit" "I") := ⟨List.mem_of_getElem? (i := 219) (by decide +kernel), by decide +kernel⟩
theorem dX9_tell_8 : decode cX9_tell 8 = .ok (.if_icmp .lt 6, 3) := by decide +kernel
theorem dX9_tell_14 : decode cX9_tell 14 = .ok (.aload_n 0, 1) := by decide +kernel
theorem dX9_tell_15 : decode cX9_tell 15 = .ok (.getfield 25, 3) := by decide +kernel
theorem dX9_tell_18 : decode cX9_tell 18 = .ok (.iconst 3, 1) := by decide +kernel
theorem dX9_tell_19 : decode cX9_tell 19 = .ok (.imul, 1) := by decide +kernel
theorem dX9_tell_20 : decode cX9_tell 20 = .ok (.istore 4, 2) := by decide +kernel
theorem dX9_tell_22 : decode cX9_tell 22 = .ok (.aload_n 0, 1) := by decide +kernel
theorem dX9_tell_23 : decode cX9_tell 23 = .ok (.getfield 9, 3) := by decide +kernel
theorem dX9_tell_26 : decode cX9_tell 26 = .ok (.iload 4, 2) := by decide +kernel
theorem dX9_tell_28 : decode cX9_tell 28 = .ok (.iload_n 1, 1) := by decide +kernel
theorem dX9_tell_29 : decode cX9_tell 29 = .ok (.iastore, 1) := by decide +kernel
theorem dX9_tell_30 : decode cX9_tell 30 = .ok (.aload_n 0, 1) := by decide +kernel
theorem dX9_tell_31 : decode cX9_tell 31 = .ok (.getfield 9, 3) := by decide +kernel
theorem dX9_tell_34 : decode cX9_tell 34 = .ok (.iload 4, 2) := by decide +kernel
theorem dX9_tell_36 : decode cX9_tell 36 = .ok (.iconst 1, 1) := by decide +kernel
theorem dX9_tell_37 : decode cX9_tell 37 = .ok (.iadd, 1) := by decide +kernel
theorem dX9_tell_38 : decode cX9_tell 38 = .ok (.iload_n 2, 1) := by decide +kernel
theorem dX9_tell_39 : decode cX9_tell 39 = .ok (.iastore, 1) := by decide +kernel
theorem dX9_tell_40 : decode cX9_tell 40 = .ok (.aload_n 0, 1) := by decide +kernel
theorem dX9_tell_41 : decode cX9_tell 41 = .ok (.getfield 9, 3) := by decide +kernel
theorem dX9_tell_44 : decode cX9_tell 44 = .ok (.iload 4, 2) := by decide +kernel
theorem dX9_tell_46 : decode cX9_tell 46 = .ok (.iconst 2, 1) := by decide +kernel
theorem dX9_tell_47 : decode cX9_tell 47 = .ok (.iadd, 1) := by decide +kernel
theorem dX9_tell_48 : decode cX9_tell 48 = .ok (.iload_n 3, 1) := by decide +kernel
theorem dX9_tell_49 : decode cX9_tell 49 = .ok (.iastore, 1) := by decide +kernel
theorem dX9_tell_50 : decode cX9_tell 50 = .ok (.aload_n 0, 1) := by decide +kernel
theorem dX9_tell_51 : decode cX9_tell 51 = .ok (.dup, 1) := by decide +kernel
theorem dX9_tell_52 : decode cX9_tell 52 = .ok (.getfield 25, 3) := by decide +kernel
theorem dX9_tell_55 : decode cX9_tell 55 = .ok (.iconst 1, 1) := by decide +kernel
theorem dX9_tell_56 : decode cX9_tell 56 = .ok (.iadd, 1) := by decide +kernel
theorem dX9_tell_57 : decode cX9_tell 57 = .ok (.putfield 25, 3) := by decide +kernel
theorem dX9_tell_60 : decode cX9_tell 60 = .ok (.aload_n 0, 1) := by decide +kernel
theorem dX9_tell_61 : decode cX9_tell 61 = .ok (.getfield 25, 3) := by decide +kernel
theorem dX9_tell_64 : decode cX9_tell 64 = .ok (.ireturn, 1) := by decide +kernel
theorem dX9_tell_11 : decode cX9_tell 11 = .ok (.bipush (-2), 2) := by decide +kernel
theorem dX9_tell_13 : decode cX9_tell 13 = .ok (.ireturn, 1) := by decide +kernel
theorem dX9_takeOver_0 : decode cX9_takeOver 0 = .ok (.aload_n 1, 1) := by decide +kernel
theorem dX9_takeOver_1 : decode cX9_takeOver 1 = .ok (.getfield 9, 3) := by decide +kernel
theorem dX9_takeOver_4 : decode cX9_takeOver 4 = .ok (.iconst 0, 1) := by decide +kernel
theorem dX9_takeOver_5 : decode cX9_takeOver 5 = .ok (.aload_n 0, 1) := by decide +kernel
theorem dX9_takeOver_6 : decode cX9_takeOver 6 = .ok (.getfield 9, 3) := by decide +kernel
theorem dX9_takeOver_9 : decode cX9_takeOver 9 = .ok (.iconst 0, 1) := by decide +kernel
theorem dX9_takeOver_10 : decode cX9_takeOver 10 = .ok (.aload_n 0, 1) := by decide +kernel
theorem dX9_takeOver_11 : decode cX9_takeOver 11 = .ok (.getfield 9, 3) := by decide +kernel
theorem dX9_takeOver_14 : decode cX9_takeOver 14 = .ok (.arraylength, 1) := by decide +kernel
theorem dX9_takeOver_15 : decode cX9_takeOver 15 = .ok (.invokestatic 28, 3) := by decide +kernel
theorem km9_28 : inW (Cond.methodLink RX9 28 arraycopyName) := ⟨List.mem_of_getElem? (i := 1480) (by decide +kernel), by decide +kernel⟩
theorem dX9_takeOver_18 : decode cX9_takeOver 18 = .ok (.aload_n 0, 1) := by decide +kernel
theorem dX9_takeOver_19 : decode cX9_takeOver 19 = .ok (.aload_n 1, 1) := by decide +kernel
theorem dX9_takeOver_20 : decode cX9_takeOver 20 = .ok (.getfield 25, 3) := by decide +kernel
theorem dX9_takeOver_23 : decode cX9_takeOver 23 = .ok (.putfield 25, 3) := by decide +kernel
theorem dX9_takeOver_26 : decode cX9_takeOver 26 = .ok (.return_, 1) := by decide +kernel
theorem dX7_clear_0 : decode cX7_clear 0 = .ok (.aload_n 0, 1) := by decide +kernel
theorem dX7_clear_1 : decode cX7_clear 1 = .ok (.iconst 0, 1) := by decide +kernel
theorem dX7_clear_2 : decode cX7_clear 2 = .ok (.putfield 27, 3) := by decide +kernel
theorem ok_X7 : clOK 7 RX7 TX7 7 tyX7 := ⟨rfl, fun w h => ⟨(show ∀ w ∈ u_ws RX7 TX7 7, w ∈ lw_tbl by decide +kernel) w h, (show ∀ w ∈ u_ws RX7 TX7 7, gw w = true by decide +kernel) w h⟩, tyX7_ok, nmX7⟩
theorem kf7_27 : inW (Cond.fieldLink RX7 27 "KneeOaths$Script" "length" "I") := ⟨List.mem_of_getElem? (i := 242) (by decide +kernel), by decide +kernel⟩
theorem dX7_clear_5 : decode cX7_clear 5 = .ok (.aload_n 0, 1) := by decide +kernel
theorem dX7_clear_6 : decode cX7_clear 6 = .ok (.iconst 0, 1) := by decide +kernel
theorem dX7_clear_7 : decode cX7_clear 7 = .ok (.putfield 31, 3) := by decide +kernel
theorem kf7_31 : inW (Cond.fieldLink RX7 31 "KneeOaths$Script" "clauseCount" "I") := ⟨List.mem_of_getElem? (i := 244) (by decide +kernel), by decide +kernel⟩
theorem dX7_clear_10 : decode cX7_clear 10 = .ok (.iconst 0, 1) := by decide +kernel
theorem dX7_clear_11 : decode cX7_clear 11 = .ok (.istore_n 1, 1) := by decide +kernel
theorem dX7_clear_12 : decode cX7_clear 12 = .ok (.iload_n 1, 1) := by decide +kernel
theorem dX7_clear_13 : decode cX7_clear 13 = .ok (.iconst 3, 1) := by decide +kernel
theorem dX7_clear_14 : decode cX7_clear 14 = .ok (.if_icmp .ge 23, 3) := by decide +kernel
theorem dX7_clear_17 : decode cX7_clear 17 = .ok (.aload_n 0, 1) := by decide +kernel
theorem dX7_clear_18 : decode cX7_clear 18 = .ok (.getfield 18, 3) := by decide +kernel
theorem kf7_18 : inW (Cond.fieldLink RX7 18 "KneeOaths$Script" "lawFrom" "[I") := ⟨List.mem_of_getElem? (i := 239) (by decide +kernel), by decide +kernel⟩
theorem dX7_clear_21 : decode cX7_clear 21 = .ok (.iload_n 1, 1) := by decide +kernel
theorem dX7_clear_22 : decode cX7_clear 22 = .ok (.iconst 0, 1) := by decide +kernel
theorem dX7_clear_23 : decode cX7_clear 23 = .ok (.iastore, 1) := by decide +kernel
theorem dX7_clear_24 : decode cX7_clear 24 = .ok (.aload_n 0, 1) := by decide +kernel
theorem dX7_clear_25 : decode cX7_clear 25 = .ok (.getfield 21, 3) := by decide +kernel
theorem kf7_21 : inW (Cond.fieldLink RX7 21 "KneeOaths$Script" "lawTo" "[I") := ⟨List.mem_of_getElem? (i := 240) (by decide +kernel), by decide +kernel⟩
theorem dX7_clear_28 : decode cX7_clear 28 = .ok (.iload_n 1, 1) := by decide +kernel
theorem dX7_clear_29 : decode cX7_clear 29 = .ok (.iconst 0, 1) := by decide +kernel
theorem dX7_clear_30 : decode cX7_clear 30 = .ok (.iastore, 1) := by decide +kernel
theorem dX7_clear_31 : decode cX7_clear 31 = .ok (.iinc 1 1, 3) := by decide +kernel
theorem dX7_clear_34 : decode cX7_clear 34 = .ok (.goto (-22), 3) := by decide +kernel
theorem dX7_clear_37 : decode cX7_clear 37 = .ok (.return_, 1) := by decide +kernel
theorem dX7_takeOver_0 : decode cX7_takeOver 0 = .ok (.aload_n 1, 1) := by decide +kernel
theorem dX7_takeOver_1 : decode cX7_takeOver 1 = .ok (.getfield 9, 3) := by decide +kernel
theorem kf7_9 : inW (Cond.fieldLink RX7 9 "KneeOaths$Script" "doings" "[I") := ⟨List.mem_of_getElem? (i := 237) (by decide +kernel), by decide +kernel⟩
theorem dX7_takeOver_4 : decode cX7_takeOver 4 = .ok (.iconst 0, 1) := by decide +kernel
theorem dX7_takeOver_5 : decode cX7_takeOver 5 = .ok (.aload_n 0, 1) := by decide +kernel
theorem dX7_takeOver_6 : decode cX7_takeOver 6 = .ok (.getfield 9, 3) := by decide +kernel
theorem dX7_takeOver_9 : decode cX7_takeOver 9 = .ok (.iconst 0, 1) := by decide +kernel
theorem dX7_takeOver_10 : decode cX7_takeOver 10 = .ok (.aload_n 0, 1) := by decide +kernel
theorem dX7_takeOver_11 : decode cX7_takeOver 11 = .ok (.getfield 9, 3) := by decide +kernel
theorem dX7_takeOver_14 : decode cX7_takeOver 14 = .ok (.arraylength, 1) := by decide +kernel
theorem dX7_takeOver_15 : decode cX7_takeOver 15 = .ok (.invokestatic 34, 3) := by decide +kernel
theorem km7_34 : inW (Cond.methodLink RX7 34 arraycopyName) := ⟨List.mem_of_getElem? (i := 1475) (by decide +kernel), by decide +kernel⟩
theorem dX7_takeOver_18 : decode cX7_takeOver 18 = .ok (.aload_n 1, 1) := by decide +kernel
theorem dX7_takeOver_19 : decode cX7_takeOver 19 = .ok (.getfield 15, 3) := by decide +kernel
theorem kf7_15 : inW (Cond.fieldLink RX7 15 "KneeOaths$Script" "numbers" "[I") := ⟨List.mem_of_getElem? (i := 238) (by decide +kernel), by decide +kernel⟩
theorem dX7_takeOver_22 : decode cX7_takeOver 22 = .ok (.iconst 0, 1) := by decide +kernel
theorem dX7_takeOver_23 : decode cX7_takeOver 23 = .ok (.aload_n 0, 1) := by decide +kernel
theorem dX7_takeOver_24 : decode cX7_takeOver 24 = .ok (.getfield 15, 3) := by decide +kernel
theorem dX7_takeOver_27 : decode cX7_takeOver 27 = .ok (.iconst 0, 1) := by decide +kernel
theorem dX7_takeOver_28 : decode cX7_takeOver 28 = .ok (.aload_n 0, 1) := by decide +kernel
theorem dX7_takeOver_29 : decode cX7_takeOver 29 = .ok (.getfield 15, 3) := by decide +kernel
theorem dX7_takeOver_32 : decode cX7_takeOver 32 = .ok (.arraylength, 1) := by decide +kernel
theorem dX7_takeOver_33 : decode cX7_takeOver 33 = .ok (.invokestatic 34, 3) := by decide +kernel
theorem dX7_takeOver_36 : decode cX7_takeOver 36 = .ok (.aload_n 1, 1) := by decide +kernel
theorem dX7_takeOver_37 : decode cX7_takeOver 37 = .ok (.getfield 18, 3) := by decide +kernel
theorem dX7_takeOver_40 : decode cX7_takeOver 40 = .ok (.iconst 0, 1) := by decide +kernel
theorem dX7_takeOver_41 : decode cX7_takeOver 41 = .ok (.aload_n 0, 1) := by decide +kernel
theorem dX7_takeOver_42 : decode cX7_takeOver 42 = .ok (.getfield 18, 3) := by decide +kernel
theorem dX7_takeOver_45 : decode cX7_takeOver 45 = .ok (.iconst 0, 1) := by decide +kernel
theorem dX7_takeOver_46 : decode cX7_takeOver 46 = .ok (.aload_n 0, 1) := by decide +kernel
theorem dX7_takeOver_47 : decode cX7_takeOver 47 = .ok (.getfield 18, 3) := by decide +kernel
theorem dX7_takeOver_50 : decode cX7_takeOver 50 = .ok (.arraylength, 1) := by decide +kernel
theorem dX7_takeOver_51 : decode cX7_takeOver 51 = .ok (.invokestatic 34, 3) := by decide +kernel
theorem dX7_takeOver_54 : decode cX7_takeOver 54 = .ok (.aload_n 1, 1) := by decide +kernel
theorem dX7_takeOver_55 : decode cX7_takeOver 55 = .ok (.getfield 21, 3) := by decide +kernel
theorem dX7_takeOver_58 : decode cX7_takeOver 58 = .ok (.iconst 0, 1) := by decide +kernel
theorem dX7_takeOver_59 : decode cX7_takeOver 59 = .ok (.aload_n 0, 1) := by decide +kernel
theorem dX7_takeOver_60 : decode cX7_takeOver 60 = .ok (.getfield 21, 3) := by decide +kernel
theorem dX7_takeOver_63 : decode cX7_takeOver 63 = .ok (.iconst 0, 1) := by decide +kernel
theorem dX7_takeOver_64 : decode cX7_takeOver 64 = .ok (.aload_n 0, 1) := by decide +kernel
theorem dX7_takeOver_65 : decode cX7_takeOver 65 = .ok (.getfield 21, 3) := by decide +kernel
theorem dX7_takeOver_68 : decode cX7_takeOver 68 = .ok (.arraylength, 1) := by decide +kernel
theorem dX7_takeOver_69 : decode cX7_takeOver 69 = .ok (.invokestatic 34, 3) := by decide +kernel
theorem dX7_takeOver_72 : decode cX7_takeOver 72 = .ok (.aload_n 1, 1) := by decide +kernel
theorem dX7_takeOver_73 : decode cX7_takeOver 73 = .ok (.getfield 24, 3) := by decide +kernel
theorem kf7_24 : inW (Cond.fieldLink RX7 24 "KneeOaths$Script" "clauses" "[I") := ⟨List.mem_of_getElem? (i := 241) (by decide +kernel), by decide +kernel⟩
theorem dX7_takeOver_76 : decode cX7_takeOver 76 = .ok (.iconst 0, 1) := by decide +kernel
theorem dX7_takeOver_77 : decode cX7_takeOver 77 = .ok (.aload_n 0, 1) := by decide +kernel
theorem dX7_takeOver_78 : decode cX7_takeOver 78 = .ok (.getfield 24, 3) := by decide +kernel
theorem dX7_takeOver_81 : decode cX7_takeOver 81 = .ok (.iconst 0, 1) := by decide +kernel
theorem dX7_takeOver_82 : decode cX7_takeOver 82 = .ok (.aload_n 0, 1) := by decide +kernel
theorem dX7_takeOver_83 : decode cX7_takeOver 83 = .ok (.getfield 24, 3) := by decide +kernel
theorem dX7_takeOver_86 : decode cX7_takeOver 86 = .ok (.arraylength, 1) := by decide +kernel
theorem dX7_takeOver_87 : decode cX7_takeOver 87 = .ok (.invokestatic 34, 3) := by decide +kernel
theorem dX7_takeOver_90 : decode cX7_takeOver 90 = .ok (.aload_n 0, 1) := by decide +kernel
theorem dX7_takeOver_91 : decode cX7_takeOver 91 = .ok (.aload_n 1, 1) := by decide +kernel
theorem dX7_takeOver_92 : decode cX7_takeOver 92 = .ok (.getfield 27, 3) := by decide +kernel
theorem dX7_takeOver_95 : decode cX7_takeOver 95 = .ok (.putfield 27, 3) := by decide +kernel
theorem dX7_takeOver_98 : decode cX7_takeOver 98 = .ok (.aload_n 0, 1) := by decide +kernel
theorem dX7_takeOver_99 : decode cX7_takeOver 99 = .ok (.aload_n 1, 1) := by decide +kernel
theorem dX7_takeOver_100 : decode cX7_takeOver 100 = .ok (.getfield 31, 3) := by decide +kernel
theorem dX7_takeOver_103 : decode cX7_takeOver 103 = .ok (.putfield 31, 3) := by decide +kernel
theorem dX7_takeOver_106 : decode cX7_takeOver 106 = .ok (.return_, 1) := by decide +kernel
theorem dX7_add_0 : decode cX7_add 0 = .ok (.aload_n 0, 1) := by decide +kernel
theorem dX7_add_1 : decode cX7_add 1 = .ok (.getfield 27, 3) := by decide +kernel
theorem dX7_add_4 : decode cX7_add 4 = .ok (.sipush 300, 3) := by decide +kernel
theorem dX7_add_7 : decode cX7_add 7 = .ok (.if_icmp .lt 5, 3) := by decide +kernel
theorem dX7_add_12 : decode cX7_add 12 = .ok (.aload_n 0, 1) := by decide +kernel
theorem dX7_add_13 : decode cX7_add 13 = .ok (.getfield 9, 3) := by decide +kernel
theorem dX7_add_16 : decode cX7_add 16 = .ok (.aload_n 0, 1) := by decide +kernel
theorem dX7_add_17 : decode cX7_add 17 = .ok (.getfield 27, 3) := by decide +kernel
theorem dX7_add_20 : decode cX7_add 20 = .ok (.iload_n 1, 1) := by decide +kernel
theorem dX7_add_21 : decode cX7_add 21 = .ok (.iastore, 1) := by decide +kernel
theorem dX7_add_22 : decode cX7_add 22 = .ok (.aload_n 0, 1) := by decide +kernel
theorem dX7_add_23 : decode cX7_add 23 = .ok (.getfield 15, 3) := by decide +kernel
theorem dX7_add_26 : decode cX7_add 26 = .ok (.aload_n 0, 1) := by decide +kernel
theorem dX7_add_27 : decode cX7_add 27 = .ok (.getfield 27, 3) := by decide +kernel
theorem dX7_add_30 : decode cX7_add 30 = .ok (.iload_n 2, 1) := by decide +kernel
theorem dX7_add_31 : decode cX7_add 31 = .ok (.iastore, 1) := by decide +kernel
theorem dX7_add_32 : decode cX7_add 32 = .ok (.aload_n 0, 1) := by decide +kernel
theorem dX7_add_33 : decode cX7_add 33 = .ok (.dup, 1) := by decide +kernel
theorem dX7_add_34 : decode cX7_add 34 = .ok (.getfield 27, 3) := by decide +kernel
theorem dX7_add_37 : decode cX7_add 37 = .ok (.iconst 1, 1) := by decide +kernel
theorem dX7_add_38 : decode cX7_add 38 = .ok (.iadd, 1) := by decide +kernel
theorem dX7_add_39 : decode cX7_add 39 = .ok (.putfield 27, 3) := by decide +kernel
theorem dX7_add_42 : decode cX7_add 42 = .ok (.aload_n 0, 1) := by decide +kernel
theorem dX7_add_43 : decode cX7_add 43 = .ok (.getfield 27, 3) := by decide +kernel
theorem dX7_add_46 : decode cX7_add 46 = .ok (.iconst 1, 1) := by decide +kernel
theorem dX7_add_47 : decode cX7_add 47 = .ok (.isub, 1) := by decide +kernel
theorem dX7_add_48 : decode cX7_add 48 = .ok (.ireturn, 1) := by decide +kernel
theorem dX7_leadHere_0 : decode cX7_leadHere 0 = .ok (.iload_n 1, 1) := by decide +kernel
theorem dX7_leadHere_1 : decode cX7_leadHere 1 = .ok (.ifCond .lt 21, 3) := by decide +kernel
theorem dX7_leadHere_22 : decode cX7_leadHere 22 = .ok (.return_, 1) := by decide +kernel
theorem dX7_leadHere_4 : decode cX7_leadHere 4 = .ok (.iload_n 1, 1) := by decide +kernel
theorem dX7_leadHere_5 : decode cX7_leadHere 5 = .ok (.aload_n 0, 1) := by decide +kernel
theorem dX7_leadHere_6 : decode cX7_leadHere 6 = .ok (.getfield 27, 3) := by decide +kernel
theorem dX7_leadHere_9 : decode cX7_leadHere 9 = .ok (.if_icmp .ge 13, 3) := by decide +kernel
theorem dX7_leadHere_12 : decode cX7_leadHere 12 = .ok (.aload_n 0, 1) := by decide +kernel
theorem dX7_leadHere_13 : decode cX7_leadHere 13 = .ok (.getfield 15, 3) := by decide +kernel
theorem dX7_leadHere_16 : decode cX7_leadHere 16 = .ok (.iload_n 1, 1) := by decide +kernel
theorem dX7_leadHere_17 : decode cX7_leadHere 17 = .ok (.aload_n 0, 1) := by decide +kernel
theorem dX7_leadHere_18 : decode cX7_leadHere 18 = .ok (.getfield 27, 3) := by decide +kernel
theorem dX7_leadHere_21 : decode cX7_leadHere 21 = .ok (.iastore, 1) := by decide +kernel
theorem dX7_addLaw_0 : decode cX7_addLaw 0 = .ok (.iload_n 1, 1) := by decide +kernel
theorem dX7_addLaw_1 : decode cX7_addLaw 1 = .ok (.ifCond .lt 25, 3) := by decide +kernel
theorem dX7_addLaw_4 : decode cX7_addLaw 4 = .ok (.iload_n 1, 1) := by decide +kernel
theorem dX7_addLaw_5 : decode cX7_addLaw 5 = .ok (.iconst 3, 1) := by decide +kernel
theorem dX7_addLaw_6 : decode cX7_addLaw 6 = .ok (.if_icmp .ge 20, 3) := by decide +kernel
theorem dX7_addLaw_9 : decode cX7_addLaw 9 = .ok (.aload_n 0, 1) := by decide +kernel
theorem dX7_addLaw_10 : decode cX7_addLaw 10 = .ok (.getfield 18, 3) := by decide +kernel
theorem dX7_addLaw_13 : decode cX7_addLaw 13 = .ok (.iload_n 1, 1) := by decide +kernel
theorem dX7_addLaw_14 : decode cX7_addLaw 14 = .ok (.iload_n 2, 1) := by decide +kernel
theorem dX7_addLaw_15 : decode cX7_addLaw 15 = .ok (.iastore, 1) := by decide +kernel
theorem dX7_addLaw_16 : decode cX7_addLaw 16 = .ok (.aload_n 0, 1) := by decide +kernel
theorem dX7_addLaw_17 : decode cX7_addLaw 17 = .ok (.getfield 21, 3) := by decide +kernel
theorem dX7_addLaw_20 : decode cX7_addLaw 20 = .ok (.iload_n 1, 1) := by decide +kernel
theorem dX7_addLaw_21 : decode cX7_addLaw 21 = .ok (.aload_n 0, 1) := by decide +kernel
theorem dX7_addLaw_22 : decode cX7_addLaw 22 = .ok (.getfield 27, 3) := by decide +kernel
theorem dX7_addLaw_25 : decode cX7_addLaw 25 = .ok (.iastore, 1) := by decide +kernel
theorem dX7_addLaw_26 : decode cX7_addLaw 26 = .ok (.return_, 1) := by decide +kernel
theorem dX7_hasLaw_0 : decode cX7_hasLaw 0 = .ok (.iload_n 1, 1) := by decide +kernel
theorem dX7_hasLaw_1 : decode cX7_hasLaw 1 = .ok (.ifCond .lt 27, 3) := by decide +kernel
theorem dX7_hasLaw_28 : decode cX7_hasLaw 28 = .ok (.iconst 0, 1) := by decide +kernel
theorem dX7_hasLaw_29 : decode cX7_hasLaw 29 = .ok (.ireturn, 1) := by decide +kernel
theorem dX7_hasLaw_4 : decode cX7_hasLaw 4 = .ok (.iload_n 1, 1) := by decide +kernel
theorem dX7_hasLaw_5 : decode cX7_hasLaw 5 = .ok (.iconst 3, 1) := by decide +kernel
theorem dX7_hasLaw_6 : decode cX7_hasLaw 6 = .ok (.if_icmp .ge 22, 3) := by decide +kernel
theorem dX7_hasLaw_9 : decode cX7_hasLaw 9 = .ok (.aload_n 0, 1) := by decide +kernel
theorem dX7_hasLaw_10 : decode cX7_hasLaw 10 = .ok (.getfield 18, 3) := by decide +kernel
theorem dX7_hasLaw_13 : decode cX7_hasLaw 13 = .ok (.iload_n 1, 1) := by decide +kernel
theorem dX7_hasLaw_14 : decode cX7_hasLaw 14 = .ok (.iaload, 1) := by decide +kernel
theorem dX7_hasLaw_15 : decode cX7_hasLaw 15 = .ok (.aload_n 0, 1) := by decide +kernel
theorem dX7_hasLaw_16 : decode cX7_hasLaw 16 = .ok (.getfield 21, 3) := by decide +kernel
theorem dX7_hasLaw_19 : decode cX7_hasLaw 19 = .ok (.iload_n 1, 1) := by decide +kernel
theorem dX7_hasLaw_20 : decode cX7_hasLaw 20 = .ok (.iaload, 1) := by decide +kernel
theorem dX7_hasLaw_21 : decode cX7_hasLaw 21 = .ok (.if_icmp .ge 7, 3) := by decide +kernel
theorem dX7_hasLaw_24 : decode cX7_hasLaw 24 = .ok (.iconst 1, 1) := by decide +kernel
theorem dX7_hasLaw_25 : decode cX7_hasLaw 25 = .ok (.goto 4, 3) := by decide +kernel
theorem dX7_isFull_0 : decode cX7_isFull 0 = .ok (.aload_n 0, 1) := by decide +kernel
theorem dX7_isFull_1 : decode cX7_isFull 1 = .ok (.getfield 31, 3) := by decide +kernel
theorem dX7_isFull_4 : decode cX7_isFull 4 = .ok (.bipush 24, 2) := by decide +kernel
theorem dX7_isFull_6 : decode cX7_isFull 6 = .ok (.if_icmp .lt 7, 3) := by decide +kernel
theorem dX7_isFull_13 : decode cX7_isFull 13 = .ok (.iconst 0, 1) := by decide +kernel
theorem dX7_isFull_14 : decode cX7_isFull 14 = .ok (.ireturn, 1) := by decide +kernel
theorem dX7_isFull_9 : decode cX7_isFull 9 = .ok (.iconst 1, 1) := by decide +kernel
theorem dX7_isFull_10 : decode cX7_isFull 10 = .ok (.goto 4, 3) := by decide +kernel
theorem dX7_lawStart_0 : decode cX7_lawStart 0 = .ok (.iload_n 1, 1) := by decide +kernel
theorem dX7_lawStart_1 : decode cX7_lawStart 1 = .ok (.ifCond .lt 17, 3) := by decide +kernel
theorem dX7_lawStart_18 : decode cX7_lawStart 18 = .ok (.iconst 0, 1) := by decide +kernel
theorem dX7_lawStart_19 : decode cX7_lawStart 19 = .ok (.ireturn, 1) := by decide +kernel
theorem dX7_lawStart_4 : decode cX7_lawStart 4 = .ok (.iload_n 1, 1) := by decide +kernel
theorem dX7_lawStart_5 : decode cX7_lawStart 5 = .ok (.iconst 3, 1) := by decide +kernel
theorem dX7_lawStart_6 : decode cX7_lawStart 6 = .ok (.if_icmp .ge 12, 3) := by decide +kernel
theorem dX7_lawStart_9 : decode cX7_lawStart 9 = .ok (.aload_n 0, 1) := by decide +kernel
theorem dX7_lawStart_10 : decode cX7_lawStart 10 = .ok (.getfield 18, 3) := by decide +kernel
theorem dX7_lawStart_13 : decode cX7_lawStart 13 = .ok (.iload_n 1, 1) := by decide +kernel
theorem dX7_lawStart_14 : decode cX7_lawStart 14 = .ok (.iaload, 1) := by decide +kernel
theorem dX7_lawStart_15 : decode cX7_lawStart 15 = .ok (.goto 4, 3) := by decide +kernel
theorem dX7_lawEnd_0 : decode cX7_lawEnd 0 = .ok (.iload_n 1, 1) := by decide +kernel
theorem dX7_lawEnd_1 : decode cX7_lawEnd 1 = .ok (.ifCond .lt 17, 3) := by decide +kernel
theorem dX7_lawEnd_18 : decode cX7_lawEnd 18 = .ok (.iconst 0, 1) := by decide +kernel
theorem dX7_lawEnd_19 : decode cX7_lawEnd 19 = .ok (.ireturn, 1) := by decide +kernel
theorem dX7_lawEnd_4 : decode cX7_lawEnd 4 = .ok (.iload_n 1, 1) := by decide +kernel
theorem dX7_lawEnd_5 : decode cX7_lawEnd 5 = .ok (.iconst 3, 1) := by decide +kernel
theorem dX7_lawEnd_6 : decode cX7_lawEnd 6 = .ok (.if_icmp .ge 12, 3) := by decide +kernel
theorem dX7_lawEnd_9 : decode cX7_lawEnd 9 = .ok (.aload_n 0, 1) := by decide +kernel
theorem dX7_lawEnd_10 : decode cX7_lawEnd 10 = .ok (.getfield 21, 3) := by decide +kernel
theorem dX7_lawEnd_13 : decode cX7_lawEnd 13 = .ok (.iload_n 1, 1) := by decide +kernel
theorem dX7_lawEnd_14 : decode cX7_lawEnd 14 = .ok (.iaload, 1) := by decide +kernel
theorem dX7_lawEnd_15 : decode cX7_lawEnd 15 = .ok (.goto 4, 3) := by decide +kernel
theorem dX7_doing_0 : decode cX7_doing 0 = .ok (.iload_n 1, 1) := by decide +kernel
theorem dX7_doing_1 : decode cX7_doing 1 = .ok (.ifCond .lt 20, 3) := by decide +kernel
theorem dX7_doing_21 : decode cX7_doing 21 = .ok (.iconst (-1), 1) := by decide +kernel
theorem dX7_doing_22 : decode cX7_doing 22 = .ok (.ireturn, 1) := by decide +kernel
theorem dX7_doing_4 : decode cX7_doing 4 = .ok (.iload_n 1, 1) := by decide +kernel
theorem dX7_doing_5 : decode cX7_doing 5 = .ok (.aload_n 0, 1) := by decide +kernel
theorem dX7_doing_6 : decode cX7_doing 6 = .ok (.getfield 27, 3) := by decide +kernel
theorem dX7_doing_9 : decode cX7_doing 9 = .ok (.if_icmp .ge 12, 3) := by decide +kernel
theorem dX7_doing_12 : decode cX7_doing 12 = .ok (.aload_n 0, 1) := by decide +kernel
theorem dX7_doing_13 : decode cX7_doing 13 = .ok (.getfield 9, 3) := by decide +kernel
theorem dX7_doing_16 : decode cX7_doing 16 = .ok (.iload_n 1, 1) := by decide +kernel
theorem dX7_doing_17 : decode cX7_doing 17 = .ok (.iaload, 1) := by decide +kernel
theorem dX7_doing_18 : decode cX7_doing 18 = .ok (.goto 4, 3) := by decide +kernel
theorem dX7_number_0 : decode cX7_number 0 = .ok (.iload_n 1, 1) := by decide +kernel
theorem dX7_number_1 : decode cX7_number 1 = .ok (.ifCond .lt 20, 3) := by decide +kernel
theorem dX7_number_21 : decode cX7_number 21 = .ok (.iconst (-1), 1) := by decide +kernel
theorem dX7_number_22 : decode cX7_number 22 = .ok (.ireturn, 1) := by decide +kernel
theorem dX7_number_4 : decode cX7_number 4 = .ok (.iload_n 1, 1) := by decide +kernel
theorem dX7_number_5 : decode cX7_number 5 = .ok (.aload_n 0, 1) := by decide +kernel
theorem dX7_number_6 : decode cX7_number 6 = .ok (.getfield 27, 3) := by decide +kernel
theorem dX7_number_9 : decode cX7_number 9 = .ok (.if_icmp .ge 12, 3) := by decide +kernel
theorem dX7_number_12 : decode cX7_number 12 = .ok (.aload_n 0, 1) := by decide +kernel
theorem dX7_number_13 : decode cX7_number 13 = .ok (.getfield 15, 3) := by decide +kernel
theorem dX7_number_16 : decode cX7_number 16 = .ok (.iload_n 1, 1) := by decide +kernel
theorem dX7_number_17 : decode cX7_number 17 = .ok (.iaload, 1) := by decide +kernel
theorem dX7_number_18 : decode cX7_number 18 = .ok (.goto 4, 3) := by decide +kernel
theorem dX7_setClause_0 : decode cX7_setClause 0 = .ok (.aload_n 0, 1) := by decide +kernel
theorem dX7_setClause_1 : decode cX7_setClause 1 = .ok (.getfield 31, 3) := by decide +kernel
theorem dX7_setClause_4 : decode cX7_setClause 4 = .ok (.ifCond .le 28, 3) := by decide +kernel
theorem dX7_setClause_32 : decode cX7_setClause 32 = .ok (.return_, 1) := by decide +kernel
theorem dX7_setClause_7 : decode cX7_setClause 7 = .ok (.iload_n 1, 1) := by decide +kernel
theorem dX7_setClause_8 : decode cX7_setClause 8 = .ok (.ifCond .lt 24, 3) := by decide +kernel
theorem dX7_setClause_11 : decode cX7_setClause 11 = .ok (.iload_n 1, 1) := by decide +kernel
theorem dX7_setClause_12 : decode cX7_setClause 12 = .ok (.iconst 5, 1) := by decide +kernel
theorem dX7_setClause_13 : decode cX7_setClause 13 = .ok (.if_icmp .ge 19, 3) := by decide +kernel
theorem dX7_setClause_16 : decode cX7_setClause 16 = .ok (.aload_n 0, 1) := by decide +kernel
theorem dX7_setClause_17 : decode cX7_setClause 17 = .ok (.getfield 24, 3) := by decide +kernel
theorem dX7_setClause_20 : decode cX7_setClause 20 = .ok (.aload_n 0, 1) := by decide +kernel
theorem dX7_setClause_21 : decode cX7_setClause 21 = .ok (.getfield 31, 3) := by decide +kernel
theorem dX7_setClause_24 : decode cX7_setClause 24 = .ok (.iconst 1, 1) := by decide +kernel
theorem dX7_setClause_25 : decode cX7_setClause 25 = .ok (.isub, 1) := by decide +kernel
theorem dX7_setClause_26 : decode cX7_setClause 26 = .ok (.iconst 5, 1) := by decide +kernel
theorem dX7_setClause_27 : decode cX7_setClause 27 = .ok (.imul, 1) := by decide +kernel
theorem dX7_setClause_28 : decode cX7_setClause 28 = .ok (.iload_n 1, 1) := by decide +kernel
theorem dX7_setClause_29 : decode cX7_setClause 29 = .ok (.iadd, 1) := by decide +kernel
theorem dX7_setClause_30 : decode cX7_setClause 30 = .ok (.iload_n 2, 1) := by decide +kernel
theorem dX7_setClause_31 : decode cX7_setClause 31 = .ok (.iastore, 1) := by decide +kernel
theorem dX7_addClause_0 : decode cX7_addClause 0 = .ok (.aload_n 0, 1) := by decide +kernel
theorem dX7_addClause_1 : decode cX7_addClause 1 = .ok (.getfield 31, 3) := by decide +kernel
theorem dX7_addClause_4 : decode cX7_addClause 4 = .ok (.bipush 24, 2) := by decide +kernel
theorem dX7_addClause_6 : decode cX7_addClause 6 = .ok (.if_icmp .ge 19, 3) := by decide +kernel
theorem dX7_addClause_9 : decode cX7_addClause 9 = .ok (.aload_n 0, 1) := by decide +kernel
theorem dX7_addClause_10 : decode cX7_addClause 10 = .ok (.dup, 1) := by decide +kernel
theorem dX7_addClause_11 : decode cX7_addClause 11 = .ok (.getfield 31, 3) := by decide +kernel
theorem dX7_addClause_14 : decode cX7_addClause 14 = .ok (.iconst 1, 1) := by decide +kernel
theorem dX7_addClause_15 : decode cX7_addClause 15 = .ok (.iadd, 1) := by decide +kernel
theorem dX7_addClause_16 : decode cX7_addClause 16 = .ok (.putfield 31, 3) := by decide +kernel
theorem dX7_addClause_19 : decode cX7_addClause 19 = .ok (.aload_n 0, 1) := by decide +kernel
theorem dX7_addClause_20 : decode cX7_addClause 20 = .ok (.iconst 0, 1) := by decide +kernel
theorem dX7_addClause_21 : decode cX7_addClause 21 = .ok (.iload_n 1, 1) := by decide +kernel
theorem dX7_addClause_22 : decode cX7_addClause 22 = .ok (.invokevirtual 40, 3) := by decide +kernel
theorem cw_X7_setClause : CWv yX7_setClause cX7_setClause 3 none 2 := ⟨⟨⟨List.mem_of_getElem? (i := 129) (by decide +kernel), by decide +kernel⟩, ⟨List.mem_of_getElem? (i := 757) (by decide +kernel), by decide +kernel⟩, by decide +kernel⟩, ⟨List.mem_of_getElem? (i := 755) (by decide +kernel), by decide +kernel⟩, ⟨List.mem_of_getElem? (i := 756) (by decide +kernel), by decide +kernel⟩⟩
theorem km7_40 : inW (Cond.methodLink RX7 40 yX7_setClause) := ⟨List.mem_of_getElem? (i := 754) (by decide +kernel), by decide +kernel⟩
theorem dX7_addClause_25 : decode cX7_addClause 25 = .ok (.return_, 1) := by decide +kernel
theorem dX7_clause_0 : decode cX7_clause 0 = .ok (.iload_n 1, 1) := by decide +kernel
theorem dX7_clause_1 : decode cX7_clause 1 = .ok (.ifCond .lt 20, 3) := by decide +kernel
theorem dX7_clause_21 : decode cX7_clause 21 = .ok (.iconst (-1), 1) := by decide +kernel
theorem dX7_clause_22 : decode cX7_clause 22 = .ok (.ireturn, 1) := by decide +kernel
theorem dX7_clause_4 : decode cX7_clause 4 = .ok (.iload_n 1, 1) := by decide +kernel
theorem dX7_clause_5 : decode cX7_clause 5 = .ok (.aload_n 0, 1) := by decide +kernel
theorem dX7_clause_6 : decode cX7_clause 6 = .ok (.getfield 31, 3) := by decide +kernel
theorem dX7_clause_9 : decode cX7_clause 9 = .ok (.if_icmp .ge 12, 3) := by decide +kernel
theorem dX7_clause_12 : decode cX7_clause 12 = .ok (.iload_n 2, 1) := by decide +kernel
theorem dX7_clause_13 : decode cX7_clause 13 = .ok (.ifCond .lt 8, 3) := by decide +kernel
theorem dX7_clause_16 : decode cX7_clause 16 = .ok (.iload_n 2, 1) := by decide +kernel
theorem dX7_clause_17 : decode cX7_clause 17 = .ok (.iconst 5, 1) := by decide +kernel
theorem dX7_clause_18 : decode cX7_clause 18 = .ok (.if_icmp .lt 5, 3) := by decide +kernel
theorem dX7_clause_23 : decode cX7_clause 23 = .ok (.aload_n 0, 1) := by decide +kernel
theorem dX7_clause_24 : decode cX7_clause 24 = .ok (.getfield 24, 3) := by decide +kernel
theorem dX7_clause_27 : decode cX7_clause 27 = .ok (.iload_n 1, 1) := by decide +kernel
theorem dX7_clause_28 : decode cX7_clause 28 = .ok (.iconst 5, 1) := by decide +kernel
theorem dX7_clause_29 : decode cX7_clause 29 = .ok (.imul, 1) := by decide +kernel
theorem dX7_clause_30 : decode cX7_clause 30 = .ok (.iload_n 2, 1) := by decide +kernel
theorem dX7_clause_31 : decode cX7_clause 31 = .ok (.iadd, 1) := by decide +kernel
theorem dX7_clause_32 : decode cX7_clause 32 = .ok (.iaload, 1) := by decide +kernel
theorem dX7_clause_33 : decode cX7_clause 33 = .ok (.ireturn, 1) := by decide +kernel
set_option maxHeartbeats 4000000 in
set_option maxRecDepth 100000 in
theorem x_X9_get {l : Launch} {G : GG}  {L : List Nat} {f : HF} {ad : Nat → Nat → Nat} {rs : RS} {fc : Int × Int} {tc w : Nat → Int × Int} {q : Nat → (Nat → Int32) → Prop} {j : Nat} {i1 i2 : Int32} (I : SH (spC rs fc tc w q) nnC G ad L f) (hW : WBp w 8) (hT : WBp tc 4) (hQ : QIp q) (hj : j < 10) : PMp l yX9_get cX9_get 3 .int 0 0 0 G [.ref (ad 20 j), .int i1, .int i2] L f (fun r => True) := by
  refine PMi.of (post := fun r L1 f1 => (True) ∧ L1 = L ∧ f1 = f) (own := RX9) (by decide) rfl (Nat.le_of_ble_eq_true rfl) (fun sz p e s m args below meth c A ls hA1 hname S Y hl => ?_)
  have hx := S.hx
  have hb := S.hb
  have hl : lv_has ls 3 [(0, .ref (ad 20 j)), (1, .int i1), (2, .int i2)] := hl
  refine lv_iload_n hx hb dX9_get_0 rfl (lv_at hl 1 rfl) ?_
  refine lv_if_lt (tgt := 21) hx hb dX9_get_1 (by decide) (fun c_4239 => ?_) (fun c_4239 => ?_)
  · have B_4240 : bn (-2147483648) (-1) i1 := bn_w (bn_ltl c_4239 (bn_any i1) (show bn 0 0 (0 : Int32) from bn_k (by decide))) (by decide)
    refine lv_iconst (v := (-1)) hx hb dX9_get_21 (by decide) ?_
    exact prI (post := fun r L1 f1 => (True) ∧ L1 = L ∧ f1 = f) S Y rfl (by decide) (by decide) hA1 ⟨trivial, rfl, rfl⟩ dX9_get_22
  · have B_4241 : bn 0 2147483647 i1 := bn_w (bn_gel c_4239 (bn_any i1) (show bn 0 0 (0 : Int32) from bn_k (by decide))) (by decide)
    refine lv_iload_n hx hb dX9_get_4 rfl (lv_at hl 1 rfl) ?_
    refine lv_aload_n hx hb dX9_get_5 rfl (lv_at hl 0 rfl) ?_
    obtain ⟨v_4242, v_4244, p_ad_20_j, b_4243, b_4245⟩ := opnC_20 (j := j) I hj
    have p_ad_20_j : pt L f (ad 20 j) (.inr (9, [.ref (ad 21 j), .int v_4242, .int v_4244])) := p_ad_20_j
    refine pg_get S Y ok_X9 2 (by decide) kf9_25 (v := .int v_4244) p_ad_20_j rfl dX9_get_6 ?_
    refine lv_icmp_ge (tgt := 21) hx hb dX9_get_9 (by decide) (fun c_4246 => ?_) (fun c_4246 => ?_)
    · refine lv_iconst (v := (-1)) hx hb dX9_get_21 (by decide) ?_
      exact prI (post := fun r L1 f1 => (True) ∧ L1 = L ∧ f1 = f) S Y rfl (by decide) (by decide) hA1 ⟨trivial, rfl, rfl⟩ dX9_get_22
    · have B_4247 : bn 1 8 v_4244 := bn_w (bn_gtl c_4246 (bn_w (a' := 0) (b' := 8) b_4245 (hW j)) B_4241) (by decide)
      have B_4248 : bn 0 7 i1 := bn_w (bn_gtr c_4246 (bn_w (a' := 0) (b' := 8) b_4245 (hW j)) B_4241) (by decide)
      refine lv_iload_n hx hb dX9_get_12 rfl (lv_at hl 2 rfl) ?_
      refine lv_if_lt (tgt := 21) hx hb dX9_get_13 (by decide) (fun c_4249 => ?_) (fun c_4249 => ?_)
      · have B_4250 : bn (-2147483648) (-1) i2 := bn_w (bn_ltl c_4249 (bn_any i2) (show bn 0 0 (0 : Int32) from bn_k (by decide))) (by decide)
        refine lv_iconst (v := (-1)) hx hb dX9_get_21 (by decide) ?_
        exact prI (post := fun r L1 f1 => (True) ∧ L1 = L ∧ f1 = f) S Y rfl (by decide) (by decide) hA1 ⟨trivial, rfl, rfl⟩ dX9_get_22
      · have B_4251 : bn 0 2147483647 i2 := bn_w (bn_gel c_4249 (bn_any i2) (show bn 0 0 (0 : Int32) from bn_k (by decide))) (by decide)
        refine lv_iload_n hx hb dX9_get_16 rfl (lv_at hl 2 rfl) ?_
        refine lv_iconst (v := 3) hx hb dX9_get_17 (by decide) ?_
        refine lv_icmp_lt (tgt := 23) hx hb dX9_get_18 (by decide) (fun c_4252 => ?_) (fun c_4252 => ?_)
        · have B_4253 : bn 0 2 i2 := bn_w (bn_ltl c_4252 B_4251 (show bn 3 3 (3 : Int32) from bn_k (by decide))) (by decide)
          refine lv_aload_n hx hb dX9_get_23 rfl (lv_at hl 0 rfl) ?_
          refine pg_get S Y ok_X9 0 (by decide) kf9_9 (v := .ref (ad 21 j)) p_ad_20_j rfl dX9_get_24 ?_
          refine lv_iload_n hx hb dX9_get_27 rfl (lv_at hl 1 rfl) ?_
          refine lv_iconst (v := 3) hx hb dX9_get_28 (by decide) ?_
          refine lv_imul hx hb dX9_get_29 ?_
          refine lv_topi (fun x_4255 ex_4255 => ?_)
          refine lv_iload_n hx hb dX9_get_30 rfl (lv_at hl 2 rfl) ?_
          refine lv_iadd hx hb dX9_get_31 ?_
          refine lv_topi (fun x_4256 ex_4256 => ?_)
          obtain ⟨g_4257, p_ad_21_j, o_4258⟩ := I.opi (k := 21) (j := j) hj rfl
          have p_ad_21_j : pt L f (ad 21 j) (.inl (G.2 0, 24, .inl g_4257)) := p_ad_21_j
          obtain ⟨v_4259, ev_4259⟩ : ∃ z, z = g_4257 (x_4256 : Int32).toNatClampNeg := ⟨_, rfl⟩
          refine pg_iald S Y (v := v_4259) p_ad_21_j (vp_bn (bn_eq ex_4256 (bn_add (bn_eq ex_4255 (bn_mul B_4248 (show bn 3 3 (3 : Int32) from bn_k (by decide)) (by decide))) B_4253 (by decide))) (by decide)) ev_4259.symm dX9_get_32 ?_
          exact prI (post := fun r L1 f1 => (True) ∧ L1 = L ∧ f1 = f) S Y rfl (by decide) (by decide) hA1 ⟨trivial, rfl, rfl⟩ dX9_get_33
        · have B_4254 : bn 3 2147483647 i2 := bn_w (bn_gel c_4252 B_4251 (show bn 3 3 (3 : Int32) from bn_k (by decide))) (by decide)
          refine lv_iconst (v := (-1)) hx hb dX9_get_21 (by decide) ?_
          exact prI (post := fun r L1 f1 => (True) ∧ L1 = L ∧ f1 = f) S Y rfl (by decide) (by decide) hA1 ⟨trivial, rfl, rfl⟩ dX9_get_22
set_option maxHeartbeats 4000000 in
set_option maxRecDepth 100000 in
theorem x_X9_forget {l : Launch} {G : GG}  {L : List Nat} {f : HF} {ad : Nat → Nat → Nat} {rs : RS} {fc : Int × Int} {tc w : Nat → Int × Int} {q : Nat → (Nat → Int32) → Prop} {j : Nat} (I : SH (spC rs fc tc w q) nnC G ad L f) (hW : WBp w 8) (hT : WBp tc 4) (hQ : QIp q) (hj : j < 10) (hz : (w j).1 ≤ 0 ∧ 8 ≤ (w j).2) (hq : ∀ g, q j g) : PMi l yX9_forget cX9_forget 1 .int 0 0 0 G [.ref (ad 20 j)] L f (fun r L1 f1 => bn 0 0 r ∧ SH (spC rs fc tc w q) nnC G ad L1 f1) := by
  refine PMi.of (post := fun r L1 f1 => bn 0 0 r ∧ SH (spC rs fc tc w q) nnC G ad L1 f1) (own := RX9) (by decide) rfl (Nat.le_of_ble_eq_true rfl) (fun sz p e s m args below meth c A ls hA1 hname S Y hl => ?_)
  have hx := S.hx
  have hb := S.hb
  have hl : lv_has ls 1 [(0, .ref (ad 20 j))] := hl
  refine lv_aload_n hx hb dX9_forget_0 rfl (lv_at hl 0 rfl) ?_
  refine lv_iconst (v := 0) hx hb dX9_forget_1 (by decide) ?_
  obtain ⟨v_4270, v_4272, p_ad_20_j, b_4271, b_4273⟩ := opnC_20 (j := j) I hj
  have p_ad_20_j : pt L f (ad 20 j) (.inr (9, [.ref (ad 21 j), .int v_4270, .int v_4272])) := p_ad_20_j
  refine pg_put S Y ok_X9 2 (by decide) kf9_25 rfl (fs' := [.ref (ad 21 j), .int v_4270, .int 0]) (v := .int 0) p_ad_20_j rfl rfl rfl (Nat.le_of_ble_eq_true rfl) dX9_forget_2 (fun f_4274 H locs ef_4274 Y => ?_)
  have p_ad_20_j := p_ad_20_j.me ef_4274
  have I := I.up (k := 20) (j := j) hj ef_4274 (okE_o (okFs_c okV_r (okFs_c (okV_p b_4271) (okFs_c (okV_p (bn_w (show bn 0 0 (0 : Int32) from bn_k (by decide)) ⟨Int.le_trans hz.1 (by decide), Int.le_trans (by decide) hz.2⟩)) okFs_n))))
  refine lv_iconst (v := 0) hx hb dX9_forget_5 (by decide) ?_
  exact prI (post := fun r L1 f1 => bn 0 0 r ∧ SH (spC rs fc tc w q) nnC G ad L1 f1) S Y rfl (by decide) (by decide) hA1 ⟨bn_w (show bn 0 0 (0 : Int32) from bn_k (by decide)) (by decide), I⟩ dX9_forget_6
set_option maxHeartbeats 4000000 in
set_option maxRecDepth 100000 in
theorem x_X9_tell {l : Launch} {G : GG}  {L : List Nat} {f : HF} {ad : Nat → Nat → Nat} {rs : RS} {fc : Int × Int} {tc w : Nat → Int × Int} {q : Nat → (Nat → Int32) → Prop} {j : Nat} {i1 i2 i3 : Int32} (I : SH (spC rs fc tc w q) nnC G ad L f) (hW : WBp w 8) (hT : WBp tc 4) (hQ : QIp q) (hj : j < 10) (hz : (w j).1 ≤ 0 ∧ 8 ≤ (w j).2) (hq : ∀ g, q j g) : PMi l yX9_tell cX9_tell 5 .int 0 0 0 G [.ref (ad 20 j), .int i1, .int i2, .int i3] L f (fun r L1 f1 => SH (spC rs fc tc w q) nnC G ad L1 f1) := by
  refine PMi.of (post := fun r L1 f1 => SH (spC rs fc tc w q) nnC G ad L1 f1) (own := RX9) (by decide) rfl (Nat.le_of_ble_eq_true rfl) (fun sz p e s m args below meth c A ls hA1 hname S Y hl => ?_)
  have hx := S.hx
  have hb := S.hb
  have hl : lv_has ls 5 [(0, .ref (ad 20 j)), (1, .int i1), (2, .int i2), (3, .int i3)] := hl
  refine lv_aload_n hx hb dX9_tell_0 rfl (lv_at hl 0 rfl) ?_
  obtain ⟨v_4315, v_4317, p_ad_20_j, b_4316, b_4318⟩ := opnC_20 (j := j) I hj
  have p_ad_20_j : pt L f (ad 20 j) (.inr (9, [.ref (ad 21 j), .int v_4315, .int v_4317])) := p_ad_20_j
  refine pg_get S Y ok_X9 2 (by decide) kf9_25 (v := .int v_4317) p_ad_20_j rfl dX9_tell_1 ?_
  refine lv_aload_n hx hb dX9_tell_4 rfl (lv_at hl 0 rfl) ?_
  refine pg_get S Y ok_X9 1 (by decide) kf9_21 (v := .int v_4315) p_ad_20_j rfl dX9_tell_5 ?_
  refine lv_icmp_lt (tgt := 14) hx hb dX9_tell_8 (by decide) (fun c_4319 => ?_) (fun c_4319 => ?_)
  · have B_4320 : bn 0 7 v_4317 := bn_w (bn_ltl c_4319 (bn_w (a' := 0) (b' := 8) b_4318 (hW j)) (bn_w (a' := 0) (b' := 8) b_4316 (lmt_b j))) (by decide)
    have B_4321 : bn 1 8 v_4315 := bn_w (bn_ltr c_4319 (bn_w (a' := 0) (b' := 8) b_4318 (hW j)) (bn_w (a' := 0) (b' := 8) b_4316 (lmt_b j))) (by decide)
    refine lv_aload_n hx hb dX9_tell_14 rfl (lv_at hl 0 rfl) ?_
    refine pg_get S Y ok_X9 2 (by decide) kf9_25 (v := .int v_4317) p_ad_20_j rfl dX9_tell_15 ?_
    refine lv_iconst (v := 3) hx hb dX9_tell_18 (by decide) ?_
    refine lv_imul hx hb dX9_tell_19 ?_
    refine lv_topi (fun x_4322 ex_4322 => ?_)
    refine lv_istore (lv' := [(4, .int x_4322), (0, .ref (ad 20 j)), (1, .int i1), (2, .int i2), (3, .int i3)]) hx hb dX9_tell_20 hl (by decide) rfl (fun ls hl => ?_)
    refine lv_aload_n hx hb dX9_tell_22 rfl (lv_at hl 1 rfl) ?_
    refine pg_get S Y ok_X9 0 (by decide) kf9_9 (v := .ref (ad 21 j)) p_ad_20_j rfl dX9_tell_23 ?_
    refine lv_iload hx hb dX9_tell_26 (lv_at hl 0 rfl) ?_
    refine lv_iload_n hx hb dX9_tell_28 rfl (lv_at hl 2 rfl) ?_
    obtain ⟨g_4323, p_ad_21_j, o_4324⟩ := I.opi (k := 21) (j := j) hj rfl
    have p_ad_21_j : pt L f (ad 21 j) (.inl (G.2 0, 24, .inl g_4323)) := p_ad_21_j
    refine pg_iast S Y p_ad_21_j (vp_bn (bn_eq ex_4322 (bn_mul B_4320 (show bn 3 3 (3 : Int32) from bn_k (by decide)) (by decide))) (by decide)) dX9_tell_29 (fun f_4326 H locs ef_4326 Y => ?_)
    obtain ⟨g_4325, eg_4325⟩ : ∃ z, z = upd (g_4323) (x_4322 : Int32).toNatClampNeg i1 := ⟨_, rfl⟩
    rw [← eg_4325] at ef_4326
    have p_ad_20_j := p_ad_20_j.up ef_4326 (I.ne (k := 20) (j := j) (k' := 21) (j' := j) hj hj (Or.inl (by decide)))
    have p_ad_21_j := p_ad_21_j.me ef_4326
    have I := I.up (k := 21) (j := j) hj ef_4326 (okE_a (g := g_4325) (hq g_4325))
    refine lv_aload_n hx hb dX9_tell_30 rfl (lv_at hl 1 rfl) ?_
    refine pg_get S Y ok_X9 0 (by decide) kf9_9 (v := .ref (ad 21 j)) p_ad_20_j rfl dX9_tell_31 ?_
    refine lv_iload hx hb dX9_tell_34 (lv_at hl 0 rfl) ?_
    refine lv_iconst (v := 1) hx hb dX9_tell_36 (by decide) ?_
    refine lv_iadd hx hb dX9_tell_37 ?_
    refine lv_topi (fun x_4327 ex_4327 => ?_)
    refine lv_iload_n hx hb dX9_tell_38 rfl (lv_at hl 3 rfl) ?_
    refine pg_iast S Y p_ad_21_j (vp_bn (bn_eq ex_4327 (bn_add (bn_eq ex_4322 (bn_mul B_4320 (show bn 3 3 (3 : Int32) from bn_k (by decide)) (by decide))) (show bn 1 1 (1 : Int32) from bn_k (by decide)) (by decide))) (by decide)) dX9_tell_39 (fun f_4329 H locs ef_4329 Y => ?_)
    obtain ⟨g_4328, eg_4328⟩ : ∃ z, z = upd (g_4325) (x_4327 : Int32).toNatClampNeg i2 := ⟨_, rfl⟩
    rw [← eg_4328] at ef_4329
    have p_ad_20_j := p_ad_20_j.up ef_4329 (I.ne (k := 20) (j := j) (k' := 21) (j' := j) hj hj (Or.inl (by decide)))
    have p_ad_21_j := p_ad_21_j.me ef_4329
    have I := I.up (k := 21) (j := j) hj ef_4329 (okE_a (g := g_4328) (hq g_4328))
    refine lv_aload_n hx hb dX9_tell_40 rfl (lv_at hl 1 rfl) ?_
    refine pg_get S Y ok_X9 0 (by decide) kf9_9 (v := .ref (ad 21 j)) p_ad_20_j rfl dX9_tell_41 ?_
    refine lv_iload hx hb dX9_tell_44 (lv_at hl 0 rfl) ?_
    refine lv_iconst (v := 2) hx hb dX9_tell_46 (by decide) ?_
    refine lv_iadd hx hb dX9_tell_47 ?_
    refine lv_topi (fun x_4330 ex_4330 => ?_)
    refine lv_iload_n hx hb dX9_tell_48 rfl (lv_at hl 4 rfl) ?_
    refine pg_iast S Y p_ad_21_j (vp_bn (bn_eq ex_4330 (bn_add (bn_eq ex_4322 (bn_mul B_4320 (show bn 3 3 (3 : Int32) from bn_k (by decide)) (by decide))) (show bn 2 2 (2 : Int32) from bn_k (by decide)) (by decide))) (by decide)) dX9_tell_49 (fun f_4332 H locs ef_4332 Y => ?_)
    obtain ⟨g_4331, eg_4331⟩ : ∃ z, z = upd (g_4328) (x_4330 : Int32).toNatClampNeg i3 := ⟨_, rfl⟩
    rw [← eg_4331] at ef_4332
    have p_ad_20_j := p_ad_20_j.up ef_4332 (I.ne (k := 20) (j := j) (k' := 21) (j' := j) hj hj (Or.inl (by decide)))
    have p_ad_21_j := p_ad_21_j.me ef_4332
    have I := I.up (k := 21) (j := j) hj ef_4332 (okE_a (g := g_4331) (hq g_4331))
    refine lv_aload_n hx hb dX9_tell_50 rfl (lv_at hl 1 rfl) ?_
    refine lv_dup hx hb dX9_tell_51 rfl ?_
    refine pg_get S Y ok_X9 2 (by decide) kf9_25 (v := .int v_4317) p_ad_20_j rfl dX9_tell_52 ?_
    refine lv_iconst (v := 1) hx hb dX9_tell_55 (by decide) ?_
    refine lv_iadd hx hb dX9_tell_56 ?_
    refine lv_topi (fun x_4333 ex_4333 => ?_)
    refine pg_put S Y ok_X9 2 (by decide) kf9_25 rfl (fs' := [.ref (ad 21 j), .int v_4315, .int x_4333]) (v := .int x_4333) p_ad_20_j rfl rfl rfl (Nat.le_of_ble_eq_true rfl) dX9_tell_57 (fun f_4334 H locs ef_4334 Y => ?_)
    have p_ad_21_j := p_ad_21_j.up ef_4334 (I.ne (k := 21) (j := j) (k' := 20) (j' := j) hj hj (Or.inl (by decide)))
    have p_ad_20_j := p_ad_20_j.me ef_4334
    have I := I.up (k := 20) (j := j) hj ef_4334 (okE_o (okFs_c okV_r (okFs_c (okV_p b_4316) (okFs_c (okV_p (bn_w (bn_eq ex_4333 (bn_add B_4320 (show bn 1 1 (1 : Int32) from bn_k (by decide)) (by decide))) ⟨Int.le_trans hz.1 (by decide), Int.le_trans (by decide) hz.2⟩)) okFs_n))))
    refine lv_aload_n hx hb dX9_tell_60 rfl (lv_at hl 1 rfl) ?_
    refine pg_get S Y ok_X9 2 (by decide) kf9_25 (v := .int x_4333) p_ad_20_j rfl dX9_tell_61 ?_
    exact prI (post := fun r L1 f1 => SH (spC rs fc tc w q) nnC G ad L1 f1) S Y rfl (by decide) (by decide) hA1 I dX9_tell_64
  · refine lv_bipush (v := (-2)) hx hb dX9_tell_11 (by decide) ?_
    exact prI (post := fun r L1 f1 => SH (spC rs fc tc w q) nnC G ad L1 f1) S Y rfl (by decide) (by decide) hA1 I dX9_tell_13
theorem va_cpy24 {g1 g2 : Nat → Int32} {k n : Nat} (hk : k < n) : va_cpy g1 g2 (0 : Int32).toNatClampNeg (0 : Int32).toNatClampNeg n k = g1 k := by
  unfold va_cpy
  rw [show (0 : Int32).toNatClampNeg = 0 from rfl, if_pos ⟨Nat.zero_le _, by omega⟩]
  congr 1; omega
theorem QI_stf {q : Nat → (Nat → Int32) → Prop} {i j : Nat} (hQ : QIp q) : QIp (stf q j (q i)) := by
  intro j2 g g2 h
  by_cases z : j2 = j
  · subst z; rw [stf_s]; exact hQ i g g2 h
  · rw [stf_n z]; exact hQ j2 g g2 h
theorem WI_stf {w : Nat → Int × Int} {i j : Nat} {c : Int} (hW : WBp w c) : WBp (stf w j (w i)) c := by
  intro k
  by_cases z : k = j
  · subst z; rw [stf_s]; exact hW i
  · rw [stf_n z]; exact hW k
set_option maxHeartbeats 4000000 in
set_option maxRecDepth 100000 in
theorem x_X9_takeOver {l : Launch} {G : GG}  {L : List Nat} {f : HF} {ad : Nat → Nat → Nat} {rs : RS} {fc : Int × Int} {tc w : Nat → Int × Int} {q : Nat → (Nat → Int32) → Prop} {j i : Nat} (I : SH (spC rs fc tc w q) nnC G ad L f) (hW : WBp w 8) (hT : WBp tc 4) (hQ : QIp q) (hj : j < 10) (hi : i < 10) (hne : j ≠ i) : PMv l yX9_takeOver cX9_takeOver 2 1 0 0 G [.ref (ad 20 j), .ref (ad 20 i)] L f (fun L1 f1 => ∃ w2 : Nat → Int × Int, ∃ q2 : Nat → (Nat → Int32) → Prop, SH (spC rs fc tc w2 q2) nnC G ad L1 f1 ∧ w2 j = w i ∧ (∀ k, k ≠ j → w2 k = w k) ∧ q2 j = q i ∧ (∀ k, k ≠ j → q2 k = q k) ∧ WBp w2 8 ∧ (QIp q2)) := by
  refine PMv.of (post := fun L1 f1 => ∃ w2 : Nat → Int × Int, ∃ q2 : Nat → (Nat → Int32) → Prop, SH (spC rs fc tc w2 q2) nnC G ad L1 f1 ∧ w2 j = w i ∧ (∀ k, k ≠ j → w2 k = w k) ∧ q2 j = q i ∧ (∀ k, k ≠ j → q2 k = q k) ∧ WBp w2 8 ∧ (QIp q2)) (own := RX9) (by decide) rfl (Nat.le_of_ble_eq_true rfl) (fun sz p e s m args below meth c A ls hA1 hname S Y hl => ?_)
  have hx := S.hx
  have hb := S.hb
  have hl : lv_has ls 2 [(0, .ref (ad 20 j)), (1, .ref (ad 20 i))] := hl
  refine lv_aload_n hx hb dX9_takeOver_0 rfl (lv_at hl 1 rfl) ?_
  obtain ⟨v_4365, v_4367, p_ad_20_i, b_4366, b_4368⟩ := opnC_20 (j := i) I hi
  have p_ad_20_i : pt L f (ad 20 i) (.inr (9, [.ref (ad 21 i), .int v_4365, .int v_4367])) := p_ad_20_i
  refine pg_get S Y ok_X9 0 (by decide) kf9_9 (v := .ref (ad 21 i)) p_ad_20_i rfl dX9_takeOver_1 ?_
  refine lv_iconst (v := 0) hx hb dX9_takeOver_4 (by decide) ?_
  refine lv_aload_n hx hb dX9_takeOver_5 rfl (lv_at hl 0 rfl) ?_
  obtain ⟨v_4369, v_4371, p_ad_20_j, b_4370, b_4372⟩ := opnC_20 (j := j) I hj
  have p_ad_20_j : pt L f (ad 20 j) (.inr (9, [.ref (ad 21 j), .int v_4369, .int v_4371])) := p_ad_20_j
  refine pg_get S Y ok_X9 0 (by decide) kf9_9 (v := .ref (ad 21 j)) p_ad_20_j rfl dX9_takeOver_6 ?_
  refine lv_iconst (v := 0) hx hb dX9_takeOver_9 (by decide) ?_
  refine lv_aload_n hx hb dX9_takeOver_10 rfl (lv_at hl 0 rfl) ?_
  refine pg_get S Y ok_X9 0 (by decide) kf9_9 (v := .ref (ad 21 j)) p_ad_20_j rfl dX9_takeOver_11 ?_
  obtain ⟨g_4373, p_ad_21_j, o_4374⟩ := I.opi (k := 21) (j := j) hj rfl
  have p_ad_21_j : pt L f (ad 21 j) (.inl (G.2 0, 24, .inl g_4373)) := p_ad_21_j
  refine pg_alen S Y (k := 0) (v := 24) p_ad_21_j rfl rfl dX9_takeOver_14 ?_
  obtain ⟨g_4375, p_ad_21_i, o_4376⟩ := I.opi (k := 21) (j := i) hi rfl
  have p_ad_21_i : pt L f (ad 21 i) (.inl (G.2 0, 24, .inl g_4375)) := p_ad_21_i
  refine pg_copyi S Y hl.1 km9_28 kAn kAs kAi p_ad_21_i p_ad_21_j (by decide) (by decide) (by decide) (by decide) (by decide) (Nat.le_of_ble_eq_true rfl) (Nat.le_of_ble_eq_true rfl) dX9_takeOver_15 (fun f_4378 H locs ef_4378 Y => ?_)
  obtain ⟨g_4377, eg_4377⟩ : ∃ z, z = va_cpy (g_4375) (g_4373) (0 : Int32).toNatClampNeg (0 : Int32).toNatClampNeg (24 : Int32).toNatClampNeg := ⟨_, rfl⟩
  rw [← eg_4377] at ef_4378
  have p_ad_20_i := p_ad_20_i.up ef_4378 (I.ne (k := 20) (j := i) (k' := 21) (j' := j) hi hj (Or.inl (by decide)))
  have p_ad_20_j := p_ad_20_j.up ef_4378 (I.ne (k := 20) (j := j) (k' := 21) (j' := j) hj hj (Or.inl (by decide)))
  have p_ad_21_i := p_ad_21_i.up ef_4378 (I.ne (k := 21) (j := i) (k' := 21) (j' := j) hi hj (Or.inr (Ne.symm hne)))
  have p_ad_21_j := p_ad_21_j.me ef_4378
  have I := I.upS (sp' := spC rs fc tc w (stf q j (q i))) (k := 21) (j := j) hj ef_4378 (okE_a (P := stf q j (q i) j) (g := g_4377) (by rw [stf_s]; exact hQ _ _ _ (fun k hk => by rw [eg_4377]; exact (va_cpy24 hk).symm) o_4376)) qC
  refine lv_aload_n hx hb dX9_takeOver_18 rfl (lv_at hl 0 rfl) ?_
  refine lv_aload_n hx hb dX9_takeOver_19 rfl (lv_at hl 1 rfl) ?_
  refine pg_get S Y ok_X9 2 (by decide) kf9_25 (v := .int v_4367) p_ad_20_i rfl dX9_takeOver_20 ?_
  refine pg_put S Y ok_X9 2 (by decide) kf9_25 rfl (fs' := [.ref (ad 21 j), .int v_4369, .int v_4367]) (v := .int v_4367) p_ad_20_j rfl rfl rfl (Nat.le_of_ble_eq_true rfl) dX9_takeOver_23 (fun f_4379 H locs ef_4379 Y => ?_)
  have p_ad_20_i := p_ad_20_i.up ef_4379 (I.ne (k := 20) (j := i) (k' := 20) (j' := j) hi hj (Or.inr (Ne.symm hne)))
  have p_ad_21_j := p_ad_21_j.up ef_4379 (I.ne (k := 21) (j := j) (k' := 20) (j' := j) hj hj (Or.inl (by decide)))
  have p_ad_21_i := p_ad_21_i.up ef_4379 (I.ne (k := 21) (j := i) (k' := 20) (j' := j) hi hj (Or.inl (by decide)))
  have p_ad_20_j := p_ad_20_j.me ef_4379
  have I := I.upS (sp' := spC rs fc tc (stf w j (w i)) (stf q j (q i))) (k := 20) (j := j) hj ef_4379 (okE_o (okFs_c okV_r (okFs_c (okV_p b_4370) (okFs_c (okV_p (q := stf w j (w i) j) (by rw [stf_s]; exact b_4368)) okFs_n)))) wC
  exact prV (post := fun L1 f1 => ∃ w2 : Nat → Int × Int, ∃ q2 : Nat → (Nat → Int32) → Prop, SH (spC rs fc tc w2 q2) nnC G ad L1 f1 ∧ w2 j = w i ∧ (∀ k, k ≠ j → w2 k = w k) ∧ q2 j = q i ∧ (∀ k, k ≠ j → q2 k = q k) ∧ WBp w2 8 ∧ (QIp q2)) S Y (by decide) (by decide) hA1 ⟨stf w j (w i), stf q j (q i), I, stf_s, fun k h => stf_n h, stf_s, fun k h => stf_n h, WI_stf hW, QI_stf hQ⟩ dX9_takeOver_26
def LR (a : Nat → Int) : (Nat → Int32) → Prop := fun g => ∀ k, k < 3 → (g k).toInt = a k
theorem LR_up {a : Nat → Int} {g : Nat → Int32} {i x : Int32} {v : Int} (h : LR a g) (hx : x.toInt = v) : LR (stf a i.toNatClampNeg v) (upd g i.toNatClampNeg x) := by
  intro k hk
  by_cases z : k = i.toNatClampNeg
  · subst z; rw [stf_s, pk_us]; exact hx
  · rw [stf_n z, pk_un z]; exact h k hk
theorem LR_0 {g0 g1 g2 g : Nat → Int32} (e1 : g1 = upd g0 (0 : Int32).toNatClampNeg 0) (e2 : g2 = upd g1 (1 : Int32).toNatClampNeg 0) (e : g = upd g2 (2 : Int32).toNatClampNeg 0) : LR (fun _ => 0) g := by
  intro k hk
  subst e e2 e1
  rcases (show k = 0 ∨ k = 1 ∨ k = 2 by omega) with rfl | rfl | rfl
  · rw [pk_un (by decide), pk_un (by decide)]; rfl
  · rw [pk_un (by decide)]; rfl
  · rfl
set_option maxHeartbeats 4000000 in
set_option maxRecDepth 100000 in
theorem x_X7_clear {l : Launch} {G : GG}  {L : List Nat} {f : HF} {ad : Nat → Nat → Nat} {rf : FS} {sc : Nat → SG} {fa : Nat → Int × Int} {ft : Nat → (Nat → Int32) → Prop} {fc : Int × Int} {tc w : Nat → Int × Int} {q : Nat → (Nat → Int32) → Prop} {j : Nat} {cA cB : Int × Int} {cC cD : (Nat → Int32) → Prop} (I : SH (spC ((rf, fa, ft, sc) : RS) fc tc w q) nnC G ad L f) (hW : WBp w 8) (hT : WBp tc 4) (hQ : QIp q) (hj : j < 8) (hs : sc j = (cA, cB, cC, cD)) : PMv l yX7_clear cX7_clear 2 0 0 0 G [.ref (ad 30 j)] L f (fun L1 f1 => ∃ sc2 : Nat → SG, SH (spC ((rf, fa, ft, sc2) : RS) fc tc w q) nnC G ad L1 f1 ∧ sc2 j = (pp 0, pp 0, LR (fun _ => 0), LR (fun _ => 0))) := by
  refine PMv.of (post := fun L1 f1 => ∃ sc2 : Nat → SG, SH (spC ((rf, fa, ft, sc2) : RS) fc tc w q) nnC G ad L1 f1 ∧ sc2 j = (pp 0, pp 0, LR (fun _ => 0), LR (fun _ => 0))) (own := RX7) (by decide) rfl (Nat.le_of_ble_eq_true rfl) (fun sz p e s m args below meth c A ls hA1 hname S Y hl => ?_)
  have hx := S.hx
  have hb := S.hb
  have hl : lv_has ls 2 [(0, .ref (ad 30 j))] := hl
  refine lv_aload_n hx hb dX7_clear_0 rfl (lv_at hl 0 rfl) ?_
  refine lv_iconst (v := 0) hx hb dX7_clear_1 (by decide) ?_
  obtain ⟨v_4488, v_4490, p_ad_30_j, b_4489, b_4491⟩ := opnC_30 (j := j) I hj
  have p_ad_30_j : pt L f (ad 30 j) (.inr (7, [.ref (ad 31 j), .ref (ad 32 j), .ref (ad 33 j), .ref (ad 34 j), .ref (ad 35 j), .int v_4488, .int v_4490])) := p_ad_30_j
  refine pg_put S Y ok_X7 5 (by decide) kf7_27 rfl (fs' := [.ref (ad 31 j), .ref (ad 32 j), .ref (ad 33 j), .ref (ad 34 j), .ref (ad 35 j), .int 0, .int v_4490]) (v := .int 0) p_ad_30_j rfl rfl rfl (Nat.le_of_ble_eq_true rfl) dX7_clear_2 (fun f_4492 H locs ef_4492 Y => ?_)
  have p_ad_30_j := p_ad_30_j.me ef_4492
  have I := I.upS (sp' := spC ((rf, fa, ft, (stf sc j (pp 0, cB, cC, cD))) : RS) fc tc w q) (k := 30) (j := j) hj ef_4492 (okE_o (okFs_c okV_r (okFs_c okV_r (okFs_c okV_r (okFs_c okV_r (okFs_c okV_r (okFs_c (okV_p (lim_st1 (s' := (pp 0, cB, cC, cD)) (lim_mk (bn_w (show bn 0 0 (0 : Int32) from bn_k (by decide)) (by decide) : bn 0 300 (0 : Int32)) (show (0 : Int32).toInt = 0 from rfl)))) (okFs_c (okV_p (lim_st2 (s' := (pp 0, cB, cC, cD)) (lim_rw2 (s' := (cA, cB, cC, cD)) b_4491 hs))) okFs_n)))))))) (sc30C (by rw [hs]))
  obtain ⟨sc_4493, esc_4493⟩ : ∃ z : Nat → SG, z = stf sc j (pp 0, cB, cC, cD) := ⟨_, rfl⟩
  rw [← esc_4493] at I
  have hs_4494 : sc_4493 j = (pp 0, cB, cC, cD) := by rw [esc_4493, stf_s]
  refine lv_aload_n hx hb dX7_clear_5 rfl (lv_at hl 0 rfl) ?_
  refine lv_iconst (v := 0) hx hb dX7_clear_6 (by decide) ?_
  obtain ⟨v_4495, v_4497, p_ad_30_j, b_4496, b_4498⟩ := opnC_30 (j := j) I hj
  have p_ad_30_j : pt L f_4492 (ad 30 j) (.inr (7, [.ref (ad 31 j), .ref (ad 32 j), .ref (ad 33 j), .ref (ad 34 j), .ref (ad 35 j), .int v_4495, .int v_4497])) := p_ad_30_j
  have tv_4495 : v_4495.toInt = 0 := lim_eq2 b_4496 (congrArg (fun z : SG => z.1) hs_4494)
  refine pg_put S Y ok_X7 6 (by decide) kf7_31 rfl (fs' := [.ref (ad 31 j), .ref (ad 32 j), .ref (ad 33 j), .ref (ad 34 j), .ref (ad 35 j), .int v_4495, .int 0]) (v := .int 0) p_ad_30_j rfl rfl rfl (Nat.le_of_ble_eq_true rfl) dX7_clear_7 (fun f_4499 H locs ef_4499 Y => ?_)
  have p_ad_30_j := p_ad_30_j.me ef_4499
  have I := I.upS (sp' := spC ((rf, fa, ft, (stf sc_4493 j (pp 0, pp 0, cC, cD))) : RS) fc tc w q) (k := 30) (j := j) hj ef_4499 (okE_o (okFs_c okV_r (okFs_c okV_r (okFs_c okV_r (okFs_c okV_r (okFs_c okV_r (okFs_c (okV_p (lim_st1 (s' := (pp 0, pp 0, cC, cD)) (lim_rw1 (s' := (pp 0, cB, cC, cD)) b_4496 hs_4494))) (okFs_c (okV_p (lim_st2 (s' := (pp 0, pp 0, cC, cD)) (lim_mk (bn_w (show bn 0 0 (0 : Int32) from bn_k (by decide)) (by decide) : bn 0 24 (0 : Int32)) (show (0 : Int32).toInt = 0 from rfl)))) okFs_n)))))))) (sc30C (by rw [hs_4494]))
  obtain ⟨sc_4500, esc_4500⟩ : ∃ z : Nat → SG, z = stf sc_4493 j (pp 0, pp 0, cC, cD) := ⟨_, rfl⟩
  rw [← esc_4500] at I
  have hs_4501 : sc_4500 j = (pp 0, pp 0, cC, cD) := by rw [esc_4500, stf_s]
  refine lv_iconst (v := 0) hx hb dX7_clear_10 (by decide) ?_
  refine lv_istore_n (lv' := [(1, .int 0), (0, .ref (ad 30 j))]) hx hb dX7_clear_11 rfl hl (by decide) rfl (fun ls hl => ?_)
  refine lv_iload_n hx hb dX7_clear_12 rfl (lv_at hl 0 rfl) ?_
  refine lv_iconst (v := 3) hx hb dX7_clear_13 (by decide) ?_
  refine lv_icmp_ge (tgt := 37) hx hb dX7_clear_14 (by decide) (fun h => absurd h (by decide)) (fun _ => ?_)
  refine lv_aload_n hx hb dX7_clear_17 rfl (lv_at hl 1 rfl) ?_
  obtain ⟨v_4502, v_4504, p_ad_30_j, b_4503, b_4505⟩ := opnC_30 (j := j) I hj
  have p_ad_30_j : pt L f_4499 (ad 30 j) (.inr (7, [.ref (ad 31 j), .ref (ad 32 j), .ref (ad 33 j), .ref (ad 34 j), .ref (ad 35 j), .int v_4502, .int v_4504])) := p_ad_30_j
  have tv_4502 : v_4502.toInt = 0 := lim_eq2 b_4503 (congrArg (fun z : SG => z.1) hs_4501)
  have tv_4504 : v_4504.toInt = 0 := lim_eq2 b_4505 (congrArg (fun z : SG => z.2.1) hs_4501)
  refine pg_get S Y ok_X7 2 (by decide) kf7_18 (v := .ref (ad 33 j)) p_ad_30_j rfl dX7_clear_18 ?_
  refine lv_iload_n hx hb dX7_clear_21 rfl (lv_at hl 0 rfl) ?_
  refine lv_iconst (v := 0) hx hb dX7_clear_22 (by decide) ?_
  obtain ⟨g_4506, p_ad_33_j, o_4507⟩ := I.opi (k := 33) (j := j) hj rfl
  have p_ad_33_j : pt L f_4499 (ad 33 j) (.inl (G.2 0, 3, .inl g_4506)) := p_ad_33_j
  have o_4508 : cC g_4506 := by have h9 := show (sc_4500 j).2.2.1 g_4506 from o_4507; rw [hs_4501] at h9; exact h9
  refine pg_iast S Y p_ad_33_j (by unfold vp_in; decide) dX7_clear_23 (fun f_4510 H locs ef_4510 Y => ?_)
  obtain ⟨g_4509, eg_4509⟩ : ∃ z, z = upd (g_4506) (0 : Int32).toNatClampNeg 0 := ⟨_, rfl⟩
  rw [← eg_4509] at ef_4510
  have p_ad_30_j := p_ad_30_j.up ef_4510 (I.ne (k := 30) (j := j) (k' := 33) (j' := j) hj hj (Or.inl (by decide)))
  have p_ad_33_j := p_ad_33_j.me ef_4510
  have o_4511 : (EQ g_4509) g_4509 := rfl
  have I := I.upS (sp' := spC ((rf, fa, ft, (stf sc_4500 j (pp 0, pp 0, (EQ g_4509), cD))) : RS) fc tc w q) (k := 33) (j := j) hj ef_4510 (okE_a (g := g_4509) (show ((stf sc_4500 j (pp 0, pp 0, (EQ g_4509), cD)) j).2.2.1 g_4509 from by rw [stf_s]; exact o_4511)) (sc33C (by rw [hs_4501]) (by rw [hs_4501]) (by rw [hs_4501]))
  obtain ⟨sc_4512, esc_4512⟩ : ∃ z : Nat → SG, z = stf sc_4500 j (pp 0, pp 0, (EQ g_4509), cD) := ⟨_, rfl⟩
  rw [← esc_4512] at I
  have hs_4513 : sc_4512 j = (pp 0, pp 0, (EQ g_4509), cD) := by rw [esc_4512, stf_s]
  refine lv_aload_n hx hb dX7_clear_24 rfl (lv_at hl 1 rfl) ?_
  refine pg_get S Y ok_X7 3 (by decide) kf7_21 (v := .ref (ad 34 j)) p_ad_30_j rfl dX7_clear_25 ?_
  refine lv_iload_n hx hb dX7_clear_28 rfl (lv_at hl 0 rfl) ?_
  refine lv_iconst (v := 0) hx hb dX7_clear_29 (by decide) ?_
  obtain ⟨g_4514, p_ad_34_j, o_4515⟩ := I.opi (k := 34) (j := j) hj rfl
  have p_ad_34_j : pt L f_4510 (ad 34 j) (.inl (G.2 0, 3, .inl g_4514)) := p_ad_34_j
  have o_4516 : cD g_4514 := by have h9 := show (sc_4512 j).2.2.2 g_4514 from o_4515; rw [hs_4513] at h9; exact h9
  refine pg_iast S Y p_ad_34_j (by unfold vp_in; decide) dX7_clear_30 (fun f_4518 H locs ef_4518 Y => ?_)
  obtain ⟨g_4517, eg_4517⟩ : ∃ z, z = upd (g_4514) (0 : Int32).toNatClampNeg 0 := ⟨_, rfl⟩
  rw [← eg_4517] at ef_4518
  have p_ad_30_j := p_ad_30_j.up ef_4518 (I.ne (k := 30) (j := j) (k' := 34) (j' := j) hj hj (Or.inl (by decide)))
  have p_ad_33_j := p_ad_33_j.up ef_4518 (I.ne (k := 33) (j := j) (k' := 34) (j' := j) hj hj (Or.inl (by decide)))
  have p_ad_34_j := p_ad_34_j.me ef_4518
  have o_4519 : (EQ g_4517) g_4517 := rfl
  have I := I.upS (sp' := spC ((rf, fa, ft, (stf sc_4512 j (pp 0, pp 0, (EQ g_4509), (EQ g_4517)))) : RS) fc tc w q) (k := 34) (j := j) hj ef_4518 (okE_a (g := g_4517) (show ((stf sc_4512 j (pp 0, pp 0, (EQ g_4509), (EQ g_4517))) j).2.2.2 g_4517 from by rw [stf_s]; exact o_4519)) (sc34C (by rw [hs_4513]) (by rw [hs_4513]) (by rw [hs_4513]))
  obtain ⟨sc_4520, esc_4520⟩ : ∃ z : Nat → SG, z = stf sc_4512 j (pp 0, pp 0, (EQ g_4509), (EQ g_4517)) := ⟨_, rfl⟩
  rw [← esc_4520] at I
  have hs_4521 : sc_4520 j = (pp 0, pp 0, (EQ g_4509), (EQ g_4517)) := by rw [esc_4520, stf_s]
  refine lv_iinc (v := 1) (lv' := [(1, .int 1), (0, .ref (ad 30 j))]) hx hb dX7_clear_31 hl (k := 0) rfl (by decide) (by decide) rfl (fun ls hl => ?_)
  refine lv_goto (tgt := 12) hx hb dX7_clear_34 (by decide) ?_
  refine lv_iload_n hx hb dX7_clear_12 rfl (lv_at hl 0 rfl) ?_
  refine lv_iconst (v := 3) hx hb dX7_clear_13 (by decide) ?_
  refine lv_icmp_ge (tgt := 37) hx hb dX7_clear_14 (by decide) (fun h => absurd h (by decide)) (fun _ => ?_)
  refine lv_aload_n hx hb dX7_clear_17 rfl (lv_at hl 1 rfl) ?_
  refine pg_get S Y ok_X7 2 (by decide) kf7_18 (v := .ref (ad 33 j)) p_ad_30_j rfl dX7_clear_18 ?_
  refine lv_iload_n hx hb dX7_clear_21 rfl (lv_at hl 0 rfl) ?_
  refine lv_iconst (v := 0) hx hb dX7_clear_22 (by decide) ?_
  refine pg_iast S Y p_ad_33_j (by unfold vp_in; decide) dX7_clear_23 (fun f_4523 H locs ef_4523 Y => ?_)
  obtain ⟨g_4522, eg_4522⟩ : ∃ z, z = upd (g_4509) (1 : Int32).toNatClampNeg 0 := ⟨_, rfl⟩
  rw [← eg_4522] at ef_4523
  have p_ad_30_j := p_ad_30_j.up ef_4523 (I.ne (k := 30) (j := j) (k' := 33) (j' := j) hj hj (Or.inl (by decide)))
  have p_ad_34_j := p_ad_34_j.up ef_4523 (I.ne (k := 34) (j := j) (k' := 33) (j' := j) hj hj (Or.inl (by decide)))
  have p_ad_33_j := p_ad_33_j.me ef_4523
  have o_4524 : (EQ g_4522) g_4522 := rfl
  have I := I.upS (sp' := spC ((rf, fa, ft, (stf sc_4520 j (pp 0, pp 0, (EQ g_4522), (EQ g_4517)))) : RS) fc tc w q) (k := 33) (j := j) hj ef_4523 (okE_a (g := g_4522) (show ((stf sc_4520 j (pp 0, pp 0, (EQ g_4522), (EQ g_4517))) j).2.2.1 g_4522 from by rw [stf_s]; exact o_4524)) (sc33C (by rw [hs_4521]) (by rw [hs_4521]) (by rw [hs_4521]))
  obtain ⟨sc_4525, esc_4525⟩ : ∃ z : Nat → SG, z = stf sc_4520 j (pp 0, pp 0, (EQ g_4522), (EQ g_4517)) := ⟨_, rfl⟩
  rw [← esc_4525] at I
  have hs_4526 : sc_4525 j = (pp 0, pp 0, (EQ g_4522), (EQ g_4517)) := by rw [esc_4525, stf_s]
  refine lv_aload_n hx hb dX7_clear_24 rfl (lv_at hl 1 rfl) ?_
  refine pg_get S Y ok_X7 3 (by decide) kf7_21 (v := .ref (ad 34 j)) p_ad_30_j rfl dX7_clear_25 ?_
  refine lv_iload_n hx hb dX7_clear_28 rfl (lv_at hl 0 rfl) ?_
  refine lv_iconst (v := 0) hx hb dX7_clear_29 (by decide) ?_
  refine pg_iast S Y p_ad_34_j (by unfold vp_in; decide) dX7_clear_30 (fun f_4528 H locs ef_4528 Y => ?_)
  obtain ⟨g_4527, eg_4527⟩ : ∃ z, z = upd (g_4517) (1 : Int32).toNatClampNeg 0 := ⟨_, rfl⟩
  rw [← eg_4527] at ef_4528
  have p_ad_30_j := p_ad_30_j.up ef_4528 (I.ne (k := 30) (j := j) (k' := 34) (j' := j) hj hj (Or.inl (by decide)))
  have p_ad_33_j := p_ad_33_j.up ef_4528 (I.ne (k := 33) (j := j) (k' := 34) (j' := j) hj hj (Or.inl (by decide)))
  have p_ad_34_j := p_ad_34_j.me ef_4528
  have o_4529 : (EQ g_4527) g_4527 := rfl
  have I := I.upS (sp' := spC ((rf, fa, ft, (stf sc_4525 j (pp 0, pp 0, (EQ g_4522), (EQ g_4527)))) : RS) fc tc w q) (k := 34) (j := j) hj ef_4528 (okE_a (g := g_4527) (show ((stf sc_4525 j (pp 0, pp 0, (EQ g_4522), (EQ g_4527))) j).2.2.2 g_4527 from by rw [stf_s]; exact o_4529)) (sc34C (by rw [hs_4526]) (by rw [hs_4526]) (by rw [hs_4526]))
  obtain ⟨sc_4530, esc_4530⟩ : ∃ z : Nat → SG, z = stf sc_4525 j (pp 0, pp 0, (EQ g_4522), (EQ g_4527)) := ⟨_, rfl⟩
  rw [← esc_4530] at I
  have hs_4531 : sc_4530 j = (pp 0, pp 0, (EQ g_4522), (EQ g_4527)) := by rw [esc_4530, stf_s]
  refine lv_iinc (v := 2) (lv' := [(1, .int 2), (0, .ref (ad 30 j))]) hx hb dX7_clear_31 hl (k := 0) rfl (by decide) (by decide) rfl (fun ls hl => ?_)
  refine lv_goto (tgt := 12) hx hb dX7_clear_34 (by decide) ?_
  refine lv_iload_n hx hb dX7_clear_12 rfl (lv_at hl 0 rfl) ?_
  refine lv_iconst (v := 3) hx hb dX7_clear_13 (by decide) ?_
  refine lv_icmp_ge (tgt := 37) hx hb dX7_clear_14 (by decide) (fun h => absurd h (by decide)) (fun _ => ?_)
  refine lv_aload_n hx hb dX7_clear_17 rfl (lv_at hl 1 rfl) ?_
  refine pg_get S Y ok_X7 2 (by decide) kf7_18 (v := .ref (ad 33 j)) p_ad_30_j rfl dX7_clear_18 ?_
  refine lv_iload_n hx hb dX7_clear_21 rfl (lv_at hl 0 rfl) ?_
  refine lv_iconst (v := 0) hx hb dX7_clear_22 (by decide) ?_
  refine pg_iast S Y p_ad_33_j (by unfold vp_in; decide) dX7_clear_23 (fun f_4533 H locs ef_4533 Y => ?_)
  obtain ⟨g_4532, eg_4532⟩ : ∃ z, z = upd (g_4522) (2 : Int32).toNatClampNeg 0 := ⟨_, rfl⟩
  rw [← eg_4532] at ef_4533
  have p_ad_30_j := p_ad_30_j.up ef_4533 (I.ne (k := 30) (j := j) (k' := 33) (j' := j) hj hj (Or.inl (by decide)))
  have p_ad_34_j := p_ad_34_j.up ef_4533 (I.ne (k := 34) (j := j) (k' := 33) (j' := j) hj hj (Or.inl (by decide)))
  have p_ad_33_j := p_ad_33_j.me ef_4533
  have o_4534 : (LR (fun _ => 0)) g_4532 := LR_0 eg_4509 eg_4522 eg_4532
  have I := I.upS (sp' := spC ((rf, fa, ft, (stf sc_4530 j (pp 0, pp 0, LR (fun _ => 0), (EQ g_4527)))) : RS) fc tc w q) (k := 33) (j := j) hj ef_4533 (okE_a (g := g_4532) (show ((stf sc_4530 j (pp 0, pp 0, LR (fun _ => 0), (EQ g_4527))) j).2.2.1 g_4532 from by rw [stf_s]; exact o_4534)) (sc33C (by rw [hs_4531]) (by rw [hs_4531]) (by rw [hs_4531]))
  obtain ⟨sc_4535, esc_4535⟩ : ∃ z : Nat → SG, z = stf sc_4530 j (pp 0, pp 0, LR (fun _ => 0), (EQ g_4527)) := ⟨_, rfl⟩
  rw [← esc_4535] at I
  have hs_4536 : sc_4535 j = (pp 0, pp 0, LR (fun _ => 0), (EQ g_4527)) := by rw [esc_4535, stf_s]
  refine lv_aload_n hx hb dX7_clear_24 rfl (lv_at hl 1 rfl) ?_
  refine pg_get S Y ok_X7 3 (by decide) kf7_21 (v := .ref (ad 34 j)) p_ad_30_j rfl dX7_clear_25 ?_
  refine lv_iload_n hx hb dX7_clear_28 rfl (lv_at hl 0 rfl) ?_
  refine lv_iconst (v := 0) hx hb dX7_clear_29 (by decide) ?_
  refine pg_iast S Y p_ad_34_j (by unfold vp_in; decide) dX7_clear_30 (fun f_4538 H locs ef_4538 Y => ?_)
  obtain ⟨g_4537, eg_4537⟩ : ∃ z, z = upd (g_4527) (2 : Int32).toNatClampNeg 0 := ⟨_, rfl⟩
  rw [← eg_4537] at ef_4538
  have p_ad_30_j := p_ad_30_j.up ef_4538 (I.ne (k := 30) (j := j) (k' := 34) (j' := j) hj hj (Or.inl (by decide)))
  have p_ad_33_j := p_ad_33_j.up ef_4538 (I.ne (k := 33) (j := j) (k' := 34) (j' := j) hj hj (Or.inl (by decide)))
  have p_ad_34_j := p_ad_34_j.me ef_4538
  have o_4539 : (LR (fun _ => 0)) g_4537 := LR_0 eg_4517 eg_4527 eg_4537
  have I := I.upS (sp' := spC ((rf, fa, ft, (stf sc_4535 j (pp 0, pp 0, LR (fun _ => 0), LR (fun _ => 0)))) : RS) fc tc w q) (k := 34) (j := j) hj ef_4538 (okE_a (g := g_4537) (show ((stf sc_4535 j (pp 0, pp 0, LR (fun _ => 0), LR (fun _ => 0))) j).2.2.2 g_4537 from by rw [stf_s]; exact o_4539)) (sc34C (by rw [hs_4536]) (by rw [hs_4536]) (by rw [hs_4536]))
  obtain ⟨sc_4540, esc_4540⟩ : ∃ z : Nat → SG, z = stf sc_4535 j (pp 0, pp 0, LR (fun _ => 0), LR (fun _ => 0)) := ⟨_, rfl⟩
  rw [← esc_4540] at I
  have hs_4541 : sc_4540 j = (pp 0, pp 0, LR (fun _ => 0), LR (fun _ => 0)) := by rw [esc_4540, stf_s]
  refine lv_iinc (v := 3) (lv' := [(1, .int 3), (0, .ref (ad 30 j))]) hx hb dX7_clear_31 hl (k := 0) rfl (by decide) (by decide) rfl (fun ls hl => ?_)
  refine lv_goto (tgt := 12) hx hb dX7_clear_34 (by decide) ?_
  refine lv_iload_n hx hb dX7_clear_12 rfl (lv_at hl 0 rfl) ?_
  refine lv_iconst (v := 3) hx hb dX7_clear_13 (by decide) ?_
  refine lv_icmp_ge (tgt := 37) hx hb dX7_clear_14 (by decide) (fun _ => ?_) (fun h => absurd (by decide) h)
  exact prV (post := fun L1 f1 => ∃ sc2 : Nat → SG, SH (spC ((rf, fa, ft, sc2) : RS) fc tc w q) nnC G ad L1 f1 ∧ sc2 j = (pp 0, pp 0, LR (fun _ => 0), LR (fun _ => 0))) S Y (by decide) (by decide) hA1 ⟨sc_4540, I, hs_4541⟩ dX7_clear_37
set_option maxHeartbeats 4000000 in
set_option maxRecDepth 100000 in
theorem x_X7_takeOver {l : Launch} {G : GG}  {L : List Nat} {f : HF} {ad : Nat → Nat → Nat} {rf : FS} {fa : Nat → Int × Int} {ft : Nat → (Nat → Int32) → Prop} {fc : Int × Int} {tc w : Nat → Int × Int} {q : Nat → (Nat → Int32) → Prop} {j i : Nat} (I : SH (spC ((rf, fa, ft, sc0) : RS) fc tc w q) nnC G ad L f) (hW : WBp w 8) (hT : WBp tc 4) (hQ : QIp q) (hj : j < 8) (hi : i < 8) (hne : j ≠ i) : PMv l yX7_takeOver cX7_takeOver 2 1 0 0 G [.ref (ad 30 j), .ref (ad 30 i)] L f (fun L1 f1 => SH (spC ((rf, fa, ft, sc0) : RS) fc tc w q) nnC G ad L1 f1) := by
  refine PMv.of (post := fun L1 f1 => SH (spC ((rf, fa, ft, sc0) : RS) fc tc w q) nnC G ad L1 f1) (own := RX7) (by decide) rfl (Nat.le_of_ble_eq_true rfl) (fun sz p e s m args below meth c A ls hA1 hname S Y hl => ?_)
  have hx := S.hx
  have hb := S.hb
  have hl : lv_has ls 2 [(0, .ref (ad 30 j)), (1, .ref (ad 30 i))] := hl
  refine lv_aload_n hx hb dX7_takeOver_0 rfl (lv_at hl 1 rfl) ?_
  obtain ⟨v_4622, v_4624, p_ad_30_i, b_4623, b_4625⟩ := opnC_30 (j := i) I hi
  have p_ad_30_i : pt L f (ad 30 i) (.inr (7, [.ref (ad 31 i), .ref (ad 32 i), .ref (ad 33 i), .ref (ad 34 i), .ref (ad 35 i), .int v_4622, .int v_4624])) := p_ad_30_i
  refine pg_get S Y ok_X7 0 (by decide) kf7_9 (v := .ref (ad 31 i)) p_ad_30_i rfl dX7_takeOver_1 ?_
  refine lv_iconst (v := 0) hx hb dX7_takeOver_4 (by decide) ?_
  refine lv_aload_n hx hb dX7_takeOver_5 rfl (lv_at hl 0 rfl) ?_
  obtain ⟨v_4626, v_4628, p_ad_30_j, b_4627, b_4629⟩ := opnC_30 (j := j) I hj
  have p_ad_30_j : pt L f (ad 30 j) (.inr (7, [.ref (ad 31 j), .ref (ad 32 j), .ref (ad 33 j), .ref (ad 34 j), .ref (ad 35 j), .int v_4626, .int v_4628])) := p_ad_30_j
  refine pg_get S Y ok_X7 0 (by decide) kf7_9 (v := .ref (ad 31 j)) p_ad_30_j rfl dX7_takeOver_6 ?_
  refine lv_iconst (v := 0) hx hb dX7_takeOver_9 (by decide) ?_
  refine lv_aload_n hx hb dX7_takeOver_10 rfl (lv_at hl 0 rfl) ?_
  refine pg_get S Y ok_X7 0 (by decide) kf7_9 (v := .ref (ad 31 j)) p_ad_30_j rfl dX7_takeOver_11 ?_
  obtain ⟨g_4630, p_ad_31_j, o_4631⟩ := I.opi (k := 31) (j := j) hj rfl
  have p_ad_31_j : pt L f (ad 31 j) (.inl (G.2 0, 300, .inl g_4630)) := p_ad_31_j
  refine pg_alen S Y (k := 0) (v := 300) p_ad_31_j rfl rfl dX7_takeOver_14 ?_
  obtain ⟨g_4632, p_ad_31_i, o_4633⟩ := I.opi (k := 31) (j := i) hi rfl
  have p_ad_31_i : pt L f (ad 31 i) (.inl (G.2 0, 300, .inl g_4632)) := p_ad_31_i
  refine pg_copyi S Y hl.1 km7_34 kAn kAs kAi p_ad_31_i p_ad_31_j (by decide) (by decide) (by decide) (by decide) (by decide) (Nat.le_of_ble_eq_true rfl) (Nat.le_of_ble_eq_true rfl) dX7_takeOver_15 (fun f_4635 H locs ef_4635 Y => ?_)
  obtain ⟨g_4634, eg_4634⟩ : ∃ z, z = va_cpy (g_4632) (g_4630) (0 : Int32).toNatClampNeg (0 : Int32).toNatClampNeg (300 : Int32).toNatClampNeg := ⟨_, rfl⟩
  rw [← eg_4634] at ef_4635
  have p_ad_30_i := p_ad_30_i.up ef_4635 (I.ne (k := 30) (j := i) (k' := 31) (j' := j) hi hj (Or.inl (by decide)))
  have p_ad_30_j := p_ad_30_j.up ef_4635 (I.ne (k := 30) (j := j) (k' := 31) (j' := j) hj hj (Or.inl (by decide)))
  have p_ad_31_i := p_ad_31_i.up ef_4635 (I.ne (k := 31) (j := i) (k' := 31) (j' := j) hi hj (Or.inr (Ne.symm hne)))
  have p_ad_31_j := p_ad_31_j.me ef_4635
  have I := I.up (k := 31) (j := j) hj ef_4635 (okE_a (g := g_4634) trivial)
  refine lv_aload_n hx hb dX7_takeOver_18 rfl (lv_at hl 1 rfl) ?_
  refine pg_get S Y ok_X7 1 (by decide) kf7_15 (v := .ref (ad 32 i)) p_ad_30_i rfl dX7_takeOver_19 ?_
  refine lv_iconst (v := 0) hx hb dX7_takeOver_22 (by decide) ?_
  refine lv_aload_n hx hb dX7_takeOver_23 rfl (lv_at hl 0 rfl) ?_
  refine pg_get S Y ok_X7 1 (by decide) kf7_15 (v := .ref (ad 32 j)) p_ad_30_j rfl dX7_takeOver_24 ?_
  refine lv_iconst (v := 0) hx hb dX7_takeOver_27 (by decide) ?_
  refine lv_aload_n hx hb dX7_takeOver_28 rfl (lv_at hl 0 rfl) ?_
  refine pg_get S Y ok_X7 1 (by decide) kf7_15 (v := .ref (ad 32 j)) p_ad_30_j rfl dX7_takeOver_29 ?_
  obtain ⟨g_4636, p_ad_32_j, o_4637⟩ := I.opi (k := 32) (j := j) hj rfl
  have p_ad_32_j : pt L f_4635 (ad 32 j) (.inl (G.2 0, 300, .inl g_4636)) := p_ad_32_j
  refine pg_alen S Y (k := 0) (v := 300) p_ad_32_j rfl rfl dX7_takeOver_32 ?_
  obtain ⟨g_4638, p_ad_32_i, o_4639⟩ := I.opi (k := 32) (j := i) hi rfl
  have p_ad_32_i : pt L f_4635 (ad 32 i) (.inl (G.2 0, 300, .inl g_4638)) := p_ad_32_i
  refine pg_copyi S Y hl.1 km7_34 kAn kAs kAi p_ad_32_i p_ad_32_j (by decide) (by decide) (by decide) (by decide) (by decide) (Nat.le_of_ble_eq_true rfl) (Nat.le_of_ble_eq_true rfl) dX7_takeOver_33 (fun f_4641 H locs ef_4641 Y => ?_)
  obtain ⟨g_4640, eg_4640⟩ : ∃ z, z = va_cpy (g_4638) (g_4636) (0 : Int32).toNatClampNeg (0 : Int32).toNatClampNeg (300 : Int32).toNatClampNeg := ⟨_, rfl⟩
  rw [← eg_4640] at ef_4641
  have p_ad_30_i := p_ad_30_i.up ef_4641 (I.ne (k := 30) (j := i) (k' := 32) (j' := j) hi hj (Or.inl (by decide)))
  have p_ad_30_j := p_ad_30_j.up ef_4641 (I.ne (k := 30) (j := j) (k' := 32) (j' := j) hj hj (Or.inl (by decide)))
  have p_ad_31_j := p_ad_31_j.up ef_4641 (I.ne (k := 31) (j := j) (k' := 32) (j' := j) hj hj (Or.inl (by decide)))
  have p_ad_31_i := p_ad_31_i.up ef_4641 (I.ne (k := 31) (j := i) (k' := 32) (j' := j) hi hj (Or.inl (by decide)))
  have p_ad_32_i := p_ad_32_i.up ef_4641 (I.ne (k := 32) (j := i) (k' := 32) (j' := j) hi hj (Or.inr (Ne.symm hne)))
  have p_ad_32_j := p_ad_32_j.me ef_4641
  have I := I.up (k := 32) (j := j) hj ef_4641 (okE_a (g := g_4640) trivial)
  refine lv_aload_n hx hb dX7_takeOver_36 rfl (lv_at hl 1 rfl) ?_
  refine pg_get S Y ok_X7 2 (by decide) kf7_18 (v := .ref (ad 33 i)) p_ad_30_i rfl dX7_takeOver_37 ?_
  refine lv_iconst (v := 0) hx hb dX7_takeOver_40 (by decide) ?_
  refine lv_aload_n hx hb dX7_takeOver_41 rfl (lv_at hl 0 rfl) ?_
  refine pg_get S Y ok_X7 2 (by decide) kf7_18 (v := .ref (ad 33 j)) p_ad_30_j rfl dX7_takeOver_42 ?_
  refine lv_iconst (v := 0) hx hb dX7_takeOver_45 (by decide) ?_
  refine lv_aload_n hx hb dX7_takeOver_46 rfl (lv_at hl 0 rfl) ?_
  refine pg_get S Y ok_X7 2 (by decide) kf7_18 (v := .ref (ad 33 j)) p_ad_30_j rfl dX7_takeOver_47 ?_
  obtain ⟨g_4642, p_ad_33_j, o_4643⟩ := I.opi (k := 33) (j := j) hj rfl
  have p_ad_33_j : pt L f_4641 (ad 33 j) (.inl (G.2 0, 3, .inl g_4642)) := p_ad_33_j
  refine pg_alen S Y (k := 0) (v := 3) p_ad_33_j rfl rfl dX7_takeOver_50 ?_
  obtain ⟨g_4644, p_ad_33_i, o_4645⟩ := I.opi (k := 33) (j := i) hi rfl
  have p_ad_33_i : pt L f_4641 (ad 33 i) (.inl (G.2 0, 3, .inl g_4644)) := p_ad_33_i
  refine pg_copyi S Y hl.1 km7_34 kAn kAs kAi p_ad_33_i p_ad_33_j (by decide) (by decide) (by decide) (by decide) (by decide) (Nat.le_of_ble_eq_true rfl) (Nat.le_of_ble_eq_true rfl) dX7_takeOver_51 (fun f_4647 H locs ef_4647 Y => ?_)
  obtain ⟨g_4646, eg_4646⟩ : ∃ z, z = va_cpy (g_4644) (g_4642) (0 : Int32).toNatClampNeg (0 : Int32).toNatClampNeg (3 : Int32).toNatClampNeg := ⟨_, rfl⟩
  rw [← eg_4646] at ef_4647
  have p_ad_30_i := p_ad_30_i.up ef_4647 (I.ne (k := 30) (j := i) (k' := 33) (j' := j) hi hj (Or.inl (by decide)))
  have p_ad_30_j := p_ad_30_j.up ef_4647 (I.ne (k := 30) (j := j) (k' := 33) (j' := j) hj hj (Or.inl (by decide)))
  have p_ad_31_j := p_ad_31_j.up ef_4647 (I.ne (k := 31) (j := j) (k' := 33) (j' := j) hj hj (Or.inl (by decide)))
  have p_ad_31_i := p_ad_31_i.up ef_4647 (I.ne (k := 31) (j := i) (k' := 33) (j' := j) hi hj (Or.inl (by decide)))
  have p_ad_32_j := p_ad_32_j.up ef_4647 (I.ne (k := 32) (j := j) (k' := 33) (j' := j) hj hj (Or.inl (by decide)))
  have p_ad_32_i := p_ad_32_i.up ef_4647 (I.ne (k := 32) (j := i) (k' := 33) (j' := j) hi hj (Or.inl (by decide)))
  have p_ad_33_i := p_ad_33_i.up ef_4647 (I.ne (k := 33) (j := i) (k' := 33) (j' := j) hi hj (Or.inr (Ne.symm hne)))
  have p_ad_33_j := p_ad_33_j.me ef_4647
  have I := I.up (k := 33) (j := j) hj ef_4647 (okE_a (g := g_4646) trivial)
  refine lv_aload_n hx hb dX7_takeOver_54 rfl (lv_at hl 1 rfl) ?_
  refine pg_get S Y ok_X7 3 (by decide) kf7_21 (v := .ref (ad 34 i)) p_ad_30_i rfl dX7_takeOver_55 ?_
  refine lv_iconst (v := 0) hx hb dX7_takeOver_58 (by decide) ?_
  refine lv_aload_n hx hb dX7_takeOver_59 rfl (lv_at hl 0 rfl) ?_
  refine pg_get S Y ok_X7 3 (by decide) kf7_21 (v := .ref (ad 34 j)) p_ad_30_j rfl dX7_takeOver_60 ?_
  refine lv_iconst (v := 0) hx hb dX7_takeOver_63 (by decide) ?_
  refine lv_aload_n hx hb dX7_takeOver_64 rfl (lv_at hl 0 rfl) ?_
  refine pg_get S Y ok_X7 3 (by decide) kf7_21 (v := .ref (ad 34 j)) p_ad_30_j rfl dX7_takeOver_65 ?_
  obtain ⟨g_4648, p_ad_34_j, o_4649⟩ := I.opi (k := 34) (j := j) hj rfl
  have p_ad_34_j : pt L f_4647 (ad 34 j) (.inl (G.2 0, 3, .inl g_4648)) := p_ad_34_j
  refine pg_alen S Y (k := 0) (v := 3) p_ad_34_j rfl rfl dX7_takeOver_68 ?_
  obtain ⟨g_4650, p_ad_34_i, o_4651⟩ := I.opi (k := 34) (j := i) hi rfl
  have p_ad_34_i : pt L f_4647 (ad 34 i) (.inl (G.2 0, 3, .inl g_4650)) := p_ad_34_i
  refine pg_copyi S Y hl.1 km7_34 kAn kAs kAi p_ad_34_i p_ad_34_j (by decide) (by decide) (by decide) (by decide) (by decide) (Nat.le_of_ble_eq_true rfl) (Nat.le_of_ble_eq_true rfl) dX7_takeOver_69 (fun f_4653 H locs ef_4653 Y => ?_)
  obtain ⟨g_4652, eg_4652⟩ : ∃ z, z = va_cpy (g_4650) (g_4648) (0 : Int32).toNatClampNeg (0 : Int32).toNatClampNeg (3 : Int32).toNatClampNeg := ⟨_, rfl⟩
  rw [← eg_4652] at ef_4653
  have p_ad_30_i := p_ad_30_i.up ef_4653 (I.ne (k := 30) (j := i) (k' := 34) (j' := j) hi hj (Or.inl (by decide)))
  have p_ad_30_j := p_ad_30_j.up ef_4653 (I.ne (k := 30) (j := j) (k' := 34) (j' := j) hj hj (Or.inl (by decide)))
  have p_ad_31_j := p_ad_31_j.up ef_4653 (I.ne (k := 31) (j := j) (k' := 34) (j' := j) hj hj (Or.inl (by decide)))
  have p_ad_31_i := p_ad_31_i.up ef_4653 (I.ne (k := 31) (j := i) (k' := 34) (j' := j) hi hj (Or.inl (by decide)))
  have p_ad_32_j := p_ad_32_j.up ef_4653 (I.ne (k := 32) (j := j) (k' := 34) (j' := j) hj hj (Or.inl (by decide)))
  have p_ad_32_i := p_ad_32_i.up ef_4653 (I.ne (k := 32) (j := i) (k' := 34) (j' := j) hi hj (Or.inl (by decide)))
  have p_ad_33_j := p_ad_33_j.up ef_4653 (I.ne (k := 33) (j := j) (k' := 34) (j' := j) hj hj (Or.inl (by decide)))
  have p_ad_33_i := p_ad_33_i.up ef_4653 (I.ne (k := 33) (j := i) (k' := 34) (j' := j) hi hj (Or.inl (by decide)))
  have p_ad_34_i := p_ad_34_i.up ef_4653 (I.ne (k := 34) (j := i) (k' := 34) (j' := j) hi hj (Or.inr (Ne.symm hne)))
  have p_ad_34_j := p_ad_34_j.me ef_4653
  have I := I.up (k := 34) (j := j) hj ef_4653 (okE_a (g := g_4652) trivial)
  refine lv_aload_n hx hb dX7_takeOver_72 rfl (lv_at hl 1 rfl) ?_
  refine pg_get S Y ok_X7 4 (by decide) kf7_24 (v := .ref (ad 35 i)) p_ad_30_i rfl dX7_takeOver_73 ?_
  refine lv_iconst (v := 0) hx hb dX7_takeOver_76 (by decide) ?_
  refine lv_aload_n hx hb dX7_takeOver_77 rfl (lv_at hl 0 rfl) ?_
  refine pg_get S Y ok_X7 4 (by decide) kf7_24 (v := .ref (ad 35 j)) p_ad_30_j rfl dX7_takeOver_78 ?_
  refine lv_iconst (v := 0) hx hb dX7_takeOver_81 (by decide) ?_
  refine lv_aload_n hx hb dX7_takeOver_82 rfl (lv_at hl 0 rfl) ?_
  refine pg_get S Y ok_X7 4 (by decide) kf7_24 (v := .ref (ad 35 j)) p_ad_30_j rfl dX7_takeOver_83 ?_
  obtain ⟨g_4654, p_ad_35_j, o_4655⟩ := I.opi (k := 35) (j := j) hj rfl
  have p_ad_35_j : pt L f_4653 (ad 35 j) (.inl (G.2 0, 120, .inl g_4654)) := p_ad_35_j
  refine pg_alen S Y (k := 0) (v := 120) p_ad_35_j rfl rfl dX7_takeOver_86 ?_
  obtain ⟨g_4656, p_ad_35_i, o_4657⟩ := I.opi (k := 35) (j := i) hi rfl
  have p_ad_35_i : pt L f_4653 (ad 35 i) (.inl (G.2 0, 120, .inl g_4656)) := p_ad_35_i
  refine pg_copyi S Y hl.1 km7_34 kAn kAs kAi p_ad_35_i p_ad_35_j (by decide) (by decide) (by decide) (by decide) (by decide) (Nat.le_of_ble_eq_true rfl) (Nat.le_of_ble_eq_true rfl) dX7_takeOver_87 (fun f_4659 H locs ef_4659 Y => ?_)
  obtain ⟨g_4658, eg_4658⟩ : ∃ z, z = va_cpy (g_4656) (g_4654) (0 : Int32).toNatClampNeg (0 : Int32).toNatClampNeg (120 : Int32).toNatClampNeg := ⟨_, rfl⟩
  rw [← eg_4658] at ef_4659
  have p_ad_30_i := p_ad_30_i.up ef_4659 (I.ne (k := 30) (j := i) (k' := 35) (j' := j) hi hj (Or.inl (by decide)))
  have p_ad_30_j := p_ad_30_j.up ef_4659 (I.ne (k := 30) (j := j) (k' := 35) (j' := j) hj hj (Or.inl (by decide)))
  have p_ad_31_j := p_ad_31_j.up ef_4659 (I.ne (k := 31) (j := j) (k' := 35) (j' := j) hj hj (Or.inl (by decide)))
  have p_ad_31_i := p_ad_31_i.up ef_4659 (I.ne (k := 31) (j := i) (k' := 35) (j' := j) hi hj (Or.inl (by decide)))
  have p_ad_32_j := p_ad_32_j.up ef_4659 (I.ne (k := 32) (j := j) (k' := 35) (j' := j) hj hj (Or.inl (by decide)))
  have p_ad_32_i := p_ad_32_i.up ef_4659 (I.ne (k := 32) (j := i) (k' := 35) (j' := j) hi hj (Or.inl (by decide)))
  have p_ad_33_j := p_ad_33_j.up ef_4659 (I.ne (k := 33) (j := j) (k' := 35) (j' := j) hj hj (Or.inl (by decide)))
  have p_ad_33_i := p_ad_33_i.up ef_4659 (I.ne (k := 33) (j := i) (k' := 35) (j' := j) hi hj (Or.inl (by decide)))
  have p_ad_34_j := p_ad_34_j.up ef_4659 (I.ne (k := 34) (j := j) (k' := 35) (j' := j) hj hj (Or.inl (by decide)))
  have p_ad_34_i := p_ad_34_i.up ef_4659 (I.ne (k := 34) (j := i) (k' := 35) (j' := j) hi hj (Or.inl (by decide)))
  have p_ad_35_i := p_ad_35_i.up ef_4659 (I.ne (k := 35) (j := i) (k' := 35) (j' := j) hi hj (Or.inr (Ne.symm hne)))
  have p_ad_35_j := p_ad_35_j.me ef_4659
  have I := I.up (k := 35) (j := j) hj ef_4659 (okE_a (g := g_4658) trivial)
  refine lv_aload_n hx hb dX7_takeOver_90 rfl (lv_at hl 0 rfl) ?_
  refine lv_aload_n hx hb dX7_takeOver_91 rfl (lv_at hl 1 rfl) ?_
  refine pg_get S Y ok_X7 5 (by decide) kf7_27 (v := .int v_4622) p_ad_30_i rfl dX7_takeOver_92 ?_
  refine pg_put S Y ok_X7 5 (by decide) kf7_27 rfl (fs' := [.ref (ad 31 j), .ref (ad 32 j), .ref (ad 33 j), .ref (ad 34 j), .ref (ad 35 j), .int v_4622, .int v_4628]) (v := .int v_4622) p_ad_30_j rfl rfl rfl (Nat.le_of_ble_eq_true rfl) dX7_takeOver_95 (fun f_4660 H locs ef_4660 Y => ?_)
  have p_ad_30_i := p_ad_30_i.up ef_4660 (I.ne (k := 30) (j := i) (k' := 30) (j' := j) hi hj (Or.inr (Ne.symm hne)))
  have p_ad_31_j := p_ad_31_j.up ef_4660 (I.ne (k := 31) (j := j) (k' := 30) (j' := j) hj hj (Or.inl (by decide)))
  have p_ad_31_i := p_ad_31_i.up ef_4660 (I.ne (k := 31) (j := i) (k' := 30) (j' := j) hi hj (Or.inl (by decide)))
  have p_ad_32_j := p_ad_32_j.up ef_4660 (I.ne (k := 32) (j := j) (k' := 30) (j' := j) hj hj (Or.inl (by decide)))
  have p_ad_32_i := p_ad_32_i.up ef_4660 (I.ne (k := 32) (j := i) (k' := 30) (j' := j) hi hj (Or.inl (by decide)))
  have p_ad_33_j := p_ad_33_j.up ef_4660 (I.ne (k := 33) (j := j) (k' := 30) (j' := j) hj hj (Or.inl (by decide)))
  have p_ad_33_i := p_ad_33_i.up ef_4660 (I.ne (k := 33) (j := i) (k' := 30) (j' := j) hi hj (Or.inl (by decide)))
  have p_ad_34_j := p_ad_34_j.up ef_4660 (I.ne (k := 34) (j := j) (k' := 30) (j' := j) hj hj (Or.inl (by decide)))
  have p_ad_34_i := p_ad_34_i.up ef_4660 (I.ne (k := 34) (j := i) (k' := 30) (j' := j) hi hj (Or.inl (by decide)))
  have p_ad_35_j := p_ad_35_j.up ef_4660 (I.ne (k := 35) (j := j) (k' := 30) (j' := j) hj hj (Or.inl (by decide)))
  have p_ad_35_i := p_ad_35_i.up ef_4660 (I.ne (k := 35) (j := i) (k' := 30) (j' := j) hi hj (Or.inl (by decide)))
  have p_ad_30_j := p_ad_30_j.me ef_4660
  have I := I.up (k := 30) (j := j) hj ef_4660 (okE_o (okFs_c okV_r (okFs_c okV_r (okFs_c okV_r (okFs_c okV_r (okFs_c okV_r (okFs_c (okV_p (lim_F (bn_w (bn_w (a' := 0) (b' := 300) b_4623 (lim_b _ _ _)) (by decide) : bn 0 300 v_4622))) (okFs_c (okV_p b_4629) okFs_n))))))))
  refine lv_aload_n hx hb dX7_takeOver_98 rfl (lv_at hl 0 rfl) ?_
  refine lv_aload_n hx hb dX7_takeOver_99 rfl (lv_at hl 1 rfl) ?_
  refine pg_get S Y ok_X7 6 (by decide) kf7_31 (v := .int v_4624) p_ad_30_i rfl dX7_takeOver_100 ?_
  refine pg_put S Y ok_X7 6 (by decide) kf7_31 rfl (fs' := [.ref (ad 31 j), .ref (ad 32 j), .ref (ad 33 j), .ref (ad 34 j), .ref (ad 35 j), .int v_4622, .int v_4624]) (v := .int v_4624) p_ad_30_j rfl rfl rfl (Nat.le_of_ble_eq_true rfl) dX7_takeOver_103 (fun f_4661 H locs ef_4661 Y => ?_)
  have p_ad_30_i := p_ad_30_i.up ef_4661 (I.ne (k := 30) (j := i) (k' := 30) (j' := j) hi hj (Or.inr (Ne.symm hne)))
  have p_ad_31_j := p_ad_31_j.up ef_4661 (I.ne (k := 31) (j := j) (k' := 30) (j' := j) hj hj (Or.inl (by decide)))
  have p_ad_31_i := p_ad_31_i.up ef_4661 (I.ne (k := 31) (j := i) (k' := 30) (j' := j) hi hj (Or.inl (by decide)))
  have p_ad_32_j := p_ad_32_j.up ef_4661 (I.ne (k := 32) (j := j) (k' := 30) (j' := j) hj hj (Or.inl (by decide)))
  have p_ad_32_i := p_ad_32_i.up ef_4661 (I.ne (k := 32) (j := i) (k' := 30) (j' := j) hi hj (Or.inl (by decide)))
  have p_ad_33_j := p_ad_33_j.up ef_4661 (I.ne (k := 33) (j := j) (k' := 30) (j' := j) hj hj (Or.inl (by decide)))
  have p_ad_33_i := p_ad_33_i.up ef_4661 (I.ne (k := 33) (j := i) (k' := 30) (j' := j) hi hj (Or.inl (by decide)))
  have p_ad_34_j := p_ad_34_j.up ef_4661 (I.ne (k := 34) (j := j) (k' := 30) (j' := j) hj hj (Or.inl (by decide)))
  have p_ad_34_i := p_ad_34_i.up ef_4661 (I.ne (k := 34) (j := i) (k' := 30) (j' := j) hi hj (Or.inl (by decide)))
  have p_ad_35_j := p_ad_35_j.up ef_4661 (I.ne (k := 35) (j := j) (k' := 30) (j' := j) hj hj (Or.inl (by decide)))
  have p_ad_35_i := p_ad_35_i.up ef_4661 (I.ne (k := 35) (j := i) (k' := 30) (j' := j) hi hj (Or.inl (by decide)))
  have p_ad_30_j := p_ad_30_j.me ef_4661
  have I := I.up (k := 30) (j := j) hj ef_4661 (okE_o (okFs_c okV_r (okFs_c okV_r (okFs_c okV_r (okFs_c okV_r (okFs_c okV_r (okFs_c (okV_p (lim_F (bn_w (bn_w (a' := 0) (b' := 300) b_4623 (lim_b _ _ _)) (by decide) : bn 0 300 v_4622))) (okFs_c (okV_p (lim_F (bn_w (bn_w (a' := 0) (b' := 24) b_4625 (lim_b _ _ _)) (by decide) : bn 0 24 v_4624))) okFs_n))))))))
  exact prV (post := fun L1 f1 => SH (spC ((rf, fa, ft, sc0) : RS) fc tc w q) nnC G ad L1 f1) S Y (by decide) (by decide) hA1 I dX7_takeOver_106
set_option maxHeartbeats 4000000 in
set_option maxRecDepth 100000 in
theorem x_X7_add {l : Launch} {G : GG}  {L : List Nat} {f : HF} {ad : Nat → Nat → Nat} {rf : FS} {sc : Nat → SG} {fa : Nat → Int × Int} {ft : Nat → (Nat → Int32) → Prop} {fc : Int × Int} {tc w : Nat → Int × Int} {q : Nat → (Nat → Int32) → Prop} {j : Nat} {i1 i2 : Int32} {cB : Int × Int} {sl : Int} {cC cD : (Nat → Int32) → Prop} (I : SH (spC ((rf, fa, ft, sc) : RS) fc tc w q) nnC G ad L f) (hW : WBp w 8) (hT : WBp tc 4) (hQ : QIp q) (hj : j < 8) (hs : sc j = (pp sl, cB, cC, cD)) (hr : 0 ≤ sl ∧ sl < 300) : PMi l yX7_add cX7_add 3 .int 0 0 0 G [.ref (ad 30 j), .int i1, .int i2] L f (fun r L1 f1 => ∃ sc2 : Nat → SG, SH (spC ((rf, fa, ft, sc2) : RS) fc tc w q) nnC G ad L1 f1 ∧ sc2 j = (pp (sl + 1), cB, cC, cD)) := by
  refine PMi.of (post := fun r L1 f1 => ∃ sc2 : Nat → SG, SH (spC ((rf, fa, ft, sc2) : RS) fc tc w q) nnC G ad L1 f1 ∧ sc2 j = (pp (sl + 1), cB, cC, cD)) (own := RX7) (by decide) rfl (Nat.le_of_ble_eq_true rfl) (fun sz p e s m args below meth c A ls hA1 hname S Y hl => ?_)
  have hx := S.hx
  have hb := S.hb
  have hl : lv_has ls 3 [(0, .ref (ad 30 j)), (1, .int i1), (2, .int i2)] := hl
  refine lv_aload_n hx hb dX7_add_0 rfl (lv_at hl 0 rfl) ?_
  obtain ⟨v_4706, v_4708, p_ad_30_j, b_4707, b_4709⟩ := opnC_30 (j := j) I hj
  have p_ad_30_j : pt L f (ad 30 j) (.inr (7, [.ref (ad 31 j), .ref (ad 32 j), .ref (ad 33 j), .ref (ad 34 j), .ref (ad 35 j), .int v_4706, .int v_4708])) := p_ad_30_j
  have tv_4706 : v_4706.toInt = sl := lim_eq2 b_4707 (congrArg (fun z : SG => z.1) hs)
  have B_4710 : bn 0 299 v_4706 := ⟨by have h9 := tv_4706; omega, by have h9 := tv_4706; omega⟩
  refine pg_get S Y ok_X7 5 (by decide) kf7_27 (v := .int v_4706) p_ad_30_j rfl dX7_add_1 ?_
  refine lv_sipush (v := 300) hx hb dX7_add_4 (by decide) ?_
  refine lv_icmp_lt (tgt := 12) hx hb dX7_add_7 (by decide) (fun _ => ?_) (fun h => absurd (bd_lt B_4710 (show bn 300 300 (300 : Int32) from bn_k (by decide)) (by decide)) h)
  refine lv_aload_n hx hb dX7_add_12 rfl (lv_at hl 0 rfl) ?_
  refine pg_get S Y ok_X7 0 (by decide) kf7_9 (v := .ref (ad 31 j)) p_ad_30_j rfl dX7_add_13 ?_
  refine lv_aload_n hx hb dX7_add_16 rfl (lv_at hl 0 rfl) ?_
  refine pg_get S Y ok_X7 5 (by decide) kf7_27 (v := .int v_4706) p_ad_30_j rfl dX7_add_17 ?_
  refine lv_iload_n hx hb dX7_add_20 rfl (lv_at hl 1 rfl) ?_
  obtain ⟨g_4711, p_ad_31_j, o_4712⟩ := I.opi (k := 31) (j := j) hj rfl
  have p_ad_31_j : pt L f (ad 31 j) (.inl (G.2 0, 300, .inl g_4711)) := p_ad_31_j
  refine pg_iast S Y p_ad_31_j (vp_bn B_4710 (by decide)) dX7_add_21 (fun f_4714 H locs ef_4714 Y => ?_)
  obtain ⟨g_4713, eg_4713⟩ : ∃ z, z = upd (g_4711) (v_4706 : Int32).toNatClampNeg i1 := ⟨_, rfl⟩
  rw [← eg_4713] at ef_4714
  have p_ad_30_j := p_ad_30_j.up ef_4714 (I.ne (k := 30) (j := j) (k' := 31) (j' := j) hj hj (Or.inl (by decide)))
  have p_ad_31_j := p_ad_31_j.me ef_4714
  have I := I.up (k := 31) (j := j) hj ef_4714 (okE_a (g := g_4713) trivial)
  refine lv_aload_n hx hb dX7_add_22 rfl (lv_at hl 0 rfl) ?_
  refine pg_get S Y ok_X7 1 (by decide) kf7_15 (v := .ref (ad 32 j)) p_ad_30_j rfl dX7_add_23 ?_
  refine lv_aload_n hx hb dX7_add_26 rfl (lv_at hl 0 rfl) ?_
  refine pg_get S Y ok_X7 5 (by decide) kf7_27 (v := .int v_4706) p_ad_30_j rfl dX7_add_27 ?_
  refine lv_iload_n hx hb dX7_add_30 rfl (lv_at hl 2 rfl) ?_
  obtain ⟨g_4715, p_ad_32_j, o_4716⟩ := I.opi (k := 32) (j := j) hj rfl
  have p_ad_32_j : pt L f_4714 (ad 32 j) (.inl (G.2 0, 300, .inl g_4715)) := p_ad_32_j
  refine pg_iast S Y p_ad_32_j (vp_bn B_4710 (by decide)) dX7_add_31 (fun f_4718 H locs ef_4718 Y => ?_)
  obtain ⟨g_4717, eg_4717⟩ : ∃ z, z = upd (g_4715) (v_4706 : Int32).toNatClampNeg i2 := ⟨_, rfl⟩
  rw [← eg_4717] at ef_4718
  have p_ad_30_j := p_ad_30_j.up ef_4718 (I.ne (k := 30) (j := j) (k' := 32) (j' := j) hj hj (Or.inl (by decide)))
  have p_ad_31_j := p_ad_31_j.up ef_4718 (I.ne (k := 31) (j := j) (k' := 32) (j' := j) hj hj (Or.inl (by decide)))
  have p_ad_32_j := p_ad_32_j.me ef_4718
  have I := I.up (k := 32) (j := j) hj ef_4718 (okE_a (g := g_4717) trivial)
  refine lv_aload_n hx hb dX7_add_32 rfl (lv_at hl 0 rfl) ?_
  refine lv_dup hx hb dX7_add_33 rfl ?_
  refine pg_get S Y ok_X7 5 (by decide) kf7_27 (v := .int v_4706) p_ad_30_j rfl dX7_add_34 ?_
  refine lv_iconst (v := 1) hx hb dX7_add_37 (by decide) ?_
  refine lv_iadd hx hb dX7_add_38 ?_
  refine lv_topi (fun x_4719 ex_4719 => ?_)
  refine pg_put S Y ok_X7 5 (by decide) kf7_27 rfl (fs' := [.ref (ad 31 j), .ref (ad 32 j), .ref (ad 33 j), .ref (ad 34 j), .ref (ad 35 j), .int x_4719, .int v_4708]) (v := .int x_4719) p_ad_30_j rfl rfl rfl (Nat.le_of_ble_eq_true rfl) dX7_add_39 (fun f_4720 H locs ef_4720 Y => ?_)
  have p_ad_31_j := p_ad_31_j.up ef_4720 (I.ne (k := 31) (j := j) (k' := 30) (j' := j) hj hj (Or.inl (by decide)))
  have p_ad_32_j := p_ad_32_j.up ef_4720 (I.ne (k := 32) (j := j) (k' := 30) (j' := j) hj hj (Or.inl (by decide)))
  have p_ad_30_j := p_ad_30_j.me ef_4720
  have I := I.upS (sp' := spC ((rf, fa, ft, (stf sc j (pp (sl + 1), cB, cC, cD))) : RS) fc tc w q) (k := 30) (j := j) hj ef_4720 (okE_o (okFs_c okV_r (okFs_c okV_r (okFs_c okV_r (okFs_c okV_r (okFs_c okV_r (okFs_c (okV_p (lim_st1 (s' := (pp (sl + 1), cB, cC, cD)) (lim_mk (bn_w (bn_eq ex_4719 (bn_add B_4710 (show bn 1 1 (1 : Int32) from bn_k (by decide)) (by decide))) (by decide) : bn 0 300 x_4719) (la_add ex_4719 tv_4706 (show (1 : Int32).toInt = 1 from rfl) B_4710 (show bn 1 1 (1 : Int32) from bn_k (by decide)) (by decide))))) (okFs_c (okV_p (lim_st2 (s' := (pp (sl + 1), cB, cC, cD)) (lim_rw2 (s' := (pp sl, cB, cC, cD)) b_4709 hs))) okFs_n)))))))) (sc30C (by rw [hs]))
  obtain ⟨sc_4721, esc_4721⟩ : ∃ z : Nat → SG, z = stf sc j (pp (sl + 1), cB, cC, cD) := ⟨_, rfl⟩
  rw [← esc_4721] at I
  have hs_4722 : sc_4721 j = (pp (sl + 1), cB, cC, cD) := by rw [esc_4721, stf_s]
  refine lv_aload_n hx hb dX7_add_42 rfl (lv_at hl 0 rfl) ?_
  obtain ⟨v_4723, v_4725, p_ad_30_j, b_4724, b_4726⟩ := opnC_30 (j := j) I hj
  have p_ad_30_j : pt L f_4720 (ad 30 j) (.inr (7, [.ref (ad 31 j), .ref (ad 32 j), .ref (ad 33 j), .ref (ad 34 j), .ref (ad 35 j), .int v_4723, .int v_4725])) := p_ad_30_j
  have tv_4723 : v_4723.toInt = (sl + 1) := lim_eq2 b_4724 (congrArg (fun z : SG => z.1) hs_4722)
  refine pg_get S Y ok_X7 5 (by decide) kf7_27 (v := .int v_4723) p_ad_30_j rfl dX7_add_43 ?_
  refine lv_iconst (v := 1) hx hb dX7_add_46 (by decide) ?_
  refine lv_isub hx hb dX7_add_47 ?_
  refine lv_topi (fun x_4727 ex_4727 => ?_)
  exact prI (post := fun r L1 f1 => ∃ sc2 : Nat → SG, SH (spC ((rf, fa, ft, sc2) : RS) fc tc w q) nnC G ad L1 f1 ∧ sc2 j = (pp (sl + 1), cB, cC, cD)) S Y rfl (by decide) (by decide) hA1 ⟨sc_4721, I, hs_4722⟩ dX7_add_48
set_option maxHeartbeats 4000000 in
set_option maxRecDepth 100000 in
theorem x_X7_leadHere {l : Launch} {G : GG}  {L : List Nat} {f : HF} {ad : Nat → Nat → Nat} {rs : RS} {fc : Int × Int} {tc w : Nat → Int × Int} {q : Nat → (Nat → Int32) → Prop} {j : Nat} {i1 : Int32} (I : SH (spC rs fc tc w q) nnC G ad L f) (hW : WBp w 8) (hT : WBp tc 4) (hQ : QIp q) (hj : j < 8) : PMv l yX7_leadHere cX7_leadHere 2 0 0 0 G [.ref (ad 30 j), .int i1] L f (fun L1 f1 => SH (spC rs fc tc w q) nnC G ad L1 f1) := by
  refine PMv.of (post := fun L1 f1 => SH (spC rs fc tc w q) nnC G ad L1 f1) (own := RX7) (by decide) rfl (Nat.le_of_ble_eq_true rfl) (fun sz p e s m args below meth c A ls hA1 hname S Y hl => ?_)
  have hx := S.hx
  have hb := S.hb
  have hl : lv_has ls 2 [(0, .ref (ad 30 j)), (1, .int i1)] := hl
  refine lv_iload_n hx hb dX7_leadHere_0 rfl (lv_at hl 1 rfl) ?_
  refine lv_if_lt (tgt := 22) hx hb dX7_leadHere_1 (by decide) (fun c_4756 => ?_) (fun c_4756 => ?_)
  · have B_4757 : bn (-2147483648) (-1) i1 := bn_w (bn_ltl c_4756 (bn_any i1) (show bn 0 0 (0 : Int32) from bn_k (by decide))) (by decide)
    exact prV (post := fun L1 f1 => SH (spC rs fc tc w q) nnC G ad L1 f1) S Y (by decide) (by decide) hA1 I dX7_leadHere_22
  · have B_4758 : bn 0 2147483647 i1 := bn_w (bn_gel c_4756 (bn_any i1) (show bn 0 0 (0 : Int32) from bn_k (by decide))) (by decide)
    refine lv_iload_n hx hb dX7_leadHere_4 rfl (lv_at hl 1 rfl) ?_
    refine lv_aload_n hx hb dX7_leadHere_5 rfl (lv_at hl 0 rfl) ?_
    obtain ⟨v_4759, v_4761, p_ad_30_j, b_4760, b_4762⟩ := opnC_30 (j := j) I hj
    have p_ad_30_j : pt L f (ad 30 j) (.inr (7, [.ref (ad 31 j), .ref (ad 32 j), .ref (ad 33 j), .ref (ad 34 j), .ref (ad 35 j), .int v_4759, .int v_4761])) := p_ad_30_j
    refine pg_get S Y ok_X7 5 (by decide) kf7_27 (v := .int v_4759) p_ad_30_j rfl dX7_leadHere_6 ?_
    refine lv_icmp_ge (tgt := 22) hx hb dX7_leadHere_9 (by decide) (fun c_4763 => ?_) (fun c_4763 => ?_)
    · exact prV (post := fun L1 f1 => SH (spC rs fc tc w q) nnC G ad L1 f1) S Y (by decide) (by decide) hA1 I dX7_leadHere_22
    · have B_4764 : bn 1 300 v_4759 := bn_w (bn_gtl c_4763 (bn_w (a' := 0) (b' := 300) b_4760 (lim_b _ _ _)) B_4758) (by decide)
      have B_4765 : bn 0 299 i1 := bn_w (bn_gtr c_4763 (bn_w (a' := 0) (b' := 300) b_4760 (lim_b _ _ _)) B_4758) (by decide)
      refine lv_aload_n hx hb dX7_leadHere_12 rfl (lv_at hl 0 rfl) ?_
      refine pg_get S Y ok_X7 1 (by decide) kf7_15 (v := .ref (ad 32 j)) p_ad_30_j rfl dX7_leadHere_13 ?_
      refine lv_iload_n hx hb dX7_leadHere_16 rfl (lv_at hl 1 rfl) ?_
      refine lv_aload_n hx hb dX7_leadHere_17 rfl (lv_at hl 0 rfl) ?_
      refine pg_get S Y ok_X7 5 (by decide) kf7_27 (v := .int v_4759) p_ad_30_j rfl dX7_leadHere_18 ?_
      obtain ⟨g_4766, p_ad_32_j, o_4767⟩ := I.opi (k := 32) (j := j) hj rfl
      have p_ad_32_j : pt L f (ad 32 j) (.inl (G.2 0, 300, .inl g_4766)) := p_ad_32_j
      refine pg_iast S Y p_ad_32_j (vp_bn B_4765 (by decide)) dX7_leadHere_21 (fun f_4769 H locs ef_4769 Y => ?_)
      obtain ⟨g_4768, eg_4768⟩ : ∃ z, z = upd (g_4766) (i1 : Int32).toNatClampNeg v_4759 := ⟨_, rfl⟩
      rw [← eg_4768] at ef_4769
      have p_ad_30_j := p_ad_30_j.up ef_4769 (I.ne (k := 30) (j := j) (k' := 32) (j' := j) hj hj (Or.inl (by decide)))
      have p_ad_32_j := p_ad_32_j.me ef_4769
      have I := I.up (k := 32) (j := j) hj ef_4769 (okE_a (g := g_4768) trivial)
      exact prV (post := fun L1 f1 => SH (spC rs fc tc w q) nnC G ad L1 f1) S Y (by decide) (by decide) hA1 I dX7_leadHere_22
set_option maxHeartbeats 4000000 in
set_option maxRecDepth 100000 in
theorem x_X7_addLaw {l : Launch} {G : GG}  {L : List Nat} {f : HF} {ad : Nat → Nat → Nat} {rf : FS} {sc : Nat → SG} {fa : Nat → Int × Int} {ft : Nat → (Nat → Int32) → Prop} {fc : Int × Int} {tc w : Nat → Int × Int} {q : Nat → (Nat → Int32) → Prop} {j : Nat} {i1 i2 : Int32} {cB : Int × Int} {sl : Int} {aF aT : Nat → Int} (I : SH (spC ((rf, fa, ft, sc) : RS) fc tc w q) nnC G ad L f) (hW : WBp w 8) (hT : WBp tc 4) (hQ : QIp q) (hj : j < 8) (b_i1 : bn 0 2 i1) (hs : sc j = (pp sl, cB, LR aF, LR aT)) : PMv l yX7_addLaw cX7_addLaw 3 0 0 0 G [.ref (ad 30 j), .int i1, .int i2] L f (fun L1 f1 => ∃ sc2 : Nat → SG, SH (spC ((rf, fa, ft, sc2) : RS) fc tc w q) nnC G ad L1 f1 ∧ sc2 j = (pp sl, cB, LR (stf aF (i1 : Int32).toNatClampNeg i2.toInt), LR (stf aT (i1 : Int32).toNatClampNeg sl))) := by
  refine PMv.of (post := fun L1 f1 => ∃ sc2 : Nat → SG, SH (spC ((rf, fa, ft, sc2) : RS) fc tc w q) nnC G ad L1 f1 ∧ sc2 j = (pp sl, cB, LR (stf aF (i1 : Int32).toNatClampNeg i2.toInt), LR (stf aT (i1 : Int32).toNatClampNeg sl))) (own := RX7) (by decide) rfl (Nat.le_of_ble_eq_true rfl) (fun sz p e s m args below meth c A ls hA1 hname S Y hl => ?_)
  have hx := S.hx
  have hb := S.hb
  have hl : lv_has ls 3 [(0, .ref (ad 30 j)), (1, .int i1), (2, .int i2)] := hl
  refine lv_iload_n hx hb dX7_addLaw_0 rfl (lv_at hl 1 rfl) ?_
  refine lv_if_lt (tgt := 26) hx hb dX7_addLaw_1 (by decide) (fun h => absurd h (bd_nlt b_i1 (show bn 0 0 (0 : Int32) from bn_k (by decide)) (by decide))) (fun _ => ?_)
  refine lv_iload_n hx hb dX7_addLaw_4 rfl (lv_at hl 1 rfl) ?_
  refine lv_iconst (v := 3) hx hb dX7_addLaw_5 (by decide) ?_
  refine lv_icmp_ge (tgt := 26) hx hb dX7_addLaw_6 (by decide) (fun h => absurd h (bd_nle (show bn 3 3 (3 : Int32) from bn_k (by decide)) b_i1 (by decide))) (fun _ => ?_)
  refine lv_aload_n hx hb dX7_addLaw_9 rfl (lv_at hl 0 rfl) ?_
  obtain ⟨v_4810, v_4812, p_ad_30_j, b_4811, b_4813⟩ := opnC_30 (j := j) I hj
  have p_ad_30_j : pt L f (ad 30 j) (.inr (7, [.ref (ad 31 j), .ref (ad 32 j), .ref (ad 33 j), .ref (ad 34 j), .ref (ad 35 j), .int v_4810, .int v_4812])) := p_ad_30_j
  have tv_4810 : v_4810.toInt = sl := lim_eq2 b_4811 (congrArg (fun z : SG => z.1) hs)
  refine pg_get S Y ok_X7 2 (by decide) kf7_18 (v := .ref (ad 33 j)) p_ad_30_j rfl dX7_addLaw_10 ?_
  refine lv_iload_n hx hb dX7_addLaw_13 rfl (lv_at hl 1 rfl) ?_
  refine lv_iload_n hx hb dX7_addLaw_14 rfl (lv_at hl 2 rfl) ?_
  obtain ⟨g_4814, p_ad_33_j, o_4815⟩ := I.opi (k := 33) (j := j) hj rfl
  have p_ad_33_j : pt L f (ad 33 j) (.inl (G.2 0, 3, .inl g_4814)) := p_ad_33_j
  have o_4816 : (LR aF) g_4814 := by have h9 := show (sc j).2.2.1 g_4814 from o_4815; rw [hs] at h9; exact h9
  refine pg_iast S Y p_ad_33_j (vp_bn b_i1 (by decide)) dX7_addLaw_15 (fun f_4818 H locs ef_4818 Y => ?_)
  obtain ⟨g_4817, eg_4817⟩ : ∃ z, z = upd (g_4814) (i1 : Int32).toNatClampNeg i2 := ⟨_, rfl⟩
  rw [← eg_4817] at ef_4818
  have p_ad_30_j := p_ad_30_j.up ef_4818 (I.ne (k := 30) (j := j) (k' := 33) (j' := j) hj hj (Or.inl (by decide)))
  have p_ad_33_j := p_ad_33_j.me ef_4818
  have o_4819 : (LR (stf aF (i1 : Int32).toNatClampNeg i2.toInt)) g_4817 := (by rw [eg_4817]; exact LR_up o_4816 (rfl : i2.toInt = i2.toInt))
  have I := I.upS (sp' := spC ((rf, fa, ft, (stf sc j (pp sl, cB, LR (stf aF (i1 : Int32).toNatClampNeg i2.toInt), LR aT))) : RS) fc tc w q) (k := 33) (j := j) hj ef_4818 (okE_a (g := g_4817) (show ((stf sc j (pp sl, cB, LR (stf aF (i1 : Int32).toNatClampNeg i2.toInt), LR aT)) j).2.2.1 g_4817 from by rw [stf_s]; exact o_4819)) (sc33C (by rw [hs]) (by rw [hs]) (by rw [hs]))
  obtain ⟨sc_4820, esc_4820⟩ : ∃ z : Nat → SG, z = stf sc j (pp sl, cB, LR (stf aF (i1 : Int32).toNatClampNeg i2.toInt), LR aT) := ⟨_, rfl⟩
  rw [← esc_4820] at I
  have hs_4821 : sc_4820 j = (pp sl, cB, LR (stf aF (i1 : Int32).toNatClampNeg i2.toInt), LR aT) := by rw [esc_4820, stf_s]
  refine lv_aload_n hx hb dX7_addLaw_16 rfl (lv_at hl 0 rfl) ?_
  refine pg_get S Y ok_X7 3 (by decide) kf7_21 (v := .ref (ad 34 j)) p_ad_30_j rfl dX7_addLaw_17 ?_
  refine lv_iload_n hx hb dX7_addLaw_20 rfl (lv_at hl 1 rfl) ?_
  refine lv_aload_n hx hb dX7_addLaw_21 rfl (lv_at hl 0 rfl) ?_
  refine pg_get S Y ok_X7 5 (by decide) kf7_27 (v := .int v_4810) p_ad_30_j rfl dX7_addLaw_22 ?_
  obtain ⟨g_4822, p_ad_34_j, o_4823⟩ := I.opi (k := 34) (j := j) hj rfl
  have p_ad_34_j : pt L f_4818 (ad 34 j) (.inl (G.2 0, 3, .inl g_4822)) := p_ad_34_j
  have o_4824 : (LR aT) g_4822 := by have h9 := show (sc_4820 j).2.2.2 g_4822 from o_4823; rw [hs_4821] at h9; exact h9
  refine pg_iast S Y p_ad_34_j (vp_bn b_i1 (by decide)) dX7_addLaw_25 (fun f_4826 H locs ef_4826 Y => ?_)
  obtain ⟨g_4825, eg_4825⟩ : ∃ z, z = upd (g_4822) (i1 : Int32).toNatClampNeg v_4810 := ⟨_, rfl⟩
  rw [← eg_4825] at ef_4826
  have p_ad_30_j := p_ad_30_j.up ef_4826 (I.ne (k := 30) (j := j) (k' := 34) (j' := j) hj hj (Or.inl (by decide)))
  have p_ad_33_j := p_ad_33_j.up ef_4826 (I.ne (k := 33) (j := j) (k' := 34) (j' := j) hj hj (Or.inl (by decide)))
  have p_ad_34_j := p_ad_34_j.me ef_4826
  have o_4827 : (LR (stf aT (i1 : Int32).toNatClampNeg sl)) g_4825 := (by rw [eg_4825]; exact LR_up o_4824 tv_4810)
  have I := I.upS (sp' := spC ((rf, fa, ft, (stf sc_4820 j (pp sl, cB, LR (stf aF (i1 : Int32).toNatClampNeg i2.toInt), LR (stf aT (i1 : Int32).toNatClampNeg sl)))) : RS) fc tc w q) (k := 34) (j := j) hj ef_4826 (okE_a (g := g_4825) (show ((stf sc_4820 j (pp sl, cB, LR (stf aF (i1 : Int32).toNatClampNeg i2.toInt), LR (stf aT (i1 : Int32).toNatClampNeg sl))) j).2.2.2 g_4825 from by rw [stf_s]; exact o_4827)) (sc34C (by rw [hs_4821]) (by rw [hs_4821]) (by rw [hs_4821]))
  obtain ⟨sc_4828, esc_4828⟩ : ∃ z : Nat → SG, z = stf sc_4820 j (pp sl, cB, LR (stf aF (i1 : Int32).toNatClampNeg i2.toInt), LR (stf aT (i1 : Int32).toNatClampNeg sl)) := ⟨_, rfl⟩
  rw [← esc_4828] at I
  have hs_4829 : sc_4828 j = (pp sl, cB, LR (stf aF (i1 : Int32).toNatClampNeg i2.toInt), LR (stf aT (i1 : Int32).toNatClampNeg sl)) := by rw [esc_4828, stf_s]
  exact prV (post := fun L1 f1 => ∃ sc2 : Nat → SG, SH (spC ((rf, fa, ft, sc2) : RS) fc tc w q) nnC G ad L1 f1 ∧ sc2 j = (pp sl, cB, LR (stf aF (i1 : Int32).toNatClampNeg i2.toInt), LR (stf aT (i1 : Int32).toNatClampNeg sl))) S Y (by decide) (by decide) hA1 ⟨sc_4828, I, hs_4829⟩ dX7_addLaw_26
def hasL (aF aT : Nat → Int) (k : Int) : Prop := 0 ≤ k ∧ k < 3 ∧ aF k.toNat < aT k.toNat
set_option maxHeartbeats 4000000 in
set_option maxRecDepth 100000 in
theorem x_X7_hasLawE {l : Launch} {G : GG}  {L : List Nat} {f : HF} {ad : Nat → Nat → Nat} {rf : FS} {sc : Nat → SG} {fa : Nat → Int × Int} {ft : Nat → (Nat → Int32) → Prop} {fc : Int × Int} {tc w : Nat → Int × Int} {q : Nat → (Nat → Int32) → Prop} {j : Nat} {i1 : Int32} {cA cB : Int × Int} {aF aT : Nat → Int} (I : SH (spC ((rf, fa, ft, sc) : RS) fc tc w q) nnC G ad L f) (hW : WBp w 8) (hT : WBp tc 4) (hQ : QIp q) (hj : j < 8) (hs : sc j = (cA, cB, LR aF, LR aT)) : PMp l yX7_hasLaw cX7_hasLaw 2 .boolean 0 0 0 G [.ref (ad 30 j), .int i1] L f (fun r => (bn 0 1 r ∧ (r = 1 ∧ hasL aF aT i1.toInt ∨ r = 0 ∧ ¬ hasL aF aT i1.toInt))) := by
  refine PMi.of (post := fun r L1 f1 => ((bn 0 1 r ∧ (r = 1 ∧ hasL aF aT i1.toInt ∨ r = 0 ∧ ¬ hasL aF aT i1.toInt))) ∧ L1 = L ∧ f1 = f) (own := RX7) (by decide) rfl (Nat.le_of_ble_eq_true rfl) (fun sz p e s m args below meth c A ls hA1 hname S Y hl => ?_)
  have hx := S.hx
  have hb := S.hb
  have hl : lv_has ls 2 [(0, .ref (ad 30 j)), (1, .int i1)] := hl
  refine lv_iload_n hx hb dX7_hasLaw_0 rfl (lv_at hl 1 rfl) ?_
  refine lv_if_lt (tgt := 28) hx hb dX7_hasLaw_1 (by decide) (fun c_4872 => ?_) (fun c_4872 => ?_)
  · have B_4873 : bn (-2147483648) (-1) i1 := bn_w (bn_ltl c_4872 (bn_any i1) (show bn 0 0 (0 : Int32) from bn_k (by decide))) (by decide)
    refine lv_iconst (v := 0) hx hb dX7_hasLaw_28 (by decide) ?_
    exact prI (post := fun r L1 f1 => ((bn 0 1 r ∧ (r = 1 ∧ hasL aF aT i1.toInt ∨ r = 0 ∧ ¬ hasL aF aT i1.toInt))) ∧ L1 = L ∧ f1 = f) S Y rfl (by decide) (by decide) hA1 ⟨⟨bn_k (by decide), Or.inr ⟨rfl, (by unfold hasL; skip; have q0 := c_4872; rw [Int32.lt_iff_toInt_lt] at q0; rw [show (0 : Int32).toInt = 0 from rfl] at q0; omega)⟩⟩, rfl, rfl⟩ dX7_hasLaw_29
  · have B_4874 : bn 0 2147483647 i1 := bn_w (bn_gel c_4872 (bn_any i1) (show bn 0 0 (0 : Int32) from bn_k (by decide))) (by decide)
    refine lv_iload_n hx hb dX7_hasLaw_4 rfl (lv_at hl 1 rfl) ?_
    refine lv_iconst (v := 3) hx hb dX7_hasLaw_5 (by decide) ?_
    refine lv_icmp_ge (tgt := 28) hx hb dX7_hasLaw_6 (by decide) (fun c_4875 => ?_) (fun c_4875 => ?_)
    · have B_4876 : bn 3 2147483647 i1 := bn_w (bn_ler c_4875 (show bn 3 3 (3 : Int32) from bn_k (by decide)) B_4874) (by decide)
      refine lv_iconst (v := 0) hx hb dX7_hasLaw_28 (by decide) ?_
      exact prI (post := fun r L1 f1 => ((bn 0 1 r ∧ (r = 1 ∧ hasL aF aT i1.toInt ∨ r = 0 ∧ ¬ hasL aF aT i1.toInt))) ∧ L1 = L ∧ f1 = f) S Y rfl (by decide) (by decide) hA1 ⟨⟨bn_k (by decide), Or.inr ⟨rfl, (by unfold hasL; skip; have q0 := (Int32.not_lt.mp c_4872); rw [Int32.le_iff_toInt_le] at q0; rw [show (0 : Int32).toInt = 0 from rfl] at q0; have q1 := c_4875; rw [Int32.le_iff_toInt_le] at q1; rw [show (3 : Int32).toInt = 3 from rfl] at q1; omega)⟩⟩, rfl, rfl⟩ dX7_hasLaw_29
    · have B_4877 : bn 0 2 i1 := bn_w (bn_gtr c_4875 (show bn 3 3 (3 : Int32) from bn_k (by decide)) B_4874) (by decide)
      refine lv_aload_n hx hb dX7_hasLaw_9 rfl (lv_at hl 0 rfl) ?_
      obtain ⟨v_4878, v_4880, p_ad_30_j, b_4879, b_4881⟩ := opnC_30 (j := j) I hj
      have p_ad_30_j : pt L f (ad 30 j) (.inr (7, [.ref (ad 31 j), .ref (ad 32 j), .ref (ad 33 j), .ref (ad 34 j), .ref (ad 35 j), .int v_4878, .int v_4880])) := p_ad_30_j
      refine pg_get S Y ok_X7 2 (by decide) kf7_18 (v := .ref (ad 33 j)) p_ad_30_j rfl dX7_hasLaw_10 ?_
      refine lv_iload_n hx hb dX7_hasLaw_13 rfl (lv_at hl 1 rfl) ?_
      obtain ⟨g_4882, p_ad_33_j, o_4883⟩ := I.opi (k := 33) (j := j) hj rfl
      have p_ad_33_j : pt L f (ad 33 j) (.inl (G.2 0, 3, .inl g_4882)) := p_ad_33_j
      have o_4884 : (LR aF) g_4882 := by have h9 := show (sc j).2.2.1 g_4882 from o_4883; rw [hs] at h9; exact h9
      obtain ⟨v_4885, ev_4885⟩ : ∃ z, z = g_4882 (i1 : Int32).toNatClampNeg := ⟨_, rfl⟩
      refine pg_iald S Y (v := v_4885) p_ad_33_j (vp_bn B_4877 (by decide)) ev_4885.symm dX7_hasLaw_14 ?_
      refine lv_aload_n hx hb dX7_hasLaw_15 rfl (lv_at hl 0 rfl) ?_
      refine pg_get S Y ok_X7 3 (by decide) kf7_21 (v := .ref (ad 34 j)) p_ad_30_j rfl dX7_hasLaw_16 ?_
      refine lv_iload_n hx hb dX7_hasLaw_19 rfl (lv_at hl 1 rfl) ?_
      obtain ⟨g_4886, p_ad_34_j, o_4887⟩ := I.opi (k := 34) (j := j) hj rfl
      have p_ad_34_j : pt L f (ad 34 j) (.inl (G.2 0, 3, .inl g_4886)) := p_ad_34_j
      have o_4888 : (LR aT) g_4886 := by have h9 := show (sc j).2.2.2 g_4886 from o_4887; rw [hs] at h9; exact h9
      obtain ⟨v_4889, ev_4889⟩ : ∃ z, z = g_4886 (i1 : Int32).toNatClampNeg := ⟨_, rfl⟩
      refine pg_iald S Y (v := v_4889) p_ad_34_j (vp_bn B_4877 (by decide)) ev_4889.symm dX7_hasLaw_20 ?_
      refine lv_icmp_ge (tgt := 28) hx hb dX7_hasLaw_21 (by decide) (fun c_4890 => ?_) (fun c_4890 => ?_)
      · refine lv_iconst (v := 0) hx hb dX7_hasLaw_28 (by decide) ?_
        exact prI (post := fun r L1 f1 => ((bn 0 1 r ∧ (r = 1 ∧ hasL aF aT i1.toInt ∨ r = 0 ∧ ¬ hasL aF aT i1.toInt))) ∧ L1 = L ∧ f1 = f) S Y rfl (by decide) (by decide) hA1 ⟨⟨bn_k (by decide), Or.inr ⟨rfl, (by unfold hasL; have t0 := (show v_4885.toInt = aF i1.toInt.toNat from by rw [show v_4885 = g_4882 (i1 : Int32).toNatClampNeg from ev_4885]; exact o_4884 _ (tn_bn B_4877 (by decide))); have t1 := (show v_4889.toInt = aT i1.toInt.toNat from by rw [show v_4889 = g_4886 (i1 : Int32).toNatClampNeg from ev_4889]; exact o_4888 _ (tn_bn B_4877 (by decide))); have q0 := (Int32.not_lt.mp c_4872); rw [Int32.le_iff_toInt_le] at q0; rw [show (0 : Int32).toInt = 0 from rfl] at q0; have q1 := (Int32.not_le.mp c_4875); rw [Int32.lt_iff_toInt_lt] at q1; rw [show (3 : Int32).toInt = 3 from rfl] at q1; have q2 := c_4890; rw [Int32.le_iff_toInt_le] at q2; omega)⟩⟩, rfl, rfl⟩ dX7_hasLaw_29
      · have B_4891 : bn (-2147483647) 2147483647 v_4889 := bn_w (bn_gtl c_4890 (bn_any v_4889) (bn_any v_4885)) (by decide)
        have B_4892 : bn (-2147483648) 2147483646 v_4885 := bn_w (bn_gtr c_4890 (bn_any v_4889) (bn_any v_4885)) (by decide)
        refine lv_iconst (v := 1) hx hb dX7_hasLaw_24 (by decide) ?_
        refine lv_goto (tgt := 29) hx hb dX7_hasLaw_25 (by decide) ?_
        exact prI (post := fun r L1 f1 => ((bn 0 1 r ∧ (r = 1 ∧ hasL aF aT i1.toInt ∨ r = 0 ∧ ¬ hasL aF aT i1.toInt))) ∧ L1 = L ∧ f1 = f) S Y rfl (by decide) (by decide) hA1 ⟨⟨bn_k (by decide), Or.inl ⟨rfl, (by unfold hasL; have t0 := (show v_4885.toInt = aF i1.toInt.toNat from by rw [show v_4885 = g_4882 (i1 : Int32).toNatClampNeg from ev_4885]; exact o_4884 _ (tn_bn B_4877 (by decide))); have t1 := (show v_4889.toInt = aT i1.toInt.toNat from by rw [show v_4889 = g_4886 (i1 : Int32).toNatClampNeg from ev_4889]; exact o_4888 _ (tn_bn B_4877 (by decide))); have q0 := (Int32.not_lt.mp c_4872); rw [Int32.le_iff_toInt_le] at q0; rw [show (0 : Int32).toInt = 0 from rfl] at q0; have q1 := (Int32.not_le.mp c_4875); rw [Int32.lt_iff_toInt_lt] at q1; rw [show (3 : Int32).toInt = 3 from rfl] at q1; have q2 := (Int32.not_le.mp c_4890); rw [Int32.lt_iff_toInt_lt] at q2; omega)⟩⟩, rfl, rfl⟩ dX7_hasLaw_29
set_option maxHeartbeats 4000000 in
set_option maxRecDepth 100000 in
theorem x_X7_isFullE {l : Launch} {G : GG}  {L : List Nat} {f : HF} {ad : Nat → Nat → Nat} {rf : FS} {sc : Nat → SG} {fa : Nat → Int × Int} {ft : Nat → (Nat → Int32) → Prop} {fc : Int × Int} {tc w : Nat → Int × Int} {q : Nat → (Nat → Int32) → Prop} {j : Nat} {cA : Int × Int} {cc : Int} {cC cD : (Nat → Int32) → Prop} (I : SH (spC ((rf, fa, ft, sc) : RS) fc tc w q) nnC G ad L f) (hW : WBp w 8) (hT : WBp tc 4) (hQ : QIp q) (hj : j < 8) (hs : sc j = (cA, pp cc, cC, cD)) : PMp l yX7_isFull cX7_isFull 1 .boolean 0 0 0 G [.ref (ad 30 j)] L f (fun r => (bn 0 1 r ∧ (r = 1 ∧ 24 ≤ cc ∨ r = 0 ∧ ¬ 24 ≤ cc))) := by
  refine PMi.of (post := fun r L1 f1 => ((bn 0 1 r ∧ (r = 1 ∧ 24 ≤ cc ∨ r = 0 ∧ ¬ 24 ≤ cc))) ∧ L1 = L ∧ f1 = f) (own := RX7) (by decide) rfl (Nat.le_of_ble_eq_true rfl) (fun sz p e s m args below meth c A ls hA1 hname S Y hl => ?_)
  have hx := S.hx
  have hb := S.hb
  have hl : lv_has ls 1 [(0, .ref (ad 30 j))] := hl
  refine lv_aload_n hx hb dX7_isFull_0 rfl (lv_at hl 0 rfl) ?_
  obtain ⟨v_4907, v_4909, p_ad_30_j, b_4908, b_4910⟩ := opnC_30 (j := j) I hj
  have p_ad_30_j : pt L f (ad 30 j) (.inr (7, [.ref (ad 31 j), .ref (ad 32 j), .ref (ad 33 j), .ref (ad 34 j), .ref (ad 35 j), .int v_4907, .int v_4909])) := p_ad_30_j
  have tv_4909 : v_4909.toInt = cc := lim_eq2 b_4910 (congrArg (fun z : SG => z.2.1) hs)
  refine pg_get S Y ok_X7 6 (by decide) kf7_31 (v := .int v_4909) p_ad_30_j rfl dX7_isFull_1 ?_
  refine lv_bipush (v := 24) hx hb dX7_isFull_4 (by decide) ?_
  refine lv_icmp_lt (tgt := 13) hx hb dX7_isFull_6 (by decide) (fun c_4911 => ?_) (fun c_4911 => ?_)
  · have B_4912 : bn 0 23 v_4909 := bn_w (bn_ltl c_4911 (bn_w (a' := 0) (b' := 24) b_4910 (lim_b _ _ _)) (show bn 24 24 (24 : Int32) from bn_k (by decide))) (by decide)
    refine lv_iconst (v := 0) hx hb dX7_isFull_13 (by decide) ?_
    exact prI (post := fun r L1 f1 => ((bn 0 1 r ∧ (r = 1 ∧ 24 ≤ cc ∨ r = 0 ∧ ¬ 24 ≤ cc))) ∧ L1 = L ∧ f1 = f) S Y rfl (by decide) (by decide) hA1 ⟨⟨bn_k (by decide), Or.inr ⟨rfl, (by have t0 := tv_4909; have q0 := c_4911; rw [Int32.lt_iff_toInt_lt] at q0; rw [show (24 : Int32).toInt = 24 from rfl] at q0; omega)⟩⟩, rfl, rfl⟩ dX7_isFull_14
  · have B_4913 : bn 24 24 v_4909 := bn_w (bn_gel c_4911 (bn_w (a' := 0) (b' := 24) b_4910 (lim_b _ _ _)) (show bn 24 24 (24 : Int32) from bn_k (by decide))) (by decide)
    refine lv_iconst (v := 1) hx hb dX7_isFull_9 (by decide) ?_
    refine lv_goto (tgt := 14) hx hb dX7_isFull_10 (by decide) ?_
    exact prI (post := fun r L1 f1 => ((bn 0 1 r ∧ (r = 1 ∧ 24 ≤ cc ∨ r = 0 ∧ ¬ 24 ≤ cc))) ∧ L1 = L ∧ f1 = f) S Y rfl (by decide) (by decide) hA1 ⟨⟨bn_k (by decide), Or.inl ⟨rfl, (by have t0 := tv_4909; have q0 := (Int32.not_lt.mp c_4911); rw [Int32.le_iff_toInt_le] at q0; rw [show (24 : Int32).toInt = 24 from rfl] at q0; omega)⟩⟩, rfl, rfl⟩ dX7_isFull_14
set_option maxHeartbeats 4000000 in
set_option maxRecDepth 100000 in
theorem x_X7_hasLaw {l : Launch} {G : GG}  {L : List Nat} {f : HF} {ad : Nat → Nat → Nat} {rs : RS} {fc : Int × Int} {tc w : Nat → Int × Int} {q : Nat → (Nat → Int32) → Prop} {j : Nat} {i1 : Int32} (I : SH (spC rs fc tc w q) nnC G ad L f) (hW : WBp w 8) (hT : WBp tc 4) (hQ : QIp q) (hj : j < 8) : PMp l yX7_hasLaw cX7_hasLaw 2 .boolean 0 0 0 G [.ref (ad 30 j), .int i1] L f (fun r => bn 0 1 r) := by
  refine PMi.of (post := fun r L1 f1 => (bn 0 1 r) ∧ L1 = L ∧ f1 = f) (own := RX7) (by decide) rfl (Nat.le_of_ble_eq_true rfl) (fun sz p e s m args below meth c A ls hA1 hname S Y hl => ?_)
  have hx := S.hx
  have hb := S.hb
  have hl : lv_has ls 2 [(0, .ref (ad 30 j)), (1, .int i1)] := hl
  refine lv_iload_n hx hb dX7_hasLaw_0 rfl (lv_at hl 1 rfl) ?_
  refine lv_if_lt (tgt := 28) hx hb dX7_hasLaw_1 (by decide) (fun c_4952 => ?_) (fun c_4952 => ?_)
  · have B_4953 : bn (-2147483648) (-1) i1 := bn_w (bn_ltl c_4952 (bn_any i1) (show bn 0 0 (0 : Int32) from bn_k (by decide))) (by decide)
    refine lv_iconst (v := 0) hx hb dX7_hasLaw_28 (by decide) ?_
    exact prI (post := fun r L1 f1 => (bn 0 1 r) ∧ L1 = L ∧ f1 = f) S Y rfl (by decide) (by decide) hA1 ⟨bn_w (show bn 0 0 (0 : Int32) from bn_k (by decide)) (by decide), rfl, rfl⟩ dX7_hasLaw_29
  · have B_4954 : bn 0 2147483647 i1 := bn_w (bn_gel c_4952 (bn_any i1) (show bn 0 0 (0 : Int32) from bn_k (by decide))) (by decide)
    refine lv_iload_n hx hb dX7_hasLaw_4 rfl (lv_at hl 1 rfl) ?_
    refine lv_iconst (v := 3) hx hb dX7_hasLaw_5 (by decide) ?_
    refine lv_icmp_ge (tgt := 28) hx hb dX7_hasLaw_6 (by decide) (fun c_4955 => ?_) (fun c_4955 => ?_)
    · have B_4956 : bn 3 2147483647 i1 := bn_w (bn_ler c_4955 (show bn 3 3 (3 : Int32) from bn_k (by decide)) B_4954) (by decide)
      refine lv_iconst (v := 0) hx hb dX7_hasLaw_28 (by decide) ?_
      exact prI (post := fun r L1 f1 => (bn 0 1 r) ∧ L1 = L ∧ f1 = f) S Y rfl (by decide) (by decide) hA1 ⟨bn_w (show bn 0 0 (0 : Int32) from bn_k (by decide)) (by decide), rfl, rfl⟩ dX7_hasLaw_29
    · have B_4957 : bn 0 2 i1 := bn_w (bn_gtr c_4955 (show bn 3 3 (3 : Int32) from bn_k (by decide)) B_4954) (by decide)
      refine lv_aload_n hx hb dX7_hasLaw_9 rfl (lv_at hl 0 rfl) ?_
      obtain ⟨v_4958, v_4960, p_ad_30_j, b_4959, b_4961⟩ := opnC_30 (j := j) I hj
      have p_ad_30_j : pt L f (ad 30 j) (.inr (7, [.ref (ad 31 j), .ref (ad 32 j), .ref (ad 33 j), .ref (ad 34 j), .ref (ad 35 j), .int v_4958, .int v_4960])) := p_ad_30_j
      refine pg_get S Y ok_X7 2 (by decide) kf7_18 (v := .ref (ad 33 j)) p_ad_30_j rfl dX7_hasLaw_10 ?_
      refine lv_iload_n hx hb dX7_hasLaw_13 rfl (lv_at hl 1 rfl) ?_
      obtain ⟨g_4962, p_ad_33_j, o_4963⟩ := I.opi (k := 33) (j := j) hj rfl
      have p_ad_33_j : pt L f (ad 33 j) (.inl (G.2 0, 3, .inl g_4962)) := p_ad_33_j
      obtain ⟨v_4964, ev_4964⟩ : ∃ z, z = g_4962 (i1 : Int32).toNatClampNeg := ⟨_, rfl⟩
      refine pg_iald S Y (v := v_4964) p_ad_33_j (vp_bn B_4957 (by decide)) ev_4964.symm dX7_hasLaw_14 ?_
      refine lv_aload_n hx hb dX7_hasLaw_15 rfl (lv_at hl 0 rfl) ?_
      refine pg_get S Y ok_X7 3 (by decide) kf7_21 (v := .ref (ad 34 j)) p_ad_30_j rfl dX7_hasLaw_16 ?_
      refine lv_iload_n hx hb dX7_hasLaw_19 rfl (lv_at hl 1 rfl) ?_
      obtain ⟨g_4965, p_ad_34_j, o_4966⟩ := I.opi (k := 34) (j := j) hj rfl
      have p_ad_34_j : pt L f (ad 34 j) (.inl (G.2 0, 3, .inl g_4965)) := p_ad_34_j
      obtain ⟨v_4967, ev_4967⟩ : ∃ z, z = g_4965 (i1 : Int32).toNatClampNeg := ⟨_, rfl⟩
      refine pg_iald S Y (v := v_4967) p_ad_34_j (vp_bn B_4957 (by decide)) ev_4967.symm dX7_hasLaw_20 ?_
      refine lv_icmp_ge (tgt := 28) hx hb dX7_hasLaw_21 (by decide) (fun c_4968 => ?_) (fun c_4968 => ?_)
      · refine lv_iconst (v := 0) hx hb dX7_hasLaw_28 (by decide) ?_
        exact prI (post := fun r L1 f1 => (bn 0 1 r) ∧ L1 = L ∧ f1 = f) S Y rfl (by decide) (by decide) hA1 ⟨bn_w (show bn 0 0 (0 : Int32) from bn_k (by decide)) (by decide), rfl, rfl⟩ dX7_hasLaw_29
      · have B_4969 : bn (-2147483647) 2147483647 v_4967 := bn_w (bn_gtl c_4968 (bn_any v_4967) (bn_any v_4964)) (by decide)
        have B_4970 : bn (-2147483648) 2147483646 v_4964 := bn_w (bn_gtr c_4968 (bn_any v_4967) (bn_any v_4964)) (by decide)
        refine lv_iconst (v := 1) hx hb dX7_hasLaw_24 (by decide) ?_
        refine lv_goto (tgt := 29) hx hb dX7_hasLaw_25 (by decide) ?_
        exact prI (post := fun r L1 f1 => (bn 0 1 r) ∧ L1 = L ∧ f1 = f) S Y rfl (by decide) (by decide) hA1 ⟨bn_w (show bn 1 1 (1 : Int32) from bn_k (by decide)) (by decide), rfl, rfl⟩ dX7_hasLaw_29
set_option maxHeartbeats 4000000 in
set_option maxRecDepth 100000 in
theorem x_X7_lawStart {l : Launch} {G : GG}  {L : List Nat} {f : HF} {ad : Nat → Nat → Nat} {rs : RS} {fc : Int × Int} {tc w : Nat → Int × Int} {q : Nat → (Nat → Int32) → Prop} {j : Nat} {i1 : Int32} (I : SH (spC rs fc tc w q) nnC G ad L f) (hW : WBp w 8) (hT : WBp tc 4) (hQ : QIp q) (hj : j < 8) : PMp l yX7_lawStart cX7_lawStart 2 .int 0 0 0 G [.ref (ad 30 j), .int i1] L f (fun r => True) := by
  refine PMi.of (post := fun r L1 f1 => (True) ∧ L1 = L ∧ f1 = f) (own := RX7) (by decide) rfl (Nat.le_of_ble_eq_true rfl) (fun sz p e s m args below meth c A ls hA1 hname S Y hl => ?_)
  have hx := S.hx
  have hb := S.hb
  have hl : lv_has ls 2 [(0, .ref (ad 30 j)), (1, .int i1)] := hl
  refine lv_iload_n hx hb dX7_lawStart_0 rfl (lv_at hl 1 rfl) ?_
  refine lv_if_lt (tgt := 18) hx hb dX7_lawStart_1 (by decide) (fun c_4997 => ?_) (fun c_4997 => ?_)
  · have B_4998 : bn (-2147483648) (-1) i1 := bn_w (bn_ltl c_4997 (bn_any i1) (show bn 0 0 (0 : Int32) from bn_k (by decide))) (by decide)
    refine lv_iconst (v := 0) hx hb dX7_lawStart_18 (by decide) ?_
    exact prI (post := fun r L1 f1 => (True) ∧ L1 = L ∧ f1 = f) S Y rfl (by decide) (by decide) hA1 ⟨trivial, rfl, rfl⟩ dX7_lawStart_19
  · have B_4999 : bn 0 2147483647 i1 := bn_w (bn_gel c_4997 (bn_any i1) (show bn 0 0 (0 : Int32) from bn_k (by decide))) (by decide)
    refine lv_iload_n hx hb dX7_lawStart_4 rfl (lv_at hl 1 rfl) ?_
    refine lv_iconst (v := 3) hx hb dX7_lawStart_5 (by decide) ?_
    refine lv_icmp_ge (tgt := 18) hx hb dX7_lawStart_6 (by decide) (fun c_5000 => ?_) (fun c_5000 => ?_)
    · have B_5001 : bn 3 2147483647 i1 := bn_w (bn_ler c_5000 (show bn 3 3 (3 : Int32) from bn_k (by decide)) B_4999) (by decide)
      refine lv_iconst (v := 0) hx hb dX7_lawStart_18 (by decide) ?_
      exact prI (post := fun r L1 f1 => (True) ∧ L1 = L ∧ f1 = f) S Y rfl (by decide) (by decide) hA1 ⟨trivial, rfl, rfl⟩ dX7_lawStart_19
    · have B_5002 : bn 0 2 i1 := bn_w (bn_gtr c_5000 (show bn 3 3 (3 : Int32) from bn_k (by decide)) B_4999) (by decide)
      refine lv_aload_n hx hb dX7_lawStart_9 rfl (lv_at hl 0 rfl) ?_
      obtain ⟨v_5003, v_5005, p_ad_30_j, b_5004, b_5006⟩ := opnC_30 (j := j) I hj
      have p_ad_30_j : pt L f (ad 30 j) (.inr (7, [.ref (ad 31 j), .ref (ad 32 j), .ref (ad 33 j), .ref (ad 34 j), .ref (ad 35 j), .int v_5003, .int v_5005])) := p_ad_30_j
      refine pg_get S Y ok_X7 2 (by decide) kf7_18 (v := .ref (ad 33 j)) p_ad_30_j rfl dX7_lawStart_10 ?_
      refine lv_iload_n hx hb dX7_lawStart_13 rfl (lv_at hl 1 rfl) ?_
      obtain ⟨g_5007, p_ad_33_j, o_5008⟩ := I.opi (k := 33) (j := j) hj rfl
      have p_ad_33_j : pt L f (ad 33 j) (.inl (G.2 0, 3, .inl g_5007)) := p_ad_33_j
      obtain ⟨v_5009, ev_5009⟩ : ∃ z, z = g_5007 (i1 : Int32).toNatClampNeg := ⟨_, rfl⟩
      refine pg_iald S Y (v := v_5009) p_ad_33_j (vp_bn B_5002 (by decide)) ev_5009.symm dX7_lawStart_14 ?_
      refine lv_goto (tgt := 19) hx hb dX7_lawStart_15 (by decide) ?_
      exact prI (post := fun r L1 f1 => (True) ∧ L1 = L ∧ f1 = f) S Y rfl (by decide) (by decide) hA1 ⟨trivial, rfl, rfl⟩ dX7_lawStart_19
set_option maxHeartbeats 4000000 in
set_option maxRecDepth 100000 in
theorem x_X7_lawEnd {l : Launch} {G : GG}  {L : List Nat} {f : HF} {ad : Nat → Nat → Nat} {rs : RS} {fc : Int × Int} {tc w : Nat → Int × Int} {q : Nat → (Nat → Int32) → Prop} {j : Nat} {i1 : Int32} (I : SH (spC rs fc tc w q) nnC G ad L f) (hW : WBp w 8) (hT : WBp tc 4) (hQ : QIp q) (hj : j < 8) : PMp l yX7_lawEnd cX7_lawEnd 2 .int 0 0 0 G [.ref (ad 30 j), .int i1] L f (fun r => True) := by
  refine PMi.of (post := fun r L1 f1 => (True) ∧ L1 = L ∧ f1 = f) (own := RX7) (by decide) rfl (Nat.le_of_ble_eq_true rfl) (fun sz p e s m args below meth c A ls hA1 hname S Y hl => ?_)
  have hx := S.hx
  have hb := S.hb
  have hl : lv_has ls 2 [(0, .ref (ad 30 j)), (1, .int i1)] := hl
  refine lv_iload_n hx hb dX7_lawEnd_0 rfl (lv_at hl 1 rfl) ?_
  refine lv_if_lt (tgt := 18) hx hb dX7_lawEnd_1 (by decide) (fun c_5036 => ?_) (fun c_5036 => ?_)
  · have B_5037 : bn (-2147483648) (-1) i1 := bn_w (bn_ltl c_5036 (bn_any i1) (show bn 0 0 (0 : Int32) from bn_k (by decide))) (by decide)
    refine lv_iconst (v := 0) hx hb dX7_lawEnd_18 (by decide) ?_
    exact prI (post := fun r L1 f1 => (True) ∧ L1 = L ∧ f1 = f) S Y rfl (by decide) (by decide) hA1 ⟨trivial, rfl, rfl⟩ dX7_lawEnd_19
  · have B_5038 : bn 0 2147483647 i1 := bn_w (bn_gel c_5036 (bn_any i1) (show bn 0 0 (0 : Int32) from bn_k (by decide))) (by decide)
    refine lv_iload_n hx hb dX7_lawEnd_4 rfl (lv_at hl 1 rfl) ?_
    refine lv_iconst (v := 3) hx hb dX7_lawEnd_5 (by decide) ?_
    refine lv_icmp_ge (tgt := 18) hx hb dX7_lawEnd_6 (by decide) (fun c_5039 => ?_) (fun c_5039 => ?_)
    · have B_5040 : bn 3 2147483647 i1 := bn_w (bn_ler c_5039 (show bn 3 3 (3 : Int32) from bn_k (by decide)) B_5038) (by decide)
      refine lv_iconst (v := 0) hx hb dX7_lawEnd_18 (by decide) ?_
      exact prI (post := fun r L1 f1 => (True) ∧ L1 = L ∧ f1 = f) S Y rfl (by decide) (by decide) hA1 ⟨trivial, rfl, rfl⟩ dX7_lawEnd_19
    · have B_5041 : bn 0 2 i1 := bn_w (bn_gtr c_5039 (show bn 3 3 (3 : Int32) from bn_k (by decide)) B_5038) (by decide)
      refine lv_aload_n hx hb dX7_lawEnd_9 rfl (lv_at hl 0 rfl) ?_
      obtain ⟨v_5042, v_5044, p_ad_30_j, b_5043, b_5045⟩ := opnC_30 (j := j) I hj
      have p_ad_30_j : pt L f (ad 30 j) (.inr (7, [.ref (ad 31 j), .ref (ad 32 j), .ref (ad 33 j), .ref (ad 34 j), .ref (ad 35 j), .int v_5042, .int v_5044])) := p_ad_30_j
      refine pg_get S Y ok_X7 3 (by decide) kf7_21 (v := .ref (ad 34 j)) p_ad_30_j rfl dX7_lawEnd_10 ?_
      refine lv_iload_n hx hb dX7_lawEnd_13 rfl (lv_at hl 1 rfl) ?_
      obtain ⟨g_5046, p_ad_34_j, o_5047⟩ := I.opi (k := 34) (j := j) hj rfl
      have p_ad_34_j : pt L f (ad 34 j) (.inl (G.2 0, 3, .inl g_5046)) := p_ad_34_j
      obtain ⟨v_5048, ev_5048⟩ : ∃ z, z = g_5046 (i1 : Int32).toNatClampNeg := ⟨_, rfl⟩
      refine pg_iald S Y (v := v_5048) p_ad_34_j (vp_bn B_5041 (by decide)) ev_5048.symm dX7_lawEnd_14 ?_
      refine lv_goto (tgt := 19) hx hb dX7_lawEnd_15 (by decide) ?_
      exact prI (post := fun r L1 f1 => (True) ∧ L1 = L ∧ f1 = f) S Y rfl (by decide) (by decide) hA1 ⟨trivial, rfl, rfl⟩ dX7_lawEnd_19
set_option maxHeartbeats 4000000 in
set_option maxRecDepth 100000 in
theorem x_X7_doing {l : Launch} {G : GG}  {L : List Nat} {f : HF} {ad : Nat → Nat → Nat} {rs : RS} {fc : Int × Int} {tc w : Nat → Int × Int} {q : Nat → (Nat → Int32) → Prop} {j : Nat} {i1 : Int32} (I : SH (spC rs fc tc w q) nnC G ad L f) (hW : WBp w 8) (hT : WBp tc 4) (hQ : QIp q) (hj : j < 8) : PMp l yX7_doing cX7_doing 2 .int 0 0 0 G [.ref (ad 30 j), .int i1] L f (fun r => True) := by
  refine PMi.of (post := fun r L1 f1 => (True) ∧ L1 = L ∧ f1 = f) (own := RX7) (by decide) rfl (Nat.le_of_ble_eq_true rfl) (fun sz p e s m args below meth c A ls hA1 hname S Y hl => ?_)
  have hx := S.hx
  have hb := S.hb
  have hl : lv_has ls 2 [(0, .ref (ad 30 j)), (1, .int i1)] := hl
  refine lv_iload_n hx hb dX7_doing_0 rfl (lv_at hl 1 rfl) ?_
  refine lv_if_lt (tgt := 21) hx hb dX7_doing_1 (by decide) (fun c_5075 => ?_) (fun c_5075 => ?_)
  · have B_5076 : bn (-2147483648) (-1) i1 := bn_w (bn_ltl c_5075 (bn_any i1) (show bn 0 0 (0 : Int32) from bn_k (by decide))) (by decide)
    refine lv_iconst (v := (-1)) hx hb dX7_doing_21 (by decide) ?_
    exact prI (post := fun r L1 f1 => (True) ∧ L1 = L ∧ f1 = f) S Y rfl (by decide) (by decide) hA1 ⟨trivial, rfl, rfl⟩ dX7_doing_22
  · have B_5077 : bn 0 2147483647 i1 := bn_w (bn_gel c_5075 (bn_any i1) (show bn 0 0 (0 : Int32) from bn_k (by decide))) (by decide)
    refine lv_iload_n hx hb dX7_doing_4 rfl (lv_at hl 1 rfl) ?_
    refine lv_aload_n hx hb dX7_doing_5 rfl (lv_at hl 0 rfl) ?_
    obtain ⟨v_5078, v_5080, p_ad_30_j, b_5079, b_5081⟩ := opnC_30 (j := j) I hj
    have p_ad_30_j : pt L f (ad 30 j) (.inr (7, [.ref (ad 31 j), .ref (ad 32 j), .ref (ad 33 j), .ref (ad 34 j), .ref (ad 35 j), .int v_5078, .int v_5080])) := p_ad_30_j
    refine pg_get S Y ok_X7 5 (by decide) kf7_27 (v := .int v_5078) p_ad_30_j rfl dX7_doing_6 ?_
    refine lv_icmp_ge (tgt := 21) hx hb dX7_doing_9 (by decide) (fun c_5082 => ?_) (fun c_5082 => ?_)
    · refine lv_iconst (v := (-1)) hx hb dX7_doing_21 (by decide) ?_
      exact prI (post := fun r L1 f1 => (True) ∧ L1 = L ∧ f1 = f) S Y rfl (by decide) (by decide) hA1 ⟨trivial, rfl, rfl⟩ dX7_doing_22
    · have B_5083 : bn 1 300 v_5078 := bn_w (bn_gtl c_5082 (bn_w (a' := 0) (b' := 300) b_5079 (lim_b _ _ _)) B_5077) (by decide)
      have B_5084 : bn 0 299 i1 := bn_w (bn_gtr c_5082 (bn_w (a' := 0) (b' := 300) b_5079 (lim_b _ _ _)) B_5077) (by decide)
      refine lv_aload_n hx hb dX7_doing_12 rfl (lv_at hl 0 rfl) ?_
      refine pg_get S Y ok_X7 0 (by decide) kf7_9 (v := .ref (ad 31 j)) p_ad_30_j rfl dX7_doing_13 ?_
      refine lv_iload_n hx hb dX7_doing_16 rfl (lv_at hl 1 rfl) ?_
      obtain ⟨g_5085, p_ad_31_j, o_5086⟩ := I.opi (k := 31) (j := j) hj rfl
      have p_ad_31_j : pt L f (ad 31 j) (.inl (G.2 0, 300, .inl g_5085)) := p_ad_31_j
      obtain ⟨v_5087, ev_5087⟩ : ∃ z, z = g_5085 (i1 : Int32).toNatClampNeg := ⟨_, rfl⟩
      refine pg_iald S Y (v := v_5087) p_ad_31_j (vp_bn B_5084 (by decide)) ev_5087.symm dX7_doing_17 ?_
      refine lv_goto (tgt := 22) hx hb dX7_doing_18 (by decide) ?_
      exact prI (post := fun r L1 f1 => (True) ∧ L1 = L ∧ f1 = f) S Y rfl (by decide) (by decide) hA1 ⟨trivial, rfl, rfl⟩ dX7_doing_22
set_option maxHeartbeats 4000000 in
set_option maxRecDepth 100000 in
theorem x_X7_number {l : Launch} {G : GG}  {L : List Nat} {f : HF} {ad : Nat → Nat → Nat} {rs : RS} {fc : Int × Int} {tc w : Nat → Int × Int} {q : Nat → (Nat → Int32) → Prop} {j : Nat} {i1 : Int32} (I : SH (spC rs fc tc w q) nnC G ad L f) (hW : WBp w 8) (hT : WBp tc 4) (hQ : QIp q) (hj : j < 8) : PMp l yX7_number cX7_number 2 .int 0 0 0 G [.ref (ad 30 j), .int i1] L f (fun r => True) := by
  refine PMi.of (post := fun r L1 f1 => (True) ∧ L1 = L ∧ f1 = f) (own := RX7) (by decide) rfl (Nat.le_of_ble_eq_true rfl) (fun sz p e s m args below meth c A ls hA1 hname S Y hl => ?_)
  have hx := S.hx
  have hb := S.hb
  have hl : lv_has ls 2 [(0, .ref (ad 30 j)), (1, .int i1)] := hl
  refine lv_iload_n hx hb dX7_number_0 rfl (lv_at hl 1 rfl) ?_
  refine lv_if_lt (tgt := 21) hx hb dX7_number_1 (by decide) (fun c_5114 => ?_) (fun c_5114 => ?_)
  · have B_5115 : bn (-2147483648) (-1) i1 := bn_w (bn_ltl c_5114 (bn_any i1) (show bn 0 0 (0 : Int32) from bn_k (by decide))) (by decide)
    refine lv_iconst (v := (-1)) hx hb dX7_number_21 (by decide) ?_
    exact prI (post := fun r L1 f1 => (True) ∧ L1 = L ∧ f1 = f) S Y rfl (by decide) (by decide) hA1 ⟨trivial, rfl, rfl⟩ dX7_number_22
  · have B_5116 : bn 0 2147483647 i1 := bn_w (bn_gel c_5114 (bn_any i1) (show bn 0 0 (0 : Int32) from bn_k (by decide))) (by decide)
    refine lv_iload_n hx hb dX7_number_4 rfl (lv_at hl 1 rfl) ?_
    refine lv_aload_n hx hb dX7_number_5 rfl (lv_at hl 0 rfl) ?_
    obtain ⟨v_5117, v_5119, p_ad_30_j, b_5118, b_5120⟩ := opnC_30 (j := j) I hj
    have p_ad_30_j : pt L f (ad 30 j) (.inr (7, [.ref (ad 31 j), .ref (ad 32 j), .ref (ad 33 j), .ref (ad 34 j), .ref (ad 35 j), .int v_5117, .int v_5119])) := p_ad_30_j
    refine pg_get S Y ok_X7 5 (by decide) kf7_27 (v := .int v_5117) p_ad_30_j rfl dX7_number_6 ?_
    refine lv_icmp_ge (tgt := 21) hx hb dX7_number_9 (by decide) (fun c_5121 => ?_) (fun c_5121 => ?_)
    · refine lv_iconst (v := (-1)) hx hb dX7_number_21 (by decide) ?_
      exact prI (post := fun r L1 f1 => (True) ∧ L1 = L ∧ f1 = f) S Y rfl (by decide) (by decide) hA1 ⟨trivial, rfl, rfl⟩ dX7_number_22
    · have B_5122 : bn 1 300 v_5117 := bn_w (bn_gtl c_5121 (bn_w (a' := 0) (b' := 300) b_5118 (lim_b _ _ _)) B_5116) (by decide)
      have B_5123 : bn 0 299 i1 := bn_w (bn_gtr c_5121 (bn_w (a' := 0) (b' := 300) b_5118 (lim_b _ _ _)) B_5116) (by decide)
      refine lv_aload_n hx hb dX7_number_12 rfl (lv_at hl 0 rfl) ?_
      refine pg_get S Y ok_X7 1 (by decide) kf7_15 (v := .ref (ad 32 j)) p_ad_30_j rfl dX7_number_13 ?_
      refine lv_iload_n hx hb dX7_number_16 rfl (lv_at hl 1 rfl) ?_
      obtain ⟨g_5124, p_ad_32_j, o_5125⟩ := I.opi (k := 32) (j := j) hj rfl
      have p_ad_32_j : pt L f (ad 32 j) (.inl (G.2 0, 300, .inl g_5124)) := p_ad_32_j
      obtain ⟨v_5126, ev_5126⟩ : ∃ z, z = g_5124 (i1 : Int32).toNatClampNeg := ⟨_, rfl⟩
      refine pg_iald S Y (v := v_5126) p_ad_32_j (vp_bn B_5123 (by decide)) ev_5126.symm dX7_number_17 ?_
      refine lv_goto (tgt := 22) hx hb dX7_number_18 (by decide) ?_
      exact prI (post := fun r L1 f1 => (True) ∧ L1 = L ∧ f1 = f) S Y rfl (by decide) (by decide) hA1 ⟨trivial, rfl, rfl⟩ dX7_number_22
set_option maxHeartbeats 4000000 in
set_option maxRecDepth 100000 in
theorem x_X7_isFull {l : Launch} {G : GG}  {L : List Nat} {f : HF} {ad : Nat → Nat → Nat} {rs : RS} {fc : Int × Int} {tc w : Nat → Int × Int} {q : Nat → (Nat → Int32) → Prop} {j : Nat} (I : SH (spC rs fc tc w q) nnC G ad L f) (hW : WBp w 8) (hT : WBp tc 4) (hQ : QIp q) (hj : j < 8) : PMp l yX7_isFull cX7_isFull 1 .boolean 0 0 0 G [.ref (ad 30 j)] L f (fun r => bn 0 1 r) := by
  refine PMi.of (post := fun r L1 f1 => (bn 0 1 r) ∧ L1 = L ∧ f1 = f) (own := RX7) (by decide) rfl (Nat.le_of_ble_eq_true rfl) (fun sz p e s m args below meth c A ls hA1 hname S Y hl => ?_)
  have hx := S.hx
  have hb := S.hb
  have hl : lv_has ls 1 [(0, .ref (ad 30 j))] := hl
  refine lv_aload_n hx hb dX7_isFull_0 rfl (lv_at hl 0 rfl) ?_
  obtain ⟨v_5141, v_5143, p_ad_30_j, b_5142, b_5144⟩ := opnC_30 (j := j) I hj
  have p_ad_30_j : pt L f (ad 30 j) (.inr (7, [.ref (ad 31 j), .ref (ad 32 j), .ref (ad 33 j), .ref (ad 34 j), .ref (ad 35 j), .int v_5141, .int v_5143])) := p_ad_30_j
  refine pg_get S Y ok_X7 6 (by decide) kf7_31 (v := .int v_5143) p_ad_30_j rfl dX7_isFull_1 ?_
  refine lv_bipush (v := 24) hx hb dX7_isFull_4 (by decide) ?_
  refine lv_icmp_lt (tgt := 13) hx hb dX7_isFull_6 (by decide) (fun c_5145 => ?_) (fun c_5145 => ?_)
  · have B_5146 : bn 0 23 v_5143 := bn_w (bn_ltl c_5145 (bn_w (a' := 0) (b' := 24) b_5144 (lim_b _ _ _)) (show bn 24 24 (24 : Int32) from bn_k (by decide))) (by decide)
    refine lv_iconst (v := 0) hx hb dX7_isFull_13 (by decide) ?_
    exact prI (post := fun r L1 f1 => (bn 0 1 r) ∧ L1 = L ∧ f1 = f) S Y rfl (by decide) (by decide) hA1 ⟨bn_w (show bn 0 0 (0 : Int32) from bn_k (by decide)) (by decide), rfl, rfl⟩ dX7_isFull_14
  · have B_5147 : bn 24 24 v_5143 := bn_w (bn_gel c_5145 (bn_w (a' := 0) (b' := 24) b_5144 (lim_b _ _ _)) (show bn 24 24 (24 : Int32) from bn_k (by decide))) (by decide)
    refine lv_iconst (v := 1) hx hb dX7_isFull_9 (by decide) ?_
    refine lv_goto (tgt := 14) hx hb dX7_isFull_10 (by decide) ?_
    exact prI (post := fun r L1 f1 => (bn 0 1 r) ∧ L1 = L ∧ f1 = f) S Y rfl (by decide) (by decide) hA1 ⟨bn_w (show bn 1 1 (1 : Int32) from bn_k (by decide)) (by decide), rfl, rfl⟩ dX7_isFull_14
set_option maxHeartbeats 4000000 in
set_option maxRecDepth 100000 in
theorem x_X7_setClause {l : Launch} {G : GG}  {L : List Nat} {f : HF} {ad : Nat → Nat → Nat} {rs : RS} {fc : Int × Int} {tc w : Nat → Int × Int} {q : Nat → (Nat → Int32) → Prop} {j : Nat} {i1 i2 : Int32} (I : SH (spC rs fc tc w q) nnC G ad L f) (hW : WBp w 8) (hT : WBp tc 4) (hQ : QIp q) (hj : j < 8) : PMv l yX7_setClause cX7_setClause 3 0 0 0 G [.ref (ad 30 j), .int i1, .int i2] L f (fun L1 f1 => SH (spC rs fc tc w q) nnC G ad L1 f1) := by
  refine PMv.of (post := fun L1 f1 => SH (spC rs fc tc w q) nnC G ad L1 f1) (own := RX7) (by decide) rfl (Nat.le_of_ble_eq_true rfl) (fun sz p e s m args below meth c A ls hA1 hname S Y hl => ?_)
  have hx := S.hx
  have hb := S.hb
  have hl : lv_has ls 3 [(0, .ref (ad 30 j)), (1, .int i1), (2, .int i2)] := hl
  refine lv_aload_n hx hb dX7_setClause_0 rfl (lv_at hl 0 rfl) ?_
  obtain ⟨v_5188, v_5190, p_ad_30_j, b_5189, b_5191⟩ := opnC_30 (j := j) I hj
  have p_ad_30_j : pt L f (ad 30 j) (.inr (7, [.ref (ad 31 j), .ref (ad 32 j), .ref (ad 33 j), .ref (ad 34 j), .ref (ad 35 j), .int v_5188, .int v_5190])) := p_ad_30_j
  refine pg_get S Y ok_X7 6 (by decide) kf7_31 (v := .int v_5190) p_ad_30_j rfl dX7_setClause_1 ?_
  refine lv_if_le (tgt := 32) hx hb dX7_setClause_4 (by decide) (fun c_5192 => ?_) (fun c_5192 => ?_)
  · have B_5193 : bn 0 0 v_5190 := bn_w (bn_lel c_5192 (bn_w (a' := 0) (b' := 24) b_5191 (lim_b _ _ _)) (show bn 0 0 (0 : Int32) from bn_k (by decide))) (by decide)
    exact prV (post := fun L1 f1 => SH (spC rs fc tc w q) nnC G ad L1 f1) S Y (by decide) (by decide) hA1 I dX7_setClause_32
  · have B_5194 : bn 1 24 v_5190 := bn_w (bn_gtl c_5192 (bn_w (a' := 0) (b' := 24) b_5191 (lim_b _ _ _)) (show bn 0 0 (0 : Int32) from bn_k (by decide))) (by decide)
    refine lv_iload_n hx hb dX7_setClause_7 rfl (lv_at hl 1 rfl) ?_
    refine lv_if_lt (tgt := 32) hx hb dX7_setClause_8 (by decide) (fun c_5195 => ?_) (fun c_5195 => ?_)
    · have B_5196 : bn (-2147483648) (-1) i1 := bn_w (bn_ltl c_5195 (bn_any i1) (show bn 0 0 (0 : Int32) from bn_k (by decide))) (by decide)
      exact prV (post := fun L1 f1 => SH (spC rs fc tc w q) nnC G ad L1 f1) S Y (by decide) (by decide) hA1 I dX7_setClause_32
    · have B_5197 : bn 0 2147483647 i1 := bn_w (bn_gel c_5195 (bn_any i1) (show bn 0 0 (0 : Int32) from bn_k (by decide))) (by decide)
      refine lv_iload_n hx hb dX7_setClause_11 rfl (lv_at hl 1 rfl) ?_
      refine lv_iconst (v := 5) hx hb dX7_setClause_12 (by decide) ?_
      refine lv_icmp_ge (tgt := 32) hx hb dX7_setClause_13 (by decide) (fun c_5198 => ?_) (fun c_5198 => ?_)
      · have B_5199 : bn 5 2147483647 i1 := bn_w (bn_ler c_5198 (show bn 5 5 (5 : Int32) from bn_k (by decide)) B_5197) (by decide)
        exact prV (post := fun L1 f1 => SH (spC rs fc tc w q) nnC G ad L1 f1) S Y (by decide) (by decide) hA1 I dX7_setClause_32
      · have B_5200 : bn 0 4 i1 := bn_w (bn_gtr c_5198 (show bn 5 5 (5 : Int32) from bn_k (by decide)) B_5197) (by decide)
        refine lv_aload_n hx hb dX7_setClause_16 rfl (lv_at hl 0 rfl) ?_
        refine pg_get S Y ok_X7 4 (by decide) kf7_24 (v := .ref (ad 35 j)) p_ad_30_j rfl dX7_setClause_17 ?_
        refine lv_aload_n hx hb dX7_setClause_20 rfl (lv_at hl 0 rfl) ?_
        refine pg_get S Y ok_X7 6 (by decide) kf7_31 (v := .int v_5190) p_ad_30_j rfl dX7_setClause_21 ?_
        refine lv_iconst (v := 1) hx hb dX7_setClause_24 (by decide) ?_
        refine lv_isub hx hb dX7_setClause_25 ?_
        refine lv_topi (fun x_5201 ex_5201 => ?_)
        refine lv_iconst (v := 5) hx hb dX7_setClause_26 (by decide) ?_
        refine lv_imul hx hb dX7_setClause_27 ?_
        refine lv_topi (fun x_5202 ex_5202 => ?_)
        refine lv_iload_n hx hb dX7_setClause_28 rfl (lv_at hl 1 rfl) ?_
        refine lv_iadd hx hb dX7_setClause_29 ?_
        refine lv_topi (fun x_5203 ex_5203 => ?_)
        refine lv_iload_n hx hb dX7_setClause_30 rfl (lv_at hl 2 rfl) ?_
        obtain ⟨g_5204, p_ad_35_j, o_5205⟩ := I.opi (k := 35) (j := j) hj rfl
        have p_ad_35_j : pt L f (ad 35 j) (.inl (G.2 0, 120, .inl g_5204)) := p_ad_35_j
        refine pg_iast S Y p_ad_35_j (vp_bn (bn_eq ex_5203 (bn_add (bn_eq ex_5202 (bn_mul (bn_eq ex_5201 (bn_sub B_5194 (show bn 1 1 (1 : Int32) from bn_k (by decide)) (by decide))) (show bn 5 5 (5 : Int32) from bn_k (by decide)) (by decide))) B_5200 (by decide))) (by decide)) dX7_setClause_31 (fun f_5207 H locs ef_5207 Y => ?_)
        obtain ⟨g_5206, eg_5206⟩ : ∃ z, z = upd (g_5204) (x_5203 : Int32).toNatClampNeg i2 := ⟨_, rfl⟩
        rw [← eg_5206] at ef_5207
        have p_ad_30_j := p_ad_30_j.up ef_5207 (I.ne (k := 30) (j := j) (k' := 35) (j' := j) hj hj (Or.inl (by decide)))
        have p_ad_35_j := p_ad_35_j.me ef_5207
        have I := I.up (k := 35) (j := j) hj ef_5207 (okE_a (g := g_5206) trivial)
        exact prV (post := fun L1 f1 => SH (spC rs fc tc w q) nnC G ad L1 f1) S Y (by decide) (by decide) hA1 I dX7_setClause_32
set_option maxHeartbeats 4000000 in
set_option maxRecDepth 100000 in
theorem x_X7_addClause {l : Launch} {G : GG}  {L : List Nat} {f : HF} {ad : Nat → Nat → Nat} {rf : FS} {sc : Nat → SG} {fa : Nat → Int × Int} {ft : Nat → (Nat → Int32) → Prop} {fc : Int × Int} {tc w : Nat → Int × Int} {q : Nat → (Nat → Int32) → Prop} {j : Nat} {i1 : Int32} {cA : Int × Int} {cc : Int} {cC cD : (Nat → Int32) → Prop} (I : SH (spC ((rf, fa, ft, sc) : RS) fc tc w q) nnC G ad L f) (hW : WBp w 8) (hT : WBp tc 4) (hQ : QIp q) (hj : j < 8) (hs : sc j = (cA, pp cc, cC, cD)) (hr : 0 ≤ cc ∧ cc < 24) : PMv l yX7_addClause cX7_addClause 2 1 0 0 G [.ref (ad 30 j), .int i1] L f (fun L1 f1 => ∃ sc2 : Nat → SG, SH (spC ((rf, fa, ft, sc2) : RS) fc tc w q) nnC G ad L1 f1 ∧ sc2 j = (cA, pp (cc + 1), cC, cD)) := by
  refine PMv.of (post := fun L1 f1 => ∃ sc2 : Nat → SG, SH (spC ((rf, fa, ft, sc2) : RS) fc tc w q) nnC G ad L1 f1 ∧ sc2 j = (cA, pp (cc + 1), cC, cD)) (own := RX7) (by decide) rfl (Nat.le_of_ble_eq_true rfl) (fun sz p e s m args below meth c A ls hA1 hname S Y hl => ?_)
  have hx := S.hx
  have hb := S.hb
  have hl : lv_has ls 2 [(0, .ref (ad 30 j)), (1, .int i1)] := hl
  refine lv_aload_n hx hb dX7_addClause_0 rfl (lv_at hl 0 rfl) ?_
  obtain ⟨v_5230, v_5232, p_ad_30_j, b_5231, b_5233⟩ := opnC_30 (j := j) I hj
  have p_ad_30_j : pt L f (ad 30 j) (.inr (7, [.ref (ad 31 j), .ref (ad 32 j), .ref (ad 33 j), .ref (ad 34 j), .ref (ad 35 j), .int v_5230, .int v_5232])) := p_ad_30_j
  have tv_5232 : v_5232.toInt = cc := lim_eq2 b_5233 (congrArg (fun z : SG => z.2.1) hs)
  have B_5234 : bn 0 23 v_5232 := ⟨by have h9 := tv_5232; omega, by have h9 := tv_5232; omega⟩
  refine pg_get S Y ok_X7 6 (by decide) kf7_31 (v := .int v_5232) p_ad_30_j rfl dX7_addClause_1 ?_
  refine lv_bipush (v := 24) hx hb dX7_addClause_4 (by decide) ?_
  refine lv_icmp_ge (tgt := 25) hx hb dX7_addClause_6 (by decide) (fun h => absurd h (bd_nle (show bn 24 24 (24 : Int32) from bn_k (by decide)) B_5234 (by decide))) (fun _ => ?_)
  refine lv_aload_n hx hb dX7_addClause_9 rfl (lv_at hl 0 rfl) ?_
  refine lv_dup hx hb dX7_addClause_10 rfl ?_
  refine pg_get S Y ok_X7 6 (by decide) kf7_31 (v := .int v_5232) p_ad_30_j rfl dX7_addClause_11 ?_
  refine lv_iconst (v := 1) hx hb dX7_addClause_14 (by decide) ?_
  refine lv_iadd hx hb dX7_addClause_15 ?_
  refine lv_topi (fun x_5235 ex_5235 => ?_)
  refine pg_put S Y ok_X7 6 (by decide) kf7_31 rfl (fs' := [.ref (ad 31 j), .ref (ad 32 j), .ref (ad 33 j), .ref (ad 34 j), .ref (ad 35 j), .int v_5230, .int x_5235]) (v := .int x_5235) p_ad_30_j rfl rfl rfl (Nat.le_of_ble_eq_true rfl) dX7_addClause_16 (fun f_5236 H locs ef_5236 Y => ?_)
  have p_ad_30_j := p_ad_30_j.me ef_5236
  have I := I.upS (sp' := spC ((rf, fa, ft, (stf sc j (cA, pp (cc + 1), cC, cD))) : RS) fc tc w q) (k := 30) (j := j) hj ef_5236 (okE_o (okFs_c okV_r (okFs_c okV_r (okFs_c okV_r (okFs_c okV_r (okFs_c okV_r (okFs_c (okV_p (lim_st1 (s' := (cA, pp (cc + 1), cC, cD)) (lim_rw1 (s' := (cA, pp cc, cC, cD)) b_5231 hs))) (okFs_c (okV_p (lim_st2 (s' := (cA, pp (cc + 1), cC, cD)) (lim_mk (bn_w (bn_eq ex_5235 (bn_add B_5234 (show bn 1 1 (1 : Int32) from bn_k (by decide)) (by decide))) (by decide) : bn 0 24 x_5235) (la_add ex_5235 tv_5232 (show (1 : Int32).toInt = 1 from rfl) B_5234 (show bn 1 1 (1 : Int32) from bn_k (by decide)) (by decide))))) okFs_n)))))))) (sc30C (by rw [hs]))
  obtain ⟨sc_5237, esc_5237⟩ : ∃ z : Nat → SG, z = stf sc j (cA, pp (cc + 1), cC, cD) := ⟨_, rfl⟩
  rw [← esc_5237] at I
  have hs_5238 : sc_5237 j = (cA, pp (cc + 1), cC, cD) := by rw [esc_5237, stf_s]
  refine lv_aload_n hx hb dX7_addClause_19 rfl (lv_at hl 0 rfl) ?_
  refine lv_iconst (v := 0) hx hb dX7_addClause_20 (by decide) ?_
  refine lv_iload_n hx hb dX7_addClause_21 rfl (lv_at hl 1 rfl) ?_
  refine cVv (As := [.int 0, .int i1]) (rest := []) S Y (x_X7_setClause (l := l) (j := j) I hW hT hQ hj) cw_X7_setClause km7_40 (I.opo (k := 30) (j := j) hj rfl).choose_spec.1 ok_X7.1 rfl rfl ⟨Nat.le_of_ble_eq_true rfl, Nat.le_of_ble_eq_true rfl⟩ hl.1 rfl (Nat.le_of_ble_eq_true rfl) ⟨Nat.le_of_ble_eq_true rfl, Nat.le_of_ble_eq_true rfl⟩ dX7_addClause_22 (fun L_5239 f_5240 H locs I Y => ?_)
  exact prV (post := fun L1 f1 => ∃ sc2 : Nat → SG, SH (spC ((rf, fa, ft, sc2) : RS) fc tc w q) nnC G ad L1 f1 ∧ sc2 j = (cA, pp (cc + 1), cC, cD)) S Y (by decide) (by decide) hA1 ⟨sc_5237, I, hs_5238⟩ dX7_addClause_25
set_option maxHeartbeats 4000000 in
set_option maxRecDepth 100000 in
theorem x_X7_clause {l : Launch} {G : GG}  {L : List Nat} {f : HF} {ad : Nat → Nat → Nat} {rs : RS} {fc : Int × Int} {tc w : Nat → Int × Int} {q : Nat → (Nat → Int32) → Prop} {j : Nat} {i1 i2 : Int32} (I : SH (spC rs fc tc w q) nnC G ad L f) (hW : WBp w 8) (hT : WBp tc 4) (hQ : QIp q) (hj : j < 8) : PMp l yX7_clause cX7_clause 3 .int 0 0 0 G [.ref (ad 30 j), .int i1, .int i2] L f (fun r => True) := by
  refine PMi.of (post := fun r L1 f1 => (True) ∧ L1 = L ∧ f1 = f) (own := RX7) (by decide) rfl (Nat.le_of_ble_eq_true rfl) (fun sz p e s m args below meth c A ls hA1 hname S Y hl => ?_)
  have hx := S.hx
  have hb := S.hb
  have hl : lv_has ls 3 [(0, .ref (ad 30 j)), (1, .int i1), (2, .int i2)] := hl
  refine lv_iload_n hx hb dX7_clause_0 rfl (lv_at hl 1 rfl) ?_
  refine lv_if_lt (tgt := 21) hx hb dX7_clause_1 (by decide) (fun c_5283 => ?_) (fun c_5283 => ?_)
  · have B_5284 : bn (-2147483648) (-1) i1 := bn_w (bn_ltl c_5283 (bn_any i1) (show bn 0 0 (0 : Int32) from bn_k (by decide))) (by decide)
    refine lv_iconst (v := (-1)) hx hb dX7_clause_21 (by decide) ?_
    exact prI (post := fun r L1 f1 => (True) ∧ L1 = L ∧ f1 = f) S Y rfl (by decide) (by decide) hA1 ⟨trivial, rfl, rfl⟩ dX7_clause_22
  · have B_5285 : bn 0 2147483647 i1 := bn_w (bn_gel c_5283 (bn_any i1) (show bn 0 0 (0 : Int32) from bn_k (by decide))) (by decide)
    refine lv_iload_n hx hb dX7_clause_4 rfl (lv_at hl 1 rfl) ?_
    refine lv_aload_n hx hb dX7_clause_5 rfl (lv_at hl 0 rfl) ?_
    obtain ⟨v_5286, v_5288, p_ad_30_j, b_5287, b_5289⟩ := opnC_30 (j := j) I hj
    have p_ad_30_j : pt L f (ad 30 j) (.inr (7, [.ref (ad 31 j), .ref (ad 32 j), .ref (ad 33 j), .ref (ad 34 j), .ref (ad 35 j), .int v_5286, .int v_5288])) := p_ad_30_j
    refine pg_get S Y ok_X7 6 (by decide) kf7_31 (v := .int v_5288) p_ad_30_j rfl dX7_clause_6 ?_
    refine lv_icmp_ge (tgt := 21) hx hb dX7_clause_9 (by decide) (fun c_5290 => ?_) (fun c_5290 => ?_)
    · refine lv_iconst (v := (-1)) hx hb dX7_clause_21 (by decide) ?_
      exact prI (post := fun r L1 f1 => (True) ∧ L1 = L ∧ f1 = f) S Y rfl (by decide) (by decide) hA1 ⟨trivial, rfl, rfl⟩ dX7_clause_22
    · have B_5291 : bn 1 24 v_5288 := bn_w (bn_gtl c_5290 (bn_w (a' := 0) (b' := 24) b_5289 (lim_b _ _ _)) B_5285) (by decide)
      have B_5292 : bn 0 23 i1 := bn_w (bn_gtr c_5290 (bn_w (a' := 0) (b' := 24) b_5289 (lim_b _ _ _)) B_5285) (by decide)
      refine lv_iload_n hx hb dX7_clause_12 rfl (lv_at hl 2 rfl) ?_
      refine lv_if_lt (tgt := 21) hx hb dX7_clause_13 (by decide) (fun c_5293 => ?_) (fun c_5293 => ?_)
      · have B_5294 : bn (-2147483648) (-1) i2 := bn_w (bn_ltl c_5293 (bn_any i2) (show bn 0 0 (0 : Int32) from bn_k (by decide))) (by decide)
        refine lv_iconst (v := (-1)) hx hb dX7_clause_21 (by decide) ?_
        exact prI (post := fun r L1 f1 => (True) ∧ L1 = L ∧ f1 = f) S Y rfl (by decide) (by decide) hA1 ⟨trivial, rfl, rfl⟩ dX7_clause_22
      · have B_5295 : bn 0 2147483647 i2 := bn_w (bn_gel c_5293 (bn_any i2) (show bn 0 0 (0 : Int32) from bn_k (by decide))) (by decide)
        refine lv_iload_n hx hb dX7_clause_16 rfl (lv_at hl 2 rfl) ?_
        refine lv_iconst (v := 5) hx hb dX7_clause_17 (by decide) ?_
        refine lv_icmp_lt (tgt := 23) hx hb dX7_clause_18 (by decide) (fun c_5296 => ?_) (fun c_5296 => ?_)
        · have B_5297 : bn 0 4 i2 := bn_w (bn_ltl c_5296 B_5295 (show bn 5 5 (5 : Int32) from bn_k (by decide))) (by decide)
          refine lv_aload_n hx hb dX7_clause_23 rfl (lv_at hl 0 rfl) ?_
          refine pg_get S Y ok_X7 4 (by decide) kf7_24 (v := .ref (ad 35 j)) p_ad_30_j rfl dX7_clause_24 ?_
          refine lv_iload_n hx hb dX7_clause_27 rfl (lv_at hl 1 rfl) ?_
          refine lv_iconst (v := 5) hx hb dX7_clause_28 (by decide) ?_
          refine lv_imul hx hb dX7_clause_29 ?_
          refine lv_topi (fun x_5299 ex_5299 => ?_)
          refine lv_iload_n hx hb dX7_clause_30 rfl (lv_at hl 2 rfl) ?_
          refine lv_iadd hx hb dX7_clause_31 ?_
          refine lv_topi (fun x_5300 ex_5300 => ?_)
          obtain ⟨g_5301, p_ad_35_j, o_5302⟩ := I.opi (k := 35) (j := j) hj rfl
          have p_ad_35_j : pt L f (ad 35 j) (.inl (G.2 0, 120, .inl g_5301)) := p_ad_35_j
          obtain ⟨v_5303, ev_5303⟩ : ∃ z, z = g_5301 (x_5300 : Int32).toNatClampNeg := ⟨_, rfl⟩
          refine pg_iald S Y (v := v_5303) p_ad_35_j (vp_bn (bn_eq ex_5300 (bn_add (bn_eq ex_5299 (bn_mul B_5292 (show bn 5 5 (5 : Int32) from bn_k (by decide)) (by decide))) B_5297 (by decide))) (by decide)) ev_5303.symm dX7_clause_32 ?_
          exact prI (post := fun r L1 f1 => (True) ∧ L1 = L ∧ f1 = f) S Y rfl (by decide) (by decide) hA1 ⟨trivial, rfl, rfl⟩ dX7_clause_33
        · have B_5298 : bn 5 2147483647 i2 := bn_w (bn_gel c_5296 B_5295 (show bn 5 5 (5 : Int32) from bn_k (by decide))) (by decide)
          refine lv_iconst (v := (-1)) hx hb dX7_clause_21 (by decide) ?_
          exact prI (post := fun r L1 f1 => (True) ∧ L1 = L ∧ f1 = f) S Y rfl (by decide) (by decide) hA1 ⟨trivial, rfl, rfl⟩ dX7_clause_22
