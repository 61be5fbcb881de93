theorem dX5_size_0 : decode cX5_size 0 = .ok (.aload_n 0, 1) := by decide +kernel
theorem dX5_size_1 : decode cX5_size 1 = .ok (.getfield 31, 3) := by decide +kernel
theorem ok_X5 : clOK 5 RX5 TX5 14 tyX5 := ⟨rfl, fun w h => ⟨(show ∀ w ∈ u_ws RX5 TX5 14, w ∈ lw_tbl by decide +kernel) w h, (show ∀ w ∈ u_ws RX5 TX5 14, gw w = true by decide +kernel) w h⟩, tyX5_ok, nmX5⟩
theorem kf5_31 : inW (Cond.fieldLink RX5 31 "KneeOaths$Reader" "length" "I") := ⟨List.mem_of_getElem? (i := 343) (by decide +kernel), by decide +kernel⟩
theorem dX5_size_4 : decode cX5_size 4 = .ok (.ireturn, 1) := by decide +kernel
theorem dX5_faultKind_0 : decode cX5_faultKind 0 = .ok (.aload_n 0, 1) := by decide +kernel
theorem dX5_faultKind_1 : decode cX5_faultKind 1 = .ok (.getfield 24, 3) := by decide +kernel
theorem kf5_24 : inW (Cond.fieldLink RX5 24 "KneeOaths$Reader" "faultKind" "I") := ⟨List.mem_of_getElem? (i := 351) (by decide +kernel), by decide +kernel⟩
theorem dX5_faultKind_4 : decode cX5_faultKind 4 = .ok (.ireturn, 1) := by decide +kernel
theorem dX5_faultPlace_0 : decode cX5_faultPlace 0 = .ok (.aload_n 0, 1) := by decide +kernel
theorem dX5_faultPlace_1 : decode cX5_faultPlace 1 = .ok (.getfield 28, 3) := by decide +kernel
theorem kf5_28 : inW (Cond.fieldLink RX5 28 "KneeOaths$Reader" "faultPlace" "I") := ⟨List.mem_of_getElem? (i := 352) (by decide +kernel), by decide +kernel⟩
theorem dX5_faultPlace_4 : decode cX5_faultPlace 4 = .ok (.ireturn, 1) := by decide +kernel
theorem dX5_hasRoomFor_0 : decode cX5_hasRoomFor 0 = .ok (.aload_n 0, 1) := by decide +kernel
theorem dX5_hasRoomFor_1 : decode cX5_hasRoomFor 1 = .ok (.getfield 31, 3) := by decide +kernel
theorem dX5_hasRoomFor_4 : decode cX5_hasRoomFor 4 = .ok (.iload_n 1, 1) := by decide +kernel
theorem dX5_hasRoomFor_5 : decode cX5_hasRoomFor 5 = .ok (.iadd, 1) := by decide +kernel
theorem dX5_hasRoomFor_6 : decode cX5_hasRoomFor 6 = .ok (.sipush 300, 3) := by decide +kernel
theorem dX5_hasRoomFor_9 : decode cX5_hasRoomFor 9 = .ok (.if_icmp .gt 7, 3) := by decide +kernel
theorem dX5_hasRoomFor_16 : decode cX5_hasRoomFor 16 = .ok (.iconst 0, 1) := by decide +kernel
theorem dX5_hasRoomFor_17 : decode cX5_hasRoomFor 17 = .ok (.ireturn, 1) := by decide +kernel
theorem dX5_hasRoomFor_12 : decode cX5_hasRoomFor 12 = .ok (.iconst 1, 1) := by decide +kernel
theorem dX5_hasRoomFor_13 : decode cX5_hasRoomFor 13 = .ok (.goto 4, 3) := by decide +kernel
theorem dX5_append_0 : decode cX5_append 0 = .ok (.bipush 24, 2) := by decide +kernel
theorem dX5_append_2 : decode cX5_append 2 = .ok (.istore_n 2, 1) := by decide +kernel
theorem dX5_append_3 : decode cX5_append 3 = .ok (.iload_n 2, 1) := by decide +kernel
theorem dX5_append_4 : decode cX5_append 4 = .ok (.ifCond .lt 45, 3) := by decide +kernel
theorem dX5_append_7 : decode cX5_append 7 = .ok (.aload_n 0, 1) := by decide +kernel
theorem dX5_append_8 : decode cX5_append 8 = .ok (.getfield 31, 3) := by decide +kernel
theorem dX5_append_11 : decode cX5_append 11 = .ok (.sipush 300, 3) := by decide +kernel
theorem dX5_append_14 : decode cX5_append 14 = .ok (.if_icmp .ge 29, 3) := by decide +kernel
theorem dX5_append_17 : decode cX5_append 17 = .ok (.aload_n 0, 1) := by decide +kernel
theorem dX5_append_18 : decode cX5_append 18 = .ok (.getfield 9, 3) := by decide +kernel
theorem kf5_9 : inW (Cond.fieldLink RX5 9 "KneeOaths$Reader" "tape" "[I") := ⟨List.mem_of_getElem? (i := 339) (by decide +kernel), by decide +kernel⟩
theorem dX5_append_21 : decode cX5_append 21 = .ok (.aload_n 0, 1) := by decide +kernel
theorem dX5_append_22 : decode cX5_append 22 = .ok (.getfield 31, 3) := by decide +kernel
theorem dX5_append_25 : decode cX5_append 25 = .ok (.iload_n 1, 1) := by decide +kernel
theorem dX5_append_26 : decode cX5_append 26 = .ok (.iload_n 2, 1) := by decide +kernel
theorem dX5_append_27 : decode cX5_append 27 = .ok (.iushr, 1) := by decide +kernel
theorem dX5_append_28 : decode cX5_append 28 = .ok (.sipush 255, 3) := by decide +kernel
theorem dX5_append_31 : decode cX5_append 31 = .ok (.iand, 1) := by decide +kernel
theorem dX5_append_32 : decode cX5_append 32 = .ok (.iastore, 1) := by decide +kernel
theorem dX5_append_33 : decode cX5_append 33 = .ok (.aload_n 0, 1) := by decide +kernel
theorem dX5_append_34 : decode cX5_append 34 = .ok (.dup, 1) := by decide +kernel
theorem dX5_append_35 : decode cX5_append 35 = .ok (.getfield 31, 3) := by decide +kernel
theorem dX5_append_38 : decode cX5_append 38 = .ok (.iconst 1, 1) := by decide +kernel
theorem dX5_append_39 : decode cX5_append 39 = .ok (.iadd, 1) := by decide +kernel
theorem dX5_append_40 : decode cX5_append 40 = .ok (.putfield 31, 3) := by decide +kernel
theorem dX5_append_43 : decode cX5_append 43 = .ok (.iinc 2 (-8), 3) := by decide +kernel
theorem dX5_append_46 : decode cX5_append 46 = .ok (.goto (-43), 3) := by decide +kernel
theorem dX5_append_49 : decode cX5_append 49 = .ok (.return_, 1) := by decide +kernel
theorem dX5_cutTo_0 : decode cX5_cutTo 0 = .ok (.iload_n 1, 1) := by decide +kernel
theorem dX5_cutTo_1 : decode cX5_cutTo 1 = .ok (.ifCond .lt 11, 3) := by decide +kernel
theorem dX5_cutTo_12 : decode cX5_cutTo 12 = .ok (.iconst 0, 1) := by decide +kernel
theorem dX5_cutTo_13 : decode cX5_cutTo 13 = .ok (.ireturn, 1) := by decide +kernel
theorem dX5_cutTo_4 : decode cX5_cutTo 4 = .ok (.iload_n 1, 1) := by decide +kernel
theorem dX5_cutTo_5 : decode cX5_cutTo 5 = .ok (.aload_n 0, 1) := by decide +kernel
theorem dX5_cutTo_6 : decode cX5_cutTo 6 = .ok (.getfield 31, 3) := by decide +kernel
theorem dX5_cutTo_9 : decode cX5_cutTo 9 = .ok (.if_icmp .le 5, 3) := by decide +kernel
theorem dX5_cutTo_14 : decode cX5_cutTo 14 = .ok (.aload_n 0, 1) := by decide +kernel
theorem dX5_cutTo_15 : decode cX5_cutTo 15 = .ok (.iload_n 1, 1) := by decide +kernel
theorem dX5_cutTo_16 : decode cX5_cutTo 16 = .ok (.putfield 31, 3) := by decide +kernel
theorem dX5_cutTo_19 : decode cX5_cutTo 19 = .ok (.iconst 1, 1) := by decide +kernel
theorem dX5_cutTo_20 : decode cX5_cutTo 20 = .ok (.ireturn, 1) := by decide +kernel
theorem dX5_byteAt_0 : decode cX5_byteAt 0 = .ok (.iload_n 1, 1) := by decide +kernel
theorem dX5_byteAt_1 : decode cX5_byteAt 1 = .ok (.ifCond .lt 20, 3) := by decide +kernel
theorem dX5_byteAt_21 : decode cX5_byteAt 21 = .ok (.iconst (-1), 1) := by decide +kernel
theorem dX5_byteAt_22 : decode cX5_byteAt 22 = .ok (.ireturn, 1) := by decide +kernel
theorem dX5_byteAt_4 : decode cX5_byteAt 4 = .ok (.iload_n 1, 1) := by decide +kernel
theorem dX5_byteAt_5 : decode cX5_byteAt 5 = .ok (.aload_n 0, 1) := by decide +kernel
theorem dX5_byteAt_6 : decode cX5_byteAt 6 = .ok (.getfield 31, 3) := by decide +kernel
theorem dX5_byteAt_9 : decode cX5_byteAt 9 = .ok (.if_icmp .ge 12, 3) := by decide +kernel
theorem dX5_byteAt_12 : decode cX5_byteAt 12 = .ok (.aload_n 0, 1) := by decide +kernel
theorem dX5_byteAt_13 : decode cX5_byteAt 13 = .ok (.getfield 9, 3) := by decide +kernel
theorem dX5_byteAt_16 : decode cX5_byteAt 16 = .ok (.iload_n 1, 1) := by decide +kernel
theorem dX5_byteAt_17 : decode cX5_byteAt 17 = .ok (.iaload, 1) := by decide +kernel
theorem dX5_byteAt_18 : decode cX5_byteAt 18 = .ok (.goto 4, 3) := by decide +kernel
theorem dX5_isLetter_0 : decode cX5_isLetter 0 = .ok (.iload_n 0, 1) := by decide +kernel
theorem dX5_isLetter_1 : decode cX5_isLetter 1 = .ok (.bipush 97, 2) := by decide +kernel
theorem dX5_isLetter_3 : decode cX5_isLetter 3 = .ok (.if_icmp .lt 9, 3) := by decide +kernel
theorem dX5_isLetter_12 : decode cX5_isLetter 12 = .ok (.iload_n 0, 1) := by decide +kernel
theorem dX5_isLetter_13 : decode cX5_isLetter 13 = .ok (.bipush 65, 2) := by decide +kernel
theorem dX5_isLetter_15 : decode cX5_isLetter 15 = .ok (.if_icmp .lt 13, 3) := by decide +kernel
theorem dX5_isLetter_28 : decode cX5_isLetter 28 = .ok (.iconst 0, 1) := by decide +kernel
theorem dX5_isLetter_29 : decode cX5_isLetter 29 = .ok (.ireturn, 1) := by decide +kernel
theorem dX5_isLetter_18 : decode cX5_isLetter 18 = .ok (.iload_n 0, 1) := by decide +kernel
theorem dX5_isLetter_19 : decode cX5_isLetter 19 = .ok (.bipush 90, 2) := by decide +kernel
theorem dX5_isLetter_21 : decode cX5_isLetter 21 = .ok (.if_icmp .gt 7, 3) := by decide +kernel
theorem dX5_isLetter_24 : decode cX5_isLetter 24 = .ok (.iconst 1, 1) := by decide +kernel
theorem dX5_isLetter_25 : decode cX5_isLetter 25 = .ok (.goto 4, 3) := by decide +kernel
theorem dX5_isLetter_6 : decode cX5_isLetter 6 = .ok (.iload_n 0, 1) := by decide +kernel
theorem dX5_isLetter_7 : decode cX5_isLetter 7 = .ok (.bipush 122, 2) := by decide +kernel
theorem dX5_isLetter_9 : decode cX5_isLetter 9 = .ok (.if_icmp .le 15, 3) := by decide +kernel
theorem dX5_isDigit_0 : decode cX5_isDigit 0 = .ok (.iload_n 0, 1) := by decide +kernel
theorem dX5_isDigit_1 : decode cX5_isDigit 1 = .ok (.bipush 48, 2) := by decide +kernel
theorem dX5_isDigit_3 : decode cX5_isDigit 3 = .ok (.if_icmp .lt 13, 3) := by decide +kernel
theorem dX5_isDigit_16 : decode cX5_isDigit 16 = .ok (.iconst 0, 1) := by decide +kernel
theorem dX5_isDigit_17 : decode cX5_isDigit 17 = .ok (.ireturn, 1) := by decide +kernel
theorem dX5_isDigit_6 : decode cX5_isDigit 6 = .ok (.iload_n 0, 1) := by decide +kernel
theorem dX5_isDigit_7 : decode cX5_isDigit 7 = .ok (.bipush 57, 2) := by decide +kernel
theorem dX5_isDigit_9 : decode cX5_isDigit 9 = .ok (.if_icmp .gt 7, 3) := by decide +kernel
theorem dX5_isDigit_12 : decode cX5_isDigit 12 = .ok (.iconst 1, 1) := by decide +kernel
theorem dX5_isDigit_13 : decode cX5_isDigit 13 = .ok (.goto 4, 3) := by decide +kernel
theorem dX5_step_0 : decode cX5_step 0 = .ok (.aload_n 0, 1) := by decide +kernel
theorem dX5_step_1 : decode cX5_step 1 = .ok (.getfield 46, 3) := by decide +kernel
theorem kf5_46 : inW (Cond.fieldLink RX5 46 "KneeOaths$Reader" "tokensRead" "I") := ⟨List.mem_of_getElem? (i := 345) (by decide +kernel), by decide +kernel⟩
theorem dX5_step_4 : decode cX5_step 4 = .ok (.aload_n 0, 1) := by decide +kernel
theorem dX5_step_5 : decode cX5_step 5 = .ok (.getfield 62, 3) := by decide +kernel
theorem kf5_62 : inW (Cond.fieldLink RX5 62 "KneeOaths$Reader" "tokenCount" "I") := ⟨List.mem_of_getElem? (i := 344) (by decide +kernel), by decide +kernel⟩
theorem dX5_step_8 : decode cX5_step 8 = .ok (.iconst 1, 1) := by decide +kernel
theorem dX5_step_9 : decode cX5_step 9 = .ok (.isub, 1) := by decide +kernel
theorem dX5_step_10 : decode cX5_step 10 = .ok (.invokestatic 108, 3) := by decide +kernel
theorem km5_108 : inW (Cond.methodLink RX5 108 Lib.Math.min.name) := ⟨List.mem_of_getElem? (i := 667) (by decide +kernel), by decide +kernel⟩
theorem dX5_step_13 : decode cX5_step 13 = .ok (.istore_n 1, 1) := by decide +kernel
theorem dX5_step_14 : decode cX5_step 14 = .ok (.iload_n 1, 1) := by decide +kernel
theorem dX5_step_15 : decode cX5_step 15 = .ok (.ifCond .lt 52, 3) := by decide +kernel
theorem dX5_step_18 : decode cX5_step 18 = .ok (.iload_n 1, 1) := by decide +kernel
theorem dX5_step_19 : decode cX5_step 19 = .ok (.aload_n 0, 1) := by decide +kernel
theorem dX5_step_20 : decode cX5_step 20 = .ok (.getfield 15, 3) := by decide +kernel
theorem kf5_15 : inW (Cond.fieldLink RX5 15 "KneeOaths$Reader" "kinds" "[I") := ⟨List.mem_of_getElem? (i := 340) (by decide +kernel), by decide +kernel⟩
theorem dX5_step_23 : decode cX5_step 23 = .ok (.arraylength, 1) := by decide +kernel
theorem dX5_step_24 : decode cX5_step 24 = .ok (.if_icmp .ge 43, 3) := by decide +kernel
theorem dX5_step_27 : decode cX5_step 27 = .ok (.aload_n 0, 1) := by decide +kernel
theorem dX5_step_28 : decode cX5_step 28 = .ok (.aload_n 0, 1) := by decide +kernel
theorem dX5_step_29 : decode cX5_step 29 = .ok (.getfield 15, 3) := by decide +kernel
theorem dX5_step_32 : decode cX5_step 32 = .ok (.iload_n 1, 1) := by decide +kernel
theorem dX5_step_33 : decode cX5_step 33 = .ok (.iaload, 1) := by decide +kernel
theorem dX5_step_34 : decode cX5_step 34 = .ok (.putfield 52, 3) := by decide +kernel
theorem kf5_52 : inW (Cond.fieldLink RX5 52 "KneeOaths$Reader" "token" "I") := ⟨List.mem_of_getElem? (i := 346) (by decide +kernel), by decide +kernel⟩
theorem dX5_step_37 : decode cX5_step 37 = .ok (.aload_n 0, 1) := by decide +kernel
theorem dX5_step_38 : decode cX5_step 38 = .ok (.aload_n 0, 1) := by decide +kernel
theorem dX5_step_39 : decode cX5_step 39 = .ok (.getfield 18, 3) := by decide +kernel
theorem kf5_18 : inW (Cond.fieldLink RX5 18 "KneeOaths$Reader" "places" "[I") := ⟨List.mem_of_getElem? (i := 341) (by decide +kernel), by decide +kernel⟩
theorem dX5_step_42 : decode cX5_step 42 = .ok (.iload_n 1, 1) := by decide +kernel
theorem dX5_step_43 : decode cX5_step 43 = .ok (.iaload, 1) := by decide +kernel
theorem dX5_step_44 : decode cX5_step 44 = .ok (.putfield 59, 3) := by decide +kernel
theorem kf5_59 : inW (Cond.fieldLink RX5 59 "KneeOaths$Reader" "place" "I") := ⟨List.mem_of_getElem? (i := 347) (by decide +kernel), by decide +kernel⟩
theorem dX5_step_47 : decode cX5_step 47 = .ok (.aload_n 0, 1) := by decide +kernel
theorem dX5_step_48 : decode cX5_step 48 = .ok (.aload_n 0, 1) := by decide +kernel
theorem dX5_step_49 : decode cX5_step 49 = .ok (.getfield 21, 3) := by decide +kernel
theorem kf5_21 : inW (Cond.fieldLink RX5 21 "KneeOaths$Reader" "values" "[I") := ⟨List.mem_of_getElem? (i := 342) (by decide +kernel), by decide +kernel⟩
theorem dX5_step_52 : decode cX5_step 52 = .ok (.iload_n 1, 1) := by decide +kernel
theorem dX5_step_53 : decode cX5_step 53 = .ok (.iaload, 1) := by decide +kernel
theorem dX5_step_54 : decode cX5_step 54 = .ok (.putfield 118, 3) := by decide +kernel
theorem kf5_118 : inW (Cond.fieldLink RX5 118 "KneeOaths$Reader" "value" "I") := ⟨List.mem_of_getElem? (i := 348) (by decide +kernel), by decide +kernel⟩
theorem dX5_step_57 : decode cX5_step 57 = .ok (.aload_n 0, 1) := by decide +kernel
theorem dX5_step_58 : decode cX5_step 58 = .ok (.dup, 1) := by decide +kernel
theorem dX5_step_59 : decode cX5_step 59 = .ok (.getfield 46, 3) := by decide +kernel
theorem dX5_step_62 : decode cX5_step 62 = .ok (.iconst 1, 1) := by decide +kernel
theorem dX5_step_63 : decode cX5_step 63 = .ok (.iadd, 1) := by decide +kernel
theorem dX5_step_64 : decode cX5_step 64 = .ok (.putfield 46, 3) := by decide +kernel
theorem dX5_step_67 : decode cX5_step 67 = .ok (.return_, 1) := by decide +kernel
theorem dX5_fail_0 : decode cX5_fail 0 = .ok (.aload_n 0, 1) := by decide +kernel
theorem dX5_fail_1 : decode cX5_fail 1 = .ok (.iload_n 1, 1) := by decide +kernel
theorem dX5_fail_2 : decode cX5_fail 2 = .ok (.putfield 24, 3) := by decide +kernel
theorem dX5_fail_5 : decode cX5_fail 5 = .ok (.aload_n 0, 1) := by decide +kernel
theorem dX5_fail_6 : decode cX5_fail 6 = .ok (.aload_n 0, 1) := by decide +kernel
theorem dX5_fail_7 : decode cX5_fail 7 = .ok (.getfield 59, 3) := by decide +kernel
theorem dX5_fail_10 : decode cX5_fail 10 = .ok (.putfield 28, 3) := by decide +kernel
theorem dX5_fail_13 : decode cX5_fail 13 = .ok (.iconst 0, 1) := by decide +kernel
theorem dX5_fail_14 : decode cX5_fail 14 = .ok (.ireturn, 1) := by decide +kernel
theorem dX5_expect_0 : decode cX5_expect 0 = .ok (.aload_n 0, 1) := by decide +kernel
theorem dX5_expect_1 : decode cX5_expect 1 = .ok (.getfield 52, 3) := by decide +kernel
theorem dX5_expect_4 : decode cX5_expect 4 = .ok (.iload_n 1, 1) := by decide +kernel
theorem dX5_expect_5 : decode cX5_expect 5 = .ok (.if_icmp .eq 9, 3) := by decide +kernel
theorem dX5_expect_14 : decode cX5_expect 14 = .ok (.aload_n 0, 1) := by decide +kernel
theorem dX5_expect_15 : decode cX5_expect 15 = .ok (.invokevirtual 49, 3) := by decide +kernel
theorem cw_X5_step : CWv yX5_step cX5_step 2 none 0 := ⟨⟨⟨List.mem_of_getElem? (i := 130) (by decide +kernel), by decide +kernel⟩, ⟨List.mem_of_getElem? (i := 733) (by decide +kernel), by decide +kernel⟩, by decide +kernel⟩, ⟨List.mem_of_getElem? (i := 732) (by decide +kernel), by decide +kernel⟩, ⟨List.mem_of_getElem? (i := 8) (by decide +kernel), by decide +kernel⟩⟩
theorem km5_49 : inW (Cond.methodLink RX5 49 yX5_step) := ⟨List.mem_of_getElem? (i := 730) (by decide +kernel), by decide +kernel⟩
theorem dX5_expect_18 : decode cX5_expect 18 = .ok (.iconst 1, 1) := by decide +kernel
theorem dX5_expect_19 : decode cX5_expect 19 = .ok (.ireturn, 1) := by decide +kernel
theorem dX5_expect_8 : decode cX5_expect 8 = .ok (.aload_n 0, 1) := by decide +kernel
theorem dX5_expect_9 : decode cX5_expect 9 = .ok (.iconst 1, 1) := by decide +kernel
theorem dX5_expect_10 : decode cX5_expect 10 = .ok (.invokevirtual 121, 3) := by decide +kernel
theorem cw_X5_fail : CWv yX5_fail cX5_fail 2 (some .boolean) 1 := ⟨⟨⟨List.mem_of_getElem? (i := 130) (by decide +kernel), by decide +kernel⟩, ⟨List.mem_of_getElem? (i := 741) (by decide +kernel), by decide +kernel⟩, by decide +kernel⟩, ⟨List.mem_of_getElem? (i := 740) (by decide +kernel), by decide +kernel⟩, ⟨List.mem_of_getElem? (i := 10) (by decide +kernel), by decide +kernel⟩⟩
theorem km5_121 : inW (Cond.methodLink RX5 121 yX5_fail) := ⟨List.mem_of_getElem? (i := 738) (by decide +kernel), by decide +kernel⟩
theorem dX5_expect_13 : decode cX5_expect 13 = .ok (.ireturn, 1) := by decide +kernel
theorem ne_ti {x k : Int32} {n : Int} (h : ¬ x = k) (e : k.toInt = n) : ¬ n = x.toInt := fun z => h (Int32.toInt_inj.mp (by rw [e, z]))
/-! The reading, exactly: rows of tokens, what a reader's method makes of the stack. -/
section RDR
variable {K V Pl : Nat → Int} {N i i0 j k a d o : Nat} {fk fp fk2 fp2 : Int} {r : Int32} {X Y Y' Z : List LI} {x : IT} {b : Bool} {its : List IT} {f : Int}
def RW (N : Nat) (K : Nat → Int) : (Nat → Int32) → Prop := fun g => ∀ k, k < N → (g k).toInt = K k
def RDH (K : Nat → Int) (N : Nat) : Prop := 1 ≤ N ∧ N ≤ 301 ∧ ∀ k, N ≤ k + 1 → K k = 1002
theorem RDH_lt (h : RDH K N) (hi : i < N) (hk : K i ≠ 1002) : i + 1 < N := by
  rcases Nat.lt_or_ge (i + 1) N with z | z
  · exact z
  · exact absurd (h.2.2 i z) hk
theorem RW_at {g : Nat → Int32} {n v : Int32} (h : RW N K g) (e : v = g n.toNatClampNeg) (hi : n.toInt = (k : Int)) (hk : k < N) : v.toInt = K k := by
  have q : n.toNatClampNeg = k := by show n.toInt.toNat = k; omega
  rw [e, q]; exact h k hk
theorem min_i {n m z : Int32} {p q : Int} (e : z = if m < n then m else n) (hx : n.toInt = p) (hy : m.toInt = q) (h : p ≤ q) : z.toInt = p := by
  have c : ¬ m < n := by rw [Int32.lt_iff_toInt_lt]; omega
  rw [e, if_neg c]; exact hx
theorem bn_to {n : Int32} {p q v : Int} (e : n.toInt = v) (h : p ≤ v ∧ v ≤ q) : bn p q n := ⟨by omega, by omega⟩
theorem bn00 {n : Int32} (h : bn 0 0 n) : n = 0 := Int32.toInt_inj.mp (by have h1 := h.1; have h2 := h.2; show n.toInt = 0; omega)
def RDP (K V Pl : Nat → Int) (X : List LI) (i j N : Nat) (fk fp fk2 fp2 : Int) (r : Int32) : Prop :=
  (r = 1 ∧ (∀ S, Tr K V (X ++ S) i S j) ∧ j < N ∧ i < j ∧ fk = fk2 ∧ fp = fp2) ∨ (r = 0 ∧ (∀ S, LL K V (X ++ S) i (fk2, j)) ∧ fk2 ≠ 0 ∧ fp2 = Pl j)
theorem RDP_t (e : RDP K V Pl X i j N fk fp fk2 fp2 r) (h : ¬ r = 0) : r = 1 ∧ (∀ S, Tr K V (X ++ S) i S j) ∧ j < N ∧ i < j ∧ fk = fk2 ∧ fp = fp2 := by
  rcases e with e | e
  · exact e
  · exact absurd e.1 h
theorem RDP_f (e : RDP K V Pl X i j N fk fp fk2 fp2 r) (h : r = 0) : (∀ S, LL K V (X ++ S) i (fk2, j)) ∧ fk2 ≠ 0 ∧ fp2 = Pl j := by
  rcases e with e | e
  · rw [h] at e; exact absurd e.1 (by decide)
  · exact e.2
theorem TrY (h : ∀ S, Tr K V (X ++ S) i0 (((x, o, b) :: Y) ++ S) i) (e : gx x o b (K i) (V i) = (0, a, its, d)) (hd : d < 100) (hY : lay (o + d) b its ++ Y = Y') : ∀ S, Tr K V (X ++ S) i0 (Y' ++ S) (i + a) := fun S => by
  subst hY
  have q := Tr_go (S := Y ++ S) e hd
  rw [← List.append_assoc] at q
  exact Tr_t (h S) q
theorem TrC (h : ∀ S, Tr K V (X ++ S) i0 ((Z ++ Y) ++ S) i) (g : ∀ S, Tr K V (Z ++ S) i S j) : ∀ S, Tr K V (X ++ S) i0 (Y ++ S) j := fun S => by
  have q := h S
  rw [List.append_assoc] at q
  exact Tr_t q (g (Y ++ S))
theorem TrB (h : ∀ S, Tr K V (X ++ S) i0 ((Z ++ Y) ++ S) i) {rr : Int × Nat} (g : ∀ S, LL K V (Z ++ S) i rr) : ∀ S, LL K V (X ++ S) i0 rr := fun S => by
  have q := h S
  rw [List.append_assoc] at q
  exact q _ (g (Y ++ S))
theorem TrN (h : ∀ S, Tr K V (X ++ S) i0 (((x, o, b) :: Y) ++ S) i) (e : gx x o b (K i) (V i) = (f, a, its, d)) (z : f ≠ 0) : ∀ S, LL K V (X ++ S) i0 (f, i) := fun S => h S _ (LL_no e z)
theorem RDPl (h : ∀ S, Tr K V (X ++ S) i0 (Z ++ S) i) (hi : i0 ≤ i) (e : RDP K V Pl Z i j N fk fp fk2 fp2 r) : RDP K V Pl X i0 j N fk fp fk2 fp2 r := by
  rcases e with ⟨e1, e2, e3, e4, e5⟩ | ⟨e1, e2, e3⟩
  · exact Or.inl ⟨e1, fun S => Tr_t (h S) (e2 S), e3, by omega, e5⟩
  · exact Or.inr ⟨e1, fun S => h S _ (e2 S), e3⟩
theorem gx_name (hk : 9 ≤ k ∧ k ≤ 18) : True := trivial
theorem gx_nm {k v : Int} (hk : 9 ≤ k ∧ k ≤ 18) (hb : ¬ (b = true ∧ 14 ≤ k)) : gx kOne o b k v = (0, 1, [], 0) := by
  unfold gx; simp only; rw [if_neg (by omega), if_pos hk, if_neg hb]
theorem gx_rk {k v : Int} (hk : 14 ≤ k ∧ k ≤ 18) (hb : b = true) : gx kOne o b k v = (5, 0, [], 0) := by
  unfold gx; simp only; rw [if_neg (by omega), if_pos (by omega), if_pos ⟨hb, hk.1⟩]
end RDR
section TAPE
variable {nL : Int} {B : Nat → Int32} {i1 r v : Int32} {n : Nat}
def byC (x s : Int32) : Int32 := (x.toUInt32 >>> (s.toUInt32 &&& Int32.toUInt32 31)).toInt32 &&& 255
def ap4 (B : Nat → Int32) (n : Nat) (x : Int32) : Nat → Int32 := upd (upd (upd (upd B n (byC x 24)) (n + 1) (byC x 16)) (n + 2) (byC x 8)) (n + 3) (byC x 0)
def cuL (n k : Int) : Int := if 0 ≤ k ∧ k ≤ n then k else n
theorem SHe {sp sp' : Nat → Nat → SP} {nn : Nat → Nat} {G : GG} {ad : Nat → Nat → Nat} {L : List Nat} {f : HF} (I : SH sp nn G ad L f) (e : sp = sp') : SH sp' nn G ad L f := e ▸ I
def byA (B : Nat → Int32) (nL : Int) (i : Int32) : Int32 := if 0 ≤ i.toInt ∧ i.toInt < nL then B i.toInt.toNat else -1
end TAPE
set_option maxHeartbeats 4000000 in
set_option maxRecDepth 100000 in
theorem x_X5_size {l : Launch} {G : GG}  {L : List Nat} {f : HF} {ad : Nat → Nat → Nat} {zC : Int × Int} {zR : Int × Int} {zK : Int × Int} {zP : Int × Int} {zV : Int × Int} {zW : Int × Int} {zF : Int × Int} {zQ : Int × Int} {tT : (Nat → Int32) → Prop} {tU : (Nat → Int32) → Prop} {tP : (Nat → Int32) → Prop} {tV : (Nat → Int32) → Prop} {rf : FS} {sc : Nat → SG} {nL : Int} {fc : Int × Int} {tc w : Nat → Int × Int} {q : Nat → (Nat → Int32) → Prop} (I : SH (spC ((rf, fz (pp nL) zC zR zK zP zV zW zF zQ, tz tT tU tP tV, sc) : RS) fc tc w q) nnC G ad L f) (hW : WBp w 8) (hT : WBp tc 4) (hQ : QIp q) : PMp l yX5_size cX5_size 1 .int 0 0 0 G [.ref (ad 2 0)] L f (fun r => (r.toInt = nL)) := by
  refine PMi.of (post := fun r L1 f1 => ((r.toInt = nL)) ∧ L1 = L ∧ f1 = f) (own := RX5) (by decide) rfl (Nat.le_of_ble_eq_true rfl) (fun sz p e s m args below meth c A ls hA1 hname S Y hl => ?_)
  have hx := S.hx
  have hb := S.hb
  have hl : lv_has ls 1 [(0, .ref (ad 2 0))] := hl
  refine lv_aload_n hx hb dX5_size_0 rfl (lv_at hl 0 rfl) ?_
  obtain ⟨v_39938, v_39940, v_39942, v_39944, v_39946, v_39948, v_39950, v_39952, v_39954, v_39956, p_ad_2_0, b_39939, b_39941, b_39943, b_39945, b_39947, b_39949, b_39951, b_39953, b_39955, b_39957⟩ := opnC_2 (j := 0) I (by decide)
  have p_ad_2_0 : pt L f (ad 2 0) (.inr (5, [.ref (ad 50 0), .ref (ad 51 0), .ref (ad 52 0), .ref (ad 53 0), .int v_39938, .int v_39940, .int v_39942, .int v_39944, .int v_39946, .int v_39948, .int v_39950, v_39952, .int v_39954, .int v_39956])) := p_ad_2_0
  have tv_39938 : v_39938.toInt = nL := lim_eq b_39939
  refine pg_get S Y ok_X5 4 (by decide) kf5_31 (v := .int v_39938) p_ad_2_0 rfl dX5_size_1 ?_
  exact prI (post := fun r L1 f1 => ((r.toInt = nL)) ∧ L1 = L ∧ f1 = f) S Y rfl (by decide) (by decide) hA1 ⟨tv_39938, rfl, rfl⟩ dX5_size_4
set_option maxHeartbeats 4000000 in
set_option maxRecDepth 100000 in
theorem x_X5_faultKind {l : Launch} {G : GG}  {L : List Nat} {f : HF} {ad : Nat → Nat → Nat} {zL : Int × Int} {zC : Int × Int} {zR : Int × Int} {zK : Int × Int} {zP : Int × Int} {zV : Int × Int} {zW : Int × Int} {zQ : Int × Int} {tT : (Nat → Int32) → Prop} {tU : (Nat → Int32) → Prop} {tP : (Nat → Int32) → Prop} {tV : (Nat → Int32) → Prop} {rf : FS} {sc : Nat → SG} {kF : Int} {fc : Int × Int} {tc w : Nat → Int × Int} {q : Nat → (Nat → Int32) → Prop} (I : SH (spC ((rf, fz zL zC zR zK zP zV zW (pp kF) zQ, tz tT tU tP tV, sc) : RS) fc tc w q) nnC G ad L f) (hW : WBp w 8) (hT : WBp tc 4) (hQ : QIp q) : PMp l yX5_faultKind cX5_faultKind 1 .int 0 0 0 G [.ref (ad 2 0)] L f (fun r => (r.toInt = kF)) := by
  refine PMi.of (post := fun r L1 f1 => ((r.toInt = kF)) ∧ L1 = L ∧ f1 = f) (own := RX5) (by decide) rfl (Nat.le_of_ble_eq_true rfl) (fun sz p e s m args below meth c A ls hA1 hname S Y hl => ?_)
  have hx := S.hx
  have hb := S.hb
  have hl : lv_has ls 1 [(0, .ref (ad 2 0))] := hl
  refine lv_aload_n hx hb dX5_faultKind_0 rfl (lv_at hl 0 rfl) ?_
  obtain ⟨v_39998, v_40000, v_40002, v_40004, v_40006, v_40008, v_40010, v_40012, v_40014, v_40016, p_ad_2_0, b_39999, b_40001, b_40003, b_40005, b_40007, b_40009, b_40011, b_40013, b_40015, b_40017⟩ := opnC_2 (j := 0) I (by decide)
  have p_ad_2_0 : pt L f (ad 2 0) (.inr (5, [.ref (ad 50 0), .ref (ad 51 0), .ref (ad 52 0), .ref (ad 53 0), .int v_39998, .int v_40000, .int v_40002, .int v_40004, .int v_40006, .int v_40008, .int v_40010, v_40012, .int v_40014, .int v_40016])) := p_ad_2_0
  have tv_40014 : v_40014.toInt = kF := lim_eq b_40015
  refine pg_get S Y ok_X5 12 (by decide) kf5_24 (v := .int v_40014) p_ad_2_0 rfl dX5_faultKind_1 ?_
  exact prI (post := fun r L1 f1 => ((r.toInt = kF)) ∧ L1 = L ∧ f1 = f) S Y rfl (by decide) (by decide) hA1 ⟨tv_40014, rfl, rfl⟩ dX5_faultKind_4
set_option maxHeartbeats 4000000 in
set_option maxRecDepth 100000 in
theorem x_X5_faultPlace {l : Launch} {G : GG}  {L : List Nat} {f : HF} {ad : Nat → Nat → Nat} {zL : Int × Int} {zC : Int × Int} {zR : Int × Int} {zK : Int × Int} {zP : Int × Int} {zV : Int × Int} {zW : Int × Int} {zF : Int × Int} {tT : (Nat → Int32) → Prop} {tU : (Nat → Int32) → Prop} {tP : (Nat → Int32) → Prop} {tV : (Nat → Int32) → Prop} {rf : FS} {sc : Nat → SG} {pF : Int} {fc : Int × Int} {tc w : Nat → Int × Int} {q : Nat → (Nat → Int32) → Prop} (I : SH (spC ((rf, fz zL zC zR zK zP zV zW zF (pp pF), tz tT tU tP tV, sc) : RS) fc tc w q) nnC G ad L f) (hW : WBp w 8) (hT : WBp tc 4) (hQ : QIp q) : PMp l yX5_faultPlace cX5_faultPlace 1 .int 0 0 0 G [.ref (ad 2 0)] L f (fun r => (r.toInt = pF)) := by
  refine PMi.of (post := fun r L1 f1 => ((r.toInt = pF)) ∧ L1 = L ∧ f1 = f) (own := RX5) (by decide) rfl (Nat.le_of_ble_eq_true rfl) (fun sz p e s m args below meth c A ls hA1 hname S Y hl => ?_)
  have hx := S.hx
  have hb := S.hb
  have hl : lv_has ls 1 [(0, .ref (ad 2 0))] := hl
  refine lv_aload_n hx hb dX5_faultPlace_0 rfl (lv_at hl 0 rfl) ?_
  obtain ⟨v_40058, v_40060, v_40062, v_40064, v_40066, v_40068, v_40070, v_40072, v_40074, v_40076, p_ad_2_0, b_40059, b_40061, b_40063, b_40065, b_40067, b_40069, b_40071, b_40073, b_40075, b_40077⟩ := opnC_2 (j := 0) I (by decide)
  have p_ad_2_0 : pt L f (ad 2 0) (.inr (5, [.ref (ad 50 0), .ref (ad 51 0), .ref (ad 52 0), .ref (ad 53 0), .int v_40058, .int v_40060, .int v_40062, .int v_40064, .int v_40066, .int v_40068, .int v_40070, v_40072, .int v_40074, .int v_40076])) := p_ad_2_0
  have tv_40076 : v_40076.toInt = pF := lim_eq b_40077
  refine pg_get S Y ok_X5 13 (by decide) kf5_28 (v := .int v_40076) p_ad_2_0 rfl dX5_faultPlace_1 ?_
  exact prI (post := fun r L1 f1 => ((r.toInt = pF)) ∧ L1 = L ∧ f1 = f) S Y rfl (by decide) (by decide) hA1 ⟨tv_40076, rfl, rfl⟩ dX5_faultPlace_4
set_option maxHeartbeats 4000000 in
set_option maxRecDepth 100000 in
theorem x_X5_hasRoomFor {l : Launch} {G : GG}  {L : List Nat} {f : HF} {ad : Nat → Nat → Nat} {zC : Int × Int} {zR : Int × Int} {zK : Int × Int} {zP : Int × Int} {zV : Int × Int} {zW : Int × Int} {zF : Int × Int} {zQ : Int × Int} {tT : (Nat → Int32) → Prop} {tU : (Nat → Int32) → Prop} {tP : (Nat → Int32) → Prop} {tV : (Nat → Int32) → Prop} {rf : FS} {sc : Nat → SG} {nL : Int} {fc : Int × Int} {tc w : Nat → Int × Int} {q : Nat → (Nat → Int32) → Prop} {i1 : Int32} (I : SH (spC ((rf, fz (pp nL) zC zR zK zP zV zW zF zQ, tz tT tU tP tV, sc) : RS) fc tc w q) nnC G ad L f) (hW : WBp w 8) (hT : WBp tc 4) (hQ : QIp q) (b_i1 : bn 20 20 i1) : PMp l yX5_hasRoomFor cX5_hasRoomFor 2 .boolean 0 0 0 G [.ref (ad 2 0), .int i1] L f (fun r => (bn 0 1 r ∧ (r = 1 ∧ nL + 20 ≤ 300 ∨ r = 0 ∧ ¬ nL + 20 ≤ 300))) := by
  refine PMi.of (post := fun r L1 f1 => ((bn 0 1 r ∧ (r = 1 ∧ nL + 20 ≤ 300 ∨ r = 0 ∧ ¬ nL + 20 ≤ 300))) ∧ L1 = L ∧ f1 = f) (own := RX5) (by decide) rfl (Nat.le_of_ble_eq_true rfl) (fun sz p e s m args below meth c A ls hA1 hname S Y hl => ?_)
  have hx := S.hx
  have hb := S.hb
  have hl : lv_has ls 2 [(0, .ref (ad 2 0)), (1, .int i1)] := hl
  refine lv_aload_n hx hb dX5_hasRoomFor_0 rfl (lv_at hl 0 rfl) ?_
  obtain ⟨v_40126, v_40128, v_40130, v_40132, v_40134, v_40136, v_40138, v_40140, v_40142, v_40144, p_ad_2_0, b_40127, b_40129, b_40131, b_40133, b_40135, b_40137, b_40139, b_40141, b_40143, b_40145⟩ := opnC_2 (j := 0) I (by decide)
  have p_ad_2_0 : pt L f (ad 2 0) (.inr (5, [.ref (ad 50 0), .ref (ad 51 0), .ref (ad 52 0), .ref (ad 53 0), .int v_40126, .int v_40128, .int v_40130, .int v_40132, .int v_40134, .int v_40136, .int v_40138, v_40140, .int v_40142, .int v_40144])) := p_ad_2_0
  have tv_40126 : v_40126.toInt = nL := lim_eq b_40127
  refine pg_get S Y ok_X5 4 (by decide) kf5_31 (v := .int v_40126) p_ad_2_0 rfl dX5_hasRoomFor_1 ?_
  refine lv_iload_n hx hb dX5_hasRoomFor_4 rfl (lv_at hl 1 rfl) ?_
  refine lv_iadd hx hb dX5_hasRoomFor_5 ?_
  refine lv_topi (fun x_40146 ex_40146 => ?_)
  refine lv_sipush (v := 300) hx hb dX5_hasRoomFor_6 (by decide) ?_
  refine lv_icmp_gt (tgt := 16) hx hb dX5_hasRoomFor_9 (by decide) (fun c_40147 => ?_) (fun c_40147 => ?_)
  · have B_40148 : bn 301 320 x_40146 := bn_w (bn_ltr c_40147 (show bn 300 300 (300 : Int32) from bn_k (by decide)) (bn_eq ex_40146 (bn_add (bn_w (a' := 0) (b' := 300) b_40127 (lim_b _ _ _)) b_i1 (by decide)))) (by decide)
    refine lv_iconst (v := 0) hx hb dX5_hasRoomFor_16 (by decide) ?_
    exact prI (post := fun r L1 f1 => ((bn 0 1 r ∧ (r = 1 ∧ nL + 20 ≤ 300 ∨ r = 0 ∧ ¬ nL + 20 ≤ 300))) ∧ L1 = L ∧ f1 = f) S Y rfl (by decide) (by decide) hA1 ⟨⟨bn_k (by decide), Or.inr ⟨rfl, (by have u0 := b_i1.1; have v0 := b_i1.2; have u1 := tv_40126; have u2 := (show 300 < x_40146.toInt from by have z9 := c_40147; rw [Int32.lt_iff_toInt_lt] at z9; exact z9); have u3 := (la_add ex_40146 tv_40126 (rfl : i1.toInt = i1.toInt) (bn_w (a' := 0) (b' := 300) b_40127 (lim_b _ _ _)) b_i1 (by decide)); omega)⟩⟩, rfl, rfl⟩ dX5_hasRoomFor_17
  · have B_40149 : bn 20 300 x_40146 := bn_w (bn_ger c_40147 (show bn 300 300 (300 : Int32) from bn_k (by decide)) (bn_eq ex_40146 (bn_add (bn_w (a' := 0) (b' := 300) b_40127 (lim_b _ _ _)) b_i1 (by decide)))) (by decide)
    refine lv_iconst (v := 1) hx hb dX5_hasRoomFor_12 (by decide) ?_
    refine lv_goto (tgt := 17) hx hb dX5_hasRoomFor_13 (by decide) ?_
    exact prI (post := fun r L1 f1 => ((bn 0 1 r ∧ (r = 1 ∧ nL + 20 ≤ 300 ∨ r = 0 ∧ ¬ nL + 20 ≤ 300))) ∧ L1 = L ∧ f1 = f) S Y rfl (by decide) (by decide) hA1 ⟨⟨bn_k (by decide), Or.inl ⟨rfl, (by have u0 := b_i1.1; have v0 := b_i1.2; have u1 := tv_40126; have u2 := (show x_40146.toInt ≤ 300 from by have z9 := (Int32.not_lt.mp c_40147); rw [Int32.le_iff_toInt_le] at z9; exact z9); have u3 := (la_add ex_40146 tv_40126 (rfl : i1.toInt = i1.toInt) (bn_w (a' := 0) (b' := 300) b_40127 (lim_b _ _ _)) b_i1 (by decide)); omega)⟩⟩, rfl, rfl⟩ dX5_hasRoomFor_17
set_option maxHeartbeats 4000000 in
set_option maxRecDepth 100000 in
theorem x_X5_append {l : Launch} {G : GG}  {L : List Nat} {f : HF} {ad : Nat → Nat → Nat} {zC : Int × Int} {zR : Int × Int} {zK : Int × Int} {zP : Int × Int} {zV : Int × Int} {zW : Int × Int} {zF : Int × Int} {zQ : Int × Int} {tU : (Nat → Int32) → Prop} {tP : (Nat → Int32) → Prop} {tV : (Nat → Int32) → Prop} {rf : FS} {sc : Nat → SG} {nL : Int} {bT : Nat → Int32} {fc : Int × Int} {tc w : Nat → Int × Int} {q : Nat → (Nat → Int32) → Prop} {i1 : Int32} (I : SH (spC ((rf, fz (pp nL) zC zR zK zP zV zW zF zQ, tz (EQ bT) tU tP tV, sc) : RS) fc tc w q) nnC G ad L f) (hW : WBp w 8) (hT : WBp tc 4) (hQ : QIp q) (hr : 0 ≤ nL ∧ nL ≤ 296) : PMv l yX5_append cX5_append 3 0 0 0 G [.ref (ad 2 0), .int i1] L f (fun L1 f1 => SH (spC ((rf, fz (pp (nL + 4)) zC zR zK zP zV zW zF zQ, tz (EQ (ap4 bT nL.toNat i1)) tU tP tV, sc) : RS) fc tc w q) nnC G ad L1 f1) := by
  refine PMv.of (post := fun L1 f1 => SH (spC ((rf, fz (pp (nL + 4)) zC zR zK zP zV zW zF zQ, tz (EQ (ap4 bT nL.toNat i1)) tU tP tV, sc) : RS) fc tc w q) nnC G ad L1 f1) (own := RX5) (by decide) rfl (Nat.le_of_ble_eq_true rfl) (fun sz p e s m args below meth c A ls hA1 hname S Y hl => ?_)
  have hx := S.hx
  have hb := S.hb
  have hl : lv_has ls 3 [(0, .ref (ad 2 0)), (1, .int i1)] := hl
  refine lv_bipush (v := 24) hx hb dX5_append_0 (by decide) ?_
  refine lv_istore_n (lv' := [(2, .int 24), (0, .ref (ad 2 0)), (1, .int i1)]) hx hb dX5_append_2 rfl hl (by decide) rfl (fun ls hl => ?_)
  refine lv_iload_n hx hb dX5_append_3 rfl (lv_at hl 0 rfl) ?_
  refine lv_if_lt (tgt := 49) hx hb dX5_append_4 (by decide) (fun h => absurd h (by decide)) (fun _ => ?_)
  refine lv_aload_n hx hb dX5_append_7 rfl (lv_at hl 1 rfl) ?_
  obtain ⟨v_40256, v_40258, v_40260, v_40262, v_40264, v_40266, v_40268, v_40270, v_40272, v_40274, p_ad_2_0, b_40257, b_40259, b_40261, b_40263, b_40265, b_40267, b_40269, b_40271, b_40273, b_40275⟩ := opnC_2 (j := 0) I (by decide)
  have p_ad_2_0 : pt L f (ad 2 0) (.inr (5, [.ref (ad 50 0), .ref (ad 51 0), .ref (ad 52 0), .ref (ad 53 0), .int v_40256, .int v_40258, .int v_40260, .int v_40262, .int v_40264, .int v_40266, .int v_40268, v_40270, .int v_40272, .int v_40274])) := p_ad_2_0
  have tv_40256 : v_40256.toInt = nL := lim_eq b_40257
  have B_40276 : bn 0 296 v_40256 := ⟨by have h9 := tv_40256; have h8 := hr; omega, by have h9 := tv_40256; have h8 := hr; omega⟩
  refine pg_get S Y ok_X5 4 (by decide) kf5_31 (v := .int v_40256) p_ad_2_0 rfl dX5_append_8 ?_
  refine lv_sipush (v := 300) hx hb dX5_append_11 (by decide) ?_
  refine lv_icmp_ge (tgt := 43) hx hb dX5_append_14 (by decide) (fun h => absurd h (bd_nle (show bn 300 300 (300 : Int32) from bn_k (by decide)) B_40276 (by decide))) (fun _ => ?_)
  refine lv_aload_n hx hb dX5_append_17 rfl (lv_at hl 1 rfl) ?_
  refine pg_get S Y ok_X5 0 (by decide) kf5_9 (v := .ref (ad 50 0)) p_ad_2_0 rfl dX5_append_18 ?_
  refine lv_aload_n hx hb dX5_append_21 rfl (lv_at hl 1 rfl) ?_
  refine pg_get S Y ok_X5 4 (by decide) kf5_31 (v := .int v_40256) p_ad_2_0 rfl dX5_append_22 ?_
  refine lv_iload_n hx hb dX5_append_25 rfl (lv_at hl 2 rfl) ?_
  refine lv_iload_n hx hb dX5_append_26 rfl (lv_at hl 0 rfl) ?_
  obtain ⟨x_40277, ex_40277⟩ : ∃ z : Int32, z = (i1.toUInt32 >>> ((24 : Int32).toUInt32 &&& Int32.toUInt32 31)).toInt32 := ⟨_, rfl⟩
  refine lv_iushr (v := x_40277) hx hb dX5_append_27 (ex_40277.symm) ?_
  refine lv_sipush (v := 255) hx hb dX5_append_28 (by decide) ?_
  refine lv_iand hx hb dX5_append_31 ?_
  refine lv_topi (fun x_40278 ex_40278 => ?_)
  obtain ⟨g_40279, p_ad_50_0, o_40280⟩ := I.opi (k := 50) (j := 0) (by decide) rfl
  have p_ad_50_0 : pt L f (ad 50 0) (.inl (G.2 0, 300, .inl g_40279)) := p_ad_50_0
  have o_40281 : (EQ bT) g_40279 := o_40280
  refine pg_iast S Y p_ad_50_0 (vp_bn B_40276 (by decide)) dX5_append_32 (fun f_40283 H locs ef_40283 Y => ?_)
  obtain ⟨g_40282, eg_40282⟩ : ∃ z, z = upd (g_40279) (v_40256 : Int32).toNatClampNeg x_40278 := ⟨_, rfl⟩
  rw [← eg_40282] at ef_40283
  have p_ad_2_0 := p_ad_2_0.up ef_40283 (I.ne (k := 2) (j := 0) (k' := 50) (j' := 0) (by decide) (by decide) (Or.inl (by decide)))
  have p_ad_50_0 := p_ad_50_0.me ef_40283
  have o_40284 : (EQ g_40282) g_40282 := rfl
  have I := I.upS (sp' := spC ((rf, fz (pp nL) zC zR zK zP zV zW zF zQ, tz (EQ g_40282) tU tP tV, sc) : RS) fc tc w q) (k := 50) (j := 0) (by decide) ef_40283 (okE_a (g := g_40282) o_40284) tz50C
  refine lv_aload_n hx hb dX5_append_33 rfl (lv_at hl 1 rfl) ?_
  refine lv_dup hx hb dX5_append_34 rfl ?_
  refine pg_get S Y ok_X5 4 (by decide) kf5_31 (v := .int v_40256) p_ad_2_0 rfl dX5_append_35 ?_
  refine lv_iconst (v := 1) hx hb dX5_append_38 (by decide) ?_
  refine lv_iadd hx hb dX5_append_39 ?_
  refine lv_topi (fun x_40285 ex_40285 => ?_)
  refine pg_put S Y ok_X5 4 (by decide) kf5_31 rfl (fs' := [.ref (ad 50 0), .ref (ad 51 0), .ref (ad 52 0), .ref (ad 53 0), .int x_40285, .int v_40258, .int v_40260, .int v_40262, .int v_40264, .int v_40266, .int v_40268, v_40270, .int v_40272, .int v_40274]) (v := .int x_40285) p_ad_2_0 rfl rfl rfl (Nat.le_of_ble_eq_true rfl) dX5_append_40 (fun f_40286 H locs ef_40286 Y => ?_)
  have p_ad_50_0 := p_ad_50_0.up ef_40286 (I.ne (k := 50) (j := 0) (k' := 2) (j' := 0) (by decide) (by decide) (Or.inl (by decide)))
  have p_ad_2_0 := p_ad_2_0.me ef_40286
  have I := I.upS (sp' := spC ((rf, fz (pp (nL + 1)) zC zR zK zP zV zW zF zQ, tz (EQ g_40282) tU tP tV, sc) : RS) fc tc w q) (k := 2) (j := 0) (by decide) ef_40286 (okE_o (okFs_c okV_r (okFs_c okV_r (okFs_c okV_r (okFs_c okV_r (okFs_c (okV_p (lim_mk (bn_w (bn_eq ex_40285 (bn_add B_40276 (show bn 1 1 (1 : Int32) from bn_k (by decide)) (by decide))) (by decide) : bn 0 300 x_40285) (la_add ex_40285 tv_40256 (show (1 : Int32).toInt = 1 from rfl) B_40276 (show bn 1 1 (1 : Int32) from bn_k (by decide)) (by decide)))) (okFs_c (okV_p b_40259) (okFs_c (okV_p b_40261) (okFs_c (okV_p b_40263) (okFs_c (okV_p b_40265) (okFs_c (okV_p b_40267) (okFs_c (okV_p b_40269) (okFs_c b_40271 (okFs_c (okV_p b_40273) (okFs_c (okV_p b_40275) okFs_n))))))))))))))) rsC
  refine lv_iinc (v := 16) (lv' := [(2, .int 16), (0, .ref (ad 2 0)), (1, .int i1)]) hx hb dX5_append_43 hl (k := 0) rfl (by decide) (by decide) rfl (fun ls hl => ?_)
  refine lv_goto (tgt := 3) hx hb dX5_append_46 (by decide) ?_
  refine lv_iload_n hx hb dX5_append_3 rfl (lv_at hl 0 rfl) ?_
  refine lv_if_lt (tgt := 49) hx hb dX5_append_4 (by decide) (fun h => absurd h (by decide)) (fun _ => ?_)
  refine lv_aload_n hx hb dX5_append_7 rfl (lv_at hl 1 rfl) ?_
  refine pg_get S Y ok_X5 4 (by decide) kf5_31 (v := .int x_40285) p_ad_2_0 rfl dX5_append_8 ?_
  refine lv_sipush (v := 300) hx hb dX5_append_11 (by decide) ?_
  refine lv_icmp_ge (tgt := 43) hx hb dX5_append_14 (by decide) (fun h => absurd h (bd_nle (show bn 300 300 (300 : Int32) from bn_k (by decide)) (bn_eq ex_40285 (bn_add B_40276 (show bn 1 1 (1 : Int32) from bn_k (by decide)) (by decide))) (by decide))) (fun _ => ?_)
  refine lv_aload_n hx hb dX5_append_17 rfl (lv_at hl 1 rfl) ?_
  refine pg_get S Y ok_X5 0 (by decide) kf5_9 (v := .ref (ad 50 0)) p_ad_2_0 rfl dX5_append_18 ?_
  refine lv_aload_n hx hb dX5_append_21 rfl (lv_at hl 1 rfl) ?_
  refine pg_get S Y ok_X5 4 (by decide) kf5_31 (v := .int x_40285) p_ad_2_0 rfl dX5_append_22 ?_
  refine lv_iload_n hx hb dX5_append_25 rfl (lv_at hl 2 rfl) ?_
  refine lv_iload_n hx hb dX5_append_26 rfl (lv_at hl 0 rfl) ?_
  obtain ⟨x_40287, ex_40287⟩ : ∃ z : Int32, z = (i1.toUInt32 >>> ((16 : Int32).toUInt32 &&& Int32.toUInt32 31)).toInt32 := ⟨_, rfl⟩
  refine lv_iushr (v := x_40287) hx hb dX5_append_27 (ex_40287.symm) ?_
  refine lv_sipush (v := 255) hx hb dX5_append_28 (by decide) ?_
  refine lv_iand hx hb dX5_append_31 ?_
  refine lv_topi (fun x_40288 ex_40288 => ?_)
  refine pg_iast S Y p_ad_50_0 (vp_bn (bn_eq ex_40285 (bn_add B_40276 (show bn 1 1 (1 : Int32) from bn_k (by decide)) (by decide))) (by decide)) dX5_append_32 (fun f_40290 H locs ef_40290 Y => ?_)
  obtain ⟨g_40289, eg_40289⟩ : ∃ z, z = upd (g_40282) (x_40285 : Int32).toNatClampNeg x_40288 := ⟨_, rfl⟩
  rw [← eg_40289] at ef_40290
  have p_ad_2_0 := p_ad_2_0.up ef_40290 (I.ne (k := 2) (j := 0) (k' := 50) (j' := 0) (by decide) (by decide) (Or.inl (by decide)))
  have p_ad_50_0 := p_ad_50_0.me ef_40290
  have o_40291 : (EQ g_40289) g_40289 := rfl
  have I := I.upS (sp' := spC ((rf, fz (pp (nL + 1)) zC zR zK zP zV zW zF zQ, tz (EQ g_40289) tU tP tV, sc) : RS) fc tc w q) (k := 50) (j := 0) (by decide) ef_40290 (okE_a (g := g_40289) o_40291) tz50C
  refine lv_aload_n hx hb dX5_append_33 rfl (lv_at hl 1 rfl) ?_
  refine lv_dup hx hb dX5_append_34 rfl ?_
  refine pg_get S Y ok_X5 4 (by decide) kf5_31 (v := .int x_40285) p_ad_2_0 rfl dX5_append_35 ?_
  refine lv_iconst (v := 1) hx hb dX5_append_38 (by decide) ?_
  refine lv_iadd hx hb dX5_append_39 ?_
  refine lv_topi (fun x_40292 ex_40292 => ?_)
  refine pg_put S Y ok_X5 4 (by decide) kf5_31 rfl (fs' := [.ref (ad 50 0), .ref (ad 51 0), .ref (ad 52 0), .ref (ad 53 0), .int x_40292, .int v_40258, .int v_40260, .int v_40262, .int v_40264, .int v_40266, .int v_40268, v_40270, .int v_40272, .int v_40274]) (v := .int x_40292) p_ad_2_0 rfl rfl rfl (Nat.le_of_ble_eq_true rfl) dX5_append_40 (fun f_40293 H locs ef_40293 Y => ?_)
  have p_ad_50_0 := p_ad_50_0.up ef_40293 (I.ne (k := 50) (j := 0) (k' := 2) (j' := 0) (by decide) (by decide) (Or.inl (by decide)))
  have p_ad_2_0 := p_ad_2_0.me ef_40293
  have I := I.upS (sp' := spC ((rf, fz (pp ((nL + 1) + 1)) zC zR zK zP zV zW zF zQ, tz (EQ g_40289) tU tP tV, sc) : RS) fc tc w q) (k := 2) (j := 0) (by decide) ef_40293 (okE_o (okFs_c okV_r (okFs_c okV_r (okFs_c okV_r (okFs_c okV_r (okFs_c (okV_p (lim_mk (bn_w (bn_eq ex_40292 (bn_add (bn_eq ex_40285 (bn_add B_40276 (show bn 1 1 (1 : Int32) from bn_k (by decide)) (by decide))) (show bn 1 1 (1 : Int32) from bn_k (by decide)) (by decide))) (by decide) : bn 0 300 x_40292) (la_add ex_40292 (la_add ex_40285 tv_40256 (show (1 : Int32).toInt = 1 from rfl) B_40276 (show bn 1 1 (1 : Int32) from bn_k (by decide)) (by decide)) (show (1 : Int32).toInt = 1 from rfl) (bn_eq ex_40285 (bn_add B_40276 (show bn 1 1 (1 : Int32) from bn_k (by decide)) (by decide))) (show bn 1 1 (1 : Int32) from bn_k (by decide)) (by decide)))) (okFs_c (okV_p b_40259) (okFs_c (okV_p b_40261) (okFs_c (okV_p b_40263) (okFs_c (okV_p b_40265) (okFs_c (okV_p b_40267) (okFs_c (okV_p b_40269) (okFs_c b_40271 (okFs_c (okV_p b_40273) (okFs_c (okV_p b_40275) okFs_n))))))))))))))) rsC
  refine lv_iinc (v := 8) (lv' := [(2, .int 8), (0, .ref (ad 2 0)), (1, .int i1)]) hx hb dX5_append_43 hl (k := 0) rfl (by decide) (by decide) rfl (fun ls hl => ?_)
  refine lv_goto (tgt := 3) hx hb dX5_append_46 (by decide) ?_
  refine lv_iload_n hx hb dX5_append_3 rfl (lv_at hl 0 rfl) ?_
  refine lv_if_lt (tgt := 49) hx hb dX5_append_4 (by decide) (fun h => absurd h (by decide)) (fun _ => ?_)
  refine lv_aload_n hx hb dX5_append_7 rfl (lv_at hl 1 rfl) ?_
  refine pg_get S Y ok_X5 4 (by decide) kf5_31 (v := .int x_40292) p_ad_2_0 rfl dX5_append_8 ?_
  refine lv_sipush (v := 300) hx hb dX5_append_11 (by decide) ?_
  refine lv_icmp_ge (tgt := 43) hx hb dX5_append_14 (by decide) (fun h => absurd h (bd_nle (show bn 300 300 (300 : Int32) from bn_k (by decide)) (bn_eq ex_40292 (bn_add (bn_eq ex_40285 (bn_add B_40276 (show bn 1 1 (1 : Int32) from bn_k (by decide)) (by decide))) (show bn 1 1 (1 : Int32) from bn_k (by decide)) (by decide))) (by decide))) (fun _ => ?_)
  refine lv_aload_n hx hb dX5_append_17 rfl (lv_at hl 1 rfl) ?_
  refine pg_get S Y ok_X5 0 (by decide) kf5_9 (v := .ref (ad 50 0)) p_ad_2_0 rfl dX5_append_18 ?_
  refine lv_aload_n hx hb dX5_append_21 rfl (lv_at hl 1 rfl) ?_
  refine pg_get S Y ok_X5 4 (by decide) kf5_31 (v := .int x_40292) p_ad_2_0 rfl dX5_append_22 ?_
  refine lv_iload_n hx hb dX5_append_25 rfl (lv_at hl 2 rfl) ?_
  refine lv_iload_n hx hb dX5_append_26 rfl (lv_at hl 0 rfl) ?_
  obtain ⟨x_40294, ex_40294⟩ : ∃ z : Int32, z = (i1.toUInt32 >>> ((8 : Int32).toUInt32 &&& Int32.toUInt32 31)).toInt32 := ⟨_, rfl⟩
  refine lv_iushr (v := x_40294) hx hb dX5_append_27 (ex_40294.symm) ?_
  refine lv_sipush (v := 255) hx hb dX5_append_28 (by decide) ?_
  refine lv_iand hx hb dX5_append_31 ?_
  refine lv_topi (fun x_40295 ex_40295 => ?_)
  refine pg_iast S Y p_ad_50_0 (vp_bn (bn_eq ex_40292 (bn_add (bn_eq ex_40285 (bn_add B_40276 (show bn 1 1 (1 : Int32) from bn_k (by decide)) (by decide))) (show bn 1 1 (1 : Int32) from bn_k (by decide)) (by decide))) (by decide)) dX5_append_32 (fun f_40297 H locs ef_40297 Y => ?_)
  obtain ⟨g_40296, eg_40296⟩ : ∃ z, z = upd (g_40289) (x_40292 : Int32).toNatClampNeg x_40295 := ⟨_, rfl⟩
  rw [← eg_40296] at ef_40297
  have p_ad_2_0 := p_ad_2_0.up ef_40297 (I.ne (k := 2) (j := 0) (k' := 50) (j' := 0) (by decide) (by decide) (Or.inl (by decide)))
  have p_ad_50_0 := p_ad_50_0.me ef_40297
  have o_40298 : (EQ g_40296) g_40296 := rfl
  have I := I.upS (sp' := spC ((rf, fz (pp ((nL + 1) + 1)) zC zR zK zP zV zW zF zQ, tz (EQ g_40296) tU tP tV, sc) : RS) fc tc w q) (k := 50) (j := 0) (by decide) ef_40297 (okE_a (g := g_40296) o_40298) tz50C
  refine lv_aload_n hx hb dX5_append_33 rfl (lv_at hl 1 rfl) ?_
  refine lv_dup hx hb dX5_append_34 rfl ?_
  refine pg_get S Y ok_X5 4 (by decide) kf5_31 (v := .int x_40292) p_ad_2_0 rfl dX5_append_35 ?_
  refine lv_iconst (v := 1) hx hb dX5_append_38 (by decide) ?_
  refine lv_iadd hx hb dX5_append_39 ?_
  refine lv_topi (fun x_40299 ex_40299 => ?_)
  refine pg_put S Y ok_X5 4 (by decide) kf5_31 rfl (fs' := [.ref (ad 50 0), .ref (ad 51 0), .ref (ad 52 0), .ref (ad 53 0), .int x_40299, .int v_40258, .int v_40260, .int v_40262, .int v_40264, .int v_40266, .int v_40268, v_40270, .int v_40272, .int v_40274]) (v := .int x_40299) p_ad_2_0 rfl rfl rfl (Nat.le_of_ble_eq_true rfl) dX5_append_40 (fun f_40300 H locs ef_40300 Y => ?_)
  have p_ad_50_0 := p_ad_50_0.up ef_40300 (I.ne (k := 50) (j := 0) (k' := 2) (j' := 0) (by decide) (by decide) (Or.inl (by decide)))
  have p_ad_2_0 := p_ad_2_0.me ef_40300
  have I := I.upS (sp' := spC ((rf, fz (pp (((nL + 1) + 1) + 1)) zC zR zK zP zV zW zF zQ, tz (EQ g_40296) tU tP tV, sc) : RS) fc tc w q) (k := 2) (j := 0) (by decide) ef_40300 (okE_o (okFs_c okV_r (okFs_c okV_r (okFs_c okV_r (okFs_c okV_r (okFs_c (okV_p (lim_mk (bn_w (bn_eq ex_40299 (bn_add (bn_eq ex_40292 (bn_add (bn_eq ex_40285 (bn_add B_40276 (show bn 1 1 (1 : Int32) from bn_k (by decide)) (by decide))) (show bn 1 1 (1 : Int32) from bn_k (by decide)) (by decide))) (show bn 1 1 (1 : Int32) from bn_k (by decide)) (by decide))) (by decide) : bn 0 300 x_40299) (la_add ex_40299 (la_add ex_40292 (la_add ex_40285 tv_40256 (show (1 : Int32).toInt = 1 from rfl) B_40276 (show bn 1 1 (1 : Int32) from bn_k (by decide)) (by decide)) (show (1 : Int32).toInt = 1 from rfl) (bn_eq ex_40285 (bn_add B_40276 (show bn 1 1 (1 : Int32) from bn_k (by decide)) (by decide))) (show bn 1 1 (1 : Int32) from bn_k (by decide)) (by decide)) (show (1 : Int32).toInt = 1 from rfl) (bn_eq ex_40292 (bn_add (bn_eq ex_40285 (bn_add B_40276 (show bn 1 1 (1 : Int32) from bn_k (by decide)) (by decide))) (show bn 1 1 (1 : Int32) from bn_k (by decide)) (by decide))) (show bn 1 1 (1 : Int32) from bn_k (by decide)) (by decide)))) (okFs_c (okV_p b_40259) (okFs_c (okV_p b_40261) (okFs_c (okV_p b_40263) (okFs_c (okV_p b_40265) (okFs_c (okV_p b_40267) (okFs_c (okV_p b_40269) (okFs_c b_40271 (okFs_c (okV_p b_40273) (okFs_c (okV_p b_40275) okFs_n))))))))))))))) rsC
  refine lv_iinc (v := 0) (lv' := [(2, .int 0), (0, .ref (ad 2 0)), (1, .int i1)]) hx hb dX5_append_43 hl (k := 0) rfl (by decide) (by decide) rfl (fun ls hl => ?_)
  refine lv_goto (tgt := 3) hx hb dX5_append_46 (by decide) ?_
  refine lv_iload_n hx hb dX5_append_3 rfl (lv_at hl 0 rfl) ?_
  refine lv_if_lt (tgt := 49) hx hb dX5_append_4 (by decide) (fun h => absurd h (by decide)) (fun _ => ?_)
  refine lv_aload_n hx hb dX5_append_7 rfl (lv_at hl 1 rfl) ?_
  refine pg_get S Y ok_X5 4 (by decide) kf5_31 (v := .int x_40299) p_ad_2_0 rfl dX5_append_8 ?_
  refine lv_sipush (v := 300) hx hb dX5_append_11 (by decide) ?_
  refine lv_icmp_ge (tgt := 43) hx hb dX5_append_14 (by decide) (fun h => absurd h (bd_nle (show bn 300 300 (300 : Int32) from bn_k (by decide)) (bn_eq ex_40299 (bn_add (bn_eq ex_40292 (bn_add (bn_eq ex_40285 (bn_add B_40276 (show bn 1 1 (1 : Int32) from bn_k (by decide)) (by decide))) (show bn 1 1 (1 : Int32) from bn_k (by decide)) (by decide))) (show bn 1 1 (1 : Int32) from bn_k (by decide)) (by decide))) (by decide))) (fun _ => ?_)
  refine lv_aload_n hx hb dX5_append_17 rfl (lv_at hl 1 rfl) ?_
  refine pg_get S Y ok_X5 0 (by decide) kf5_9 (v := .ref (ad 50 0)) p_ad_2_0 rfl dX5_append_18 ?_
  refine lv_aload_n hx hb dX5_append_21 rfl (lv_at hl 1 rfl) ?_
  refine pg_get S Y ok_X5 4 (by decide) kf5_31 (v := .int x_40299) p_ad_2_0 rfl dX5_append_22 ?_
  refine lv_iload_n hx hb dX5_append_25 rfl (lv_at hl 2 rfl) ?_
  refine lv_iload_n hx hb dX5_append_26 rfl (lv_at hl 0 rfl) ?_
  obtain ⟨x_40301, ex_40301⟩ : ∃ z : Int32, z = (i1.toUInt32 >>> ((0 : Int32).toUInt32 &&& Int32.toUInt32 31)).toInt32 := ⟨_, rfl⟩
  refine lv_iushr (v := x_40301) hx hb dX5_append_27 (ex_40301.symm) ?_
  refine lv_sipush (v := 255) hx hb dX5_append_28 (by decide) ?_
  refine lv_iand hx hb dX5_append_31 ?_
  refine lv_topi (fun x_40302 ex_40302 => ?_)
  refine pg_iast S Y p_ad_50_0 (vp_bn (bn_eq ex_40299 (bn_add (bn_eq ex_40292 (bn_add (bn_eq ex_40285 (bn_add B_40276 (show bn 1 1 (1 : Int32) from bn_k (by decide)) (by decide))) (show bn 1 1 (1 : Int32) from bn_k (by decide)) (by decide))) (show bn 1 1 (1 : Int32) from bn_k (by decide)) (by decide))) (by decide)) dX5_append_32 (fun f_40304 H locs ef_40304 Y => ?_)
  obtain ⟨g_40303, eg_40303⟩ : ∃ z, z = upd (g_40296) (x_40299 : Int32).toNatClampNeg x_40302 := ⟨_, rfl⟩
  rw [← eg_40303] at ef_40304
  have p_ad_2_0 := p_ad_2_0.up ef_40304 (I.ne (k := 2) (j := 0) (k' := 50) (j' := 0) (by decide) (by decide) (Or.inl (by decide)))
  have p_ad_50_0 := p_ad_50_0.me ef_40304
  have o_40305 : (EQ g_40303) g_40303 := rfl
  have I := I.upS (sp' := spC ((rf, fz (pp (((nL + 1) + 1) + 1)) zC zR zK zP zV zW zF zQ, tz (EQ g_40303) tU tP tV, sc) : RS) fc tc w q) (k := 50) (j := 0) (by decide) ef_40304 (okE_a (g := g_40303) o_40305) tz50C
  refine lv_aload_n hx hb dX5_append_33 rfl (lv_at hl 1 rfl) ?_
  refine lv_dup hx hb dX5_append_34 rfl ?_
  refine pg_get S Y ok_X5 4 (by decide) kf5_31 (v := .int x_40299) p_ad_2_0 rfl dX5_append_35 ?_
  refine lv_iconst (v := 1) hx hb dX5_append_38 (by decide) ?_
  refine lv_iadd hx hb dX5_append_39 ?_
  refine lv_topi (fun x_40306 ex_40306 => ?_)
  have B_40307 : bn 4 300 x_40306 := bn_w (bn_eq ex_40306 (bn_add (bn_eq ex_40299 (bn_add (bn_eq ex_40292 (bn_add (bn_eq ex_40285 (bn_add B_40276 (show bn 1 1 (1 : Int32) from bn_k (by decide)) (by decide))) (show bn 1 1 (1 : Int32) from bn_k (by decide)) (by decide))) (show bn 1 1 (1 : Int32) from bn_k (by decide)) (by decide))) (show bn 1 1 (1 : Int32) from bn_k (by decide)) (by decide))) (by decide)
  refine pg_put S Y ok_X5 4 (by decide) kf5_31 rfl (fs' := [.ref (ad 50 0), .ref (ad 51 0), .ref (ad 52 0), .ref (ad 53 0), .int x_40306, .int v_40258, .int v_40260, .int v_40262, .int v_40264, .int v_40266, .int v_40268, v_40270, .int v_40272, .int v_40274]) (v := .int x_40306) p_ad_2_0 rfl rfl rfl (Nat.le_of_ble_eq_true rfl) dX5_append_40 (fun f_40308 H locs ef_40308 Y => ?_)
  have p_ad_50_0 := p_ad_50_0.up ef_40308 (I.ne (k := 50) (j := 0) (k' := 2) (j' := 0) (by decide) (by decide) (Or.inl (by decide)))
  have p_ad_2_0 := p_ad_2_0.me ef_40308
  have I := I.upS (sp' := spC ((rf, fz (pp ((((nL + 1) + 1) + 1) + 1)) zC zR zK zP zV zW zF zQ, tz (EQ g_40303) tU tP tV, sc) : RS) fc tc w q) (k := 2) (j := 0) (by decide) ef_40308 (okE_o (okFs_c okV_r (okFs_c okV_r (okFs_c okV_r (okFs_c okV_r (okFs_c (okV_p (lim_mk (bn_w B_40307 (by decide) : bn 0 300 x_40306) (la_add ex_40306 (la_add ex_40299 (la_add ex_40292 (la_add ex_40285 tv_40256 (show (1 : Int32).toInt = 1 from rfl) B_40276 (show bn 1 1 (1 : Int32) from bn_k (by decide)) (by decide)) (show (1 : Int32).toInt = 1 from rfl) (bn_eq ex_40285 (bn_add B_40276 (show bn 1 1 (1 : Int32) from bn_k (by decide)) (by decide))) (show bn 1 1 (1 : Int32) from bn_k (by decide)) (by decide)) (show (1 : Int32).toInt = 1 from rfl) (bn_eq ex_40292 (bn_add (bn_eq ex_40285 (bn_add B_40276 (show bn 1 1 (1 : Int32) from bn_k (by decide)) (by decide))) (show bn 1 1 (1 : Int32) from bn_k (by decide)) (by decide))) (show bn 1 1 (1 : Int32) from bn_k (by decide)) (by decide)) (show (1 : Int32).toInt = 1 from rfl) (bn_eq ex_40299 (bn_add (bn_eq ex_40292 (bn_add (bn_eq ex_40285 (bn_add B_40276 (show bn 1 1 (1 : Int32) from bn_k (by decide)) (by decide))) (show bn 1 1 (1 : Int32) from bn_k (by decide)) (by decide))) (show bn 1 1 (1 : Int32) from bn_k (by decide)) (by decide))) (show bn 1 1 (1 : Int32) from bn_k (by decide)) (by decide)))) (okFs_c (okV_p b_40259) (okFs_c (okV_p b_40261) (okFs_c (okV_p b_40263) (okFs_c (okV_p b_40265) (okFs_c (okV_p b_40267) (okFs_c (okV_p b_40269) (okFs_c b_40271 (okFs_c (okV_p b_40273) (okFs_c (okV_p b_40275) okFs_n))))))))))))))) rsC
  refine lv_iinc (v := (-8)) (lv' := [(2, .int (-8)), (0, .ref (ad 2 0)), (1, .int i1)]) hx hb dX5_append_43 hl (k := 0) rfl (by decide) (by decide) rfl (fun ls hl => ?_)
  refine lv_goto (tgt := 3) hx hb dX5_append_46 (by decide) ?_
  refine lv_iload_n hx hb dX5_append_3 rfl (lv_at hl 0 rfl) ?_
  refine lv_if_lt (tgt := 49) hx hb dX5_append_4 (by decide) (fun _ => ?_) (fun h => absurd (by decide) h)
  exact prV (post := fun L1 f1 => SH (spC ((rf, fz (pp (nL + 4)) zC zR zK zP zV zW zF zQ, tz (EQ (ap4 bT nL.toNat i1)) tU tP tV, sc) : RS) fc tc w q) nnC G ad L1 f1) S Y (by decide) (by decide) hA1 (SHe I (by rw [show nL + 1 + 1 + 1 + 1 = nL + 4 from by omega, show g_40303 = ap4 bT nL.toNat i1 from (by rw [eg_40303, eg_40296, eg_40289, eg_40282, show g_40279 = bT from o_40281, show (v_40256 : Int32).toNatClampNeg = nL.toNat from (by have z9 := tv_40256; have z8 := hr.1; show v_40256.toInt.toNat = _; omega), show (x_40285 : Int32).toNatClampNeg = nL.toNat + 1 from (by have z9 := (la_add ex_40285 tv_40256 (show (1 : Int32).toInt = 1 from rfl) B_40276 (show bn 1 1 (1 : Int32) from bn_k (by decide)) (by decide)); have z8 := hr.1; show x_40285.toInt.toNat = _; omega), show (x_40292 : Int32).toNatClampNeg = nL.toNat + 2 from (by have z9 := (la_add ex_40292 (la_add ex_40285 tv_40256 (show (1 : Int32).toInt = 1 from rfl) B_40276 (show bn 1 1 (1 : Int32) from bn_k (by decide)) (by decide)) (show (1 : Int32).toInt = 1 from rfl) (bn_eq ex_40285 (bn_add B_40276 (show bn 1 1 (1 : Int32) from bn_k (by decide)) (by decide))) (show bn 1 1 (1 : Int32) from bn_k (by decide)) (by decide)); have z8 := hr.1; show x_40292.toInt.toNat = _; omega), show (x_40299 : Int32).toNatClampNeg = nL.toNat + 3 from (by have z9 := (la_add ex_40299 (la_add ex_40292 (la_add ex_40285 tv_40256 (show (1 : Int32).toInt = 1 from rfl) B_40276 (show bn 1 1 (1 : Int32) from bn_k (by decide)) (by decide)) (show (1 : Int32).toInt = 1 from rfl) (bn_eq ex_40285 (bn_add B_40276 (show bn 1 1 (1 : Int32) from bn_k (by decide)) (by decide))) (show bn 1 1 (1 : Int32) from bn_k (by decide)) (by decide)) (show (1 : Int32).toInt = 1 from rfl) (bn_eq ex_40292 (bn_add (bn_eq ex_40285 (bn_add B_40276 (show bn 1 1 (1 : Int32) from bn_k (by decide)) (by decide))) (show bn 1 1 (1 : Int32) from bn_k (by decide)) (by decide))) (show bn 1 1 (1 : Int32) from bn_k (by decide)) (by decide)); have z8 := hr.1; show x_40299.toInt.toNat = _; omega), ex_40278, ex_40277, ex_40288, ex_40287, ex_40295, ex_40294, ex_40302, ex_40301]; rfl)])) dX5_append_49
set_option maxHeartbeats 4000000 in
set_option maxRecDepth 100000 in
theorem x_X5_cutTo {l : Launch} {G : GG}  {L : List Nat} {f : HF} {ad : Nat → Nat → Nat} {zC : Int × Int} {zR : Int × Int} {zK : Int × Int} {zP : Int × Int} {zV : Int × Int} {zW : Int × Int} {zF : Int × Int} {zQ : Int × Int} {tT : (Nat → Int32) → Prop} {tU : (Nat → Int32) → Prop} {tP : (Nat → Int32) → Prop} {tV : (Nat → Int32) → Prop} {rf : FS} {sc : Nat → SG} {nL : Int} {fc : Int × Int} {tc w : Nat → Int × Int} {q : Nat → (Nat → Int32) → Prop} {i1 : Int32} (I : SH (spC ((rf, fz (pp nL) zC zR zK zP zV zW zF zQ, tz tT tU tP tV, sc) : RS) fc tc w q) nnC G ad L f) (hW : WBp w 8) (hT : WBp tc 4) (hQ : QIp q) : PMi l yX5_cutTo cX5_cutTo 2 .boolean 0 0 0 G [.ref (ad 2 0), .int i1] L f (fun r L1 f1 => (bn 0 1 r ∧ (r = 1 ∧ (0 ≤ i1.toInt ∧ i1.toInt ≤ nL) ∨ r = 0 ∧ ¬ (0 ≤ i1.toInt ∧ i1.toInt ≤ nL))) ∧ SH (spC ((rf, fz (pp (cuL nL i1.toInt)) zC zR zK zP zV zW zF zQ, tz tT tU tP tV, sc) : RS) fc tc w q) nnC G ad L1 f1) := by
  refine PMi.of (post := fun r L1 f1 => (bn 0 1 r ∧ (r = 1 ∧ (0 ≤ i1.toInt ∧ i1.toInt ≤ nL) ∨ r = 0 ∧ ¬ (0 ≤ i1.toInt ∧ i1.toInt ≤ nL))) ∧ SH (spC ((rf, fz (pp (cuL nL i1.toInt)) zC zR zK zP zV zW zF zQ, tz tT tU tP tV, sc) : RS) fc tc w q) nnC G ad L1 f1) (own := RX5) (by decide) rfl (Nat.le_of_ble_eq_true rfl) (fun sz p e s m args below meth c A ls hA1 hname S Y hl => ?_)
  have hx := S.hx
  have hb := S.hb
  have hl : lv_has ls 2 [(0, .ref (ad 2 0)), (1, .int i1)] := hl
  refine lv_iload_n hx hb dX5_cutTo_0 rfl (lv_at hl 1 rfl) ?_
  refine lv_if_lt (tgt := 12) hx hb dX5_cutTo_1 (by decide) (fun c_40363 => ?_) (fun c_40363 => ?_)
  · have B_40364 : bn (-2147483648) (-1) i1 := bn_w (bn_ltl c_40363 (bn_any i1) (show bn 0 0 (0 : Int32) from bn_k (by decide))) (by decide)
    refine lv_iconst (v := 0) hx hb dX5_cutTo_12 (by decide) ?_
    exact prI (post := fun r L1 f1 => (bn 0 1 r ∧ (r = 1 ∧ (0 ≤ i1.toInt ∧ i1.toInt ≤ nL) ∨ r = 0 ∧ ¬ (0 ≤ i1.toInt ∧ i1.toInt ≤ nL))) ∧ SH (spC ((rf, fz (pp (cuL nL i1.toInt)) zC zR zK zP zV zW zF zQ, tz tT tU tP tV, sc) : RS) fc tc w q) nnC G ad L1 f1) S Y rfl (by decide) (by decide) hA1 ⟨⟨bn_k (by decide), Or.inr ⟨rfl, (by have u1 := (show i1.toInt < 0 from by have z9 := c_40363; rw [Int32.lt_iff_toInt_lt] at z9; exact z9); omega)⟩⟩, (SHe I (by rw [show cuL nL i1.toInt = nL from if_neg (by have u1 := (show i1.toInt < 0 from by have z9 := c_40363; rw [Int32.lt_iff_toInt_lt] at z9; exact z9); omega)]))⟩ dX5_cutTo_13
  · have B_40365 : bn 0 2147483647 i1 := bn_w (bn_gel c_40363 (bn_any i1) (show bn 0 0 (0 : Int32) from bn_k (by decide))) (by decide)
    refine lv_iload_n hx hb dX5_cutTo_4 rfl (lv_at hl 1 rfl) ?_
    refine lv_aload_n hx hb dX5_cutTo_5 rfl (lv_at hl 0 rfl) ?_
    obtain ⟨v_40366, v_40368, v_40370, v_40372, v_40374, v_40376, v_40378, v_40380, v_40382, v_40384, p_ad_2_0, b_40367, b_40369, b_40371, b_40373, b_40375, b_40377, b_40379, b_40381, b_40383, b_40385⟩ := opnC_2 (j := 0) I (by decide)
    have p_ad_2_0 : pt L f (ad 2 0) (.inr (5, [.ref (ad 50 0), .ref (ad 51 0), .ref (ad 52 0), .ref (ad 53 0), .int v_40366, .int v_40368, .int v_40370, .int v_40372, .int v_40374, .int v_40376, .int v_40378, v_40380, .int v_40382, .int v_40384])) := p_ad_2_0
    have tv_40366 : v_40366.toInt = nL := lim_eq b_40367
    refine pg_get S Y ok_X5 4 (by decide) kf5_31 (v := .int v_40366) p_ad_2_0 rfl dX5_cutTo_6 ?_
    refine lv_icmp_le (tgt := 14) hx hb dX5_cutTo_9 (by decide) (fun c_40386 => ?_) (fun c_40386 => ?_)
    · have B_40387 : bn 0 300 i1 := bn_w (bn_lel c_40386 B_40365 (bn_w (a' := 0) (b' := 300) b_40367 (lim_b _ _ _))) (by decide)
      refine lv_aload_n hx hb dX5_cutTo_14 rfl (lv_at hl 0 rfl) ?_
      refine lv_iload_n hx hb dX5_cutTo_15 rfl (lv_at hl 1 rfl) ?_
      refine pg_put S Y ok_X5 4 (by decide) kf5_31 rfl (fs' := [.ref (ad 50 0), .ref (ad 51 0), .ref (ad 52 0), .ref (ad 53 0), .int i1, .int v_40368, .int v_40370, .int v_40372, .int v_40374, .int v_40376, .int v_40378, v_40380, .int v_40382, .int v_40384]) (v := .int i1) p_ad_2_0 rfl rfl rfl (Nat.le_of_ble_eq_true rfl) dX5_cutTo_16 (fun f_40389 H locs ef_40389 Y => ?_)
      have p_ad_2_0 := p_ad_2_0.me ef_40389
      have I := I.upS (sp' := spC ((rf, fz (pp i1.toInt) zC zR zK zP zV zW zF zQ, tz tT tU tP tV, sc) : RS) fc tc w q) (k := 2) (j := 0) (by decide) ef_40389 (okE_o (okFs_c okV_r (okFs_c okV_r (okFs_c okV_r (okFs_c okV_r (okFs_c (okV_p (lim_mk (bn_w B_40387 (by decide) : bn 0 300 i1) (rfl : i1.toInt = i1.toInt))) (okFs_c (okV_p b_40369) (okFs_c (okV_p b_40371) (okFs_c (okV_p b_40373) (okFs_c (okV_p b_40375) (okFs_c (okV_p b_40377) (okFs_c (okV_p b_40379) (okFs_c b_40381 (okFs_c (okV_p b_40383) (okFs_c (okV_p b_40385) okFs_n))))))))))))))) rsC
      refine lv_iconst (v := 1) hx hb dX5_cutTo_19 (by decide) ?_
      exact prI (post := fun r L1 f1 => (bn 0 1 r ∧ (r = 1 ∧ (0 ≤ i1.toInt ∧ i1.toInt ≤ nL) ∨ r = 0 ∧ ¬ (0 ≤ i1.toInt ∧ i1.toInt ≤ nL))) ∧ SH (spC ((rf, fz (pp (cuL nL i1.toInt)) zC zR zK zP zV zW zF zQ, tz tT tU tP tV, sc) : RS) fc tc w q) nnC G ad L1 f1) S Y rfl (by decide) (by decide) hA1 ⟨⟨bn_k (by decide), Or.inl ⟨rfl, (by have u1 := tv_40366; have u2 := (show 0 ≤ i1.toInt from by have z9 := (Int32.not_lt.mp c_40363); rw [Int32.le_iff_toInt_le] at z9; exact z9); have u3 := (show i1.toInt ≤ v_40366.toInt from by have z9 := c_40386; rw [Int32.le_iff_toInt_le] at z9; exact z9); omega)⟩⟩, (SHe I (by rw [show cuL nL i1.toInt = i1.toInt from if_pos (by have u1 := tv_40366; have u2 := (show 0 ≤ i1.toInt from by have z9 := (Int32.not_lt.mp c_40363); rw [Int32.le_iff_toInt_le] at z9; exact z9); have u3 := (show i1.toInt ≤ v_40366.toInt from by have z9 := c_40386; rw [Int32.le_iff_toInt_le] at z9; exact z9); omega)]))⟩ dX5_cutTo_20
    · have B_40388 : bn 1 2147483647 i1 := bn_w (bn_gtl c_40386 B_40365 (bn_w (a' := 0) (b' := 300) b_40367 (lim_b _ _ _))) (by decide)
      refine lv_iconst (v := 0) hx hb dX5_cutTo_12 (by decide) ?_
      exact prI (post := fun r L1 f1 => (bn 0 1 r ∧ (r = 1 ∧ (0 ≤ i1.toInt ∧ i1.toInt ≤ nL) ∨ r = 0 ∧ ¬ (0 ≤ i1.toInt ∧ i1.toInt ≤ nL))) ∧ SH (spC ((rf, fz (pp (cuL nL i1.toInt)) zC zR zK zP zV zW zF zQ, tz tT tU tP tV, sc) : RS) fc tc w q) nnC G ad L1 f1) S Y rfl (by decide) (by decide) hA1 ⟨⟨bn_k (by decide), Or.inr ⟨rfl, (by have u1 := tv_40366; have u2 := (show 0 ≤ i1.toInt from by have z9 := (Int32.not_lt.mp c_40363); rw [Int32.le_iff_toInt_le] at z9; exact z9); have u3 := (show v_40366.toInt < i1.toInt from by have z9 := (Int32.not_le.mp c_40386); rw [Int32.lt_iff_toInt_lt] at z9; exact z9); omega)⟩⟩, (SHe I (by rw [show cuL nL i1.toInt = nL from if_neg (by have u1 := tv_40366; have u2 := (show 0 ≤ i1.toInt from by have z9 := (Int32.not_lt.mp c_40363); rw [Int32.le_iff_toInt_le] at z9; exact z9); have u3 := (show v_40366.toInt < i1.toInt from by have z9 := (Int32.not_le.mp c_40386); rw [Int32.lt_iff_toInt_lt] at z9; exact z9); omega)]))⟩ dX5_cutTo_13
set_option maxHeartbeats 4000000 in
set_option maxRecDepth 100000 in
theorem x_X5_byteAt {l : Launch} {G : GG}  {L : List Nat} {f : HF} {ad : Nat → Nat → Nat} {zC : Int × Int} {zR : Int × Int} {zK : Int × Int} {zP : Int × Int} {zV : Int × Int} {zW : Int × Int} {zF : Int × Int} {zQ : Int × Int} {tU : (Nat → Int32) → Prop} {tP : (Nat → Int32) → Prop} {tV : (Nat → Int32) → Prop} {rf : FS} {sc : Nat → SG} {nL : Int} {bT : Nat → Int32} {fc : Int × Int} {tc w : Nat → Int × Int} {q : Nat → (Nat → Int32) → Prop} {i1 : Int32} (I : SH (spC ((rf, fz (pp nL) zC zR zK zP zV zW zF zQ, tz (EQ bT) tU tP tV, sc) : RS) fc tc w q) nnC G ad L f) (hW : WBp w 8) (hT : WBp tc 4) (hQ : QIp q) : PMp l yX5_byteAt cX5_byteAt 2 .int 0 0 0 G [.ref (ad 2 0), .int i1] L f (fun r => (r = byA bT nL i1)) := by
  refine PMi.of (post := fun r L1 f1 => ((r = byA bT nL i1)) ∧ L1 = L ∧ f1 = f) (own := RX5) (by decide) rfl (Nat.le_of_ble_eq_true rfl) (fun sz p e s m args below meth c A ls hA1 hname S Y hl => ?_)
  have hx := S.hx
  have hb := S.hb
  have hl : lv_has ls 2 [(0, .ref (ad 2 0)), (1, .int i1)] := hl
  refine lv_iload_n hx hb dX5_byteAt_0 rfl (lv_at hl 1 rfl) ?_
  refine lv_if_lt (tgt := 21) hx hb dX5_byteAt_1 (by decide) (fun c_40450 => ?_) (fun c_40450 => ?_)
  · have B_40451 : bn (-2147483648) (-1) i1 := bn_w (bn_ltl c_40450 (bn_any i1) (show bn 0 0 (0 : Int32) from bn_k (by decide))) (by decide)
    refine lv_iconst (v := (-1)) hx hb dX5_byteAt_21 (by decide) ?_
    exact prI (post := fun r L1 f1 => ((r = byA bT nL i1)) ∧ L1 = L ∧ f1 = f) S Y rfl (by decide) (by decide) hA1 ⟨if_neg (by have u1 := (show i1.toInt < 0 from by have z9 := c_40450; rw [Int32.lt_iff_toInt_lt] at z9; exact z9); omega), rfl, rfl⟩ dX5_byteAt_22
  · have B_40452 : bn 0 2147483647 i1 := bn_w (bn_gel c_40450 (bn_any i1) (show bn 0 0 (0 : Int32) from bn_k (by decide))) (by decide)
    refine lv_iload_n hx hb dX5_byteAt_4 rfl (lv_at hl 1 rfl) ?_
    refine lv_aload_n hx hb dX5_byteAt_5 rfl (lv_at hl 0 rfl) ?_
    obtain ⟨v_40453, v_40455, v_40457, v_40459, v_40461, v_40463, v_40465, v_40467, v_40469, v_40471, p_ad_2_0, b_40454, b_40456, b_40458, b_40460, b_40462, b_40464, b_40466, b_40468, b_40470, b_40472⟩ := opnC_2 (j := 0) I (by decide)
    have p_ad_2_0 : pt L f (ad 2 0) (.inr (5, [.ref (ad 50 0), .ref (ad 51 0), .ref (ad 52 0), .ref (ad 53 0), .int v_40453, .int v_40455, .int v_40457, .int v_40459, .int v_40461, .int v_40463, .int v_40465, v_40467, .int v_40469, .int v_40471])) := p_ad_2_0
    have tv_40453 : v_40453.toInt = nL := lim_eq b_40454
    refine pg_get S Y ok_X5 4 (by decide) kf5_31 (v := .int v_40453) p_ad_2_0 rfl dX5_byteAt_6 ?_
    refine lv_icmp_ge (tgt := 21) hx hb dX5_byteAt_9 (by decide) (fun c_40473 => ?_) (fun c_40473 => ?_)
    · refine lv_iconst (v := (-1)) hx hb dX5_byteAt_21 (by decide) ?_
      exact prI (post := fun r L1 f1 => ((r = byA bT nL i1)) ∧ L1 = L ∧ f1 = f) S Y rfl (by decide) (by decide) hA1 ⟨if_neg (by have u1 := tv_40453; have u2 := (show 0 ≤ i1.toInt from by have z9 := (Int32.not_lt.mp c_40450); rw [Int32.le_iff_toInt_le] at z9; exact z9); have u3 := (show v_40453.toInt ≤ i1.toInt from by have z9 := c_40473; rw [Int32.le_iff_toInt_le] at z9; exact z9); omega), rfl, rfl⟩ dX5_byteAt_22
    · have B_40474 : bn 1 300 v_40453 := bn_w (bn_gtl c_40473 (bn_w (a' := 0) (b' := 300) b_40454 (lim_b _ _ _)) B_40452) (by decide)
      have B_40475 : bn 0 299 i1 := bn_w (bn_gtr c_40473 (bn_w (a' := 0) (b' := 300) b_40454 (lim_b _ _ _)) B_40452) (by decide)
      refine lv_aload_n hx hb dX5_byteAt_12 rfl (lv_at hl 0 rfl) ?_
      refine pg_get S Y ok_X5 0 (by decide) kf5_9 (v := .ref (ad 50 0)) p_ad_2_0 rfl dX5_byteAt_13 ?_
      refine lv_iload_n hx hb dX5_byteAt_16 rfl (lv_at hl 1 rfl) ?_
      obtain ⟨g_40476, p_ad_50_0, o_40477⟩ := I.opi (k := 50) (j := 0) (by decide) rfl
      have p_ad_50_0 : pt L f (ad 50 0) (.inl (G.2 0, 300, .inl g_40476)) := p_ad_50_0
      have o_40478 : (EQ bT) g_40476 := o_40477
      obtain ⟨v_40479, ev_40479⟩ : ∃ z, z = g_40476 (i1 : Int32).toNatClampNeg := ⟨_, rfl⟩
      refine pg_iald S Y (v := v_40479) p_ad_50_0 (vp_bn B_40475 (by decide)) ev_40479.symm dX5_byteAt_17 ?_
      refine lv_goto (tgt := 22) hx hb dX5_byteAt_18 (by decide) ?_
      exact prI (post := fun r L1 f1 => ((r = byA bT nL i1)) ∧ L1 = L ∧ f1 = f) S Y rfl (by decide) (by decide) hA1 ⟨((show v_40479 = bT i1.toInt.toNat from by rw [ev_40479, show g_40476 = bT from o_40478]; rfl).trans (if_pos (by have u1 := tv_40453; have u2 := (show 0 ≤ i1.toInt from by have z9 := (Int32.not_lt.mp c_40450); rw [Int32.le_iff_toInt_le] at z9; exact z9); have u3 := (show i1.toInt < v_40453.toInt from by have z9 := (Int32.not_le.mp c_40473); rw [Int32.lt_iff_toInt_lt] at z9; exact z9); omega)).symm), rfl, rfl⟩ dX5_byteAt_22
set_option maxHeartbeats 4000000 in
set_option maxRecDepth 100000 in
theorem x_X5_isLetter {l : Launch} {G : GG}  {L : List Nat} {f : HF}  {i1 : Int32}  : PMp l yX5_isLetter cX5_isLetter 1 .boolean 0 0 0 G [.int i1] L f (fun r => (bn 0 1 r ∧ (r = 1 ∧ isLt i1.toInt ∨ r = 0 ∧ ¬ isLt i1.toInt))) := by
  refine PMi.of (post := fun r L1 f1 => ((bn 0 1 r ∧ (r = 1 ∧ isLt i1.toInt ∨ r = 0 ∧ ¬ isLt i1.toInt))) ∧ L1 = L ∧ f1 = f) (own := RX5) (by decide) rfl (Nat.le_of_ble_eq_true rfl) (fun sz p e s m args below meth c A ls hA1 hname S Y hl => ?_)
  have hx := S.hx
  have hb := S.hb
  have hl : lv_has ls 1 [(0, .int i1)] := hl
  refine lv_iload_n hx hb dX5_isLetter_0 rfl (lv_at hl 0 rfl) ?_
  refine lv_bipush (v := 97) hx hb dX5_isLetter_1 (by decide) ?_
  refine lv_icmp_lt (tgt := 12) hx hb dX5_isLetter_3 (by decide) (fun c_40504 => ?_) (fun c_40504 => ?_)
  · have B_40505 : bn (-2147483648) 96 i1 := bn_w (bn_ltl c_40504 (bn_any i1) (show bn 97 97 (97 : Int32) from bn_k (by decide))) (by decide)
    refine lv_iload_n hx hb dX5_isLetter_12 rfl (lv_at hl 0 rfl) ?_
    refine lv_bipush (v := 65) hx hb dX5_isLetter_13 (by decide) ?_
    refine lv_icmp_lt (tgt := 28) hx hb dX5_isLetter_15 (by decide) (fun c_40507 => ?_) (fun c_40507 => ?_)
    · have B_40508 : bn (-2147483648) 64 i1 := bn_w (bn_ltl c_40507 B_40505 (show bn 65 65 (65 : Int32) from bn_k (by decide))) (by decide)
      refine lv_iconst (v := 0) hx hb dX5_isLetter_28 (by decide) ?_
      exact prI (post := fun r L1 f1 => ((bn 0 1 r ∧ (r = 1 ∧ isLt i1.toInt ∨ r = 0 ∧ ¬ isLt i1.toInt))) ∧ L1 = L ∧ f1 = f) S Y rfl (by decide) (by decide) hA1 ⟨⟨bn_k (by decide), Or.inr ⟨rfl, (by have u1 := (show i1.toInt < 97 from by have z9 := c_40504; rw [Int32.lt_iff_toInt_lt] at z9; exact z9); have u2 := (show i1.toInt < 65 from by have z9 := c_40507; rw [Int32.lt_iff_toInt_lt] at z9; exact z9); unfold isLt; omega)⟩⟩, rfl, rfl⟩ dX5_isLetter_29
    · have B_40509 : bn 65 96 i1 := bn_w (bn_gel c_40507 B_40505 (show bn 65 65 (65 : Int32) from bn_k (by decide))) (by decide)
      refine lv_iload_n hx hb dX5_isLetter_18 rfl (lv_at hl 0 rfl) ?_
      refine lv_bipush (v := 90) hx hb dX5_isLetter_19 (by decide) ?_
      refine lv_icmp_gt (tgt := 28) hx hb dX5_isLetter_21 (by decide) (fun c_40510 => ?_) (fun c_40510 => ?_)
      · have B_40511 : bn 91 96 i1 := bn_w (bn_ltr c_40510 (show bn 90 90 (90 : Int32) from bn_k (by decide)) B_40509) (by decide)
        refine lv_iconst (v := 0) hx hb dX5_isLetter_28 (by decide) ?_
        exact prI (post := fun r L1 f1 => ((bn 0 1 r ∧ (r = 1 ∧ isLt i1.toInt ∨ r = 0 ∧ ¬ isLt i1.toInt))) ∧ L1 = L ∧ f1 = f) S Y rfl (by decide) (by decide) hA1 ⟨⟨bn_k (by decide), Or.inr ⟨rfl, (by have u1 := (show i1.toInt < 97 from by have z9 := c_40504; rw [Int32.lt_iff_toInt_lt] at z9; exact z9); have u2 := (show 65 ≤ i1.toInt from by have z9 := (Int32.not_lt.mp c_40507); rw [Int32.le_iff_toInt_le] at z9; exact z9); have u3 := (show 90 < i1.toInt from by have z9 := c_40510; rw [Int32.lt_iff_toInt_lt] at z9; exact z9); unfold isLt; omega)⟩⟩, rfl, rfl⟩ dX5_isLetter_29
      · have B_40512 : bn 65 90 i1 := bn_w (bn_ger c_40510 (show bn 90 90 (90 : Int32) from bn_k (by decide)) B_40509) (by decide)
        refine lv_iconst (v := 1) hx hb dX5_isLetter_24 (by decide) ?_
        refine lv_goto (tgt := 29) hx hb dX5_isLetter_25 (by decide) ?_
        exact prI (post := fun r L1 f1 => ((bn 0 1 r ∧ (r = 1 ∧ isLt i1.toInt ∨ r = 0 ∧ ¬ isLt i1.toInt))) ∧ L1 = L ∧ f1 = f) S Y rfl (by decide) (by decide) hA1 ⟨⟨bn_k (by decide), Or.inl ⟨rfl, (by have u1 := (show i1.toInt < 97 from by have z9 := c_40504; rw [Int32.lt_iff_toInt_lt] at z9; exact z9); have u2 := (show 65 ≤ i1.toInt from by have z9 := (Int32.not_lt.mp c_40507); rw [Int32.le_iff_toInt_le] at z9; exact z9); have u3 := (show i1.toInt ≤ 90 from by have z9 := (Int32.not_lt.mp c_40510); rw [Int32.le_iff_toInt_le] at z9; exact z9); unfold isLt; omega)⟩⟩, rfl, rfl⟩ dX5_isLetter_29
  · have B_40506 : bn 97 2147483647 i1 := bn_w (bn_gel c_40504 (bn_any i1) (show bn 97 97 (97 : Int32) from bn_k (by decide))) (by decide)
    refine lv_iload_n hx hb dX5_isLetter_6 rfl (lv_at hl 0 rfl) ?_
    refine lv_bipush (v := 122) hx hb dX5_isLetter_7 (by decide) ?_
    refine lv_icmp_le (tgt := 24) hx hb dX5_isLetter_9 (by decide) (fun c_40513 => ?_) (fun c_40513 => ?_)
    · have B_40514 : bn 97 122 i1 := bn_w (bn_lel c_40513 B_40506 (show bn 122 122 (122 : Int32) from bn_k (by decide))) (by decide)
      refine lv_iconst (v := 1) hx hb dX5_isLetter_24 (by decide) ?_
      refine lv_goto (tgt := 29) hx hb dX5_isLetter_25 (by decide) ?_
      exact prI (post := fun r L1 f1 => ((bn 0 1 r ∧ (r = 1 ∧ isLt i1.toInt ∨ r = 0 ∧ ¬ isLt i1.toInt))) ∧ L1 = L ∧ f1 = f) S Y rfl (by decide) (by decide) hA1 ⟨⟨bn_k (by decide), Or.inl ⟨rfl, (by have u1 := (show 97 ≤ i1.toInt from by have z9 := (Int32.not_lt.mp c_40504); rw [Int32.le_iff_toInt_le] at z9; exact z9); have u2 := (show i1.toInt ≤ 122 from by have z9 := c_40513; rw [Int32.le_iff_toInt_le] at z9; exact z9); unfold isLt; omega)⟩⟩, rfl, rfl⟩ dX5_isLetter_29
    · have B_40515 : bn 123 2147483647 i1 := bn_w (bn_gtl c_40513 B_40506 (show bn 122 122 (122 : Int32) from bn_k (by decide))) (by decide)
      refine lv_iload_n hx hb dX5_isLetter_12 rfl (lv_at hl 0 rfl) ?_
      refine lv_bipush (v := 65) hx hb dX5_isLetter_13 (by decide) ?_
      refine lv_icmp_lt (tgt := 28) hx hb dX5_isLetter_15 (by decide) (fun h => absurd h (bd_nlt B_40515 (show bn 65 65 (65 : Int32) from bn_k (by decide)) (by decide))) (fun _ => ?_)
      refine lv_iload_n hx hb dX5_isLetter_18 rfl (lv_at hl 0 rfl) ?_
      refine lv_bipush (v := 90) hx hb dX5_isLetter_19 (by decide) ?_
      refine lv_icmp_gt (tgt := 28) hx hb dX5_isLetter_21 (by decide) (fun _ => ?_) (fun h => absurd (bd_lt (show bn 90 90 (90 : Int32) from bn_k (by decide)) B_40515 (by decide)) h)
      refine lv_iconst (v := 0) hx hb dX5_isLetter_28 (by decide) ?_
      exact prI (post := fun r L1 f1 => ((bn 0 1 r ∧ (r = 1 ∧ isLt i1.toInt ∨ r = 0 ∧ ¬ isLt i1.toInt))) ∧ L1 = L ∧ f1 = f) S Y rfl (by decide) (by decide) hA1 ⟨⟨bn_k (by decide), Or.inr ⟨rfl, (by have u1 := (show 97 ≤ i1.toInt from by have z9 := (Int32.not_lt.mp c_40504); rw [Int32.le_iff_toInt_le] at z9; exact z9); have u2 := (show 122 < i1.toInt from by have z9 := (Int32.not_le.mp c_40513); rw [Int32.lt_iff_toInt_lt] at z9; exact z9); unfold isLt; omega)⟩⟩, rfl, rfl⟩ dX5_isLetter_29
set_option maxHeartbeats 4000000 in
set_option maxRecDepth 100000 in
theorem x_X5_isDigit {l : Launch} {G : GG}  {L : List Nat} {f : HF}  {i1 : Int32}  : PMp l yX5_isDigit cX5_isDigit 1 .boolean 0 0 0 G [.int i1] L f (fun r => (bn 0 1 r ∧ (r = 1 ∧ isDg i1.toInt ∨ r = 0 ∧ ¬ isDg i1.toInt))) := by
  refine PMi.of (post := fun r L1 f1 => ((bn 0 1 r ∧ (r = 1 ∧ isDg i1.toInt ∨ r = 0 ∧ ¬ isDg i1.toInt))) ∧ L1 = L ∧ f1 = f) (own := RX5) (by decide) rfl (Nat.le_of_ble_eq_true rfl) (fun sz p e s m args below meth c A ls hA1 hname S Y hl => ?_)
  have hx := S.hx
  have hb := S.hb
  have hl : lv_has ls 1 [(0, .int i1)] := hl
  refine lv_iload_n hx hb dX5_isDigit_0 rfl (lv_at hl 0 rfl) ?_
  refine lv_bipush (v := 48) hx hb dX5_isDigit_1 (by decide) ?_
  refine lv_icmp_lt (tgt := 16) hx hb dX5_isDigit_3 (by decide) (fun c_40528 => ?_) (fun c_40528 => ?_)
  · have B_40529 : bn (-2147483648) 47 i1 := bn_w (bn_ltl c_40528 (bn_any i1) (show bn 48 48 (48 : Int32) from bn_k (by decide))) (by decide)
    refine lv_iconst (v := 0) hx hb dX5_isDigit_16 (by decide) ?_
    exact prI (post := fun r L1 f1 => ((bn 0 1 r ∧ (r = 1 ∧ isDg i1.toInt ∨ r = 0 ∧ ¬ isDg i1.toInt))) ∧ L1 = L ∧ f1 = f) S Y rfl (by decide) (by decide) hA1 ⟨⟨bn_k (by decide), Or.inr ⟨rfl, (by have u1 := (show i1.toInt < 48 from by have z9 := c_40528; rw [Int32.lt_iff_toInt_lt] at z9; exact z9); unfold isDg; omega)⟩⟩, rfl, rfl⟩ dX5_isDigit_17
  · have B_40530 : bn 48 2147483647 i1 := bn_w (bn_gel c_40528 (bn_any i1) (show bn 48 48 (48 : Int32) from bn_k (by decide))) (by decide)
    refine lv_iload_n hx hb dX5_isDigit_6 rfl (lv_at hl 0 rfl) ?_
    refine lv_bipush (v := 57) hx hb dX5_isDigit_7 (by decide) ?_
    refine lv_icmp_gt (tgt := 16) hx hb dX5_isDigit_9 (by decide) (fun c_40531 => ?_) (fun c_40531 => ?_)
    · have B_40532 : bn 58 2147483647 i1 := bn_w (bn_ltr c_40531 (show bn 57 57 (57 : Int32) from bn_k (by decide)) B_40530) (by decide)
      refine lv_iconst (v := 0) hx hb dX5_isDigit_16 (by decide) ?_
      exact prI (post := fun r L1 f1 => ((bn 0 1 r ∧ (r = 1 ∧ isDg i1.toInt ∨ r = 0 ∧ ¬ isDg i1.toInt))) ∧ L1 = L ∧ f1 = f) S Y rfl (by decide) (by decide) hA1 ⟨⟨bn_k (by decide), Or.inr ⟨rfl, (by have u1 := (show 48 ≤ i1.toInt from by have z9 := (Int32.not_lt.mp c_40528); rw [Int32.le_iff_toInt_le] at z9; exact z9); have u2 := (show 57 < i1.toInt from by have z9 := c_40531; rw [Int32.lt_iff_toInt_lt] at z9; exact z9); unfold isDg; omega)⟩⟩, rfl, rfl⟩ dX5_isDigit_17
    · have B_40533 : bn 48 57 i1 := bn_w (bn_ger c_40531 (show bn 57 57 (57 : Int32) from bn_k (by decide)) B_40530) (by decide)
      refine lv_iconst (v := 1) hx hb dX5_isDigit_12 (by decide) ?_
      refine lv_goto (tgt := 17) hx hb dX5_isDigit_13 (by decide) ?_
      exact prI (post := fun r L1 f1 => ((bn 0 1 r ∧ (r = 1 ∧ isDg i1.toInt ∨ r = 0 ∧ ¬ isDg i1.toInt))) ∧ L1 = L ∧ f1 = f) S Y rfl (by decide) (by decide) hA1 ⟨⟨bn_k (by decide), Or.inl ⟨rfl, (by have u1 := (show 48 ≤ i1.toInt from by have z9 := (Int32.not_lt.mp c_40528); rw [Int32.le_iff_toInt_le] at z9; exact z9); have u2 := (show i1.toInt ≤ 57 from by have z9 := (Int32.not_lt.mp c_40531); rw [Int32.le_iff_toInt_le] at z9; exact z9); unfold isDg; omega)⟩⟩, rfl, rfl⟩ dX5_isDigit_17
set_option maxHeartbeats 4000000 in
set_option maxRecDepth 100000 in
theorem x_X5_step {l : Launch} {G : GG}  {L : List Nat} {f : HF} {ad : Nat → Nat → Nat} {zK : Int × Int} {zP : Int × Int} {zV : Int × Int} {zW : Int × Int} {zF : Int × Int} {zQ : Int × Int} {tT : (Nat → Int32) → Prop} {rf : FS} {sc : Nat → SG} {nL : Int} {kN : Nat} {iT : Nat} {kK : Nat → Int} {kP : Nat → Int} {kV : Nat → Int} {fc : Int × Int} {tc w : Nat → Int × Int} {q : Nat → (Nat → Int32) → Prop} (I : SH (spC ((rf, fz (pp nL) (pp (kN : Int)) (pp (iT : Int)) zK zP zV zW zF zQ, tz tT (RW kN kK) (RW kN kP) (RW kN kV), sc) : RS) fc tc w q) nnC G ad L f) (hW : WBp w 8) (hT : WBp tc 4) (hQ : QIp q) (hN : RDH kK kN) (hi : iT < kN) : PMv l yX5_step cX5_step 2 1 0 0 G [.ref (ad 2 0)] L f (fun L1 f1 => SH (spC ((rf, fz (pp nL) (pp (kN : Int)) (pp ((iT + 1 : Nat) : Int)) (pp (kK iT)) (pp (kP iT)) (pp (kV iT)) zW zF zQ, tz tT (RW kN kK) (RW kN kP) (RW kN kV), sc) : RS) fc tc w q) nnC G ad L1 f1) := by
  refine PMv.of (post := fun L1 f1 => SH (spC ((rf, fz (pp nL) (pp (kN : Int)) (pp ((iT + 1 : Nat) : Int)) (pp (kK iT)) (pp (kP iT)) (pp (kV iT)) zW zF zQ, tz tT (RW kN kK) (RW kN kP) (RW kN kV), sc) : RS) fc tc w q) nnC G ad L1 f1) (own := RX5) (by decide) rfl (Nat.le_of_ble_eq_true rfl) (fun sz p e s m args below meth c A ls hA1 hname S Y hl => ?_)
  have hx := S.hx
  have hb := S.hb
  have hl : lv_has ls 2 [(0, .ref (ad 2 0))] := hl
  refine lv_aload_n hx hb dX5_step_0 rfl (lv_at hl 0 rfl) ?_
  obtain ⟨v_40618, v_40620, v_40622, v_40624, v_40626, v_40628, v_40630, v_40632, v_40634, v_40636, p_ad_2_0, b_40619, b_40621, b_40623, b_40625, b_40627, b_40629, b_40631, b_40633, b_40635, b_40637⟩ := opnC_2 (j := 0) I (by decide)
  have p_ad_2_0 : pt L f (ad 2 0) (.inr (5, [.ref (ad 50 0), .ref (ad 51 0), .ref (ad 52 0), .ref (ad 53 0), .int v_40618, .int v_40620, .int v_40622, .int v_40624, .int v_40626, .int v_40628, .int v_40630, v_40632, .int v_40634, .int v_40636])) := p_ad_2_0
  have tv_40618 : v_40618.toInt = nL := lim_eq b_40619
  have tv_40620 : v_40620.toInt = (kN : Int) := lim_eq b_40621
  have B_40638 : bn 1 301 v_40620 := ⟨by have h9 := tv_40620; have h8 := hN.1; omega, by have h9 := tv_40620; have h8 := hN.2.1; omega⟩
  have tv_40622 : v_40622.toInt = (iT : Int) := lim_eq b_40623
  have B_40639 : bn 0 300 v_40622 := ⟨by have h9 := tv_40622; omega, by have h9 := tv_40622; have h8 := hN.2.1; have h7 := hi; omega⟩
  refine pg_get S Y ok_X5 6 (by decide) kf5_46 (v := .int v_40622) p_ad_2_0 rfl dX5_step_1 ?_
  refine lv_aload_n hx hb dX5_step_4 rfl (lv_at hl 0 rfl) ?_
  refine pg_get S Y ok_X5 5 (by decide) kf5_62 (v := .int v_40620) p_ad_2_0 rfl dX5_step_5 ?_
  refine lv_iconst (v := 1) hx hb dX5_step_8 (by decide) ?_
  refine lv_isub hx hb dX5_step_9 ?_
  refine lv_topi (fun x_40640 ex_40640 => ?_)
  refine va_mmin hx hb (S.ml.trans hl.1.symm) S.ow (S.w km5_108) (S.w kMs_min) (S.w kMi) (S.w kMc_min) (Nat.le_of_ble_eq_true rfl) (Nat.le_of_ble_eq_true rfl) (by decide) (by decide) dX5_step_10 ?_
  refine lv_topi (fun x_40641 ex_40641 => ?_)
  have tx_40641 : x_40641.toInt = (iT : Int) := min_i ex_40641 tv_40622 (la_sub ex_40640 tv_40620 (show (1 : Int32).toInt = 1 from rfl) B_40638 (show bn 1 1 (1 : Int32) from bn_k (by decide)) (by decide)) (by have h9 := hi; omega)
  have B_40642 : bn 0 300 x_40641 := bn_to tx_40641 (by have h8 := hN.2.1; have h9 := hi; omega)
  refine lv_istore_n (lv' := [(1, .int x_40641), (0, .ref (ad 2 0))]) hx hb dX5_step_13 rfl hl (by decide) rfl (fun ls hl => ?_)
  refine lv_iload_n hx hb dX5_step_14 rfl (lv_at hl 0 rfl) ?_
  refine lv_if_lt (tgt := 67) hx hb dX5_step_15 (by decide) (fun h => absurd h (bd_nlt B_40642 (show bn 0 0 (0 : Int32) from bn_k (by decide)) (by decide))) (fun _ => ?_)
  refine lv_iload_n hx hb dX5_step_18 rfl (lv_at hl 0 rfl) ?_
  refine lv_aload_n hx hb dX5_step_19 rfl (lv_at hl 1 rfl) ?_
  refine pg_get S Y ok_X5 1 (by decide) kf5_15 (v := .ref (ad 51 0)) p_ad_2_0 rfl dX5_step_20 ?_
  obtain ⟨g_40643, p_ad_51_0, o_40644⟩ := I.opi (k := 51) (j := 0) (by decide) rfl
  have p_ad_51_0 : pt L f (ad 51 0) (.inl (G.2 0, 301, .inl g_40643)) := p_ad_51_0
  have o_40645 : (RW kN kK) g_40643 := o_40644
  refine pg_alen S Y (k := 0) (v := 301) p_ad_51_0 rfl rfl dX5_step_23 ?_
  refine lv_icmp_ge (tgt := 67) hx hb dX5_step_24 (by decide) (fun h => absurd h (bd_nle (show bn 301 301 (301 : Int32) from bn_k (by decide)) B_40642 (by decide))) (fun _ => ?_)
  refine lv_aload_n hx hb dX5_step_27 rfl (lv_at hl 1 rfl) ?_
  refine lv_aload_n hx hb dX5_step_28 rfl (lv_at hl 1 rfl) ?_
  refine pg_get S Y ok_X5 1 (by decide) kf5_15 (v := .ref (ad 51 0)) p_ad_2_0 rfl dX5_step_29 ?_
  refine lv_iload_n hx hb dX5_step_32 rfl (lv_at hl 0 rfl) ?_
  obtain ⟨v_40646, ev_40646⟩ : ∃ z, z = g_40643 (x_40641 : Int32).toNatClampNeg := ⟨_, rfl⟩
  refine pg_iald S Y (v := v_40646) p_ad_51_0 (vp_bn B_40642 (by decide)) ev_40646.symm dX5_step_33 ?_
  have tv_40646 : v_40646.toInt = kK iT := RW_at o_40645 ev_40646 tx_40641 hi
  refine pg_put S Y ok_X5 7 (by decide) kf5_52 rfl (fs' := [.ref (ad 50 0), .ref (ad 51 0), .ref (ad 52 0), .ref (ad 53 0), .int v_40618, .int v_40620, .int v_40622, .int v_40646, .int v_40626, .int v_40628, .int v_40630, v_40632, .int v_40634, .int v_40636]) (v := .int v_40646) p_ad_2_0 rfl rfl rfl (Nat.le_of_ble_eq_true rfl) dX5_step_34 (fun f_40647 H locs ef_40647 Y => ?_)
  have p_ad_51_0 := p_ad_51_0.up ef_40647 (I.ne (k := 51) (j := 0) (k' := 2) (j' := 0) (by decide) (by decide) (Or.inl (by decide)))
  have p_ad_2_0 := p_ad_2_0.me ef_40647
  have I := I.upS (sp' := spC ((rf, fz (pp nL) (pp (kN : Int)) (pp (iT : Int)) (pp (kK iT)) zP zV zW zF zQ, tz tT (RW kN kK) (RW kN kP) (RW kN kV), sc) : RS) fc tc w q) (k := 2) (j := 0) (by decide) ef_40647 (okE_o (okFs_c okV_r (okFs_c okV_r (okFs_c okV_r (okFs_c okV_r (okFs_c (okV_p b_40619) (okFs_c (okV_p b_40621) (okFs_c (okV_p b_40623) (okFs_c (okV_p (lim_mk (bn_w (bn_any v_40646) (by decide) : bn (-2147483648) 2147483647 v_40646) tv_40646)) (okFs_c (okV_p b_40627) (okFs_c (okV_p b_40629) (okFs_c (okV_p b_40631) (okFs_c b_40633 (okFs_c (okV_p b_40635) (okFs_c (okV_p b_40637) okFs_n))))))))))))))) rsC
  refine lv_aload_n hx hb dX5_step_37 rfl (lv_at hl 1 rfl) ?_
  refine lv_aload_n hx hb dX5_step_38 rfl (lv_at hl 1 rfl) ?_
  refine pg_get S Y ok_X5 2 (by decide) kf5_18 (v := .ref (ad 52 0)) p_ad_2_0 rfl dX5_step_39 ?_
  refine lv_iload_n hx hb dX5_step_42 rfl (lv_at hl 0 rfl) ?_
  obtain ⟨g_40648, p_ad_52_0, o_40649⟩ := I.opi (k := 52) (j := 0) (by decide) rfl
  have p_ad_52_0 : pt L f_40647 (ad 52 0) (.inl (G.2 0, 301, .inl g_40648)) := p_ad_52_0
  have o_40650 : (RW kN kP) g_40648 := o_40649
  obtain ⟨v_40651, ev_40651⟩ : ∃ z, z = g_40648 (x_40641 : Int32).toNatClampNeg := ⟨_, rfl⟩
  refine pg_iald S Y (v := v_40651) p_ad_52_0 (vp_bn B_40642 (by decide)) ev_40651.symm dX5_step_43 ?_
  have tv_40651 : v_40651.toInt = kP iT := RW_at o_40650 ev_40651 tx_40641 hi
  refine pg_put S Y ok_X5 8 (by decide) kf5_59 rfl (fs' := [.ref (ad 50 0), .ref (ad 51 0), .ref (ad 52 0), .ref (ad 53 0), .int v_40618, .int v_40620, .int v_40622, .int v_40646, .int v_40651, .int v_40628, .int v_40630, v_40632, .int v_40634, .int v_40636]) (v := .int v_40651) p_ad_2_0 rfl rfl rfl (Nat.le_of_ble_eq_true rfl) dX5_step_44 (fun f_40652 H locs ef_40652 Y => ?_)
  have p_ad_51_0 := p_ad_51_0.up ef_40652 (I.ne (k := 51) (j := 0) (k' := 2) (j' := 0) (by decide) (by decide) (Or.inl (by decide)))
  have p_ad_52_0 := p_ad_52_0.up ef_40652 (I.ne (k := 52) (j := 0) (k' := 2) (j' := 0) (by decide) (by decide) (Or.inl (by decide)))
  have p_ad_2_0 := p_ad_2_0.me ef_40652
  have I := I.upS (sp' := spC ((rf, fz (pp nL) (pp (kN : Int)) (pp (iT : Int)) (pp (kK iT)) (pp (kP iT)) zV zW zF zQ, tz tT (RW kN kK) (RW kN kP) (RW kN kV), sc) : RS) fc tc w q) (k := 2) (j := 0) (by decide) ef_40652 (okE_o (okFs_c okV_r (okFs_c okV_r (okFs_c okV_r (okFs_c okV_r (okFs_c (okV_p b_40619) (okFs_c (okV_p b_40621) (okFs_c (okV_p b_40623) (okFs_c (okV_p (lim_mk (bn_w (bn_any v_40646) (by decide) : bn (-2147483648) 2147483647 v_40646) tv_40646)) (okFs_c (okV_p (lim_mk (bn_w (bn_any v_40651) (by decide) : bn (-2147483648) 2147483647 v_40651) tv_40651)) (okFs_c (okV_p b_40629) (okFs_c (okV_p b_40631) (okFs_c b_40633 (okFs_c (okV_p b_40635) (okFs_c (okV_p b_40637) okFs_n))))))))))))))) rsC
  refine lv_aload_n hx hb dX5_step_47 rfl (lv_at hl 1 rfl) ?_
  refine lv_aload_n hx hb dX5_step_48 rfl (lv_at hl 1 rfl) ?_
  refine pg_get S Y ok_X5 3 (by decide) kf5_21 (v := .ref (ad 53 0)) p_ad_2_0 rfl dX5_step_49 ?_
  refine lv_iload_n hx hb dX5_step_52 rfl (lv_at hl 0 rfl) ?_
  obtain ⟨g_40653, p_ad_53_0, o_40654⟩ := I.opi (k := 53) (j := 0) (by decide) rfl
  have p_ad_53_0 : pt L f_40652 (ad 53 0) (.inl (G.2 0, 301, .inl g_40653)) := p_ad_53_0
  have o_40655 : (RW kN kV) g_40653 := o_40654
  obtain ⟨v_40656, ev_40656⟩ : ∃ z, z = g_40653 (x_40641 : Int32).toNatClampNeg := ⟨_, rfl⟩
  refine pg_iald S Y (v := v_40656) p_ad_53_0 (vp_bn B_40642 (by decide)) ev_40656.symm dX5_step_53 ?_
  have tv_40656 : v_40656.toInt = kV iT := RW_at o_40655 ev_40656 tx_40641 hi
  refine pg_put S Y ok_X5 9 (by decide) kf5_118 rfl (fs' := [.ref (ad 50 0), .ref (ad 51 0), .ref (ad 52 0), .ref (ad 53 0), .int v_40618, .int v_40620, .int v_40622, .int v_40646, .int v_40651, .int v_40656, .int v_40630, v_40632, .int v_40634, .int v_40636]) (v := .int v_40656) p_ad_2_0 rfl rfl rfl (Nat.le_of_ble_eq_true rfl) dX5_step_54 (fun f_40657 H locs ef_40657 Y => ?_)
  have p_ad_51_0 := p_ad_51_0.up ef_40657 (I.ne (k := 51) (j := 0) (k' := 2) (j' := 0) (by decide) (by decide) (Or.inl (by decide)))
  have p_ad_52_0 := p_ad_52_0.up ef_40657 (I.ne (k := 52) (j := 0) (k' := 2) (j' := 0) (by decide) (by decide) (Or.inl (by decide)))
  have p_ad_53_0 := p_ad_53_0.up ef_40657 (I.ne (k := 53) (j := 0) (k' := 2) (j' := 0) (by decide) (by decide) (Or.inl (by decide)))
  have p_ad_2_0 := p_ad_2_0.me ef_40657
  have I := I.upS (sp' := spC ((rf, fz (pp nL) (pp (kN : Int)) (pp (iT : Int)) (pp (kK iT)) (pp (kP iT)) (pp (kV iT)) zW zF zQ, tz tT (RW kN kK) (RW kN kP) (RW kN kV), sc) : RS) fc tc w q) (k := 2) (j := 0) (by decide) ef_40657 (okE_o (okFs_c okV_r (okFs_c okV_r (okFs_c okV_r (okFs_c okV_r (okFs_c (okV_p b_40619) (okFs_c (okV_p b_40621) (okFs_c (okV_p b_40623) (okFs_c (okV_p (lim_mk (bn_w (bn_any v_40646) (by decide) : bn (-2147483648) 2147483647 v_40646) tv_40646)) (okFs_c (okV_p (lim_mk (bn_w (bn_any v_40651) (by decide) : bn (-2147483648) 2147483647 v_40651) tv_40651)) (okFs_c (okV_p (lim_mk (bn_w (bn_any v_40656) (by decide) : bn (-2147483648) 2147483647 v_40656) tv_40656)) (okFs_c (okV_p b_40631) (okFs_c b_40633 (okFs_c (okV_p b_40635) (okFs_c (okV_p b_40637) okFs_n))))))))))))))) rsC
  refine lv_aload_n hx hb dX5_step_57 rfl (lv_at hl 1 rfl) ?_
  refine lv_dup hx hb dX5_step_58 rfl ?_
  refine pg_get S Y ok_X5 6 (by decide) kf5_46 (v := .int v_40622) p_ad_2_0 rfl dX5_step_59 ?_
  refine lv_iconst (v := 1) hx hb dX5_step_62 (by decide) ?_
  refine lv_iadd hx hb dX5_step_63 ?_
  refine lv_topi (fun x_40658 ex_40658 => ?_)
  refine pg_put S Y ok_X5 6 (by decide) kf5_46 rfl (fs' := [.ref (ad 50 0), .ref (ad 51 0), .ref (ad 52 0), .ref (ad 53 0), .int v_40618, .int v_40620, .int x_40658, .int v_40646, .int v_40651, .int v_40656, .int v_40630, v_40632, .int v_40634, .int v_40636]) (v := .int x_40658) p_ad_2_0 rfl rfl rfl (Nat.le_of_ble_eq_true rfl) dX5_step_64 (fun f_40659 H locs ef_40659 Y => ?_)
  have p_ad_51_0 := p_ad_51_0.up ef_40659 (I.ne (k := 51) (j := 0) (k' := 2) (j' := 0) (by decide) (by decide) (Or.inl (by decide)))
  have p_ad_52_0 := p_ad_52_0.up ef_40659 (I.ne (k := 52) (j := 0) (k' := 2) (j' := 0) (by decide) (by decide) (Or.inl (by decide)))
  have p_ad_53_0 := p_ad_53_0.up ef_40659 (I.ne (k := 53) (j := 0) (k' := 2) (j' := 0) (by decide) (by decide) (Or.inl (by decide)))
  have p_ad_2_0 := p_ad_2_0.me ef_40659
  have I := I.upS (sp' := spC ((rf, fz (pp nL) (pp (kN : Int)) (pp ((iT : Int) + 1)) (pp (kK iT)) (pp (kP iT)) (pp (kV iT)) zW zF zQ, tz tT (RW kN kK) (RW kN kP) (RW kN kV), sc) : RS) fc tc w q) (k := 2) (j := 0) (by decide) ef_40659 (okE_o (okFs_c okV_r (okFs_c okV_r (okFs_c okV_r (okFs_c okV_r (okFs_c (okV_p b_40619) (okFs_c (okV_p b_40621) (okFs_c (okV_p (lim_mk (bn_w (bn_eq ex_40658 (bn_add B_40639 (show bn 1 1 (1 : Int32) from bn_k (by decide)) (by decide))) (by decide) : bn (-2147483648) 2147483647 x_40658) (la_add ex_40658 tv_40622 (show (1 : Int32).toInt = 1 from rfl) B_40639 (show bn 1 1 (1 : Int32) from bn_k (by decide)) (by decide)))) (okFs_c (okV_p (lim_mk (bn_w (bn_any v_40646) (by decide) : bn (-2147483648) 2147483647 v_40646) tv_40646)) (okFs_c (okV_p (lim_mk (bn_w (bn_any v_40651) (by decide) : bn (-2147483648) 2147483647 v_40651) tv_40651)) (okFs_c (okV_p (lim_mk (bn_w (bn_any v_40656) (by decide) : bn (-2147483648) 2147483647 v_40656) tv_40656)) (okFs_c (okV_p b_40631) (okFs_c b_40633 (okFs_c (okV_p b_40635) (okFs_c (okV_p b_40637) okFs_n))))))))))))))) rsC
  exact prV (post := fun L1 f1 => SH (spC ((rf, fz (pp nL) (pp (kN : Int)) (pp ((iT + 1 : Nat) : Int)) (pp (kK iT)) (pp (kP iT)) (pp (kV iT)) zW zF zQ, tz tT (RW kN kK) (RW kN kP) (RW kN kV), sc) : RS) fc tc w q) nnC G ad L1 f1) S Y (by decide) (by decide) hA1 I dX5_step_67
set_option maxHeartbeats 4000000 in
set_option maxRecDepth 100000 in
theorem x_X5_fail {l : Launch} {G : GG}  {L : List Nat} {f : HF} {ad : Nat → Nat → Nat} {zL : Int × Int} {zC : Int × Int} {zR : Int × Int} {zK : Int × Int} {zV : Int × Int} {zW : Int × Int} {zF : Int × Int} {zQ : Int × Int} {tT : (Nat → Int32) → Prop} {tU : (Nat → Int32) → Prop} {tP : (Nat → Int32) → Prop} {tV : (Nat → Int32) → Prop} {rf : FS} {sc : Nat → SG} {pF : Int} {fc : Int × Int} {tc w : Nat → Int × Int} {q : Nat → (Nat → Int32) → Prop} {i1 : Int32} (I : SH (spC ((rf, fz zL zC zR zK (pp pF) zV zW zF zQ, tz tT tU tP tV, sc) : RS) fc tc w q) nnC G ad L f) (hW : WBp w 8) (hT : WBp tc 4) (hQ : QIp q) : PMi l yX5_fail cX5_fail 2 .boolean 0 0 0 G [.ref (ad 2 0), .int i1] L f (fun r L1 f1 => bn 0 0 r ∧ SH (spC ((rf, fz zL zC zR zK (pp pF) zV zW (pp i1.toInt) (pp pF), tz tT tU tP tV, sc) : RS) fc tc w q) nnC G ad L1 f1) := by
  refine PMi.of (post := fun r L1 f1 => bn 0 0 r ∧ SH (spC ((rf, fz zL zC zR zK (pp pF) zV zW (pp i1.toInt) (pp pF), tz tT tU tP tV, sc) : RS) fc tc w q) nnC G ad L1 f1) (own := RX5) (by decide) rfl (Nat.le_of_ble_eq_true rfl) (fun sz p e s m args below meth c A ls hA1 hname S Y hl => ?_)
  have hx := S.hx
  have hb := S.hb
  have hl : lv_has ls 2 [(0, .ref (ad 2 0)), (1, .int i1)] := hl
  refine lv_aload_n hx hb dX5_fail_0 rfl (lv_at hl 0 rfl) ?_
  refine lv_iload_n hx hb dX5_fail_1 rfl (lv_at hl 1 rfl) ?_
  obtain ⟨v_40704, v_40706, v_40708, v_40710, v_40712, v_40714, v_40716, v_40718, v_40720, v_40722, p_ad_2_0, b_40705, b_40707, b_40709, b_40711, b_40713, b_40715, b_40717, b_40719, b_40721, b_40723⟩ := opnC_2 (j := 0) I (by decide)
  have p_ad_2_0 : pt L f (ad 2 0) (.inr (5, [.ref (ad 50 0), .ref (ad 51 0), .ref (ad 52 0), .ref (ad 53 0), .int v_40704, .int v_40706, .int v_40708, .int v_40710, .int v_40712, .int v_40714, .int v_40716, v_40718, .int v_40720, .int v_40722])) := p_ad_2_0
  have tv_40712 : v_40712.toInt = pF := lim_eq b_40713
  refine pg_put S Y ok_X5 12 (by decide) kf5_24 rfl (fs' := [.ref (ad 50 0), .ref (ad 51 0), .ref (ad 52 0), .ref (ad 53 0), .int v_40704, .int v_40706, .int v_40708, .int v_40710, .int v_40712, .int v_40714, .int v_40716, v_40718, .int i1, .int v_40722]) (v := .int i1) p_ad_2_0 rfl rfl rfl (Nat.le_of_ble_eq_true rfl) dX5_fail_2 (fun f_40724 H locs ef_40724 Y => ?_)
  have p_ad_2_0 := p_ad_2_0.me ef_40724
  have I := I.upS (sp' := spC ((rf, fz zL zC zR zK (pp pF) zV zW (pp i1.toInt) zQ, tz tT tU tP tV, sc) : RS) fc tc w q) (k := 2) (j := 0) (by decide) ef_40724 (okE_o (okFs_c okV_r (okFs_c okV_r (okFs_c okV_r (okFs_c okV_r (okFs_c (okV_p b_40705) (okFs_c (okV_p b_40707) (okFs_c (okV_p b_40709) (okFs_c (okV_p b_40711) (okFs_c (okV_p b_40713) (okFs_c (okV_p b_40715) (okFs_c (okV_p b_40717) (okFs_c b_40719 (okFs_c (okV_p (lim_mk (bn_w (bn_any i1) (by decide) : bn (-2147483648) 2147483647 i1) (rfl : i1.toInt = i1.toInt))) (okFs_c (okV_p b_40723) okFs_n))))))))))))))) rsC
  refine lv_aload_n hx hb dX5_fail_5 rfl (lv_at hl 0 rfl) ?_
  refine lv_aload_n hx hb dX5_fail_6 rfl (lv_at hl 0 rfl) ?_
  refine pg_get S Y ok_X5 8 (by decide) kf5_59 (v := .int v_40712) p_ad_2_0 rfl dX5_fail_7 ?_
  refine pg_put S Y ok_X5 13 (by decide) kf5_28 rfl (fs' := [.ref (ad 50 0), .ref (ad 51 0), .ref (ad 52 0), .ref (ad 53 0), .int v_40704, .int v_40706, .int v_40708, .int v_40710, .int v_40712, .int v_40714, .int v_40716, v_40718, .int i1, .int v_40712]) (v := .int v_40712) p_ad_2_0 rfl rfl rfl (Nat.le_of_ble_eq_true rfl) dX5_fail_10 (fun f_40725 H locs ef_40725 Y => ?_)
  have p_ad_2_0 := p_ad_2_0.me ef_40725
  have I := I.upS (sp' := spC ((rf, fz zL zC zR zK (pp pF) zV zW (pp i1.toInt) (pp pF), tz tT tU tP tV, sc) : RS) fc tc w q) (k := 2) (j := 0) (by decide) ef_40725 (okE_o (okFs_c okV_r (okFs_c okV_r (okFs_c okV_r (okFs_c okV_r (okFs_c (okV_p b_40705) (okFs_c (okV_p b_40707) (okFs_c (okV_p b_40709) (okFs_c (okV_p b_40711) (okFs_c (okV_p b_40713) (okFs_c (okV_p b_40715) (okFs_c (okV_p b_40717) (okFs_c b_40719 (okFs_c (okV_p (lim_mk (bn_w (bn_any i1) (by decide) : bn (-2147483648) 2147483647 i1) (rfl : i1.toInt = i1.toInt))) (okFs_c (okV_p (lim_mk (bn_w (bn_any v_40712) (by decide) : bn (-2147483648) 2147483647 v_40712) tv_40712)) okFs_n))))))))))))))) rsC
  refine lv_iconst (v := 0) hx hb dX5_fail_13 (by decide) ?_
  exact prI (post := fun r L1 f1 => bn 0 0 r ∧ SH (spC ((rf, fz zL zC zR zK (pp pF) zV zW (pp i1.toInt) (pp pF), tz tT tU tP tV, sc) : RS) fc tc w q) nnC G ad L1 f1) S Y rfl (by decide) (by decide) hA1 ⟨bn_w (show bn 0 0 (0 : Int32) from bn_k (by decide)) (by decide), I⟩ dX5_fail_14
section WINX
def win (r v : Int32) (a b : Int) : Prop := (r = 0 ∧ ¬ (a ≤ v.toInt ∧ v.toInt ≤ b)) ∨ (r = 1 ∧ a ≤ v.toInt ∧ v.toInt ≤ b)
theorem win_f {r v : Int32} {a b : Int} (h : win r v a b) (e : r = 0) : ¬ (a ≤ v.toInt ∧ v.toInt ≤ b) := by
  rcases h with ⟨h1, h2⟩ | ⟨h1, h2⟩
  · exact h2
  · rw [h1] at e; exact absurd e (by decide)
theorem win_t {r v : Int32} {a b : Int} (h : win r v a b) (e : ¬ r = 0) : a ≤ v.toInt ∧ v.toInt ≤ b := by
  rcases h with ⟨h1, h2⟩ | ⟨h1, h2⟩
  · exact absurd h1 e
  · exact h2
end WINX
set_option maxHeartbeats 4000000 in
set_option maxRecDepth 100000 in
theorem x_X11_withinX {l : Launch} {G : GG}  {L : List Nat} {f : HF}  {i1 i2 i3 : Int32}  : PMp l yX11_within cX11_within 3 .boolean 0 0 0 G [.int i1, .int i2, .int i3] L f (fun r => (win r i1 i2.toInt i3.toInt)) := by
  refine PMi.of (post := fun r L1 f1 => ((win r i1 i2.toInt i3.toInt)) ∧ L1 = L ∧ f1 = f) (own := RX11) (by decide) rfl (Nat.le_of_ble_eq_true rfl) (fun sz p e s m args below meth c A ls hA1 hname S Y hl => ?_)
  have hx := S.hx
  have hb := S.hb
  have hl : lv_has ls 3 [(0, .int i1), (1, .int i2), (2, .int i3)] := hl
  refine lv_iload_n hx hb dX11_within_0 rfl (lv_at hl 0 rfl) ?_
  refine lv_iload_n hx hb dX11_within_1 rfl (lv_at hl 1 rfl) ?_
  refine lv_icmp_lt (tgt := 14) hx hb dX11_within_2 (by decide) (fun c_40738 => ?_) (fun c_40738 => ?_)
  · have B_40739 : bn (-2147483648) 2147483646 i1 := bn_w (bn_ltl c_40738 (bn_any i1) (bn_any i2)) (by decide)
    have B_40740 : bn (-2147483647) 2147483647 i2 := bn_w (bn_ltr c_40738 (bn_any i1) (bn_any i2)) (by decide)
    refine lv_iconst (v := 0) hx hb dX11_within_14 (by decide) ?_
    exact prI (post := fun r L1 f1 => ((win r i1 i2.toInt i3.toInt)) ∧ L1 = L ∧ f1 = f) S Y rfl (by decide) (by decide) hA1 ⟨Or.inl ⟨rfl, fun z => by have h := c_40738; rw [Int32.lt_iff_toInt_lt] at h; omega⟩, rfl, rfl⟩ dX11_within_15
  · refine lv_iload_n hx hb dX11_within_5 rfl (lv_at hl 0 rfl) ?_
    refine lv_iload_n hx hb dX11_within_6 rfl (lv_at hl 2 rfl) ?_
    refine lv_icmp_gt (tgt := 14) hx hb dX11_within_7 (by decide) (fun c_40741 => ?_) (fun c_40741 => ?_)
    · have B_40742 : bn (-2147483648) 2147483646 i3 := bn_w (bn_ltl c_40741 (bn_any i3) (bn_any i1)) (by decide)
      have B_40743 : bn (-2147483647) 2147483647 i1 := bn_w (bn_ltr c_40741 (bn_any i3) (bn_any i1)) (by decide)
      refine lv_iconst (v := 0) hx hb dX11_within_14 (by decide) ?_
      exact prI (post := fun r L1 f1 => ((win r i1 i2.toInt i3.toInt)) ∧ L1 = L ∧ f1 = f) S Y rfl (by decide) (by decide) hA1 ⟨Or.inl ⟨rfl, fun z => by have h := c_40741; rw [Int32.lt_iff_toInt_lt] at h; omega⟩, rfl, rfl⟩ dX11_within_15
    · refine lv_iconst (v := 1) hx hb dX11_within_10 (by decide) ?_
      refine lv_goto (tgt := 15) hx hb dX11_within_11 (by decide) ?_
      exact prI (post := fun r L1 f1 => ((win r i1 i2.toInt i3.toInt)) ∧ L1 = L ∧ f1 = f) S Y rfl (by decide) (by decide) hA1 ⟨Or.inr ⟨rfl, by have h := c_40738; rw [Int32.lt_iff_toInt_lt] at h; omega, by have h := c_40741; rw [Int32.lt_iff_toInt_lt] at h; omega⟩, rfl, rfl⟩ dX11_within_15
set_option maxHeartbeats 4000000 in
set_option maxRecDepth 100000 in
theorem x_X5_expect {l : Launch} {G : GG}  {L : List Nat} {f : HF} {ad : Nat → Nat → Nat} {rf : FS} {nL : Int} {lw : Int} {fk : Int} {fp : Int} {kN : Nat} {kK : Nat → Int} {kP : Nat → Int} {kV : Nat → Int} {bT : Nat → Int32} {fc : Int × Int} {tc w : Nat → Int × Int} {q : Nat → (Nat → Int32) → Prop} {i1 : Int32} {iT oT : Nat} {bL : Bool} {sc : Nat → SG} (I : SH (spC ((rf, fz (pp nL) (pp (kN : Int)) (pp ((iT + 1 : Nat) : Int)) (pp (kK iT)) (pp (kP iT)) (pp (kV iT)) (pp lw) (pp fk) (pp fp), tz (EQ bT) (RW kN kK) (RW kN kP) (RW kN kV), sc) : RS) fc tc w q) nnC G ad L f) (hW : WBp w 8) (hT : WBp tc 4) (hQ : QIp q) (hN : RDH kK kN) (hi : iT < kN) (hx2 : i1.toInt ≠ 1002) : PMi l yX5_expect cX5_expect 2 .boolean 2 0 0 G [.ref (ad 2 0), .int i1] L f (fun r L1 f1 => ∃ j2 : Nat, ∃ fk2 : Int, ∃ fp2 : Int, bn 0 1 r ∧ SH (spC ((rf, fz (pp nL) (pp (kN : Int)) (pp ((j2 + 1 : Nat) : Int)) (pp (kK j2)) (pp (kP j2)) (pp (kV j2)) (pp lw) (pp fk2) (pp fp2), tz (EQ bT) (RW kN kK) (RW kN kP) (RW kN kV), sc) : RS) fc tc w q) nnC G ad L1 f1 ∧ RDP kK kV kP ([((kEx i1.toInt), oT, bL)] : List LI) iT j2 kN fk fp fk2 fp2 r) := by
  refine PMi.of (post := fun r L1 f1 => ∃ j2 : Nat, ∃ fk2 : Int, ∃ fp2 : Int, bn 0 1 r ∧ SH (spC ((rf, fz (pp nL) (pp (kN : Int)) (pp ((j2 + 1 : Nat) : Int)) (pp (kK j2)) (pp (kP j2)) (pp (kV j2)) (pp lw) (pp fk2) (pp fp2), tz (EQ bT) (RW kN kK) (RW kN kP) (RW kN kV), sc) : RS) fc tc w q) nnC G ad L1 f1 ∧ RDP kK kV kP ([((kEx i1.toInt), oT, bL)] : List LI) iT j2 kN fk fp fk2 fp2 r) (own := RX5) (by decide) rfl (Nat.le_of_ble_eq_true rfl) (fun sz p e s m args below meth c A ls hA1 hname S Y hl => ?_)
  have hx := S.hx
  have hb := S.hb
  have hl : lv_has ls 2 [(0, .ref (ad 2 0)), (1, .int i1)] := hl
  refine lv_aload_n hx hb dX5_expect_0 rfl (lv_at hl 0 rfl) ?_
  obtain ⟨v_40800, v_40802, v_40804, v_40806, v_40808, v_40810, v_40812, v_40814, v_40816, v_40818, p_ad_2_0, b_40801, b_40803, b_40805, b_40807, b_40809, b_40811, b_40813, b_40815, b_40817, b_40819⟩ := opnC_2 (j := 0) I (by decide)
  have p_ad_2_0 : pt L f (ad 2 0) (.inr (5, [.ref (ad 50 0), .ref (ad 51 0), .ref (ad 52 0), .ref (ad 53 0), .int v_40800, .int v_40802, .int v_40804, .int v_40806, .int v_40808, .int v_40810, .int v_40812, v_40814, .int v_40816, .int v_40818])) := p_ad_2_0
  have tv_40800 : v_40800.toInt = nL := lim_eq b_40801
  have tv_40802 : v_40802.toInt = (kN : Int) := lim_eq b_40803
  have tv_40804 : v_40804.toInt = ((iT + 1 : Nat) : Int) := lim_eq b_40805
  have tv_40806 : v_40806.toInt = (kK iT) := lim_eq b_40807
  have tv_40808 : v_40808.toInt = (kP iT) := lim_eq b_40809
  have tv_40810 : v_40810.toInt = (kV iT) := lim_eq b_40811
  have tv_40812 : v_40812.toInt = lw := lim_eq b_40813
  have tv_40816 : v_40816.toInt = fk := lim_eq b_40817
  have tv_40818 : v_40818.toInt = fp := lim_eq b_40819
  refine pg_get S Y ok_X5 7 (by decide) kf5_52 (v := .int v_40806) p_ad_2_0 rfl dX5_expect_1 ?_
  refine lv_iload_n hx hb dX5_expect_4 rfl (lv_at hl 1 rfl) ?_
  refine lv_icmp_eq (tgt := 14) hx hb dX5_expect_5 (by decide) (fun c_40820 => ?_) (fun c_40820 => ?_)
  · refine lv_aload_n hx hb dX5_expect_14 rfl (lv_at hl 0 rfl) ?_
    have hi_40821 : iT + 1 < kN := RDH_lt hN hi (by have u1 := tv_40800; have u2 := tv_40802; have u3 := tv_40804; have u4 := tv_40806; have u5 := tv_40808; have u6 := tv_40810; have u7 := tv_40812; have u8 := tv_40816; have u9 := tv_40818; have u10 := (show v_40806.toInt = i1.toInt from by rw [c_40820]); have u11 := hi; have u12 := hN.1; have u13 := hN.2.1; have u14 := hx2; omega)
    have tr_40822 : ∀ S, Tr kK kV (([((kEx i1.toInt), oT, bL)] : List LI) ++ S) iT (([] : List LI) ++ S) (iT + 1) := (TrY (Y := ([] : List LI)) (a := 1) (its := []) (d := 0) (show ∀ S, Tr kK kV (([((kEx i1.toInt), oT, bL)] : List LI) ++ S) iT (([((kEx i1.toInt), oT, bL)] : List LI) ++ S) iT from fun _ => Tr_0) (by have u1 := tv_40800; have u2 := tv_40802; have u3 := tv_40804; have u4 := tv_40806; have u5 := tv_40808; have u6 := tv_40810; have u7 := tv_40812; have u8 := tv_40816; have u9 := tv_40818; have u10 := (show v_40806.toInt = i1.toInt from by rw [c_40820]); have u11 := hi; have u12 := hN.1; have u13 := hN.2.1; unfold gx; simp only [isCmp]; (repeat' split) <;> first | rfl | (exfalso; omega)) (by decide) rfl : ∀ S, Tr kK kV (([((kEx i1.toInt), oT, bL)] : List LI) ++ S) iT (([] : List LI) ++ S) (iT + 1))
    refine cVv (As := []) (rest := []) S Y (x_X5_step (l := l) I hW hT hQ hN hi_40821) cw_X5_step km5_49 p_ad_2_0 ok_X5.1 rfl rfl ⟨Nat.le_of_ble_eq_true rfl, Nat.le_of_ble_eq_true rfl⟩ hl.1 rfl (Nat.le_of_ble_eq_true rfl) ⟨Nat.le_of_ble_eq_true rfl, Nat.le_of_ble_eq_true rfl⟩ dX5_expect_15 (fun L_40823 f_40824 H locs I Y => ?_)
    refine lv_iconst (v := 1) hx hb dX5_expect_18 (by decide) ?_
    exact prI (post := fun r L1 f1 => ∃ j2 : Nat, ∃ fk2 : Int, ∃ fp2 : Int, bn 0 1 r ∧ SH (spC ((rf, fz (pp nL) (pp (kN : Int)) (pp ((j2 + 1 : Nat) : Int)) (pp (kK j2)) (pp (kP j2)) (pp (kV j2)) (pp lw) (pp fk2) (pp fp2), tz (EQ bT) (RW kN kK) (RW kN kP) (RW kN kV), sc) : RS) fc tc w q) nnC G ad L1 f1 ∧ RDP kK kV kP ([((kEx i1.toInt), oT, bL)] : List LI) iT j2 kN fk fp fk2 fp2 r) S Y rfl (by decide) (by decide) hA1 ⟨(iT + 1), fk, fp, bn_w (show bn 1 1 (1 : Int32) from bn_k (by decide)) (by decide), I, (Or.inl ⟨rfl, tr_40822, hi_40821, (by have u1 := tv_40800; have u2 := tv_40802; have u3 := tv_40804; have u4 := tv_40806; have u5 := tv_40808; have u6 := tv_40810; have u7 := tv_40812; have u8 := tv_40816; have u9 := tv_40818; have u10 := (show v_40806.toInt = i1.toInt from by rw [c_40820]); have u11 := hi; have u12 := hN.1; have u13 := hN.2.1; have u14 := hi_40821; omega), rfl, rfl⟩)⟩ dX5_expect_19
  · refine lv_aload_n hx hb dX5_expect_8 rfl (lv_at hl 0 rfl) ?_
    refine lv_iconst (v := 1) hx hb dX5_expect_9 (by decide) ?_
    refine cVi (As := [.int 1]) (rest := []) S Y (x_X5_fail (l := l) I hW hT hQ) cw_X5_fail km5_121 p_ad_2_0 ok_X5.1 rfl rfl ⟨Nat.le_of_ble_eq_true rfl, Nat.le_of_ble_eq_true rfl⟩ hl.1 rfl (Nat.le_of_ble_eq_true rfl) ⟨Nat.le_of_ble_eq_true rfl, Nat.le_of_ble_eq_true rfl⟩ dX5_expect_10 (fun r_40827 L_40825 f_40826 H locs hr_40827 Y => ?_)
    obtain ⟨er_40827, I⟩ := hr_40827
    exact prI (post := fun r L1 f1 => ∃ j2 : Nat, ∃ fk2 : Int, ∃ fp2 : Int, bn 0 1 r ∧ SH (spC ((rf, fz (pp nL) (pp (kN : Int)) (pp ((j2 + 1 : Nat) : Int)) (pp (kK j2)) (pp (kP j2)) (pp (kV j2)) (pp lw) (pp fk2) (pp fp2), tz (EQ bT) (RW kN kK) (RW kN kP) (RW kN kV), sc) : RS) fc tc w q) nnC G ad L1 f1 ∧ RDP kK kV kP ([((kEx i1.toInt), oT, bL)] : List LI) iT j2 kN fk fp fk2 fp2 r) S Y (nw_b (bn_w er_40827 (by decide))) (by decide) (by decide) hA1 ⟨iT, ((1 : Int32).toInt), (kP iT), bn_w er_40827 (by decide), I, (Or.inr ⟨(bn00 er_40827), (TrN (Y := ([] : List LI)) (f := 1) (a := 0) (its := []) (d := 0) (show ∀ S, Tr kK kV (([((kEx i1.toInt), oT, bL)] : List LI) ++ S) iT (([((kEx i1.toInt), oT, bL)] : List LI) ++ S) iT from fun _ => Tr_0) (by have u1 := tv_40800; have u2 := tv_40802; have u3 := tv_40804; have u4 := tv_40806; have u5 := tv_40808; have u6 := tv_40810; have u7 := tv_40812; have u8 := tv_40816; have u9 := tv_40818; have u10 := (show v_40806.toInt ≠ i1.toInt from fun z => c_40820 (Int32.toInt_inj.mp z)); have u11 := hi; have u12 := hN.1; have u13 := hN.2.1; unfold gx; simp only [isCmp]; (repeat' split) <;> first | rfl | (exfalso; omega)) (by decide)), (by decide), rfl⟩)⟩ dX5_expect_13
