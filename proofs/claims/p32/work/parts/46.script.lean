theorem dX7_lawStart_0 : decode cX7_lawStart 0 = .ok (.iload_n 1, 1) := by decide +kernel
theorem dX7_lawStart_1 : decode cX7_lawStart 1 = .ok (.ifCond .lt 17, 3) := by decide +kernel
theorem dX7_lawStart_18 : decode cX7_lawStart 18 = .ok (.iconst 0, 1) := by decide +kernel
theorem dX7_lawStart_19 : decode cX7_lawStart 19 = .ok (.ireturn, 1) := by decide +kernel
theorem dX7_lawStart_4 : decode cX7_lawStart 4 = .ok (.iload_n 1, 1) := by decide +kernel
theorem dX7_lawStart_5 : decode cX7_lawStart 5 = .ok (.iconst 3, 1) := by decide +kernel
theorem dX7_lawStart_6 : decode cX7_lawStart 6 = .ok (.if_icmp .ge 12, 3) := by decide +kernel
theorem dX7_lawStart_9 : decode cX7_lawStart 9 = .ok (.aload_n 0, 1) := by decide +kernel
theorem dX7_lawStart_10 : decode cX7_lawStart 10 = .ok (.getfield 18, 3) := by decide +kernel
theorem ok_X7 : clOK 7 RX7 TX7 7 tyX7 := ⟨rfl, fun w h => ⟨(show ∀ w ∈ u_ws RX7 TX7 7, w ∈ lw_tbl by decide +kernel) w h, (show ∀ w ∈ u_ws RX7 TX7 7, gw w = true by decide +kernel) w h⟩, tyX7_ok, nmX7⟩
theorem kf7_18 : inW (Cond.fieldLink RX7 18 "KneeOaths$Script" "lawFrom" "[I") := ⟨List.mem_of_getElem? (i := 239) (by decide +kernel), by decide +kernel⟩
theorem dX7_lawStart_13 : decode cX7_lawStart 13 = .ok (.iload_n 1, 1) := by decide +kernel
theorem dX7_lawStart_14 : decode cX7_lawStart 14 = .ok (.iaload, 1) := by decide +kernel
theorem dX7_lawStart_15 : decode cX7_lawStart 15 = .ok (.goto 4, 3) := by decide +kernel
theorem dX7_lawEnd_0 : decode cX7_lawEnd 0 = .ok (.iload_n 1, 1) := by decide +kernel
theorem dX7_lawEnd_1 : decode cX7_lawEnd 1 = .ok (.ifCond .lt 17, 3) := by decide +kernel
theorem dX7_lawEnd_18 : decode cX7_lawEnd 18 = .ok (.iconst 0, 1) := by decide +kernel
theorem dX7_lawEnd_19 : decode cX7_lawEnd 19 = .ok (.ireturn, 1) := by decide +kernel
theorem dX7_lawEnd_4 : decode cX7_lawEnd 4 = .ok (.iload_n 1, 1) := by decide +kernel
theorem dX7_lawEnd_5 : decode cX7_lawEnd 5 = .ok (.iconst 3, 1) := by decide +kernel
theorem dX7_lawEnd_6 : decode cX7_lawEnd 6 = .ok (.if_icmp .ge 12, 3) := by decide +kernel
theorem dX7_lawEnd_9 : decode cX7_lawEnd 9 = .ok (.aload_n 0, 1) := by decide +kernel
theorem dX7_lawEnd_10 : decode cX7_lawEnd 10 = .ok (.getfield 21, 3) := by decide +kernel
theorem kf7_21 : inW (Cond.fieldLink RX7 21 "KneeOaths$Script" "lawTo" "[I") := ⟨List.mem_of_getElem? (i := 240) (by decide +kernel), by decide +kernel⟩
theorem dX7_lawEnd_13 : decode cX7_lawEnd 13 = .ok (.iload_n 1, 1) := by decide +kernel
theorem dX7_lawEnd_14 : decode cX7_lawEnd 14 = .ok (.iaload, 1) := by decide +kernel
theorem dX7_lawEnd_15 : decode cX7_lawEnd 15 = .ok (.goto 4, 3) := by decide +kernel
theorem dX7_hasLaw_0 : decode cX7_hasLaw 0 = .ok (.iload_n 1, 1) := by decide +kernel
theorem dX7_hasLaw_1 : decode cX7_hasLaw 1 = .ok (.ifCond .lt 27, 3) := by decide +kernel
theorem dX7_hasLaw_28 : decode cX7_hasLaw 28 = .ok (.iconst 0, 1) := by decide +kernel
theorem dX7_hasLaw_29 : decode cX7_hasLaw 29 = .ok (.ireturn, 1) := by decide +kernel
theorem dX7_hasLaw_4 : decode cX7_hasLaw 4 = .ok (.iload_n 1, 1) := by decide +kernel
theorem dX7_hasLaw_5 : decode cX7_hasLaw 5 = .ok (.iconst 3, 1) := by decide +kernel
theorem dX7_hasLaw_6 : decode cX7_hasLaw 6 = .ok (.if_icmp .ge 22, 3) := by decide +kernel
theorem dX7_hasLaw_9 : decode cX7_hasLaw 9 = .ok (.aload_n 0, 1) := by decide +kernel
theorem dX7_hasLaw_10 : decode cX7_hasLaw 10 = .ok (.getfield 18, 3) := by decide +kernel
theorem dX7_hasLaw_13 : decode cX7_hasLaw 13 = .ok (.iload_n 1, 1) := by decide +kernel
theorem dX7_hasLaw_14 : decode cX7_hasLaw 14 = .ok (.iaload, 1) := by decide +kernel
theorem dX7_hasLaw_15 : decode cX7_hasLaw 15 = .ok (.aload_n 0, 1) := by decide +kernel
theorem dX7_hasLaw_16 : decode cX7_hasLaw 16 = .ok (.getfield 21, 3) := by decide +kernel
theorem dX7_hasLaw_19 : decode cX7_hasLaw 19 = .ok (.iload_n 1, 1) := by decide +kernel
theorem dX7_hasLaw_20 : decode cX7_hasLaw 20 = .ok (.iaload, 1) := by decide +kernel
theorem dX7_hasLaw_21 : decode cX7_hasLaw 21 = .ok (.if_icmp .ge 7, 3) := by decide +kernel
theorem dX7_hasLaw_24 : decode cX7_hasLaw 24 = .ok (.iconst 1, 1) := by decide +kernel
theorem dX7_hasLaw_25 : decode cX7_hasLaw 25 = .ok (.goto 4, 3) := by decide +kernel
theorem dX7_doing_0 : decode cX7_doing 0 = .ok (.iload_n 1, 1) := by decide +kernel
theorem dX7_doing_1 : decode cX7_doing 1 = .ok (.ifCond .lt 20, 3) := by decide +kernel
theorem dX7_doing_21 : decode cX7_doing 21 = .ok (.iconst (-1), 1) := by decide +kernel
theorem dX7_doing_22 : decode cX7_doing 22 = .ok (.ireturn, 1) := by decide +kernel
theorem dX7_doing_4 : decode cX7_doing 4 = .ok (.iload_n 1, 1) := by decide +kernel
theorem dX7_doing_5 : decode cX7_doing 5 = .ok (.aload_n 0, 1) := by decide +kernel
theorem dX7_doing_6 : decode cX7_doing 6 = .ok (.getfield 27, 3) := by decide +kernel
theorem kf7_27 : inW (Cond.fieldLink RX7 27 "KneeOaths$Script" "length" "I") := ⟨List.mem_of_getElem? (i := 242) (by decide +kernel), by decide +kernel⟩
theorem dX7_doing_9 : decode cX7_doing 9 = .ok (.if_icmp .ge 12, 3) := by decide +kernel
theorem dX7_doing_12 : decode cX7_doing 12 = .ok (.aload_n 0, 1) := by decide +kernel
theorem dX7_doing_13 : decode cX7_doing 13 = .ok (.getfield 9, 3) := by decide +kernel
theorem kf7_9 : inW (Cond.fieldLink RX7 9 "KneeOaths$Script" "doings" "[I") := ⟨List.mem_of_getElem? (i := 237) (by decide +kernel), by decide +kernel⟩
theorem dX7_doing_16 : decode cX7_doing 16 = .ok (.iload_n 1, 1) := by decide +kernel
theorem dX7_doing_17 : decode cX7_doing 17 = .ok (.iaload, 1) := by decide +kernel
theorem dX7_doing_18 : decode cX7_doing 18 = .ok (.goto 4, 3) := by decide +kernel
theorem dX7_number_0 : decode cX7_number 0 = .ok (.iload_n 1, 1) := by decide +kernel
theorem dX7_number_1 : decode cX7_number 1 = .ok (.ifCond .lt 20, 3) := by decide +kernel
theorem dX7_number_21 : decode cX7_number 21 = .ok (.iconst (-1), 1) := by decide +kernel
theorem dX7_number_22 : decode cX7_number 22 = .ok (.ireturn, 1) := by decide +kernel
theorem dX7_number_4 : decode cX7_number 4 = .ok (.iload_n 1, 1) := by decide +kernel
theorem dX7_number_5 : decode cX7_number 5 = .ok (.aload_n 0, 1) := by decide +kernel
theorem dX7_number_6 : decode cX7_number 6 = .ok (.getfield 27, 3) := by decide +kernel
theorem dX7_number_9 : decode cX7_number 9 = .ok (.if_icmp .ge 12, 3) := by decide +kernel
theorem dX7_number_12 : decode cX7_number 12 = .ok (.aload_n 0, 1) := by decide +kernel
theorem dX7_number_13 : decode cX7_number 13 = .ok (.getfield 15, 3) := by decide +kernel
theorem kf7_15 : inW (Cond.fieldLink RX7 15 "KneeOaths$Script" "numbers" "[I") := ⟨List.mem_of_getElem? (i := 238) (by decide +kernel), by decide +kernel⟩
theorem dX7_number_16 : decode cX7_number 16 = .ok (.iload_n 1, 1) := by decide +kernel
theorem dX7_number_17 : decode cX7_number 17 = .ok (.iaload, 1) := by decide +kernel
theorem dX7_number_18 : decode cX7_number 18 = .ok (.goto 4, 3) := by decide +kernel
theorem dX7_isFull_0 : decode cX7_isFull 0 = .ok (.aload_n 0, 1) := by decide +kernel
theorem dX7_isFull_1 : decode cX7_isFull 1 = .ok (.getfield 31, 3) := by decide +kernel
theorem kf7_31 : inW (Cond.fieldLink RX7 31 "KneeOaths$Script" "clauseCount" "I") := ⟨List.mem_of_getElem? (i := 244) (by decide +kernel), by decide +kernel⟩
theorem dX7_isFull_4 : decode cX7_isFull 4 = .ok (.bipush 24, 2) := by decide +kernel
theorem dX7_isFull_6 : decode cX7_isFull 6 = .ok (.if_icmp .lt 7, 3) := by decide +kernel
theorem dX7_isFull_13 : decode cX7_isFull 13 = .ok (.iconst 0, 1) := by decide +kernel
theorem dX7_isFull_14 : decode cX7_isFull 14 = .ok (.ireturn, 1) := by decide +kernel
theorem dX7_isFull_9 : decode cX7_isFull 9 = .ok (.iconst 1, 1) := by decide +kernel
theorem dX7_isFull_10 : decode cX7_isFull 10 = .ok (.goto 4, 3) := by decide +kernel
theorem dX7_clause_0 : decode cX7_clause 0 = .ok (.iload_n 1, 1) := by decide +kernel
theorem dX7_clause_1 : decode cX7_clause 1 = .ok (.ifCond .lt 20, 3) := by decide +kernel
theorem dX7_clause_21 : decode cX7_clause 21 = .ok (.iconst (-1), 1) := by decide +kernel
theorem dX7_clause_22 : decode cX7_clause 22 = .ok (.ireturn, 1) := by decide +kernel
theorem dX7_clause_4 : decode cX7_clause 4 = .ok (.iload_n 1, 1) := by decide +kernel
theorem dX7_clause_5 : decode cX7_clause 5 = .ok (.aload_n 0, 1) := by decide +kernel
theorem dX7_clause_6 : decode cX7_clause 6 = .ok (.getfield 31, 3) := by decide +kernel
theorem dX7_clause_9 : decode cX7_clause 9 = .ok (.if_icmp .ge 12, 3) := by decide +kernel
theorem dX7_clause_12 : decode cX7_clause 12 = .ok (.iload_n 2, 1) := by decide +kernel
theorem dX7_clause_13 : decode cX7_clause 13 = .ok (.ifCond .lt 8, 3) := by decide +kernel
theorem dX7_clause_16 : decode cX7_clause 16 = .ok (.iload_n 2, 1) := by decide +kernel
theorem dX7_clause_17 : decode cX7_clause 17 = .ok (.iconst 5, 1) := by decide +kernel
theorem dX7_clause_18 : decode cX7_clause 18 = .ok (.if_icmp .lt 5, 3) := by decide +kernel
theorem dX7_clause_23 : decode cX7_clause 23 = .ok (.aload_n 0, 1) := by decide +kernel
theorem dX7_clause_24 : decode cX7_clause 24 = .ok (.getfield 24, 3) := by decide +kernel
theorem kf7_24 : inW (Cond.fieldLink RX7 24 "KneeOaths$Script" "clauses" "[I") := ⟨List.mem_of_getElem? (i := 241) (by decide +kernel), by decide +kernel⟩
theorem dX7_clause_27 : decode cX7_clause 27 = .ok (.iload_n 1, 1) := by decide +kernel
theorem dX7_clause_28 : decode cX7_clause 28 = .ok (.iconst 5, 1) := by decide +kernel
theorem dX7_clause_29 : decode cX7_clause 29 = .ok (.imul, 1) := by decide +kernel
theorem dX7_clause_30 : decode cX7_clause 30 = .ok (.iload_n 2, 1) := by decide +kernel
theorem dX7_clause_31 : decode cX7_clause 31 = .ok (.iadd, 1) := by decide +kernel
theorem dX7_clause_32 : decode cX7_clause 32 = .ok (.iaload, 1) := by decide +kernel
theorem dX7_clause_33 : decode cX7_clause 33 = .ok (.ireturn, 1) := by decide +kernel
theorem dX7_addLaw_0 : decode cX7_addLaw 0 = .ok (.iload_n 1, 1) := by decide +kernel
theorem dX7_addLaw_1 : decode cX7_addLaw 1 = .ok (.ifCond .lt 25, 3) := by decide +kernel
theorem dX7_addLaw_26 : decode cX7_addLaw 26 = .ok (.return_, 1) := by decide +kernel
theorem dX7_addLaw_4 : decode cX7_addLaw 4 = .ok (.iload_n 1, 1) := by decide +kernel
theorem dX7_addLaw_5 : decode cX7_addLaw 5 = .ok (.iconst 3, 1) := by decide +kernel
theorem dX7_addLaw_6 : decode cX7_addLaw 6 = .ok (.if_icmp .ge 20, 3) := by decide +kernel
theorem dX7_addLaw_9 : decode cX7_addLaw 9 = .ok (.aload_n 0, 1) := by decide +kernel
theorem dX7_addLaw_10 : decode cX7_addLaw 10 = .ok (.getfield 18, 3) := by decide +kernel
theorem dX7_addLaw_13 : decode cX7_addLaw 13 = .ok (.iload_n 1, 1) := by decide +kernel
theorem dX7_addLaw_14 : decode cX7_addLaw 14 = .ok (.iload_n 2, 1) := by decide +kernel
theorem dX7_addLaw_15 : decode cX7_addLaw 15 = .ok (.iastore, 1) := by decide +kernel
theorem dX7_addLaw_16 : decode cX7_addLaw 16 = .ok (.aload_n 0, 1) := by decide +kernel
theorem dX7_addLaw_17 : decode cX7_addLaw 17 = .ok (.getfield 21, 3) := by decide +kernel
theorem dX7_addLaw_20 : decode cX7_addLaw 20 = .ok (.iload_n 1, 1) := by decide +kernel
theorem dX7_addLaw_21 : decode cX7_addLaw 21 = .ok (.aload_n 0, 1) := by decide +kernel
theorem dX7_addLaw_22 : decode cX7_addLaw 22 = .ok (.getfield 27, 3) := by decide +kernel
theorem dX7_addLaw_25 : decode cX7_addLaw 25 = .ok (.iastore, 1) := by decide +kernel
theorem dX7_leadHere_0 : decode cX7_leadHere 0 = .ok (.iload_n 1, 1) := by decide +kernel
theorem dX7_leadHere_1 : decode cX7_leadHere 1 = .ok (.ifCond .lt 21, 3) := by decide +kernel
theorem dX7_leadHere_22 : decode cX7_leadHere 22 = .ok (.return_, 1) := by decide +kernel
theorem dX7_leadHere_4 : decode cX7_leadHere 4 = .ok (.iload_n 1, 1) := by decide +kernel
theorem dX7_leadHere_5 : decode cX7_leadHere 5 = .ok (.aload_n 0, 1) := by decide +kernel
theorem dX7_leadHere_6 : decode cX7_leadHere 6 = .ok (.getfield 27, 3) := by decide +kernel
theorem dX7_leadHere_9 : decode cX7_leadHere 9 = .ok (.if_icmp .ge 13, 3) := by decide +kernel
theorem dX7_leadHere_12 : decode cX7_leadHere 12 = .ok (.aload_n 0, 1) := by decide +kernel
theorem dX7_leadHere_13 : decode cX7_leadHere 13 = .ok (.getfield 15, 3) := by decide +kernel
theorem dX7_leadHere_16 : decode cX7_leadHere 16 = .ok (.iload_n 1, 1) := by decide +kernel
theorem dX7_leadHere_17 : decode cX7_leadHere 17 = .ok (.aload_n 0, 1) := by decide +kernel
theorem dX7_leadHere_18 : decode cX7_leadHere 18 = .ok (.getfield 27, 3) := by decide +kernel
theorem dX7_leadHere_21 : decode cX7_leadHere 21 = .ok (.iastore, 1) := by decide +kernel
theorem dX7_add_0 : decode cX7_add 0 = .ok (.aload_n 0, 1) := by decide +kernel
theorem dX7_add_1 : decode cX7_add 1 = .ok (.getfield 27, 3) := by decide +kernel
theorem dX7_add_4 : decode cX7_add 4 = .ok (.sipush 300, 3) := by decide +kernel
theorem dX7_add_7 : decode cX7_add 7 = .ok (.if_icmp .lt 5, 3) := by decide +kernel
theorem dX7_add_12 : decode cX7_add 12 = .ok (.aload_n 0, 1) := by decide +kernel
theorem dX7_add_13 : decode cX7_add 13 = .ok (.getfield 9, 3) := by decide +kernel
theorem dX7_add_16 : decode cX7_add 16 = .ok (.aload_n 0, 1) := by decide +kernel
theorem dX7_add_17 : decode cX7_add 17 = .ok (.getfield 27, 3) := by decide +kernel
theorem dX7_add_20 : decode cX7_add 20 = .ok (.iload_n 1, 1) := by decide +kernel
theorem dX7_add_21 : decode cX7_add 21 = .ok (.iastore, 1) := by decide +kernel
theorem dX7_add_22 : decode cX7_add 22 = .ok (.aload_n 0, 1) := by decide +kernel
theorem dX7_add_23 : decode cX7_add 23 = .ok (.getfield 15, 3) := by decide +kernel
theorem dX7_add_26 : decode cX7_add 26 = .ok (.aload_n 0, 1) := by decide +kernel
theorem dX7_add_27 : decode cX7_add 27 = .ok (.getfield 27, 3) := by decide +kernel
theorem dX7_add_30 : decode cX7_add 30 = .ok (.iload_n 2, 1) := by decide +kernel
theorem dX7_add_31 : decode cX7_add 31 = .ok (.iastore, 1) := by decide +kernel
theorem dX7_add_32 : decode cX7_add 32 = .ok (.aload_n 0, 1) := by decide +kernel
theorem dX7_add_33 : decode cX7_add 33 = .ok (.dup, 1) := by decide +kernel
theorem dX7_add_34 : decode cX7_add 34 = .ok (.getfield 27, 3) := by decide +kernel
theorem dX7_add_37 : decode cX7_add 37 = .ok (.iconst 1, 1) := by decide +kernel
theorem dX7_add_38 : decode cX7_add 38 = .ok (.iadd, 1) := by decide +kernel
theorem dX7_add_39 : decode cX7_add 39 = .ok (.putfield 27, 3) := by decide +kernel
theorem dX7_add_42 : decode cX7_add 42 = .ok (.aload_n 0, 1) := by decide +kernel
theorem dX7_add_43 : decode cX7_add 43 = .ok (.getfield 27, 3) := by decide +kernel
theorem dX7_add_46 : decode cX7_add 46 = .ok (.iconst 1, 1) := by decide +kernel
theorem dX7_add_47 : decode cX7_add 47 = .ok (.isub, 1) := by decide +kernel
theorem dX7_add_48 : decode cX7_add 48 = .ok (.ireturn, 1) := by decide +kernel
theorem dX7_add_10 : decode cX7_add 10 = .ok (.iconst (-1), 1) := by decide +kernel
theorem dX7_add_11 : decode cX7_add 11 = .ok (.ireturn, 1) := by decide +kernel
theorem ixl {i N : Int32} {n : Nat} (hN : N.toInt = n) (h1 : ¬ i < 0) (h2 : i < N) : vp_in i n := by
  have a := ti0 h1
  rw [Int32.lt_iff_toInt_lt, hN] at h2
  exact vp_of a (by omega)
set_option maxHeartbeats 4000000 in
set_option maxRecDepth 100000 in
theorem c_X7_lawStart {l : Launch} {G : GG} {L : List Nat} {f : HF} {h dg nu lf lt cs : Nat} {i ln cc : Int32} {g_lf : Nat → Int32}  (p_h : pt L f h (.inr (7, [.ref dg, .ref nu, .ref lf, .ref lt, .ref cs, .int ln, .int cc]))) (p_lf : pt L f lf (.inl (G.2 0, 3, .inl g_lf)))  : PMp l yX7_lawStart cX7_lawStart 2 .int 0 0 0 G [.ref h, .int i] L f (fun r => True) := by
  refine PMi.of (post := fun r L1 f1 => (True) ∧ L1 = L ∧ f1 = f) (own := RX7) (by decide) rfl (Nat.le_of_ble_eq_true rfl) (fun sz p e s m args below meth c A ls hA1 hname S Y hl => ?_)
  have hx := S.hx
  have hb := S.hb
  have hl : lv_has ls 2 [(0, .ref h), (1, .int i)] := hl
  refine lv_iload_n hx hb dX7_lawStart_0 rfl (lv_at hl 1 rfl) ?_
  refine lv_if_lt (tgt := 18) hx hb dX7_lawStart_1 (by decide) (fun c_176 => ?_) (fun c_176 => ?_)
  · refine lv_iconst (v := 0) hx hb dX7_lawStart_18 (by decide) ?_
    exact prI (post := fun r L1 f1 => (True) ∧ L1 = L ∧ f1 = f) S Y rfl (by decide) (by decide) hA1 ⟨trivial, rfl, rfl⟩ dX7_lawStart_19
  · refine lv_iload_n hx hb dX7_lawStart_4 rfl (lv_at hl 1 rfl) ?_
    refine lv_iconst (v := 3) hx hb dX7_lawStart_5 (by decide) ?_
    refine lv_icmp_ge (tgt := 18) hx hb dX7_lawStart_6 (by decide) (fun c_177 => ?_) (fun c_177 => ?_)
    · refine lv_iconst (v := 0) hx hb dX7_lawStart_18 (by decide) ?_
      exact prI (post := fun r L1 f1 => (True) ∧ L1 = L ∧ f1 = f) S Y rfl (by decide) (by decide) hA1 ⟨trivial, rfl, rfl⟩ dX7_lawStart_19
    · refine lv_aload_n hx hb dX7_lawStart_9 rfl (lv_at hl 0 rfl) ?_
      refine pg_get S Y ok_X7 2 (by decide) kf7_18 (v := .ref lf) p_h rfl dX7_lawStart_10 ?_
      refine lv_iload_n hx hb dX7_lawStart_13 rfl (lv_at hl 1 rfl) ?_
      refine pg_iald S Y (v := (g_lf (i : Int32).toNatClampNeg)) p_lf (ixl (N := 3) rfl c_176 (Int32.not_le.mp c_177)) rfl dX7_lawStart_14 ?_
      refine lv_goto (tgt := 19) hx hb dX7_lawStart_15 (by decide) ?_
      exact prI (post := fun r L1 f1 => (True) ∧ L1 = L ∧ f1 = f) S Y rfl (by decide) (by decide) hA1 ⟨trivial, rfl, rfl⟩ dX7_lawStart_19
set_option maxHeartbeats 4000000 in
set_option maxRecDepth 100000 in
theorem c_X7_lawEnd {l : Launch} {G : GG} {L : List Nat} {f : HF} {h dg nu lf lt cs : Nat} {i ln cc : Int32} {g_lt : Nat → Int32}  (p_h : pt L f h (.inr (7, [.ref dg, .ref nu, .ref lf, .ref lt, .ref cs, .int ln, .int cc]))) (p_lt : pt L f lt (.inl (G.2 0, 3, .inl g_lt)))  : PMp l yX7_lawEnd cX7_lawEnd 2 .int 0 0 0 G [.ref h, .int i] L f (fun r => True) := by
  refine PMi.of (post := fun r L1 f1 => (True) ∧ L1 = L ∧ f1 = f) (own := RX7) (by decide) rfl (Nat.le_of_ble_eq_true rfl) (fun sz p e s m args below meth c A ls hA1 hname S Y hl => ?_)
  have hx := S.hx
  have hb := S.hb
  have hl : lv_has ls 2 [(0, .ref h), (1, .int i)] := hl
  refine lv_iload_n hx hb dX7_lawEnd_0 rfl (lv_at hl 1 rfl) ?_
  refine lv_if_lt (tgt := 18) hx hb dX7_lawEnd_1 (by decide) (fun c_178 => ?_) (fun c_178 => ?_)
  · refine lv_iconst (v := 0) hx hb dX7_lawEnd_18 (by decide) ?_
    exact prI (post := fun r L1 f1 => (True) ∧ L1 = L ∧ f1 = f) S Y rfl (by decide) (by decide) hA1 ⟨trivial, rfl, rfl⟩ dX7_lawEnd_19
  · refine lv_iload_n hx hb dX7_lawEnd_4 rfl (lv_at hl 1 rfl) ?_
    refine lv_iconst (v := 3) hx hb dX7_lawEnd_5 (by decide) ?_
    refine lv_icmp_ge (tgt := 18) hx hb dX7_lawEnd_6 (by decide) (fun c_179 => ?_) (fun c_179 => ?_)
    · refine lv_iconst (v := 0) hx hb dX7_lawEnd_18 (by decide) ?_
      exact prI (post := fun r L1 f1 => (True) ∧ L1 = L ∧ f1 = f) S Y rfl (by decide) (by decide) hA1 ⟨trivial, rfl, rfl⟩ dX7_lawEnd_19
    · refine lv_aload_n hx hb dX7_lawEnd_9 rfl (lv_at hl 0 rfl) ?_
      refine pg_get S Y ok_X7 3 (by decide) kf7_21 (v := .ref lt) p_h rfl dX7_lawEnd_10 ?_
      refine lv_iload_n hx hb dX7_lawEnd_13 rfl (lv_at hl 1 rfl) ?_
      refine pg_iald S Y (v := (g_lt (i : Int32).toNatClampNeg)) p_lt (ixl (N := 3) rfl c_178 (Int32.not_le.mp c_179)) rfl dX7_lawEnd_14 ?_
      refine lv_goto (tgt := 19) hx hb dX7_lawEnd_15 (by decide) ?_
      exact prI (post := fun r L1 f1 => (True) ∧ L1 = L ∧ f1 = f) S Y rfl (by decide) (by decide) hA1 ⟨trivial, rfl, rfl⟩ dX7_lawEnd_19
set_option maxHeartbeats 4000000 in
set_option maxRecDepth 100000 in
theorem c_X7_hasLaw {l : Launch} {G : GG} {L : List Nat} {f : HF} {h dg nu lf lt cs : Nat} {i ln cc : Int32} {g_lf g_lt : Nat → Int32}  (p_h : pt L f h (.inr (7, [.ref dg, .ref nu, .ref lf, .ref lt, .ref cs, .int ln, .int cc]))) (p_lf : pt L f lf (.inl (G.2 0, 3, .inl g_lf))) (p_lt : pt L f lt (.inl (G.2 0, 3, .inl g_lt)))  : PMp l yX7_hasLaw cX7_hasLaw 2 .boolean 0 0 0 G [.ref h, .int i] L f (fun r => True) := by
  refine PMi.of (post := fun r L1 f1 => (True) ∧ L1 = L ∧ f1 = f) (own := RX7) (by decide) rfl (Nat.le_of_ble_eq_true rfl) (fun sz p e s m args below meth c A ls hA1 hname S Y hl => ?_)
  have hx := S.hx
  have hb := S.hb
  have hl : lv_has ls 2 [(0, .ref h), (1, .int i)] := hl
  refine lv_iload_n hx hb dX7_hasLaw_0 rfl (lv_at hl 1 rfl) ?_
  refine lv_if_lt (tgt := 28) hx hb dX7_hasLaw_1 (by decide) (fun c_180 => ?_) (fun c_180 => ?_)
  · refine lv_iconst (v := 0) hx hb dX7_hasLaw_28 (by decide) ?_
    exact prI (post := fun r L1 f1 => (True) ∧ L1 = L ∧ f1 = f) S Y rfl (by decide) (by decide) hA1 ⟨trivial, rfl, rfl⟩ dX7_hasLaw_29
  · refine lv_iload_n hx hb dX7_hasLaw_4 rfl (lv_at hl 1 rfl) ?_
    refine lv_iconst (v := 3) hx hb dX7_hasLaw_5 (by decide) ?_
    refine lv_icmp_ge (tgt := 28) hx hb dX7_hasLaw_6 (by decide) (fun c_181 => ?_) (fun c_181 => ?_)
    · refine lv_iconst (v := 0) hx hb dX7_hasLaw_28 (by decide) ?_
      exact prI (post := fun r L1 f1 => (True) ∧ L1 = L ∧ f1 = f) S Y rfl (by decide) (by decide) hA1 ⟨trivial, rfl, rfl⟩ dX7_hasLaw_29
    · refine lv_aload_n hx hb dX7_hasLaw_9 rfl (lv_at hl 0 rfl) ?_
      refine pg_get S Y ok_X7 2 (by decide) kf7_18 (v := .ref lf) p_h rfl dX7_hasLaw_10 ?_
      refine lv_iload_n hx hb dX7_hasLaw_13 rfl (lv_at hl 1 rfl) ?_
      refine pg_iald S Y (v := (g_lf (i : Int32).toNatClampNeg)) p_lf (ixl (N := 3) rfl c_180 (Int32.not_le.mp c_181)) rfl dX7_hasLaw_14 ?_
      refine lv_aload_n hx hb dX7_hasLaw_15 rfl (lv_at hl 0 rfl) ?_
      refine pg_get S Y ok_X7 3 (by decide) kf7_21 (v := .ref lt) p_h rfl dX7_hasLaw_16 ?_
      refine lv_iload_n hx hb dX7_hasLaw_19 rfl (lv_at hl 1 rfl) ?_
      refine pg_iald S Y (v := (g_lt (i : Int32).toNatClampNeg)) p_lt (ixl (N := 3) rfl c_180 (Int32.not_le.mp c_181)) rfl dX7_hasLaw_20 ?_
      refine lv_icmp_ge (tgt := 28) hx hb dX7_hasLaw_21 (by decide) (fun c_182 => ?_) (fun c_182 => ?_)
      · refine lv_iconst (v := 0) hx hb dX7_hasLaw_28 (by decide) ?_
        exact prI (post := fun r L1 f1 => (True) ∧ L1 = L ∧ f1 = f) S Y rfl (by decide) (by decide) hA1 ⟨trivial, rfl, rfl⟩ dX7_hasLaw_29
      · refine lv_iconst (v := 1) hx hb dX7_hasLaw_24 (by decide) ?_
        refine lv_goto (tgt := 29) hx hb dX7_hasLaw_25 (by decide) ?_
        exact prI (post := fun r L1 f1 => (True) ∧ L1 = L ∧ f1 = f) S Y rfl (by decide) (by decide) hA1 ⟨trivial, rfl, rfl⟩ dX7_hasLaw_29
set_option maxHeartbeats 4000000 in
set_option maxRecDepth 100000 in
theorem c_X7_doing {l : Launch} {G : GG} {L : List Nat} {f : HF} {h dg nu lf lt cs : Nat} {i ln cc : Int32} {g : Nat → Int32}  (p_h : pt L f h (.inr (7, [.ref dg, .ref nu, .ref lf, .ref lt, .ref cs, .int ln, .int cc]))) (p_dg : pt L f dg (.inl (G.2 0, 300, .inl g))) (ql : bd ln 300) : PMp l yX7_doing cX7_doing 2 .int 0 0 0 G [.ref h, .int i] L f (fun r => True) := by
  refine PMi.of (post := fun r L1 f1 => (True) ∧ L1 = L ∧ f1 = f) (own := RX7) (by decide) rfl (Nat.le_of_ble_eq_true rfl) (fun sz p e s m args below meth c A ls hA1 hname S Y hl => ?_)
  have hx := S.hx
  have hb := S.hb
  have hl : lv_has ls 2 [(0, .ref h), (1, .int i)] := hl
  refine lv_iload_n hx hb dX7_doing_0 rfl (lv_at hl 1 rfl) ?_
  refine lv_if_lt (tgt := 21) hx hb dX7_doing_1 (by decide) (fun c_183 => ?_) (fun c_183 => ?_)
  · refine lv_iconst (v := (-1)) hx hb dX7_doing_21 (by decide) ?_
    exact prI (post := fun r L1 f1 => (True) ∧ L1 = L ∧ f1 = f) S Y rfl (by decide) (by decide) hA1 ⟨trivial, rfl, rfl⟩ dX7_doing_22
  · refine lv_iload_n hx hb dX7_doing_4 rfl (lv_at hl 1 rfl) ?_
    refine lv_aload_n hx hb dX7_doing_5 rfl (lv_at hl 0 rfl) ?_
    refine pg_get S Y ok_X7 5 (by decide) kf7_27 (v := .int ln) p_h rfl dX7_doing_6 ?_
    refine lv_icmp_ge (tgt := 21) hx hb dX7_doing_9 (by decide) (fun c_184 => ?_) (fun c_184 => ?_)
    · refine lv_iconst (v := (-1)) hx hb dX7_doing_21 (by decide) ?_
      exact prI (post := fun r L1 f1 => (True) ∧ L1 = L ∧ f1 = f) S Y rfl (by decide) (by decide) hA1 ⟨trivial, rfl, rfl⟩ dX7_doing_22
    · refine lv_aload_n hx hb dX7_doing_12 rfl (lv_at hl 0 rfl) ?_
      refine pg_get S Y ok_X7 0 (by decide) kf7_9 (v := .ref dg) p_h rfl dX7_doing_13 ?_
      refine lv_iload_n hx hb dX7_doing_16 rfl (lv_at hl 1 rfl) ?_
      refine pg_iald S Y (v := (g (i : Int32).toNatClampNeg)) p_dg (ixp ql c_183 (Int32.not_le.mp c_184)) rfl dX7_doing_17 ?_
      refine lv_goto (tgt := 22) hx hb dX7_doing_18 (by decide) ?_
      exact prI (post := fun r L1 f1 => (True) ∧ L1 = L ∧ f1 = f) S Y rfl (by decide) (by decide) hA1 ⟨trivial, rfl, rfl⟩ dX7_doing_22
set_option maxHeartbeats 4000000 in
set_option maxRecDepth 100000 in
theorem c_X7_number {l : Launch} {G : GG} {L : List Nat} {f : HF} {h dg nu lf lt cs : Nat} {i ln cc : Int32} {g : Nat → Int32}  (p_h : pt L f h (.inr (7, [.ref dg, .ref nu, .ref lf, .ref lt, .ref cs, .int ln, .int cc]))) (p_nu : pt L f nu (.inl (G.2 0, 300, .inl g))) (ql : bd ln 300) : PMp l yX7_number cX7_number 2 .int 0 0 0 G [.ref h, .int i] L f (fun r => True) := by
  refine PMi.of (post := fun r L1 f1 => (True) ∧ L1 = L ∧ f1 = f) (own := RX7) (by decide) rfl (Nat.le_of_ble_eq_true rfl) (fun sz p e s m args below meth c A ls hA1 hname S Y hl => ?_)
  have hx := S.hx
  have hb := S.hb
  have hl : lv_has ls 2 [(0, .ref h), (1, .int i)] := hl
  refine lv_iload_n hx hb dX7_number_0 rfl (lv_at hl 1 rfl) ?_
  refine lv_if_lt (tgt := 21) hx hb dX7_number_1 (by decide) (fun c_185 => ?_) (fun c_185 => ?_)
  · refine lv_iconst (v := (-1)) hx hb dX7_number_21 (by decide) ?_
    exact prI (post := fun r L1 f1 => (True) ∧ L1 = L ∧ f1 = f) S Y rfl (by decide) (by decide) hA1 ⟨trivial, rfl, rfl⟩ dX7_number_22
  · refine lv_iload_n hx hb dX7_number_4 rfl (lv_at hl 1 rfl) ?_
    refine lv_aload_n hx hb dX7_number_5 rfl (lv_at hl 0 rfl) ?_
    refine pg_get S Y ok_X7 5 (by decide) kf7_27 (v := .int ln) p_h rfl dX7_number_6 ?_
    refine lv_icmp_ge (tgt := 21) hx hb dX7_number_9 (by decide) (fun c_186 => ?_) (fun c_186 => ?_)
    · refine lv_iconst (v := (-1)) hx hb dX7_number_21 (by decide) ?_
      exact prI (post := fun r L1 f1 => (True) ∧ L1 = L ∧ f1 = f) S Y rfl (by decide) (by decide) hA1 ⟨trivial, rfl, rfl⟩ dX7_number_22
    · refine lv_aload_n hx hb dX7_number_12 rfl (lv_at hl 0 rfl) ?_
      refine pg_get S Y ok_X7 1 (by decide) kf7_15 (v := .ref nu) p_h rfl dX7_number_13 ?_
      refine lv_iload_n hx hb dX7_number_16 rfl (lv_at hl 1 rfl) ?_
      refine pg_iald S Y (v := (g (i : Int32).toNatClampNeg)) p_nu (ixp ql c_185 (Int32.not_le.mp c_186)) rfl dX7_number_17 ?_
      refine lv_goto (tgt := 22) hx hb dX7_number_18 (by decide) ?_
      exact prI (post := fun r L1 f1 => (True) ∧ L1 = L ∧ f1 = f) S Y rfl (by decide) (by decide) hA1 ⟨trivial, rfl, rfl⟩ dX7_number_22
set_option maxHeartbeats 4000000 in
set_option maxRecDepth 100000 in
theorem c_X7_isFull {l : Launch} {G : GG} {L : List Nat} {f : HF} {h dg nu lf lt cs : Nat} {ln cc : Int32}  (p_h : pt L f h (.inr (7, [.ref dg, .ref nu, .ref lf, .ref lt, .ref cs, .int ln, .int cc])))  : PMp l yX7_isFull cX7_isFull 1 .boolean 0 0 0 G [.ref h] L f (fun r => True) := by
  refine PMi.of (post := fun r L1 f1 => (True) ∧ L1 = L ∧ f1 = f) (own := RX7) (by decide) rfl (Nat.le_of_ble_eq_true rfl) (fun sz p e s m args below meth c A ls hA1 hname S Y hl => ?_)
  have hx := S.hx
  have hb := S.hb
  have hl : lv_has ls 1 [(0, .ref h)] := hl
  refine lv_aload_n hx hb dX7_isFull_0 rfl (lv_at hl 0 rfl) ?_
  refine pg_get S Y ok_X7 6 (by decide) kf7_31 (v := .int cc) p_h rfl dX7_isFull_1 ?_
  refine lv_bipush (v := 24) hx hb dX7_isFull_4 (by decide) ?_
  refine lv_icmp_lt (tgt := 13) hx hb dX7_isFull_6 (by decide) (fun c_187 => ?_) (fun c_187 => ?_)
  · refine lv_iconst (v := 0) hx hb dX7_isFull_13 (by decide) ?_
    exact prI (post := fun r L1 f1 => (True) ∧ L1 = L ∧ f1 = f) S Y rfl (by decide) (by decide) hA1 ⟨trivial, rfl, rfl⟩ dX7_isFull_14
  · refine lv_iconst (v := 1) hx hb dX7_isFull_9 (by decide) ?_
    refine lv_goto (tgt := 14) hx hb dX7_isFull_10 (by decide) ?_
    exact prI (post := fun r L1 f1 => (True) ∧ L1 = L ∧ f1 = f) S Y rfl (by decide) (by decide) hA1 ⟨trivial, rfl, rfl⟩ dX7_isFull_14
set_option maxHeartbeats 4000000 in
set_option maxRecDepth 100000 in
theorem c_X7_clause {l : Launch} {G : GG} {L : List Nat} {f : HF} {h dg nu lf lt cs : Nat} {i j ln cc : Int32} {g : Nat → Int32}  (p_h : pt L f h (.inr (7, [.ref dg, .ref nu, .ref lf, .ref lt, .ref cs, .int ln, .int cc]))) (p_cs : pt L f cs (.inl (G.2 0, 120, .inl g))) (qc : bd cc 24) : PMp l yX7_clause cX7_clause 3 .int 0 0 0 G [.ref h, .int i, .int j] L f (fun r => True) := by
  refine PMi.of (post := fun r L1 f1 => (True) ∧ L1 = L ∧ f1 = f) (own := RX7) (by decide) rfl (Nat.le_of_ble_eq_true rfl) (fun sz p e s m args below meth c A ls hA1 hname S Y hl => ?_)
  have hx := S.hx
  have hb := S.hb
  have hl : lv_has ls 3 [(0, .ref h), (1, .int i), (2, .int j)] := hl
  refine lv_iload_n hx hb dX7_clause_0 rfl (lv_at hl 1 rfl) ?_
  refine lv_if_lt (tgt := 21) hx hb dX7_clause_1 (by decide) (fun c_188 => ?_) (fun c_188 => ?_)
  · refine lv_iconst (v := (-1)) hx hb dX7_clause_21 (by decide) ?_
    exact prI (post := fun r L1 f1 => (True) ∧ L1 = L ∧ f1 = f) S Y rfl (by decide) (by decide) hA1 ⟨trivial, rfl, rfl⟩ dX7_clause_22
  · refine lv_iload_n hx hb dX7_clause_4 rfl (lv_at hl 1 rfl) ?_
    refine lv_aload_n hx hb dX7_clause_5 rfl (lv_at hl 0 rfl) ?_
    refine pg_get S Y ok_X7 6 (by decide) kf7_31 (v := .int cc) p_h rfl dX7_clause_6 ?_
    refine lv_icmp_ge (tgt := 21) hx hb dX7_clause_9 (by decide) (fun c_189 => ?_) (fun c_189 => ?_)
    · refine lv_iconst (v := (-1)) hx hb dX7_clause_21 (by decide) ?_
      exact prI (post := fun r L1 f1 => (True) ∧ L1 = L ∧ f1 = f) S Y rfl (by decide) (by decide) hA1 ⟨trivial, rfl, rfl⟩ dX7_clause_22
    · refine lv_iload_n hx hb dX7_clause_12 rfl (lv_at hl 2 rfl) ?_
      refine lv_if_lt (tgt := 21) hx hb dX7_clause_13 (by decide) (fun c_190 => ?_) (fun c_190 => ?_)
      · refine lv_iconst (v := (-1)) hx hb dX7_clause_21 (by decide) ?_
        exact prI (post := fun r L1 f1 => (True) ∧ L1 = L ∧ f1 = f) S Y rfl (by decide) (by decide) hA1 ⟨trivial, rfl, rfl⟩ dX7_clause_22
      · refine lv_iload_n hx hb dX7_clause_16 rfl (lv_at hl 2 rfl) ?_
        refine lv_iconst (v := 5) hx hb dX7_clause_17 (by decide) ?_
        refine lv_icmp_lt (tgt := 23) hx hb dX7_clause_18 (by decide) (fun c_191 => ?_) (fun c_191 => ?_)
        · refine lv_aload_n hx hb dX7_clause_23 rfl (lv_at hl 0 rfl) ?_
          refine pg_get S Y ok_X7 4 (by decide) kf7_24 (v := .ref cs) p_h rfl dX7_clause_24 ?_
          refine lv_iload_n hx hb dX7_clause_27 rfl (lv_at hl 1 rfl) ?_
          refine lv_iconst (v := 5) hx hb dX7_clause_28 (by decide) ?_
          refine lv_imul hx hb dX7_clause_29 ?_
          refine lv_topi (fun x_192 ex_192 => ?_)
          refine lv_iload_n hx hb dX7_clause_30 rfl (lv_at hl 2 rfl) ?_
          refine lv_iadd hx hb dX7_clause_31 ?_
          refine lv_topi (fun x_193 ex_193 => ?_)
          refine pg_iald S Y (v := (g (x_193 : Int32).toNatClampNeg)) p_cs (by rw [ex_193, ex_192]; exact ixw (c := cc) (n := 24) (q := 5) rfl rfl (by decide) (by decide) qc c_188 c_189 c_190 c_191) rfl dX7_clause_32 ?_
          exact prI (post := fun r L1 f1 => (True) ∧ L1 = L ∧ f1 = f) S Y rfl (by decide) (by decide) hA1 ⟨trivial, rfl, rfl⟩ dX7_clause_33
        · refine lv_iconst (v := (-1)) hx hb dX7_clause_21 (by decide) ?_
          exact prI (post := fun r L1 f1 => (True) ∧ L1 = L ∧ f1 = f) S Y rfl (by decide) (by decide) hA1 ⟨trivial, rfl, rfl⟩ dX7_clause_22
set_option maxHeartbeats 4000000 in
set_option maxRecDepth 100000 in
theorem c_X7_addLaw {l : Launch} {G : GG} {L : List Nat} {f : HF} {h dg nu lf lt cs : Nat} {i j ln cc : Int32} {g1 g2 : Nat → Int32}  (p_h : pt L f h (.inr (7, [.ref dg, .ref nu, .ref lf, .ref lt, .ref cs, .int ln, .int cc]))) (p_lf : pt L f lf (.inl (G.2 0, 3, .inl g1))) (p_lt : pt L f lt (.inl (G.2 0, 3, .inl g2))) (n1 : lf ≠ lt) : PMv l yX7_addLaw cX7_addLaw 3 0 0 0 G [.ref h, .int i, .int j] L f (fun L1 f1 => ∃ g3 : Nat → Int32, ∃ g4 : Nat → Int32, kp L f L1 f1 [lf, lt] ∧ pt L1 f1 lf (.inl (G.2 0, 3, .inl g3)) ∧ pt L1 f1 lt (.inl (G.2 0, 3, .inl g4))) := by
  refine PMv.of (post := fun L1 f1 => ∃ g3 : Nat → Int32, ∃ g4 : Nat → Int32, kp L f L1 f1 [lf, lt] ∧ pt L1 f1 lf (.inl (G.2 0, 3, .inl g3)) ∧ pt L1 f1 lt (.inl (G.2 0, 3, .inl g4))) (own := RX7) (by decide) rfl (Nat.le_of_ble_eq_true rfl) (fun sz p e s m args below meth c A ls hA1 hname S Y hl => ?_)
  have hx := S.hx
  have hb := S.hb
  have hl : lv_has ls 3 [(0, .ref h), (1, .int i), (2, .int j)] := hl
  have hk : kp L f L f [lf, lt] := kp.rf
  refine lv_iload_n hx hb dX7_addLaw_0 rfl (lv_at hl 1 rfl) ?_
  refine lv_if_lt (tgt := 26) hx hb dX7_addLaw_1 (by decide) (fun c_194 => ?_) (fun c_194 => ?_)
  · exact prV (post := fun L1 f1 => ∃ g3 : Nat → Int32, ∃ g4 : Nat → Int32, kp L f L1 f1 [lf, lt] ∧ pt L1 f1 lf (.inl (G.2 0, 3, .inl g3)) ∧ pt L1 f1 lt (.inl (G.2 0, 3, .inl g4))) S Y (by decide) (by decide) hA1 ⟨g1, g2, hk, p_lf, p_lt⟩ dX7_addLaw_26
  · refine lv_iload_n hx hb dX7_addLaw_4 rfl (lv_at hl 1 rfl) ?_
    refine lv_iconst (v := 3) hx hb dX7_addLaw_5 (by decide) ?_
    refine lv_icmp_ge (tgt := 26) hx hb dX7_addLaw_6 (by decide) (fun c_195 => ?_) (fun c_195 => ?_)
    · exact prV (post := fun L1 f1 => ∃ g3 : Nat → Int32, ∃ g4 : Nat → Int32, kp L f L1 f1 [lf, lt] ∧ pt L1 f1 lf (.inl (G.2 0, 3, .inl g3)) ∧ pt L1 f1 lt (.inl (G.2 0, 3, .inl g4))) S Y (by decide) (by decide) hA1 ⟨g1, g2, hk, p_lf, p_lt⟩ dX7_addLaw_26
    · refine lv_aload_n hx hb dX7_addLaw_9 rfl (lv_at hl 0 rfl) ?_
      refine pg_get S Y ok_X7 2 (by decide) kf7_18 (v := .ref lf) p_h rfl dX7_addLaw_10 ?_
      refine lv_iload_n hx hb dX7_addLaw_13 rfl (lv_at hl 1 rfl) ?_
      refine lv_iload_n hx hb dX7_addLaw_14 rfl (lv_at hl 2 rfl) ?_
      refine pg_iast S Y p_lf (ixl (N := 3) rfl c_194 (Int32.not_le.mp c_195)) dX7_addLaw_15 (fun f_197 H locs ef_197 Y => ?_)
      obtain ⟨g_196, eg_196⟩ : ∃ z, z = upd (g1) (i : Int32).toNatClampNeg j := ⟨_, rfl⟩
      rw [← eg_196] at ef_197
      have p_h := p_h.up ef_197 ((p_h.neA p_lf))
      have p_lt := p_lt.up ef_197 ((Ne.symm (n1)))
      have p_lf := p_lf.me ef_197
      have hk := hk.up ef_197 (by simp)
      refine lv_aload_n hx hb dX7_addLaw_16 rfl (lv_at hl 0 rfl) ?_
      refine pg_get S Y ok_X7 3 (by decide) kf7_21 (v := .ref lt) p_h rfl dX7_addLaw_17 ?_
      refine lv_iload_n hx hb dX7_addLaw_20 rfl (lv_at hl 1 rfl) ?_
      refine lv_aload_n hx hb dX7_addLaw_21 rfl (lv_at hl 0 rfl) ?_
      refine pg_get S Y ok_X7 5 (by decide) kf7_27 (v := .int ln) p_h rfl dX7_addLaw_22 ?_
      refine pg_iast S Y p_lt (ixl (N := 3) rfl c_194 (Int32.not_le.mp c_195)) dX7_addLaw_25 (fun f_199 H locs ef_199 Y => ?_)
      obtain ⟨g_198, eg_198⟩ : ∃ z, z = upd (g2) (i : Int32).toNatClampNeg ln := ⟨_, rfl⟩
      rw [← eg_198] at ef_199
      have p_h := p_h.up ef_199 ((p_h.neA p_lt))
      have p_lf := p_lf.up ef_199 ((n1))
      have p_lt := p_lt.me ef_199
      have hk := hk.up ef_199 (by simp)
      exact prV (post := fun L1 f1 => ∃ g3 : Nat → Int32, ∃ g4 : Nat → Int32, kp L f L1 f1 [lf, lt] ∧ pt L1 f1 lf (.inl (G.2 0, 3, .inl g3)) ∧ pt L1 f1 lt (.inl (G.2 0, 3, .inl g4))) S Y (by decide) (by decide) hA1 ⟨g_196, g_198, hk, p_lf, p_lt⟩ dX7_addLaw_26
set_option maxHeartbeats 4000000 in
set_option maxRecDepth 100000 in
theorem c_X7_leadHere {l : Launch} {G : GG} {L : List Nat} {f : HF} {h dg nu lf lt cs : Nat} {i ln cc : Int32} {g : Nat → Int32}  (p_h : pt L f h (.inr (7, [.ref dg, .ref nu, .ref lf, .ref lt, .ref cs, .int ln, .int cc]))) (p_nu : pt L f nu (.inl (G.2 0, 300, .inl g))) (ql : bd ln 300) : PMv l yX7_leadHere cX7_leadHere 2 0 0 0 G [.ref h, .int i] L f (fun L1 f1 => ∃ g2 : Nat → Int32, kp L f L1 f1 [nu] ∧ pt L1 f1 nu (.inl (G.2 0, 300, .inl g2))) := by
  refine PMv.of (post := fun L1 f1 => ∃ g2 : Nat → Int32, kp L f L1 f1 [nu] ∧ pt L1 f1 nu (.inl (G.2 0, 300, .inl g2))) (own := RX7) (by decide) rfl (Nat.le_of_ble_eq_true rfl) (fun sz p e s m args below meth c A ls hA1 hname S Y hl => ?_)
  have hx := S.hx
  have hb := S.hb
  have hl : lv_has ls 2 [(0, .ref h), (1, .int i)] := hl
  have hk : kp L f L f [nu] := kp.rf
  refine lv_iload_n hx hb dX7_leadHere_0 rfl (lv_at hl 1 rfl) ?_
  refine lv_if_lt (tgt := 22) hx hb dX7_leadHere_1 (by decide) (fun c_200 => ?_) (fun c_200 => ?_)
  · exact prV (post := fun L1 f1 => ∃ g2 : Nat → Int32, kp L f L1 f1 [nu] ∧ pt L1 f1 nu (.inl (G.2 0, 300, .inl g2))) S Y (by decide) (by decide) hA1 ⟨g, hk, p_nu⟩ dX7_leadHere_22
  · refine lv_iload_n hx hb dX7_leadHere_4 rfl (lv_at hl 1 rfl) ?_
    refine lv_aload_n hx hb dX7_leadHere_5 rfl (lv_at hl 0 rfl) ?_
    refine pg_get S Y ok_X7 5 (by decide) kf7_27 (v := .int ln) p_h rfl dX7_leadHere_6 ?_
    refine lv_icmp_ge (tgt := 22) hx hb dX7_leadHere_9 (by decide) (fun c_201 => ?_) (fun c_201 => ?_)
    · exact prV (post := fun L1 f1 => ∃ g2 : Nat → Int32, kp L f L1 f1 [nu] ∧ pt L1 f1 nu (.inl (G.2 0, 300, .inl g2))) S Y (by decide) (by decide) hA1 ⟨g, hk, p_nu⟩ dX7_leadHere_22
    · refine lv_aload_n hx hb dX7_leadHere_12 rfl (lv_at hl 0 rfl) ?_
      refine pg_get S Y ok_X7 1 (by decide) kf7_15 (v := .ref nu) p_h rfl dX7_leadHere_13 ?_
      refine lv_iload_n hx hb dX7_leadHere_16 rfl (lv_at hl 1 rfl) ?_
      refine lv_aload_n hx hb dX7_leadHere_17 rfl (lv_at hl 0 rfl) ?_
      refine pg_get S Y ok_X7 5 (by decide) kf7_27 (v := .int ln) p_h rfl dX7_leadHere_18 ?_
      refine pg_iast S Y p_nu (ixp ql c_200 (Int32.not_le.mp c_201)) dX7_leadHere_21 (fun f_203 H locs ef_203 Y => ?_)
      obtain ⟨g_202, eg_202⟩ : ∃ z, z = upd (g) (i : Int32).toNatClampNeg ln := ⟨_, rfl⟩
      rw [← eg_202] at ef_203
      have p_h := p_h.up ef_203 ((p_h.neA p_nu))
      have p_nu := p_nu.me ef_203
      have hk := hk.up ef_203 (by simp)
      exact prV (post := fun L1 f1 => ∃ g2 : Nat → Int32, kp L f L1 f1 [nu] ∧ pt L1 f1 nu (.inl (G.2 0, 300, .inl g2))) S Y (by decide) (by decide) hA1 ⟨g_202, hk, p_nu⟩ dX7_leadHere_22
set_option maxHeartbeats 4000000 in
set_option maxRecDepth 100000 in
theorem c_X7_add {l : Launch} {G : GG} {L : List Nat} {f : HF} {h dg nu lf lt cs : Nat} {i j ln cc : Int32} {g1 g2 : Nat → Int32}  (p_h : pt L f h (.inr (7, [.ref dg, .ref nu, .ref lf, .ref lt, .ref cs, .int ln, .int cc]))) (p_dg : pt L f dg (.inl (G.2 0, 300, .inl g1))) (p_nu : pt L f nu (.inl (G.2 0, 300, .inl g2))) (n1 : dg ≠ nu) (ql : bd ln 300) : PMi l yX7_add cX7_add 3 .int 0 0 0 G [.ref h, .int i, .int j] L f (fun r L1 f1 => ∃ ln2 : Int32, ∃ g3 : Nat → Int32, ∃ g4 : Nat → Int32, kp L f L1 f1 [h, dg, nu] ∧ pt L1 f1 h (.inr (7, [.ref dg, .ref nu, .ref lf, .ref lt, .ref cs, .int ln2, .int cc])) ∧ pt L1 f1 dg (.inl (G.2 0, 300, .inl g3)) ∧ pt L1 f1 nu (.inl (G.2 0, 300, .inl g4)) ∧ bd ln2 300) := by
  refine PMi.of (post := fun r L1 f1 => ∃ ln2 : Int32, ∃ g3 : Nat → Int32, ∃ g4 : Nat → Int32, kp L f L1 f1 [h, dg, nu] ∧ pt L1 f1 h (.inr (7, [.ref dg, .ref nu, .ref lf, .ref lt, .ref cs, .int ln2, .int cc])) ∧ pt L1 f1 dg (.inl (G.2 0, 300, .inl g3)) ∧ pt L1 f1 nu (.inl (G.2 0, 300, .inl g4)) ∧ bd ln2 300) (own := RX7) (by decide) rfl (Nat.le_of_ble_eq_true rfl) (fun sz p e s m args below meth c A ls hA1 hname S Y hl => ?_)
  have hx := S.hx
  have hb := S.hb
  have hl : lv_has ls 3 [(0, .ref h), (1, .int i), (2, .int j)] := hl
  have hk : kp L f L f [h, dg, nu] := kp.rf
  refine lv_aload_n hx hb dX7_add_0 rfl (lv_at hl 0 rfl) ?_
  refine pg_get S Y ok_X7 5 (by decide) kf7_27 (v := .int ln) p_h rfl dX7_add_1 ?_
  refine lv_sipush (v := 300) hx hb dX7_add_4 (by decide) ?_
  refine lv_icmp_lt (tgt := 12) hx hb dX7_add_7 (by decide) (fun c_204 => ?_) (fun c_204 => ?_)
  · refine lv_aload_n hx hb dX7_add_12 rfl (lv_at hl 0 rfl) ?_
    refine pg_get S Y ok_X7 0 (by decide) kf7_9 (v := .ref dg) p_h rfl dX7_add_13 ?_
    refine lv_aload_n hx hb dX7_add_16 rfl (lv_at hl 0 rfl) ?_
    refine pg_get S Y ok_X7 5 (by decide) kf7_27 (v := .int ln) p_h rfl dX7_add_17 ?_
    refine lv_iload_n hx hb dX7_add_20 rfl (lv_at hl 1 rfl) ?_
    refine pg_iast S Y p_dg (ixq (N := 300) ql (Int32.not_le.mpr c_204) rfl) dX7_add_21 (fun f_206 H locs ef_206 Y => ?_)
    obtain ⟨g_205, eg_205⟩ : ∃ z, z = upd (g1) (ln : Int32).toNatClampNeg i := ⟨_, rfl⟩
    rw [← eg_205] at ef_206
    have p_h := p_h.up ef_206 ((p_h.neA p_dg))
    have p_nu := p_nu.up ef_206 ((Ne.symm (n1)))
    have p_dg := p_dg.me ef_206
    have hk := hk.up ef_206 (by simp)
    refine lv_aload_n hx hb dX7_add_22 rfl (lv_at hl 0 rfl) ?_
    refine pg_get S Y ok_X7 1 (by decide) kf7_15 (v := .ref nu) p_h rfl dX7_add_23 ?_
    refine lv_aload_n hx hb dX7_add_26 rfl (lv_at hl 0 rfl) ?_
    refine pg_get S Y ok_X7 5 (by decide) kf7_27 (v := .int ln) p_h rfl dX7_add_27 ?_
    refine lv_iload_n hx hb dX7_add_30 rfl (lv_at hl 2 rfl) ?_
    refine pg_iast S Y p_nu (ixq (N := 300) ql (Int32.not_le.mpr c_204) rfl) dX7_add_31 (fun f_208 H locs ef_208 Y => ?_)
    obtain ⟨g_207, eg_207⟩ : ∃ z, z = upd (g2) (ln : Int32).toNatClampNeg j := ⟨_, rfl⟩
    rw [← eg_207] at ef_208
    have p_h := p_h.up ef_208 ((p_h.neA p_nu))
    have p_dg := p_dg.up ef_208 ((n1))
    have p_nu := p_nu.me ef_208
    have hk := hk.up ef_208 (by simp)
    refine lv_aload_n hx hb dX7_add_32 rfl (lv_at hl 0 rfl) ?_
    refine lv_dup hx hb dX7_add_33 rfl ?_
    refine pg_get S Y ok_X7 5 (by decide) kf7_27 (v := .int ln) p_h rfl dX7_add_34 ?_
    refine lv_iconst (v := 1) hx hb dX7_add_37 (by decide) ?_
    refine lv_iadd hx hb dX7_add_38 ?_
    refine lv_topi (fun x_209 ex_209 => ?_)
    refine pg_put S Y ok_X7 5 (by decide) kf7_27 rfl (fs' := [.ref dg, .ref nu, .ref lf, .ref lt, .ref cs, .int x_209, .int cc]) (v := .int x_209) p_h rfl rfl rfl (Nat.le_of_ble_eq_true rfl) dX7_add_39 (fun f_210 H locs ef_210 Y => ?_)
    have p_dg := p_dg.up ef_210 ((p_dg.neB p_h))
    have p_nu := p_nu.up ef_210 ((p_nu.neB p_h))
    have p_h := p_h.me ef_210
    have hk := hk.up ef_210 (by simp)
    refine lv_aload_n hx hb dX7_add_42 rfl (lv_at hl 0 rfl) ?_
    refine pg_get S Y ok_X7 5 (by decide) kf7_27 (v := .int x_209) p_h rfl dX7_add_43 ?_
    refine lv_iconst (v := 1) hx hb dX7_add_46 (by decide) ?_
    refine lv_isub hx hb dX7_add_47 ?_
    refine lv_topi (fun x_211 ex_211 => ?_)
    exact prI (post := fun r L1 f1 => ∃ ln2 : Int32, ∃ g3 : Nat → Int32, ∃ g4 : Nat → Int32, kp L f L1 f1 [h, dg, nu] ∧ pt L1 f1 h (.inr (7, [.ref dg, .ref nu, .ref lf, .ref lt, .ref cs, .int ln2, .int cc])) ∧ pt L1 f1 dg (.inl (G.2 0, 300, .inl g3)) ∧ pt L1 f1 nu (.inl (G.2 0, 300, .inl g4)) ∧ bd ln2 300) S Y rfl (by decide) (by decide) hA1 ⟨x_209, g_205, g_207, hk, p_h, p_dg, p_nu, (by rw [ex_209]; exact bd_inc ql (Int32.not_le.mpr c_204) rfl (by decide))⟩ dX7_add_48
  · refine lv_iconst (v := (-1)) hx hb dX7_add_10 (by decide) ?_
    exact prI (post := fun r L1 f1 => ∃ ln2 : Int32, ∃ g3 : Nat → Int32, ∃ g4 : Nat → Int32, kp L f L1 f1 [h, dg, nu] ∧ pt L1 f1 h (.inr (7, [.ref dg, .ref nu, .ref lf, .ref lt, .ref cs, .int ln2, .int cc])) ∧ pt L1 f1 dg (.inl (G.2 0, 300, .inl g3)) ∧ pt L1 f1 nu (.inl (G.2 0, 300, .inl g4)) ∧ bd ln2 300) S Y rfl (by decide) (by decide) hA1 ⟨ln, g1, g2, hk, p_h, p_dg, p_nu, ql⟩ dX7_add_11
