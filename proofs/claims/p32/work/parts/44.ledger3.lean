theorem dX4_marks_0 : decode cX4_marks 0 = .ok (.iconst 0, 1) := by decide +kernel
theorem dX4_marks_1 : decode cX4_marks 1 = .ok (.istore_n 2, 1) := by decide +kernel
theorem dX4_marks_2 : decode cX4_marks 2 = .ok (.iconst 0, 1) := by decide +kernel
theorem dX4_marks_3 : decode cX4_marks 3 = .ok (.istore_n 3, 1) := by decide +kernel
theorem dX4_marks_4 : decode cX4_marks 4 = .ok (.iload_n 3, 1) := by decide +kernel
theorem dX4_marks_5 : decode cX4_marks 5 = .ok (.aload_n 0, 1) := by decide +kernel
theorem dX4_marks_6 : decode cX4_marks 6 = .ok (.getfield 28, 3) := by decide +kernel
theorem dX4_marks_9 : decode cX4_marks 9 = .ok (.if_icmp .ge 21, 3) := by decide +kernel
theorem dX4_marks_30 : decode cX4_marks 30 = .ok (.iload_n 2, 1) := by decide +kernel
theorem dX4_marks_31 : decode cX4_marks 31 = .ok (.ireturn, 1) := by decide +kernel
theorem dX4_marks_12 : decode cX4_marks 12 = .ok (.aload_n 0, 1) := by decide +kernel
theorem dX4_marks_13 : decode cX4_marks 13 = .ok (.iload_n 3, 1) := by decide +kernel
theorem dX4_marks_14 : decode cX4_marks 14 = .ok (.iload_n 1, 1) := by decide +kernel
theorem dX4_marks_15 : decode cX4_marks 15 = .ok (.invokevirtual 60, 3) := by decide +kernel
theorem cw_X4_legibleOn : CWv yX4_legibleOn cX4_legibleOn 4 (some .boolean) 2 := ⟨⟨⟨List.mem_of_getElem? (i := 125) (by decide +kernel), by decide +kernel⟩, ⟨List.mem_of_getElem? (i := 1003) (by decide +kernel), by decide +kernel⟩, by decide +kernel⟩, ⟨List.mem_of_getElem? (i := 1001) (by decide +kernel), by decide +kernel⟩, ⟨List.mem_of_getElem? (i := 1002) (by decide +kernel), by decide +kernel⟩⟩
theorem km4_60 : inW (Cond.methodLink RX4 60 yX4_legibleOn) := ⟨List.mem_of_getElem? (i := 1000) (by decide +kernel), by decide +kernel⟩
theorem dX4_marks_18 : decode cX4_marks 18 = .ok (.ifCond .eq 6, 3) := by decide +kernel
theorem dX4_marks_24 : decode cX4_marks 24 = .ok (.iinc 3 1, 3) := by decide +kernel
theorem dX4_marks_27 : decode cX4_marks 27 = .ok (.goto (-23), 3) := by decide +kernel
theorem dX4_marks_21 : decode cX4_marks 21 = .ok (.iinc 2 1, 3) := by decide +kernel
theorem dX4_marksOnKnee_0 : decode cX4_marksOnKnee 0 = .ok (.iconst 0, 1) := by decide +kernel
theorem dX4_marksOnKnee_1 : decode cX4_marksOnKnee 1 = .ok (.istore_n 3, 1) := by decide +kernel
theorem dX4_marksOnKnee_2 : decode cX4_marksOnKnee 2 = .ok (.iconst 0, 1) := by decide +kernel
theorem dX4_marksOnKnee_3 : decode cX4_marksOnKnee 3 = .ok (.istore 4, 2) := by decide +kernel
theorem dX4_marksOnKnee_5 : decode cX4_marksOnKnee 5 = .ok (.iload 4, 2) := by decide +kernel
theorem dX4_marksOnKnee_7 : decode cX4_marksOnKnee 7 = .ok (.aload_n 0, 1) := by decide +kernel
theorem dX4_marksOnKnee_8 : decode cX4_marksOnKnee 8 = .ok (.getfield 28, 3) := by decide +kernel
theorem dX4_marksOnKnee_11 : decode cX4_marksOnKnee 11 = .ok (.if_icmp .ge 33, 3) := by decide +kernel
theorem dX4_marksOnKnee_44 : decode cX4_marksOnKnee 44 = .ok (.iload_n 3, 1) := by decide +kernel
theorem dX4_marksOnKnee_45 : decode cX4_marksOnKnee 45 = .ok (.ireturn, 1) := by decide +kernel
theorem dX4_marksOnKnee_14 : decode cX4_marksOnKnee 14 = .ok (.aload_n 0, 1) := by decide +kernel
theorem dX4_marksOnKnee_15 : decode cX4_marksOnKnee 15 = .ok (.iload 4, 2) := by decide +kernel
theorem dX4_marksOnKnee_17 : decode cX4_marksOnKnee 17 = .ok (.iload_n 1, 1) := by decide +kernel
theorem dX4_marksOnKnee_18 : decode cX4_marksOnKnee 18 = .ok (.invokevirtual 60, 3) := by decide +kernel
theorem dX4_marksOnKnee_21 : decode cX4_marksOnKnee 21 = .ok (.ifCond .eq 17, 3) := by decide +kernel
theorem dX4_marksOnKnee_38 : decode cX4_marksOnKnee 38 = .ok (.iinc 4 1, 3) := by decide +kernel
theorem dX4_marksOnKnee_41 : decode cX4_marksOnKnee 41 = .ok (.goto (-36), 3) := by decide +kernel
theorem dX4_marksOnKnee_24 : decode cX4_marksOnKnee 24 = .ok (.aload_n 0, 1) := by decide +kernel
theorem dX4_marksOnKnee_25 : decode cX4_marksOnKnee 25 = .ok (.iload 4, 2) := by decide +kernel
theorem dX4_marksOnKnee_27 : decode cX4_marksOnKnee 27 = .ok (.iconst 2, 1) := by decide +kernel
theorem dX4_marksOnKnee_28 : decode cX4_marksOnKnee 28 = .ok (.invokevirtual 44, 3) := by decide +kernel
theorem dX4_marksOnKnee_31 : decode cX4_marksOnKnee 31 = .ok (.iload_n 2, 1) := by decide +kernel
theorem dX4_marksOnKnee_32 : decode cX4_marksOnKnee 32 = .ok (.if_icmp .ne 6, 3) := by decide +kernel
theorem dX4_marksOnKnee_35 : decode cX4_marksOnKnee 35 = .ok (.iinc 3 1, 3) := by decide +kernel
theorem dX4_writtenOf_0 : decode cX4_writtenOf 0 = .ok (.iconst 0, 1) := by decide +kernel
theorem dX4_writtenOf_1 : decode cX4_writtenOf 1 = .ok (.istore_n 2, 1) := by decide +kernel
theorem dX4_writtenOf_2 : decode cX4_writtenOf 2 = .ok (.iconst 0, 1) := by decide +kernel
theorem dX4_writtenOf_3 : decode cX4_writtenOf 3 = .ok (.istore_n 3, 1) := by decide +kernel
theorem dX4_writtenOf_4 : decode cX4_writtenOf 4 = .ok (.iload_n 3, 1) := by decide +kernel
theorem dX4_writtenOf_5 : decode cX4_writtenOf 5 = .ok (.aload_n 0, 1) := by decide +kernel
theorem dX4_writtenOf_6 : decode cX4_writtenOf 6 = .ok (.getfield 31, 3) := by decide +kernel
theorem dX4_writtenOf_9 : decode cX4_writtenOf 9 = .ok (.if_icmp .ge 33, 3) := by decide +kernel
theorem dX4_writtenOf_42 : decode cX4_writtenOf 42 = .ok (.iload_n 2, 1) := by decide +kernel
theorem dX4_writtenOf_43 : decode cX4_writtenOf 43 = .ok (.ireturn, 1) := by decide +kernel
theorem dX4_writtenOf_12 : decode cX4_writtenOf 12 = .ok (.iload_n 1, 1) := by decide +kernel
theorem dX4_writtenOf_13 : decode cX4_writtenOf 13 = .ok (.iconst (-1), 1) := by decide +kernel
theorem dX4_writtenOf_14 : decode cX4_writtenOf 14 = .ok (.if_icmp .eq 13, 3) := by decide +kernel
theorem dX4_writtenOf_27 : decode cX4_writtenOf 27 = .ok (.iload_n 2, 1) := by decide +kernel
theorem dX4_writtenOf_28 : decode cX4_writtenOf 28 = .ok (.aload_n 0, 1) := by decide +kernel
theorem dX4_writtenOf_29 : decode cX4_writtenOf 29 = .ok (.iload_n 3, 1) := by decide +kernel
theorem dX4_writtenOf_30 : decode cX4_writtenOf 30 = .ok (.iconst 2, 1) := by decide +kernel
theorem dX4_writtenOf_31 : decode cX4_writtenOf 31 = .ok (.invokevirtual 68, 3) := by decide +kernel
theorem cw_X4_written : CWv yX4_written cX4_written 3 (some .int) 2 := ⟨⟨⟨List.mem_of_getElem? (i := 125) (by decide +kernel), by decide +kernel⟩, ⟨List.mem_of_getElem? (i := 1174) (by decide +kernel), by decide +kernel⟩, by decide +kernel⟩, ⟨List.mem_of_getElem? (i := 1172) (by decide +kernel), by decide +kernel⟩, ⟨List.mem_of_getElem? (i := 1173) (by decide +kernel), by decide +kernel⟩⟩
theorem km4_68 : inW (Cond.methodLink RX4 68 yX4_written) := ⟨List.mem_of_getElem? (i := 1453) (by decide +kernel), by decide +kernel⟩
theorem dX4_writtenOf_34 : decode cX4_writtenOf 34 = .ok (.iadd, 1) := by decide +kernel
theorem dX4_writtenOf_35 : decode cX4_writtenOf 35 = .ok (.istore_n 2, 1) := by decide +kernel
theorem dX4_writtenOf_36 : decode cX4_writtenOf 36 = .ok (.iinc 3 1, 3) := by decide +kernel
theorem dX4_writtenOf_39 : decode cX4_writtenOf 39 = .ok (.goto (-35), 3) := by decide +kernel
theorem dX4_writtenOf_17 : decode cX4_writtenOf 17 = .ok (.aload_n 0, 1) := by decide +kernel
theorem dX4_writtenOf_18 : decode cX4_writtenOf 18 = .ok (.iload_n 3, 1) := by decide +kernel
theorem dX4_writtenOf_19 : decode cX4_writtenOf 19 = .ok (.iconst 1, 1) := by decide +kernel
theorem dX4_writtenOf_20 : decode cX4_writtenOf 20 = .ok (.invokevirtual 68, 3) := by decide +kernel
theorem dX4_writtenOf_23 : decode cX4_writtenOf 23 = .ok (.iload_n 1, 1) := by decide +kernel
theorem dX4_writtenOf_24 : decode cX4_writtenOf 24 = .ok (.if_icmp .ne 12, 3) := by decide +kernel
theorem dX4_dayOfMost_0 : decode cX4_dayOfMost 0 = .ok (.iconst (-1), 1) := by decide +kernel
theorem dX4_dayOfMost_1 : decode cX4_dayOfMost 1 = .ok (.istore_n 1, 1) := by decide +kernel
theorem dX4_dayOfMost_2 : decode cX4_dayOfMost 2 = .ok (.iconst 0, 1) := by decide +kernel
theorem dX4_dayOfMost_3 : decode cX4_dayOfMost 3 = .ok (.istore_n 2, 1) := by decide +kernel
theorem dX4_dayOfMost_4 : decode cX4_dayOfMost 4 = .ok (.iconst 0, 1) := by decide +kernel
theorem dX4_dayOfMost_5 : decode cX4_dayOfMost 5 = .ok (.istore_n 3, 1) := by decide +kernel
theorem dX4_dayOfMost_6 : decode cX4_dayOfMost 6 = .ok (.iload_n 3, 1) := by decide +kernel
theorem dX4_dayOfMost_7 : decode cX4_dayOfMost 7 = .ok (.aload_n 0, 1) := by decide +kernel
theorem dX4_dayOfMost_8 : decode cX4_dayOfMost 8 = .ok (.getfield 31, 3) := by decide +kernel
theorem dX4_dayOfMost_11 : decode cX4_dayOfMost 11 = .ok (.if_icmp .ge 33, 3) := by decide +kernel
theorem dX4_dayOfMost_44 : decode cX4_dayOfMost 44 = .ok (.iload_n 1, 1) := by decide +kernel
theorem dX4_dayOfMost_45 : decode cX4_dayOfMost 45 = .ok (.ireturn, 1) := by decide +kernel
theorem dX4_dayOfMost_14 : decode cX4_dayOfMost 14 = .ok (.aload_n 0, 1) := by decide +kernel
theorem dX4_dayOfMost_15 : decode cX4_dayOfMost 15 = .ok (.iload_n 3, 1) := by decide +kernel
theorem dX4_dayOfMost_16 : decode cX4_dayOfMost 16 = .ok (.iconst 2, 1) := by decide +kernel
theorem dX4_dayOfMost_17 : decode cX4_dayOfMost 17 = .ok (.invokevirtual 68, 3) := by decide +kernel
theorem dX4_dayOfMost_20 : decode cX4_dayOfMost 20 = .ok (.iload_n 2, 1) := by decide +kernel
theorem dX4_dayOfMost_21 : decode cX4_dayOfMost 21 = .ok (.if_icmp .le 17, 3) := by decide +kernel
theorem dX4_dayOfMost_38 : decode cX4_dayOfMost 38 = .ok (.iinc 3 1, 3) := by decide +kernel
theorem dX4_dayOfMost_41 : decode cX4_dayOfMost 41 = .ok (.goto (-35), 3) := by decide +kernel
theorem dX4_dayOfMost_24 : decode cX4_dayOfMost 24 = .ok (.aload_n 0, 1) := by decide +kernel
theorem dX4_dayOfMost_25 : decode cX4_dayOfMost 25 = .ok (.iload_n 3, 1) := by decide +kernel
theorem dX4_dayOfMost_26 : decode cX4_dayOfMost 26 = .ok (.iconst 2, 1) := by decide +kernel
theorem dX4_dayOfMost_27 : decode cX4_dayOfMost 27 = .ok (.invokevirtual 68, 3) := by decide +kernel
theorem dX4_dayOfMost_30 : decode cX4_dayOfMost 30 = .ok (.istore_n 2, 1) := by decide +kernel
theorem dX4_dayOfMost_31 : decode cX4_dayOfMost 31 = .ok (.aload_n 0, 1) := by decide +kernel
theorem dX4_dayOfMost_32 : decode cX4_dayOfMost 32 = .ok (.iload_n 3, 1) := by decide +kernel
theorem dX4_dayOfMost_33 : decode cX4_dayOfMost 33 = .ok (.iconst 0, 1) := by decide +kernel
theorem dX4_dayOfMost_34 : decode cX4_dayOfMost 34 = .ok (.invokevirtual 68, 3) := by decide +kernel
theorem dX4_dayOfMost_37 : decode cX4_dayOfMost 37 = .ok (.istore_n 1, 1) := by decide +kernel
theorem lp_1 {i c : Int32} {n : Nat} (hb : bd c n) (hn : n ≤ 1000000) (h0 : 0 ≤ i.toInt) (h : ¬ c ≤ i) : (i + 1).toInt = i.toInt + 1 := by
  rw [Int32.le_iff_toInt_le] at h
  obtain ⟨b1, b2⟩ := hb
  exact ti_add (by rw [show (1 : Int32).toInt = 1 from rfl]; omega) (by rw [show (1 : Int32).toInt = 1 from rfl]; omega)
theorem lp_ge {i c x : Int32} {n : Nat} (hb : bd c n) (hn : n ≤ 1000000) (h0 : 0 ≤ i.toInt) (h : ¬ c ≤ i) (hx : x = i + 1) : 0 ≤ x.toInt := by rw [hx, lp_1 hb hn h0 h]; omega
theorem lp_dec {i c x : Int32} {n k : Nat} (hb : bd c n) (hn : n ≤ 1000000) (h0 : 0 ≤ i.toInt) (h : ¬ c ≤ i) (hx : x = i + 1) (hk : c.toInt ≤ i.toInt + (k + 1 : Nat)) : c.toInt ≤ x.toInt + k := by rw [hx, lp_1 hb hn h0 h]; omega
theorem lp_end {i c : Int32} (hk : c.toInt ≤ i.toInt + (0 : Nat)) : c ≤ i := by rw [Int32.le_iff_toInt_le]; omega
set_option maxHeartbeats 4000000 in
set_option maxRecDepth 100000 in
theorem c_X4_marks {l : Launch} {G : GG} {L : List Nat} {f : HF} {h oa aa : Nat} {i oc ac dt rn xx : Int32} {g : Nat → Int32}  (p_h : pt L f h (.inr (4, [.ref oa, .ref aa, .int oc, .int ac, .int dt, .int rn, .int xx]))) (p_oa : pt L f oa (.inl (G.2 0, 98, .inl g))) (qb : bd oc 14) : PMp l yX4_marks cX4_marks 4 .int 1 0 0 G [.ref h, .int i] L f (fun r => True) := by
  refine PMi.of (post := fun r L1 f1 => (True) ∧ L1 = L ∧ f1 = f) (own := RX4) (by decide) rfl (Nat.le_of_ble_eq_true rfl) (fun sz p e s m args below meth c A ls hA1 hname S Y hl => ?_)
  have hx := S.hx
  have hb := S.hb
  have hl : lv_has ls 4 [(0, .ref h), (1, .int i)] := hl
  refine lv_iconst (v := 0) hx hb dX4_marks_0 (by decide) ?_
  refine lv_istore_n (lv' := [(2, .int 0), (0, .ref h), (1, .int i)]) hx hb dX4_marks_1 rfl hl (by decide) rfl (fun ls hl => ?_)
  refine lv_iconst (v := 0) hx hb dX4_marks_2 (by decide) ?_
  refine lv_istore_n (lv' := [(3, .int 0), (2, .int 0), (0, .ref h), (1, .int i)]) hx hb dX4_marks_3 rfl hl (by decide) rfl (fun ls hl => ?_)
  have loop : ∀ (n : Nat) (y2 y3 : Int32) (H : Heap) (locs : List Loc) (ls : Array Slot), 0 ≤ y3.toInt → oc.toInt ≤ y3.toInt + n → DY G A s [] L f H locs → lv_has ls 4 [(3, .int y3), (2, .int y2), (0, .ref h), (1, .int i)] → W p l e (rmD 1 0 0) s m args below meth c H locs (0) (0) (MQ below (va_Qi (fun r (u : List Nat × HF) => (fun r L1 f1 => (True) ∧ L1 = L ∧ f1 = f) r u.1 u.2) (fun u t => pOut G (va_A (va_pl L f) sz) u.1 u.2 t) (va_A (va_pl L f) sz)) args s 0 0 A) (F0 m 4 ls []) := by
    intro n
    induction n with
    | zero =>
      intro y2 y3 H locs ls h0 hn Y hl
      refine lv_iload_n hx hb dX4_marks_4 rfl (lv_at hl 0 rfl) ?_
      refine lv_aload_n hx hb dX4_marks_5 rfl (lv_at hl 2 rfl) ?_
      refine pg_get S Y ok_X4 2 (by decide) kf4_28 (v := .int oc) p_h rfl dX4_marks_6 ?_
      refine lv_icmp_ge (tgt := 30) hx hb dX4_marks_9 (by decide) (fun _ => ?_) (fun h => absurd (lp_end hn) h)
      refine lv_iload_n hx hb dX4_marks_30 rfl (lv_at hl 1 rfl) ?_
      exact prI (post := fun r L1 f1 => (True) ∧ L1 = L ∧ f1 = f) S Y rfl (by decide) (by decide) hA1 ⟨trivial, rfl, rfl⟩ dX4_marks_31
    | succ n ih =>
      intro y2 y3 H locs ls h0 hn Y hl
      refine lv_iload_n hx hb dX4_marks_4 rfl (lv_at hl 0 rfl) ?_
      refine lv_aload_n hx hb dX4_marks_5 rfl (lv_at hl 2 rfl) ?_
      refine pg_get S Y ok_X4 2 (by decide) kf4_28 (v := .int oc) p_h rfl dX4_marks_6 ?_
      refine lv_icmp_ge (tgt := 30) hx hb dX4_marks_9 (by decide) (fun c_120 => ?_) (fun c_120 => ?_)
      · refine lv_iload_n hx hb dX4_marks_30 rfl (lv_at hl 1 rfl) ?_
        exact prI (post := fun r L1 f1 => (True) ∧ L1 = L ∧ f1 = f) S Y rfl (by decide) (by decide) hA1 ⟨trivial, rfl, rfl⟩ dX4_marks_31
      · refine lv_aload_n hx hb dX4_marks_12 rfl (lv_at hl 2 rfl) ?_
        refine lv_iload_n hx hb dX4_marks_13 rfl (lv_at hl 0 rfl) ?_
        refine lv_iload_n hx hb dX4_marks_14 rfl (lv_at hl 3 rfl) ?_
        refine cVp (As := [.int y3, .int i]) (rest := []) S Y (c_X4_legibleOn (l := l) p_h p_oa qb) cw_X4_legibleOn km4_60 p_h ok_X4.1 rfl rfl ⟨Nat.le_of_ble_eq_true rfl, Nat.le_of_ble_eq_true rfl⟩ hl.1 rfl (Nat.le_of_ble_eq_true rfl) ⟨Nat.le_of_ble_eq_true rfl, Nat.le_of_ble_eq_true rfl⟩ dX4_marks_15 (fun r_121 H locs er_121 Y => ?_)
        refine lv_if_eq (tgt := 24) hx hb dX4_marks_18 (by decide) (fun c_122 => ?_) (fun c_122 => ?_)
        · obtain ⟨x_123, ex_123⟩ : ∃ z : Int32, z = y3 + 1 := ⟨_, rfl⟩
          refine lv_iinc (v := x_123) (lv' := [(3, .int x_123), (2, .int y2), (0, .ref h), (1, .int i)]) hx hb dX4_marks_24 hl (k := 0) rfl (by rw [ex_123]; rfl) (by decide) rfl (fun ls hl => ?_)
          refine lv_goto (tgt := 4) hx hb dX4_marks_27 (by decide) ?_
          exact ih _ _ _ _ _ (lp_ge qb (by decide) h0 c_120 ex_123) (lp_dec qb (by decide) h0 c_120 ex_123 hn) Y (lv_sub hl [0, 1, 2, 3] rfl)
        · obtain ⟨x_124, ex_124⟩ : ∃ z : Int32, z = y2 + 1 := ⟨_, rfl⟩
          refine lv_iinc (v := x_124) (lv' := [(2, .int x_124), (3, .int y3), (0, .ref h), (1, .int i)]) hx hb dX4_marks_21 hl (k := 1) rfl (by rw [ex_124]; rfl) (by decide) rfl (fun ls hl => ?_)
          obtain ⟨x_125, ex_125⟩ : ∃ z : Int32, z = y3 + 1 := ⟨_, rfl⟩
          refine lv_iinc (v := x_125) (lv' := [(3, .int x_125), (2, .int x_124), (0, .ref h), (1, .int i)]) hx hb dX4_marks_24 hl (k := 1) rfl (by rw [ex_125]; rfl) (by decide) rfl (fun ls hl => ?_)
          refine lv_goto (tgt := 4) hx hb dX4_marks_27 (by decide) ?_
          exact ih _ _ _ _ _ (lp_ge qb (by decide) h0 c_120 ex_125) (lp_dec qb (by decide) h0 c_120 ex_125 hn) Y (lv_sub hl [0, 1, 2, 3] rfl)
  exact loop oc.toInt.toNat 0 0 _ _ _ (by decide) (by have h9 := qb.1; rw [show (0 : Int32).toInt = 0 from rfl]; omega) Y hl
set_option maxHeartbeats 4000000 in
set_option maxRecDepth 100000 in
theorem c_X4_marksOnKnee {l : Launch} {G : GG} {L : List Nat} {f : HF} {h oa aa : Nat} {i j oc ac dt rn xx : Int32} {g : Nat → Int32}  (p_h : pt L f h (.inr (4, [.ref oa, .ref aa, .int oc, .int ac, .int dt, .int rn, .int xx]))) (p_oa : pt L f oa (.inl (G.2 0, 98, .inl g))) (qb : bd oc 14) : PMp l yX4_marksOnKnee cX4_marksOnKnee 5 .int 1 0 0 G [.ref h, .int i, .int j] L f (fun r => True) := by
  refine PMi.of (post := fun r L1 f1 => (True) ∧ L1 = L ∧ f1 = f) (own := RX4) (by decide) rfl (Nat.le_of_ble_eq_true rfl) (fun sz p e s m args below meth c A ls hA1 hname S Y hl => ?_)
  have hx := S.hx
  have hb := S.hb
  have hl : lv_has ls 5 [(0, .ref h), (1, .int i), (2, .int j)] := hl
  refine lv_iconst (v := 0) hx hb dX4_marksOnKnee_0 (by decide) ?_
  refine lv_istore_n (lv' := [(3, .int 0), (0, .ref h), (1, .int i), (2, .int j)]) hx hb dX4_marksOnKnee_1 rfl hl (by decide) rfl (fun ls hl => ?_)
  refine lv_iconst (v := 0) hx hb dX4_marksOnKnee_2 (by decide) ?_
  refine lv_istore (lv' := [(4, .int 0), (3, .int 0), (0, .ref h), (1, .int i), (2, .int j)]) hx hb dX4_marksOnKnee_3 hl (by decide) rfl (fun ls hl => ?_)
  have loop : ∀ (n : Nat) (y3 y4 : Int32) (H : Heap) (locs : List Loc) (ls : Array Slot), 0 ≤ y4.toInt → oc.toInt ≤ y4.toInt + n → DY G A s [] L f H locs → lv_has ls 5 [(4, .int y4), (3, .int y3), (0, .ref h), (1, .int i), (2, .int j)] → W p l e (rmD 1 0 0) s m args below meth c H locs (0) (0) (MQ below (va_Qi (fun r (u : List Nat × HF) => (fun r L1 f1 => (True) ∧ L1 = L ∧ f1 = f) r u.1 u.2) (fun u t => pOut G (va_A (va_pl L f) sz) u.1 u.2 t) (va_A (va_pl L f) sz)) args s 0 0 A) (F0 m 5 ls []) := by
    intro n
    induction n with
    | zero =>
      intro y3 y4 H locs ls h0 hn Y hl
      refine lv_iload hx hb dX4_marksOnKnee_5 (lv_at hl 0 rfl) ?_
      refine lv_aload_n hx hb dX4_marksOnKnee_7 rfl (lv_at hl 2 rfl) ?_
      refine pg_get S Y ok_X4 2 (by decide) kf4_28 (v := .int oc) p_h rfl dX4_marksOnKnee_8 ?_
      refine lv_icmp_ge (tgt := 44) hx hb dX4_marksOnKnee_11 (by decide) (fun _ => ?_) (fun h => absurd (lp_end hn) h)
      refine lv_iload_n hx hb dX4_marksOnKnee_44 rfl (lv_at hl 1 rfl) ?_
      exact prI (post := fun r L1 f1 => (True) ∧ L1 = L ∧ f1 = f) S Y rfl (by decide) (by decide) hA1 ⟨trivial, rfl, rfl⟩ dX4_marksOnKnee_45
    | succ n ih =>
      intro y3 y4 H locs ls h0 hn Y hl
      refine lv_iload hx hb dX4_marksOnKnee_5 (lv_at hl 0 rfl) ?_
      refine lv_aload_n hx hb dX4_marksOnKnee_7 rfl (lv_at hl 2 rfl) ?_
      refine pg_get S Y ok_X4 2 (by decide) kf4_28 (v := .int oc) p_h rfl dX4_marksOnKnee_8 ?_
      refine lv_icmp_ge (tgt := 44) hx hb dX4_marksOnKnee_11 (by decide) (fun c_126 => ?_) (fun c_126 => ?_)
      · refine lv_iload_n hx hb dX4_marksOnKnee_44 rfl (lv_at hl 1 rfl) ?_
        exact prI (post := fun r L1 f1 => (True) ∧ L1 = L ∧ f1 = f) S Y rfl (by decide) (by decide) hA1 ⟨trivial, rfl, rfl⟩ dX4_marksOnKnee_45
      · refine lv_aload_n hx hb dX4_marksOnKnee_14 rfl (lv_at hl 2 rfl) ?_
        refine lv_iload hx hb dX4_marksOnKnee_15 (lv_at hl 0 rfl) ?_
        refine lv_iload_n hx hb dX4_marksOnKnee_17 rfl (lv_at hl 3 rfl) ?_
        refine cVp (As := [.int y4, .int i]) (rest := []) S Y (c_X4_legibleOn (l := l) p_h p_oa qb) cw_X4_legibleOn km4_60 p_h ok_X4.1 rfl rfl ⟨Nat.le_of_ble_eq_true rfl, Nat.le_of_ble_eq_true rfl⟩ hl.1 rfl (Nat.le_of_ble_eq_true rfl) ⟨Nat.le_of_ble_eq_true rfl, Nat.le_of_ble_eq_true rfl⟩ dX4_marksOnKnee_18 (fun r_127 H locs er_127 Y => ?_)
        refine lv_if_eq (tgt := 38) hx hb dX4_marksOnKnee_21 (by decide) (fun c_128 => ?_) (fun c_128 => ?_)
        · obtain ⟨x_129, ex_129⟩ : ∃ z : Int32, z = y4 + 1 := ⟨_, rfl⟩
          refine lv_iinc (v := x_129) (lv' := [(4, .int x_129), (3, .int y3), (0, .ref h), (1, .int i), (2, .int j)]) hx hb dX4_marksOnKnee_38 hl (k := 0) rfl (by rw [ex_129]; rfl) (by decide) rfl (fun ls hl => ?_)
          refine lv_goto (tgt := 5) hx hb dX4_marksOnKnee_41 (by decide) ?_
          exact ih _ _ _ _ _ (lp_ge qb (by decide) h0 c_126 ex_129) (lp_dec qb (by decide) h0 c_126 ex_129 hn) Y (lv_sub hl [0, 1, 2, 3, 4] rfl)
        · refine lv_aload_n hx hb dX4_marksOnKnee_24 rfl (lv_at hl 2 rfl) ?_
          refine lv_iload hx hb dX4_marksOnKnee_25 (lv_at hl 0 rfl) ?_
          refine lv_iconst (v := 2) hx hb dX4_marksOnKnee_27 (by decide) ?_
          refine cVp (As := [.int y4, .int 2]) (rest := []) S Y (c_X4_get (l := l) p_h p_oa qb) cw_X4_get km4_44 p_h ok_X4.1 rfl rfl ⟨Nat.le_of_ble_eq_true rfl, Nat.le_of_ble_eq_true rfl⟩ hl.1 rfl (Nat.le_of_ble_eq_true rfl) ⟨Nat.le_of_ble_eq_true rfl, Nat.le_of_ble_eq_true rfl⟩ dX4_marksOnKnee_28 (fun r_130 H locs er_130 Y => ?_)
          refine lv_iload_n hx hb dX4_marksOnKnee_31 rfl (lv_at hl 4 rfl) ?_
          refine lv_icmp_ne (tgt := 38) hx hb dX4_marksOnKnee_32 (by decide) (fun c_131 => ?_) (fun c_131 => ?_)
          · obtain ⟨x_132, ex_132⟩ : ∃ z : Int32, z = y4 + 1 := ⟨_, rfl⟩
            refine lv_iinc (v := x_132) (lv' := [(4, .int x_132), (3, .int y3), (0, .ref h), (1, .int i), (2, .int j)]) hx hb dX4_marksOnKnee_38 hl (k := 0) rfl (by rw [ex_132]; rfl) (by decide) rfl (fun ls hl => ?_)
            refine lv_goto (tgt := 5) hx hb dX4_marksOnKnee_41 (by decide) ?_
            exact ih _ _ _ _ _ (lp_ge qb (by decide) h0 c_126 ex_132) (lp_dec qb (by decide) h0 c_126 ex_132 hn) Y (lv_sub hl [0, 1, 2, 3, 4] rfl)
          · obtain ⟨x_133, ex_133⟩ : ∃ z : Int32, z = y3 + 1 := ⟨_, rfl⟩
            refine lv_iinc (v := x_133) (lv' := [(3, .int x_133), (4, .int y4), (0, .ref h), (1, .int i), (2, .int j)]) hx hb dX4_marksOnKnee_35 hl (k := 1) rfl (by rw [ex_133]; rfl) (by decide) rfl (fun ls hl => ?_)
            obtain ⟨x_134, ex_134⟩ : ∃ z : Int32, z = y4 + 1 := ⟨_, rfl⟩
            refine lv_iinc (v := x_134) (lv' := [(4, .int x_134), (3, .int x_133), (0, .ref h), (1, .int i), (2, .int j)]) hx hb dX4_marksOnKnee_38 hl (k := 1) rfl (by rw [ex_134]; rfl) (by decide) rfl (fun ls hl => ?_)
            refine lv_goto (tgt := 5) hx hb dX4_marksOnKnee_41 (by decide) ?_
            exact ih _ _ _ _ _ (lp_ge qb (by decide) h0 c_126 ex_134) (lp_dec qb (by decide) h0 c_126 ex_134 hn) Y (lv_sub hl [0, 1, 2, 3, 4] rfl)
  exact loop oc.toInt.toNat 0 0 _ _ _ (by decide) (by have h9 := qb.1; rw [show (0 : Int32).toInt = 0 from rfl]; omega) Y hl
set_option maxHeartbeats 4000000 in
set_option maxRecDepth 100000 in
theorem c_X4_writtenOf {l : Launch} {G : GG} {L : List Nat} {f : HF} {h oa aa : Nat} {i oc ac dt rn xx : Int32} {g : Nat → Int32}  (p_h : pt L f h (.inr (4, [.ref oa, .ref aa, .int oc, .int ac, .int dt, .int rn, .int xx]))) (p_aa : pt L f aa (.inl (G.2 0, 90, .inl g))) (qa : bd ac 30) : PMp l yX4_writtenOf cX4_writtenOf 4 .int 1 0 0 G [.ref h, .int i] L f (fun r => True) := by
  refine PMi.of (post := fun r L1 f1 => (True) ∧ L1 = L ∧ f1 = f) (own := RX4) (by decide) rfl (Nat.le_of_ble_eq_true rfl) (fun sz p e s m args below meth c A ls hA1 hname S Y hl => ?_)
  have hx := S.hx
  have hb := S.hb
  have hl : lv_has ls 4 [(0, .ref h), (1, .int i)] := hl
  refine lv_iconst (v := 0) hx hb dX4_writtenOf_0 (by decide) ?_
  refine lv_istore_n (lv' := [(2, .int 0), (0, .ref h), (1, .int i)]) hx hb dX4_writtenOf_1 rfl hl (by decide) rfl (fun ls hl => ?_)
  refine lv_iconst (v := 0) hx hb dX4_writtenOf_2 (by decide) ?_
  refine lv_istore_n (lv' := [(3, .int 0), (2, .int 0), (0, .ref h), (1, .int i)]) hx hb dX4_writtenOf_3 rfl hl (by decide) rfl (fun ls hl => ?_)
  have loop : ∀ (n : Nat) (y2 y3 : Int32) (H : Heap) (locs : List Loc) (ls : Array Slot), 0 ≤ y3.toInt → ac.toInt ≤ y3.toInt + n → DY G A s [] L f H locs → lv_has ls 4 [(3, .int y3), (2, .int y2), (0, .ref h), (1, .int i)] → W p l e (rmD 1 0 0) s m args below meth c H locs (0) (0) (MQ below (va_Qi (fun r (u : List Nat × HF) => (fun r L1 f1 => (True) ∧ L1 = L ∧ f1 = f) r u.1 u.2) (fun u t => pOut G (va_A (va_pl L f) sz) u.1 u.2 t) (va_A (va_pl L f) sz)) args s 0 0 A) (F0 m 4 ls []) := by
    intro n
    induction n with
    | zero =>
      intro y2 y3 H locs ls h0 hn Y hl
      refine lv_iload_n hx hb dX4_writtenOf_4 rfl (lv_at hl 0 rfl) ?_
      refine lv_aload_n hx hb dX4_writtenOf_5 rfl (lv_at hl 2 rfl) ?_
      refine pg_get S Y ok_X4 3 (by decide) kf4_31 (v := .int ac) p_h rfl dX4_writtenOf_6 ?_
      refine lv_icmp_ge (tgt := 42) hx hb dX4_writtenOf_9 (by decide) (fun _ => ?_) (fun h => absurd (lp_end hn) h)
      refine lv_iload_n hx hb dX4_writtenOf_42 rfl (lv_at hl 1 rfl) ?_
      exact prI (post := fun r L1 f1 => (True) ∧ L1 = L ∧ f1 = f) S Y rfl (by decide) (by decide) hA1 ⟨trivial, rfl, rfl⟩ dX4_writtenOf_43
    | succ n ih =>
      intro y2 y3 H locs ls h0 hn Y hl
      refine lv_iload_n hx hb dX4_writtenOf_4 rfl (lv_at hl 0 rfl) ?_
      refine lv_aload_n hx hb dX4_writtenOf_5 rfl (lv_at hl 2 rfl) ?_
      refine pg_get S Y ok_X4 3 (by decide) kf4_31 (v := .int ac) p_h rfl dX4_writtenOf_6 ?_
      refine lv_icmp_ge (tgt := 42) hx hb dX4_writtenOf_9 (by decide) (fun c_135 => ?_) (fun c_135 => ?_)
      · refine lv_iload_n hx hb dX4_writtenOf_42 rfl (lv_at hl 1 rfl) ?_
        exact prI (post := fun r L1 f1 => (True) ∧ L1 = L ∧ f1 = f) S Y rfl (by decide) (by decide) hA1 ⟨trivial, rfl, rfl⟩ dX4_writtenOf_43
      · refine lv_iload_n hx hb dX4_writtenOf_12 rfl (lv_at hl 3 rfl) ?_
        refine lv_iconst (v := (-1)) hx hb dX4_writtenOf_13 (by decide) ?_
        refine lv_icmp_eq (tgt := 27) hx hb dX4_writtenOf_14 (by decide) (fun c_136 => ?_) (fun c_136 => ?_)
        · refine lv_iload_n hx hb dX4_writtenOf_27 rfl (lv_at hl 1 rfl) ?_
          refine lv_aload_n hx hb dX4_writtenOf_28 rfl (lv_at hl 2 rfl) ?_
          refine lv_iload_n hx hb dX4_writtenOf_29 rfl (lv_at hl 0 rfl) ?_
          refine lv_iconst (v := 2) hx hb dX4_writtenOf_30 (by decide) ?_
          refine cVp (As := [.int y3, .int 2]) (rest := [.int y2]) S Y (c_X4_written (l := l) p_h p_aa qa) cw_X4_written km4_68 p_h ok_X4.1 rfl rfl ⟨Nat.le_of_ble_eq_true rfl, Nat.le_of_ble_eq_true rfl⟩ hl.1 rfl (Nat.le_of_ble_eq_true rfl) ⟨Nat.le_of_ble_eq_true rfl, Nat.le_of_ble_eq_true rfl⟩ dX4_writtenOf_31 (fun r_137 H locs er_137 Y => ?_)
          refine lv_iadd hx hb dX4_writtenOf_34 ?_
          refine lv_topi (fun x_138 ex_138 => ?_)
          refine lv_istore_n (lv' := [(2, .int x_138), (3, .int y3), (0, .ref h), (1, .int i)]) hx hb dX4_writtenOf_35 rfl hl (by decide) rfl (fun ls hl => ?_)
          obtain ⟨x_139, ex_139⟩ : ∃ z : Int32, z = y3 + 1 := ⟨_, rfl⟩
          refine lv_iinc (v := x_139) (lv' := [(3, .int x_139), (2, .int x_138), (0, .ref h), (1, .int i)]) hx hb dX4_writtenOf_36 hl (k := 1) rfl (by rw [ex_139]; rfl) (by decide) rfl (fun ls hl => ?_)
          refine lv_goto (tgt := 4) hx hb dX4_writtenOf_39 (by decide) ?_
          exact ih _ _ _ _ _ (lp_ge qa (by decide) h0 c_135 ex_139) (lp_dec qa (by decide) h0 c_135 ex_139 hn) Y (lv_sub hl [0, 1, 2, 3] rfl)
        · refine lv_aload_n hx hb dX4_writtenOf_17 rfl (lv_at hl 2 rfl) ?_
          refine lv_iload_n hx hb dX4_writtenOf_18 rfl (lv_at hl 0 rfl) ?_
          refine lv_iconst (v := 1) hx hb dX4_writtenOf_19 (by decide) ?_
          refine cVp (As := [.int y3, .int 1]) (rest := []) S Y (c_X4_written (l := l) p_h p_aa qa) cw_X4_written km4_68 p_h ok_X4.1 rfl rfl ⟨Nat.le_of_ble_eq_true rfl, Nat.le_of_ble_eq_true rfl⟩ hl.1 rfl (Nat.le_of_ble_eq_true rfl) ⟨Nat.le_of_ble_eq_true rfl, Nat.le_of_ble_eq_true rfl⟩ dX4_writtenOf_20 (fun r_140 H locs er_140 Y => ?_)
          refine lv_iload_n hx hb dX4_writtenOf_23 rfl (lv_at hl 3 rfl) ?_
          refine lv_icmp_ne (tgt := 36) hx hb dX4_writtenOf_24 (by decide) (fun c_141 => ?_) (fun c_141 => ?_)
          · obtain ⟨x_142, ex_142⟩ : ∃ z : Int32, z = y3 + 1 := ⟨_, rfl⟩
            refine lv_iinc (v := x_142) (lv' := [(3, .int x_142), (2, .int y2), (0, .ref h), (1, .int i)]) hx hb dX4_writtenOf_36 hl (k := 0) rfl (by rw [ex_142]; rfl) (by decide) rfl (fun ls hl => ?_)
            refine lv_goto (tgt := 4) hx hb dX4_writtenOf_39 (by decide) ?_
            exact ih _ _ _ _ _ (lp_ge qa (by decide) h0 c_135 ex_142) (lp_dec qa (by decide) h0 c_135 ex_142 hn) Y (lv_sub hl [0, 1, 2, 3] rfl)
          · refine lv_iload_n hx hb dX4_writtenOf_27 rfl (lv_at hl 1 rfl) ?_
            refine lv_aload_n hx hb dX4_writtenOf_28 rfl (lv_at hl 2 rfl) ?_
            refine lv_iload_n hx hb dX4_writtenOf_29 rfl (lv_at hl 0 rfl) ?_
            refine lv_iconst (v := 2) hx hb dX4_writtenOf_30 (by decide) ?_
            refine cVp (As := [.int y3, .int 2]) (rest := [.int y2]) S Y (c_X4_written (l := l) p_h p_aa qa) cw_X4_written km4_68 p_h ok_X4.1 rfl rfl ⟨Nat.le_of_ble_eq_true rfl, Nat.le_of_ble_eq_true rfl⟩ hl.1 rfl (Nat.le_of_ble_eq_true rfl) ⟨Nat.le_of_ble_eq_true rfl, Nat.le_of_ble_eq_true rfl⟩ dX4_writtenOf_31 (fun r_143 H locs er_143 Y => ?_)
            refine lv_iadd hx hb dX4_writtenOf_34 ?_
            refine lv_topi (fun x_144 ex_144 => ?_)
            refine lv_istore_n (lv' := [(2, .int x_144), (3, .int y3), (0, .ref h), (1, .int i)]) hx hb dX4_writtenOf_35 rfl hl (by decide) rfl (fun ls hl => ?_)
            obtain ⟨x_145, ex_145⟩ : ∃ z : Int32, z = y3 + 1 := ⟨_, rfl⟩
            refine lv_iinc (v := x_145) (lv' := [(3, .int x_145), (2, .int x_144), (0, .ref h), (1, .int i)]) hx hb dX4_writtenOf_36 hl (k := 1) rfl (by rw [ex_145]; rfl) (by decide) rfl (fun ls hl => ?_)
            refine lv_goto (tgt := 4) hx hb dX4_writtenOf_39 (by decide) ?_
            exact ih _ _ _ _ _ (lp_ge qa (by decide) h0 c_135 ex_145) (lp_dec qa (by decide) h0 c_135 ex_145 hn) Y (lv_sub hl [0, 1, 2, 3] rfl)
  exact loop ac.toInt.toNat 0 0 _ _ _ (by decide) (by have h9 := qa.1; rw [show (0 : Int32).toInt = 0 from rfl]; omega) Y hl
set_option maxHeartbeats 4000000 in
set_option maxRecDepth 100000 in
theorem c_X4_dayOfMost {l : Launch} {G : GG} {L : List Nat} {f : HF} {h oa aa : Nat} {oc ac dt rn xx : Int32} {g : Nat → Int32}  (p_h : pt L f h (.inr (4, [.ref oa, .ref aa, .int oc, .int ac, .int dt, .int rn, .int xx]))) (p_aa : pt L f aa (.inl (G.2 0, 90, .inl g))) (qa : bd ac 30) : PMp l yX4_dayOfMost cX4_dayOfMost 4 .int 1 0 0 G [.ref h] L f (fun r => True) := by
  refine PMi.of (post := fun r L1 f1 => (True) ∧ L1 = L ∧ f1 = f) (own := RX4) (by decide) rfl (Nat.le_of_ble_eq_true rfl) (fun sz p e s m args below meth c A ls hA1 hname S Y hl => ?_)
  have hx := S.hx
  have hb := S.hb
  have hl : lv_has ls 4 [(0, .ref h)] := hl
  refine lv_iconst (v := (-1)) hx hb dX4_dayOfMost_0 (by decide) ?_
  refine lv_istore_n (lv' := [(1, .int (-1)), (0, .ref h)]) hx hb dX4_dayOfMost_1 rfl hl (by decide) rfl (fun ls hl => ?_)
  refine lv_iconst (v := 0) hx hb dX4_dayOfMost_2 (by decide) ?_
  refine lv_istore_n (lv' := [(2, .int 0), (1, .int (-1)), (0, .ref h)]) hx hb dX4_dayOfMost_3 rfl hl (by decide) rfl (fun ls hl => ?_)
  refine lv_iconst (v := 0) hx hb dX4_dayOfMost_4 (by decide) ?_
  refine lv_istore_n (lv' := [(3, .int 0), (2, .int 0), (1, .int (-1)), (0, .ref h)]) hx hb dX4_dayOfMost_5 rfl hl (by decide) rfl (fun ls hl => ?_)
  have loop : ∀ (n : Nat) (y1 y2 y3 : Int32) (H : Heap) (locs : List Loc) (ls : Array Slot), 0 ≤ y3.toInt → ac.toInt ≤ y3.toInt + n → DY G A s [] L f H locs → lv_has ls 4 [(3, .int y3), (2, .int y2), (1, .int y1), (0, .ref h)] → W p l e (rmD 1 0 0) s m args below meth c H locs (0) (0) (MQ below (va_Qi (fun r (u : List Nat × HF) => (fun r L1 f1 => (True) ∧ L1 = L ∧ f1 = f) r u.1 u.2) (fun u t => pOut G (va_A (va_pl L f) sz) u.1 u.2 t) (va_A (va_pl L f) sz)) args s 0 0 A) (F0 m 6 ls []) := by
    intro n
    induction n with
    | zero =>
      intro y1 y2 y3 H locs ls h0 hn Y hl
      refine lv_iload_n hx hb dX4_dayOfMost_6 rfl (lv_at hl 0 rfl) ?_
      refine lv_aload_n hx hb dX4_dayOfMost_7 rfl (lv_at hl 3 rfl) ?_
      refine pg_get S Y ok_X4 3 (by decide) kf4_31 (v := .int ac) p_h rfl dX4_dayOfMost_8 ?_
      refine lv_icmp_ge (tgt := 44) hx hb dX4_dayOfMost_11 (by decide) (fun _ => ?_) (fun h => absurd (lp_end hn) h)
      refine lv_iload_n hx hb dX4_dayOfMost_44 rfl (lv_at hl 2 rfl) ?_
      exact prI (post := fun r L1 f1 => (True) ∧ L1 = L ∧ f1 = f) S Y rfl (by decide) (by decide) hA1 ⟨trivial, rfl, rfl⟩ dX4_dayOfMost_45
    | succ n ih =>
      intro y1 y2 y3 H locs ls h0 hn Y hl
      refine lv_iload_n hx hb dX4_dayOfMost_6 rfl (lv_at hl 0 rfl) ?_
      refine lv_aload_n hx hb dX4_dayOfMost_7 rfl (lv_at hl 3 rfl) ?_
      refine pg_get S Y ok_X4 3 (by decide) kf4_31 (v := .int ac) p_h rfl dX4_dayOfMost_8 ?_
      refine lv_icmp_ge (tgt := 44) hx hb dX4_dayOfMost_11 (by decide) (fun c_146 => ?_) (fun c_146 => ?_)
      · refine lv_iload_n hx hb dX4_dayOfMost_44 rfl (lv_at hl 2 rfl) ?_
        exact prI (post := fun r L1 f1 => (True) ∧ L1 = L ∧ f1 = f) S Y rfl (by decide) (by decide) hA1 ⟨trivial, rfl, rfl⟩ dX4_dayOfMost_45
      · refine lv_aload_n hx hb dX4_dayOfMost_14 rfl (lv_at hl 3 rfl) ?_
        refine lv_iload_n hx hb dX4_dayOfMost_15 rfl (lv_at hl 0 rfl) ?_
        refine lv_iconst (v := 2) hx hb dX4_dayOfMost_16 (by decide) ?_
        refine cVp (As := [.int y3, .int 2]) (rest := []) S Y (c_X4_written (l := l) p_h p_aa qa) cw_X4_written km4_68 p_h ok_X4.1 rfl rfl ⟨Nat.le_of_ble_eq_true rfl, Nat.le_of_ble_eq_true rfl⟩ hl.1 rfl (Nat.le_of_ble_eq_true rfl) ⟨Nat.le_of_ble_eq_true rfl, Nat.le_of_ble_eq_true rfl⟩ dX4_dayOfMost_17 (fun r_147 H locs er_147 Y => ?_)
        refine lv_iload_n hx hb dX4_dayOfMost_20 rfl (lv_at hl 1 rfl) ?_
        refine lv_icmp_le (tgt := 38) hx hb dX4_dayOfMost_21 (by decide) (fun c_148 => ?_) (fun c_148 => ?_)
        · obtain ⟨x_149, ex_149⟩ : ∃ z : Int32, z = y3 + 1 := ⟨_, rfl⟩
          refine lv_iinc (v := x_149) (lv' := [(3, .int x_149), (2, .int y2), (1, .int y1), (0, .ref h)]) hx hb dX4_dayOfMost_38 hl (k := 0) rfl (by rw [ex_149]; rfl) (by decide) rfl (fun ls hl => ?_)
          refine lv_goto (tgt := 6) hx hb dX4_dayOfMost_41 (by decide) ?_
          exact ih _ _ _ _ _ _ (lp_ge qa (by decide) h0 c_146 ex_149) (lp_dec qa (by decide) h0 c_146 ex_149 hn) Y (lv_sub hl [0, 1, 2, 3] rfl)
        · refine lv_aload_n hx hb dX4_dayOfMost_24 rfl (lv_at hl 3 rfl) ?_
          refine lv_iload_n hx hb dX4_dayOfMost_25 rfl (lv_at hl 0 rfl) ?_
          refine lv_iconst (v := 2) hx hb dX4_dayOfMost_26 (by decide) ?_
          refine cVp (As := [.int y3, .int 2]) (rest := []) S Y (c_X4_written (l := l) p_h p_aa qa) cw_X4_written km4_68 p_h ok_X4.1 rfl rfl ⟨Nat.le_of_ble_eq_true rfl, Nat.le_of_ble_eq_true rfl⟩ hl.1 rfl (Nat.le_of_ble_eq_true rfl) ⟨Nat.le_of_ble_eq_true rfl, Nat.le_of_ble_eq_true rfl⟩ dX4_dayOfMost_27 (fun r_150 H locs er_150 Y => ?_)
          refine lv_istore_n (lv' := [(2, .int r_150), (3, .int y3), (1, .int y1), (0, .ref h)]) hx hb dX4_dayOfMost_30 rfl hl (by decide) rfl (fun ls hl => ?_)
          refine lv_aload_n hx hb dX4_dayOfMost_31 rfl (lv_at hl 3 rfl) ?_
          refine lv_iload_n hx hb dX4_dayOfMost_32 rfl (lv_at hl 1 rfl) ?_
          refine lv_iconst (v := 0) hx hb dX4_dayOfMost_33 (by decide) ?_
          refine cVp (As := [.int y3, .int 0]) (rest := []) S Y (c_X4_written (l := l) p_h p_aa qa) cw_X4_written km4_68 p_h ok_X4.1 rfl rfl ⟨Nat.le_of_ble_eq_true rfl, Nat.le_of_ble_eq_true rfl⟩ hl.1 rfl (Nat.le_of_ble_eq_true rfl) ⟨Nat.le_of_ble_eq_true rfl, Nat.le_of_ble_eq_true rfl⟩ dX4_dayOfMost_34 (fun r_151 H locs er_151 Y => ?_)
          refine lv_istore_n (lv' := [(1, .int r_151), (2, .int r_150), (3, .int y3), (0, .ref h)]) hx hb dX4_dayOfMost_37 rfl hl (by decide) rfl (fun ls hl => ?_)
          obtain ⟨x_152, ex_152⟩ : ∃ z : Int32, z = y3 + 1 := ⟨_, rfl⟩
          refine lv_iinc (v := x_152) (lv' := [(3, .int x_152), (1, .int r_151), (2, .int r_150), (0, .ref h)]) hx hb dX4_dayOfMost_38 hl (k := 2) rfl (by rw [ex_152]; rfl) (by decide) rfl (fun ls hl => ?_)
          refine lv_goto (tgt := 6) hx hb dX4_dayOfMost_41 (by decide) ?_
          exact ih _ _ _ _ _ _ (lp_ge qa (by decide) h0 c_146 ex_152) (lp_dec qa (by decide) h0 c_146 ex_152 hn) Y (lv_sub hl [0, 2, 1, 3] rfl)
  exact loop ac.toInt.toNat (-1) 0 0 _ _ _ (by decide) (by have h9 := qa.1; rw [show (0 : Int32).toInt = 0 from rfl]; omega) Y hl
