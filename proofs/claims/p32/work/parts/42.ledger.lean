theorem dX4_has_0 : decode cX4_has 0 = .ok (.iload_n 1, 1) := by decide +kernel
theorem dX4_has_1 : decode cX4_has 1 = .ok (.ifCond .lt 15, 3) := by decide +kernel
theorem dX4_has_16 : decode cX4_has 16 = .ok (.iconst 0, 1) := by decide +kernel
theorem dX4_has_17 : decode cX4_has 17 = .ok (.ireturn, 1) := by decide +kernel
theorem dX4_has_4 : decode cX4_has 4 = .ok (.iload_n 1, 1) := by decide +kernel
theorem dX4_has_5 : decode cX4_has 5 = .ok (.aload_n 0, 1) := by decide +kernel
theorem dX4_has_6 : decode cX4_has 6 = .ok (.getfield 28, 3) := by decide +kernel
theorem ok_X4 : clOK 4 RX4 TX4 7 tyX4 := ⟨rfl, fun w h => ⟨(show ∀ w ∈ u_ws RX4 TX4 7, w ∈ lw_tbl by decide +kernel) w h, (show ∀ w ∈ u_ws RX4 TX4 7, gw w = true by decide +kernel) w h⟩, tyX4_ok, nmX4⟩
theorem kf4_28 : inW (Cond.fieldLink RX4 28 "KneeOaths$Ledger" "oathCount" "I") := ⟨List.mem_of_getElem? (i := 162) (by decide +kernel), by decide +kernel⟩
theorem dX4_has_9 : decode cX4_has 9 = .ok (.if_icmp .ge 7, 3) := by decide +kernel
theorem dX4_has_12 : decode cX4_has 12 = .ok (.iconst 1, 1) := by decide +kernel
theorem dX4_has_13 : decode cX4_has 13 = .ok (.goto 4, 3) := by decide +kernel
theorem dX4_get_0 : decode cX4_get 0 = .ok (.iload_n 1, 1) := by decide +kernel
theorem dX4_get_1 : decode cX4_get 1 = .ok (.ifCond .lt 21, 3) := by decide +kernel
theorem dX4_get_22 : decode cX4_get 22 = .ok (.iconst (-1), 1) := by decide +kernel
theorem dX4_get_23 : decode cX4_get 23 = .ok (.ireturn, 1) := by decide +kernel
theorem dX4_get_4 : decode cX4_get 4 = .ok (.iload_n 1, 1) := by decide +kernel
theorem dX4_get_5 : decode cX4_get 5 = .ok (.aload_n 0, 1) := by decide +kernel
theorem dX4_get_6 : decode cX4_get 6 = .ok (.getfield 28, 3) := by decide +kernel
theorem dX4_get_9 : decode cX4_get 9 = .ok (.if_icmp .ge 13, 3) := by decide +kernel
theorem dX4_get_12 : decode cX4_get 12 = .ok (.iload_n 2, 1) := by decide +kernel
theorem dX4_get_13 : decode cX4_get 13 = .ok (.ifCond .lt 9, 3) := by decide +kernel
theorem dX4_get_16 : decode cX4_get 16 = .ok (.iload_n 2, 1) := by decide +kernel
theorem dX4_get_17 : decode cX4_get 17 = .ok (.bipush 7, 2) := by decide +kernel
theorem dX4_get_19 : decode cX4_get 19 = .ok (.if_icmp .lt 5, 3) := by decide +kernel
theorem dX4_get_24 : decode cX4_get 24 = .ok (.aload_n 0, 1) := by decide +kernel
theorem dX4_get_25 : decode cX4_get 25 = .ok (.getfield 9, 3) := by decide +kernel
theorem kf4_9 : inW (Cond.fieldLink RX4 9 "KneeOaths$Ledger" "oaths" "[I") := ⟨List.mem_of_getElem? (i := 159) (by decide +kernel), by decide +kernel⟩
theorem dX4_get_28 : decode cX4_get 28 = .ok (.iload_n 1, 1) := by decide +kernel
theorem dX4_get_29 : decode cX4_get 29 = .ok (.bipush 7, 2) := by decide +kernel
theorem dX4_get_31 : decode cX4_get 31 = .ok (.imul, 1) := by decide +kernel
theorem dX4_get_32 : decode cX4_get 32 = .ok (.iload_n 2, 1) := by decide +kernel
theorem dX4_get_33 : decode cX4_get 33 = .ok (.iadd, 1) := by decide +kernel
theorem dX4_get_34 : decode cX4_get 34 = .ok (.iaload, 1) := by decide +kernel
theorem dX4_get_35 : decode cX4_get 35 = .ok (.ireturn, 1) := by decide +kernel
theorem dX4_put_0 : decode cX4_put 0 = .ok (.iload_n 1, 1) := by decide +kernel
theorem dX4_put_1 : decode cX4_put 1 = .ok (.ifCond .lt 33, 3) := by decide +kernel
theorem dX4_put_34 : decode cX4_put 34 = .ok (.return_, 1) := by decide +kernel
theorem dX4_put_4 : decode cX4_put 4 = .ok (.iload_n 1, 1) := by decide +kernel
theorem dX4_put_5 : decode cX4_put 5 = .ok (.aload_n 0, 1) := by decide +kernel
theorem dX4_put_6 : decode cX4_put 6 = .ok (.getfield 28, 3) := by decide +kernel
theorem dX4_put_9 : decode cX4_put 9 = .ok (.if_icmp .ge 25, 3) := by decide +kernel
theorem dX4_put_12 : decode cX4_put 12 = .ok (.iload_n 2, 1) := by decide +kernel
theorem dX4_put_13 : decode cX4_put 13 = .ok (.ifCond .lt 21, 3) := by decide +kernel
theorem dX4_put_16 : decode cX4_put 16 = .ok (.iload_n 2, 1) := by decide +kernel
theorem dX4_put_17 : decode cX4_put 17 = .ok (.bipush 7, 2) := by decide +kernel
theorem dX4_put_19 : decode cX4_put 19 = .ok (.if_icmp .ge 15, 3) := by decide +kernel
theorem dX4_put_22 : decode cX4_put 22 = .ok (.aload_n 0, 1) := by decide +kernel
theorem dX4_put_23 : decode cX4_put 23 = .ok (.getfield 9, 3) := by decide +kernel
theorem dX4_put_26 : decode cX4_put 26 = .ok (.iload_n 1, 1) := by decide +kernel
theorem dX4_put_27 : decode cX4_put 27 = .ok (.bipush 7, 2) := by decide +kernel
theorem dX4_put_29 : decode cX4_put 29 = .ok (.imul, 1) := by decide +kernel
theorem dX4_put_30 : decode cX4_put 30 = .ok (.iload_n 2, 1) := by decide +kernel
theorem dX4_put_31 : decode cX4_put 31 = .ok (.iadd, 1) := by decide +kernel
theorem dX4_put_32 : decode cX4_put 32 = .ok (.iload_n 3, 1) := by decide +kernel
theorem dX4_put_33 : decode cX4_put 33 = .ok (.iastore, 1) := by decide +kernel
theorem dX4_lastsOn_0 : decode cX4_lastsOn 0 = .ok (.aload_n 0, 1) := by decide +kernel
theorem dX4_lastsOn_1 : decode cX4_lastsOn 1 = .ok (.getfield 34, 3) := by decide +kernel
theorem kf4_34 : inW (Cond.fieldLink RX4 34 "KneeOaths$Ledger" "date" "I") := ⟨List.mem_of_getElem? (i := 170) (by decide +kernel), by decide +kernel⟩
theorem dX4_lastsOn_4 : decode cX4_lastsOn 4 = .ok (.sipush 9999, 3) := by decide +kernel
theorem dX4_lastsOn_7 : decode cX4_lastsOn 7 = .ok (.if_icmp .ge 7, 3) := by decide +kernel
theorem dX4_lastsOn_14 : decode cX4_lastsOn 14 = .ok (.iconst 0, 1) := by decide +kernel
theorem dX4_lastsOn_15 : decode cX4_lastsOn 15 = .ok (.ireturn, 1) := by decide +kernel
theorem dX4_lastsOn_10 : decode cX4_lastsOn 10 = .ok (.iconst 1, 1) := by decide +kernel
theorem dX4_lastsOn_11 : decode cX4_lastsOn 11 = .ok (.goto 4, 3) := by decide +kernel
theorem dX4_unreleased_0 : decode cX4_unreleased 0 = .ok (.aload_n 0, 1) := by decide +kernel
theorem dX4_unreleased_1 : decode cX4_unreleased 1 = .ok (.iload_n 1, 1) := by decide +kernel
theorem dX4_unreleased_2 : decode cX4_unreleased 2 = .ok (.invokevirtual 53, 3) := by decide +kernel
theorem cw_X4_has : CWv yX4_has cX4_has 2 (some .boolean) 1 := ⟨⟨⟨List.mem_of_getElem? (i := 125) (by decide +kernel), by decide +kernel⟩, ⟨List.mem_of_getElem? (i := 932) (by decide +kernel), by decide +kernel⟩, by decide +kernel⟩, ⟨List.mem_of_getElem? (i := 930) (by decide +kernel), by decide +kernel⟩, ⟨List.mem_of_getElem? (i := 931) (by decide +kernel), by decide +kernel⟩⟩
theorem km4_53 : inW (Cond.methodLink RX4 53 yX4_has) := ⟨List.mem_of_getElem? (i := 929) (by decide +kernel), by decide +kernel⟩
theorem dX4_unreleased_5 : decode cX4_unreleased 5 = .ok (.ifCond .eq 17, 3) := by decide +kernel
theorem dX4_unreleased_22 : decode cX4_unreleased 22 = .ok (.iconst 0, 1) := by decide +kernel
theorem dX4_unreleased_23 : decode cX4_unreleased 23 = .ok (.ireturn, 1) := by decide +kernel
theorem dX4_unreleased_8 : decode cX4_unreleased 8 = .ok (.aload_n 0, 1) := by decide +kernel
theorem dX4_unreleased_9 : decode cX4_unreleased 9 = .ok (.iload_n 1, 1) := by decide +kernel
theorem dX4_unreleased_10 : decode cX4_unreleased 10 = .ok (.iconst 4, 1) := by decide +kernel
theorem dX4_unreleased_11 : decode cX4_unreleased 11 = .ok (.invokevirtual 44, 3) := by decide +kernel
theorem cw_X4_get : CWv yX4_get cX4_get 3 (some .int) 2 := ⟨⟨⟨List.mem_of_getElem? (i := 125) (by decide +kernel), by decide +kernel⟩, ⟨List.mem_of_getElem? (i := 915) (by decide +kernel), by decide +kernel⟩, by decide +kernel⟩, ⟨List.mem_of_getElem? (i := 913) (by decide +kernel), by decide +kernel⟩, ⟨List.mem_of_getElem? (i := 914) (by decide +kernel), by decide +kernel⟩⟩
theorem km4_44 : inW (Cond.methodLink RX4 44 yX4_get) := ⟨List.mem_of_getElem? (i := 933) (by decide +kernel), by decide +kernel⟩
theorem dX4_unreleased_14 : decode cX4_unreleased 14 = .ok (.iconst 2, 1) := by decide +kernel
theorem dX4_unreleased_15 : decode cX4_unreleased 15 = .ok (.if_icmp .eq 7, 3) := by decide +kernel
theorem dX4_unreleased_18 : decode cX4_unreleased 18 = .ok (.iconst 1, 1) := by decide +kernel
theorem dX4_unreleased_19 : decode cX4_unreleased 19 = .ok (.goto 4, 3) := by decide +kernel
theorem dX4_legible_0 : decode cX4_legible 0 = .ok (.aload_n 0, 1) := by decide +kernel
theorem dX4_legible_1 : decode cX4_legible 1 = .ok (.iload_n 1, 1) := by decide +kernel
theorem dX4_legible_2 : decode cX4_legible 2 = .ok (.iconst 5, 1) := by decide +kernel
theorem dX4_legible_3 : decode cX4_legible 3 = .ok (.invokevirtual 44, 3) := by decide +kernel
theorem dX4_legible_6 : decode cX4_legible 6 = .ok (.bipush 99, 2) := by decide +kernel
theorem dX4_legible_8 : decode cX4_legible 8 = .ok (.if_icmp .ge 15, 3) := by decide +kernel
theorem dX4_legible_23 : decode cX4_legible 23 = .ok (.iconst 0, 1) := by decide +kernel
theorem dX4_legible_24 : decode cX4_legible 24 = .ok (.ireturn, 1) := by decide +kernel
theorem dX4_legible_11 : decode cX4_legible 11 = .ok (.aload_n 0, 1) := by decide +kernel
theorem dX4_legible_12 : decode cX4_legible 12 = .ok (.iload_n 1, 1) := by decide +kernel
theorem dX4_legible_13 : decode cX4_legible 13 = .ok (.invokevirtual 57, 3) := by decide +kernel
theorem cw_X4_unreleased : CWv yX4_unreleased cX4_unreleased 2 (some .boolean) 1 := ⟨⟨⟨List.mem_of_getElem? (i := 125) (by decide +kernel), by decide +kernel⟩, ⟨List.mem_of_getElem? (i := 928) (by decide +kernel), by decide +kernel⟩, by decide +kernel⟩, ⟨List.mem_of_getElem? (i := 926) (by decide +kernel), by decide +kernel⟩, ⟨List.mem_of_getElem? (i := 927) (by decide +kernel), by decide +kernel⟩⟩
theorem km4_57 : inW (Cond.methodLink RX4 57 yX4_unreleased) := ⟨List.mem_of_getElem? (i := 1058) (by decide +kernel), by decide +kernel⟩
theorem dX4_legible_16 : decode cX4_legible 16 = .ok (.ifCond .eq 7, 3) := by decide +kernel
theorem dX4_legible_19 : decode cX4_legible 19 = .ok (.iconst 1, 1) := by decide +kernel
theorem dX4_legible_20 : decode cX4_legible 20 = .ok (.goto 4, 3) := by decide +kernel
theorem ixw {i j c w : Int32} {n m q : Nat} (hq : w.toInt = q) (hm : m = q * n) (hn : n ≤ 100) (hq2 : q ≤ 100) (hb : bd c n) (h1 : ¬ i < 0) (h2 : ¬ c ≤ i) (h3 : ¬ j < 0) (h4 : j < w) : vp_in (i * w + j) m := by
  have a := ti0 h1; have b := ti0 h3
  rw [Int32.le_iff_toInt_le] at h2
  rw [Int32.lt_iff_toInt_lt, hq] at h4
  obtain ⟨b1, b2⟩ := hb
  have hi : i.toInt + 1 ≤ n := by omega
  have hp : (i.toInt + 1) * q ≤ (n : Int) * q := Int.mul_le_mul_of_nonneg_right hi (by omega)
  have hp2 : (i.toInt + 1) * q = i.toInt * q + q := by rw [Int.add_mul, Int.one_mul]
  have hp3 : 0 ≤ i.toInt * (q : Int) := Int.mul_nonneg a (by omega)
  have hp4 : (n : Int) * q ≤ 100 * 100 := Int.mul_le_mul (by omega) (by omega) (by omega) (by omega)
  have hm2 : (m : Int) = (n : Int) * q := by rw [hm, Nat.mul_comm]; exact Int.natCast_mul n q
  have e : (i * w).toInt = i.toInt * q := by rw [ti_mul (by rw [hq]; omega) (by rw [hq]; omega), hq]
  have e2 : (i * w + j).toInt = i.toInt * q + j.toInt := by rw [ti_add (by rw [e]; omega) (by rw [e]; omega), e]
  exact vp_of (by rw [e2]; omega) (by rw [e2]; omega)
set_option maxHeartbeats 4000000 in
set_option maxRecDepth 100000 in
theorem c_X4_has {l : Launch} {G : GG} {L : List Nat} {f : HF} {h oa aa : Nat} {i oc ac dt rn xx : Int32}  (p_h : pt L f h (.inr (4, [.ref oa, .ref aa, .int oc, .int ac, .int dt, .int rn, .int xx])))  : PMp l yX4_has cX4_has 2 .boolean 0 0 0 G [.ref h, .int i] L f (fun r => True) := by
  refine PMi.of (post := fun r L1 f1 => (True) ∧ L1 = L ∧ f1 = f) (own := RX4) (by decide) rfl (Nat.le_of_ble_eq_true rfl) (fun sz p e s m args below meth c A ls hA1 hname S Y hl => ?_)
  have hx := S.hx
  have hb := S.hb
  have hl : lv_has ls 2 [(0, .ref h), (1, .int i)] := hl
  refine lv_iload_n hx hb dX4_has_0 rfl (lv_at hl 1 rfl) ?_
  refine lv_if_lt (tgt := 16) hx hb dX4_has_1 (by decide) (fun c_20 => ?_) (fun c_20 => ?_)
  · refine lv_iconst (v := 0) hx hb dX4_has_16 (by decide) ?_
    exact prI (post := fun r L1 f1 => (True) ∧ L1 = L ∧ f1 = f) S Y rfl (by decide) (by decide) hA1 ⟨trivial, rfl, rfl⟩ dX4_has_17
  · refine lv_iload_n hx hb dX4_has_4 rfl (lv_at hl 1 rfl) ?_
    refine lv_aload_n hx hb dX4_has_5 rfl (lv_at hl 0 rfl) ?_
    refine pg_get S Y ok_X4 2 (by decide) kf4_28 (v := .int oc) p_h rfl dX4_has_6 ?_
    refine lv_icmp_ge (tgt := 16) hx hb dX4_has_9 (by decide) (fun c_21 => ?_) (fun c_21 => ?_)
    · refine lv_iconst (v := 0) hx hb dX4_has_16 (by decide) ?_
      exact prI (post := fun r L1 f1 => (True) ∧ L1 = L ∧ f1 = f) S Y rfl (by decide) (by decide) hA1 ⟨trivial, rfl, rfl⟩ dX4_has_17
    · refine lv_iconst (v := 1) hx hb dX4_has_12 (by decide) ?_
      refine lv_goto (tgt := 17) hx hb dX4_has_13 (by decide) ?_
      exact prI (post := fun r L1 f1 => (True) ∧ L1 = L ∧ f1 = f) S Y rfl (by decide) (by decide) hA1 ⟨trivial, rfl, rfl⟩ dX4_has_17
set_option maxHeartbeats 4000000 in
set_option maxRecDepth 100000 in
theorem c_X4_get {l : Launch} {G : GG} {L : List Nat} {f : HF} {h oa aa : Nat} {i j oc ac dt rn xx : Int32} {g : Nat → Int32}  (p_h : pt L f h (.inr (4, [.ref oa, .ref aa, .int oc, .int ac, .int dt, .int rn, .int xx]))) (p_oa : pt L f oa (.inl (G.2 0, 98, .inl g))) (qb : bd oc 14) : PMp l yX4_get cX4_get 3 .int 0 0 0 G [.ref h, .int i, .int j] L f (fun r => True) := by
  refine PMi.of (post := fun r L1 f1 => (True) ∧ L1 = L ∧ f1 = f) (own := RX4) (by decide) rfl (Nat.le_of_ble_eq_true rfl) (fun sz p e s m args below meth c A ls hA1 hname S Y hl => ?_)
  have hx := S.hx
  have hb := S.hb
  have hl : lv_has ls 3 [(0, .ref h), (1, .int i), (2, .int j)] := hl
  refine lv_iload_n hx hb dX4_get_0 rfl (lv_at hl 1 rfl) ?_
  refine lv_if_lt (tgt := 22) hx hb dX4_get_1 (by decide) (fun c_22 => ?_) (fun c_22 => ?_)
  · refine lv_iconst (v := (-1)) hx hb dX4_get_22 (by decide) ?_
    exact prI (post := fun r L1 f1 => (True) ∧ L1 = L ∧ f1 = f) S Y rfl (by decide) (by decide) hA1 ⟨trivial, rfl, rfl⟩ dX4_get_23
  · refine lv_iload_n hx hb dX4_get_4 rfl (lv_at hl 1 rfl) ?_
    refine lv_aload_n hx hb dX4_get_5 rfl (lv_at hl 0 rfl) ?_
    refine pg_get S Y ok_X4 2 (by decide) kf4_28 (v := .int oc) p_h rfl dX4_get_6 ?_
    refine lv_icmp_ge (tgt := 22) hx hb dX4_get_9 (by decide) (fun c_23 => ?_) (fun c_23 => ?_)
    · refine lv_iconst (v := (-1)) hx hb dX4_get_22 (by decide) ?_
      exact prI (post := fun r L1 f1 => (True) ∧ L1 = L ∧ f1 = f) S Y rfl (by decide) (by decide) hA1 ⟨trivial, rfl, rfl⟩ dX4_get_23
    · refine lv_iload_n hx hb dX4_get_12 rfl (lv_at hl 2 rfl) ?_
      refine lv_if_lt (tgt := 22) hx hb dX4_get_13 (by decide) (fun c_24 => ?_) (fun c_24 => ?_)
      · refine lv_iconst (v := (-1)) hx hb dX4_get_22 (by decide) ?_
        exact prI (post := fun r L1 f1 => (True) ∧ L1 = L ∧ f1 = f) S Y rfl (by decide) (by decide) hA1 ⟨trivial, rfl, rfl⟩ dX4_get_23
      · refine lv_iload_n hx hb dX4_get_16 rfl (lv_at hl 2 rfl) ?_
        refine lv_bipush (v := 7) hx hb dX4_get_17 (by decide) ?_
        refine lv_icmp_lt (tgt := 24) hx hb dX4_get_19 (by decide) (fun c_25 => ?_) (fun c_25 => ?_)
        · refine lv_aload_n hx hb dX4_get_24 rfl (lv_at hl 0 rfl) ?_
          refine pg_get S Y ok_X4 0 (by decide) kf4_9 (v := .ref oa) p_h rfl dX4_get_25 ?_
          refine lv_iload_n hx hb dX4_get_28 rfl (lv_at hl 1 rfl) ?_
          refine lv_bipush (v := 7) hx hb dX4_get_29 (by decide) ?_
          refine lv_imul hx hb dX4_get_31 ?_
          refine lv_topi (fun x_26 ex_26 => ?_)
          refine lv_iload_n hx hb dX4_get_32 rfl (lv_at hl 2 rfl) ?_
          refine lv_iadd hx hb dX4_get_33 ?_
          refine lv_topi (fun x_27 ex_27 => ?_)
          refine pg_iald S Y (v := (g (x_27 : Int32).toNatClampNeg)) p_oa (by rw [ex_27, ex_26]; exact ixw (c := oc) (n := 14) (q := 7) rfl rfl (by decide) (by decide) qb c_22 c_23 c_24 c_25) rfl dX4_get_34 ?_
          exact prI (post := fun r L1 f1 => (True) ∧ L1 = L ∧ f1 = f) S Y rfl (by decide) (by decide) hA1 ⟨trivial, rfl, rfl⟩ dX4_get_35
        · refine lv_iconst (v := (-1)) hx hb dX4_get_22 (by decide) ?_
          exact prI (post := fun r L1 f1 => (True) ∧ L1 = L ∧ f1 = f) S Y rfl (by decide) (by decide) hA1 ⟨trivial, rfl, rfl⟩ dX4_get_23
set_option maxHeartbeats 4000000 in
set_option maxRecDepth 100000 in
theorem c_X4_put {l : Launch} {G : GG} {L : List Nat} {f : HF} {h oa aa : Nat} {i j v oc ac dt rn xx : Int32} {g : Nat → Int32}  (p_h : pt L f h (.inr (4, [.ref oa, .ref aa, .int oc, .int ac, .int dt, .int rn, .int xx]))) (p_oa : pt L f oa (.inl (G.2 0, 98, .inl g))) (qb : bd oc 14) : PMv l yX4_put cX4_put 4 0 0 0 G [.ref h, .int i, .int j, .int v] L f (fun L1 f1 => ∃ g2 : Nat → Int32, kp L f L1 f1 [oa] ∧ pt L1 f1 oa (.inl (G.2 0, 98, .inl g2))) := by
  refine PMv.of (post := fun L1 f1 => ∃ g2 : Nat → Int32, kp L f L1 f1 [oa] ∧ pt L1 f1 oa (.inl (G.2 0, 98, .inl g2))) (own := RX4) (by decide) rfl (Nat.le_of_ble_eq_true rfl) (fun sz p e s m args below meth c A ls hA1 hname S Y hl => ?_)
  have hx := S.hx
  have hb := S.hb
  have hl : lv_has ls 4 [(0, .ref h), (1, .int i), (2, .int j), (3, .int v)] := hl
  have hk : kp L f L f [oa] := kp.rf
  refine lv_iload_n hx hb dX4_put_0 rfl (lv_at hl 1 rfl) ?_
  refine lv_if_lt (tgt := 34) hx hb dX4_put_1 (by decide) (fun c_28 => ?_) (fun c_28 => ?_)
  · exact prV (post := fun L1 f1 => ∃ g2 : Nat → Int32, kp L f L1 f1 [oa] ∧ pt L1 f1 oa (.inl (G.2 0, 98, .inl g2))) S Y (by decide) (by decide) hA1 ⟨g, hk, p_oa⟩ dX4_put_34
  · refine lv_iload_n hx hb dX4_put_4 rfl (lv_at hl 1 rfl) ?_
    refine lv_aload_n hx hb dX4_put_5 rfl (lv_at hl 0 rfl) ?_
    refine pg_get S Y ok_X4 2 (by decide) kf4_28 (v := .int oc) p_h rfl dX4_put_6 ?_
    refine lv_icmp_ge (tgt := 34) hx hb dX4_put_9 (by decide) (fun c_29 => ?_) (fun c_29 => ?_)
    · exact prV (post := fun L1 f1 => ∃ g2 : Nat → Int32, kp L f L1 f1 [oa] ∧ pt L1 f1 oa (.inl (G.2 0, 98, .inl g2))) S Y (by decide) (by decide) hA1 ⟨g, hk, p_oa⟩ dX4_put_34
    · refine lv_iload_n hx hb dX4_put_12 rfl (lv_at hl 2 rfl) ?_
      refine lv_if_lt (tgt := 34) hx hb dX4_put_13 (by decide) (fun c_30 => ?_) (fun c_30 => ?_)
      · exact prV (post := fun L1 f1 => ∃ g2 : Nat → Int32, kp L f L1 f1 [oa] ∧ pt L1 f1 oa (.inl (G.2 0, 98, .inl g2))) S Y (by decide) (by decide) hA1 ⟨g, hk, p_oa⟩ dX4_put_34
      · refine lv_iload_n hx hb dX4_put_16 rfl (lv_at hl 2 rfl) ?_
        refine lv_bipush (v := 7) hx hb dX4_put_17 (by decide) ?_
        refine lv_icmp_ge (tgt := 34) hx hb dX4_put_19 (by decide) (fun c_31 => ?_) (fun c_31 => ?_)
        · exact prV (post := fun L1 f1 => ∃ g2 : Nat → Int32, kp L f L1 f1 [oa] ∧ pt L1 f1 oa (.inl (G.2 0, 98, .inl g2))) S Y (by decide) (by decide) hA1 ⟨g, hk, p_oa⟩ dX4_put_34
        · refine lv_aload_n hx hb dX4_put_22 rfl (lv_at hl 0 rfl) ?_
          refine pg_get S Y ok_X4 0 (by decide) kf4_9 (v := .ref oa) p_h rfl dX4_put_23 ?_
          refine lv_iload_n hx hb dX4_put_26 rfl (lv_at hl 1 rfl) ?_
          refine lv_bipush (v := 7) hx hb dX4_put_27 (by decide) ?_
          refine lv_imul hx hb dX4_put_29 ?_
          refine lv_topi (fun x_32 ex_32 => ?_)
          refine lv_iload_n hx hb dX4_put_30 rfl (lv_at hl 2 rfl) ?_
          refine lv_iadd hx hb dX4_put_31 ?_
          refine lv_topi (fun x_33 ex_33 => ?_)
          refine lv_iload_n hx hb dX4_put_32 rfl (lv_at hl 3 rfl) ?_
          refine pg_iast S Y p_oa (by rw [ex_33, ex_32]; exact ixw (c := oc) (n := 14) (q := 7) rfl rfl (by decide) (by decide) qb c_28 c_29 c_30 (by exact Int32.not_le.mp c_31)) dX4_put_33 (fun f_35 H locs ef_35 Y => ?_)
          obtain ⟨g_34, eg_34⟩ : ∃ z, z = upd (g) (x_33 : Int32).toNatClampNeg v := ⟨_, rfl⟩
          rw [← eg_34] at ef_35
          have p_h := p_h.up ef_35 ((p_h.neA p_oa))
          have p_oa := p_oa.me ef_35
          have hk := hk.up ef_35 (by simp)
          exact prV (post := fun L1 f1 => ∃ g2 : Nat → Int32, kp L f L1 f1 [oa] ∧ pt L1 f1 oa (.inl (G.2 0, 98, .inl g2))) S Y (by decide) (by decide) hA1 ⟨g_34, hk, p_oa⟩ dX4_put_34
set_option maxHeartbeats 4000000 in
set_option maxRecDepth 100000 in
theorem c_X4_lastsOn {l : Launch} {G : GG} {L : List Nat} {f : HF} {h oa aa : Nat} {oc ac dt rn xx : Int32}  (p_h : pt L f h (.inr (4, [.ref oa, .ref aa, .int oc, .int ac, .int dt, .int rn, .int xx])))  : PMp l yX4_lastsOn cX4_lastsOn 1 .boolean 0 0 0 G [.ref h] L f (fun r => True) := by
  refine PMi.of (post := fun r L1 f1 => (True) ∧ L1 = L ∧ f1 = f) (own := RX4) (by decide) rfl (Nat.le_of_ble_eq_true rfl) (fun sz p e s m args below meth c A ls hA1 hname S Y hl => ?_)
  have hx := S.hx
  have hb := S.hb
  have hl : lv_has ls 1 [(0, .ref h)] := hl
  refine lv_aload_n hx hb dX4_lastsOn_0 rfl (lv_at hl 0 rfl) ?_
  refine pg_get S Y ok_X4 4 (by decide) kf4_34 (v := .int dt) p_h rfl dX4_lastsOn_1 ?_
  refine lv_sipush (v := 9999) hx hb dX4_lastsOn_4 (by decide) ?_
  refine lv_icmp_ge (tgt := 14) hx hb dX4_lastsOn_7 (by decide) (fun c_36 => ?_) (fun c_36 => ?_)
  · refine lv_iconst (v := 0) hx hb dX4_lastsOn_14 (by decide) ?_
    exact prI (post := fun r L1 f1 => (True) ∧ L1 = L ∧ f1 = f) S Y rfl (by decide) (by decide) hA1 ⟨trivial, rfl, rfl⟩ dX4_lastsOn_15
  · refine lv_iconst (v := 1) hx hb dX4_lastsOn_10 (by decide) ?_
    refine lv_goto (tgt := 15) hx hb dX4_lastsOn_11 (by decide) ?_
    exact prI (post := fun r L1 f1 => (True) ∧ L1 = L ∧ f1 = f) S Y rfl (by decide) (by decide) hA1 ⟨trivial, rfl, rfl⟩ dX4_lastsOn_15
set_option maxHeartbeats 4000000 in
set_option maxRecDepth 100000 in
theorem c_X4_unreleased {l : Launch} {G : GG} {L : List Nat} {f : HF} {h oa aa : Nat} {i oc ac dt rn xx : Int32} {g : Nat → Int32}  (p_h : pt L f h (.inr (4, [.ref oa, .ref aa, .int oc, .int ac, .int dt, .int rn, .int xx]))) (p_oa : pt L f oa (.inl (G.2 0, 98, .inl g))) (qb : bd oc 14) : PMp l yX4_unreleased cX4_unreleased 2 .boolean 1 0 0 G [.ref h, .int i] L f (fun r => True) := by
  refine PMi.of (post := fun r L1 f1 => (True) ∧ L1 = L ∧ f1 = f) (own := RX4) (by decide) rfl (Nat.le_of_ble_eq_true rfl) (fun sz p e s m args below meth c A ls hA1 hname S Y hl => ?_)
  have hx := S.hx
  have hb := S.hb
  have hl : lv_has ls 2 [(0, .ref h), (1, .int i)] := hl
  refine lv_aload_n hx hb dX4_unreleased_0 rfl (lv_at hl 0 rfl) ?_
  refine lv_iload_n hx hb dX4_unreleased_1 rfl (lv_at hl 1 rfl) ?_
  refine cVp (As := [.int i]) (rest := []) S Y (c_X4_has (l := l) p_h) cw_X4_has km4_53 p_h ok_X4.1 rfl rfl ⟨Nat.le_of_ble_eq_true rfl, Nat.le_of_ble_eq_true rfl⟩ hl.1 rfl (Nat.le_of_ble_eq_true rfl) ⟨Nat.le_of_ble_eq_true rfl, Nat.le_of_ble_eq_true rfl⟩ dX4_unreleased_2 (fun r_37 H locs er_37 Y => ?_)
  refine lv_if_eq (tgt := 22) hx hb dX4_unreleased_5 (by decide) (fun c_38 => ?_) (fun c_38 => ?_)
  · refine lv_iconst (v := 0) hx hb dX4_unreleased_22 (by decide) ?_
    exact prI (post := fun r L1 f1 => (True) ∧ L1 = L ∧ f1 = f) S Y rfl (by decide) (by decide) hA1 ⟨trivial, rfl, rfl⟩ dX4_unreleased_23
  · refine lv_aload_n hx hb dX4_unreleased_8 rfl (lv_at hl 0 rfl) ?_
    refine lv_iload_n hx hb dX4_unreleased_9 rfl (lv_at hl 1 rfl) ?_
    refine lv_iconst (v := 4) hx hb dX4_unreleased_10 (by decide) ?_
    refine cVp (As := [.int i, .int 4]) (rest := []) S Y (c_X4_get (l := l) p_h p_oa qb) cw_X4_get km4_44 p_h ok_X4.1 rfl rfl ⟨Nat.le_of_ble_eq_true rfl, Nat.le_of_ble_eq_true rfl⟩ hl.1 rfl (Nat.le_of_ble_eq_true rfl) ⟨Nat.le_of_ble_eq_true rfl, Nat.le_of_ble_eq_true rfl⟩ dX4_unreleased_11 (fun r_39 H locs er_39 Y => ?_)
    refine lv_iconst (v := 2) hx hb dX4_unreleased_14 (by decide) ?_
    refine lv_icmp_eq (tgt := 22) hx hb dX4_unreleased_15 (by decide) (fun c_40 => ?_) (fun c_40 => ?_)
    · refine lv_iconst (v := 0) hx hb dX4_unreleased_22 (by decide) ?_
      exact prI (post := fun r L1 f1 => (True) ∧ L1 = L ∧ f1 = f) S Y rfl (by decide) (by decide) hA1 ⟨trivial, rfl, rfl⟩ dX4_unreleased_23
    · refine lv_iconst (v := 1) hx hb dX4_unreleased_18 (by decide) ?_
      refine lv_goto (tgt := 23) hx hb dX4_unreleased_19 (by decide) ?_
      exact prI (post := fun r L1 f1 => (True) ∧ L1 = L ∧ f1 = f) S Y rfl (by decide) (by decide) hA1 ⟨trivial, rfl, rfl⟩ dX4_unreleased_23
set_option maxHeartbeats 4000000 in
set_option maxRecDepth 100000 in
theorem c_X4_legible {l : Launch} {G : GG} {L : List Nat} {f : HF} {h oa aa : Nat} {i oc ac dt rn xx : Int32} {g : Nat → Int32}  (p_h : pt L f h (.inr (4, [.ref oa, .ref aa, .int oc, .int ac, .int dt, .int rn, .int xx]))) (p_oa : pt L f oa (.inl (G.2 0, 98, .inl g))) (qb : bd oc 14) : PMp l yX4_legible cX4_legible 2 .boolean 2 0 0 G [.ref h, .int i] L f (fun r => True) := by
  refine PMi.of (post := fun r L1 f1 => (True) ∧ L1 = L ∧ f1 = f) (own := RX4) (by decide) rfl (Nat.le_of_ble_eq_true rfl) (fun sz p e s m args below meth c A ls hA1 hname S Y hl => ?_)
  have hx := S.hx
  have hb := S.hb
  have hl : lv_has ls 2 [(0, .ref h), (1, .int i)] := hl
  refine lv_aload_n hx hb dX4_legible_0 rfl (lv_at hl 0 rfl) ?_
  refine lv_iload_n hx hb dX4_legible_1 rfl (lv_at hl 1 rfl) ?_
  refine lv_iconst (v := 5) hx hb dX4_legible_2 (by decide) ?_
  refine cVp (As := [.int i, .int 5]) (rest := []) S Y (c_X4_get (l := l) p_h p_oa qb) cw_X4_get km4_44 p_h ok_X4.1 rfl rfl ⟨Nat.le_of_ble_eq_true rfl, Nat.le_of_ble_eq_true rfl⟩ hl.1 rfl (Nat.le_of_ble_eq_true rfl) ⟨Nat.le_of_ble_eq_true rfl, Nat.le_of_ble_eq_true rfl⟩ dX4_legible_3 (fun r_41 H locs er_41 Y => ?_)
  refine lv_bipush (v := 99) hx hb dX4_legible_6 (by decide) ?_
  refine lv_icmp_ge (tgt := 23) hx hb dX4_legible_8 (by decide) (fun c_42 => ?_) (fun c_42 => ?_)
  · refine lv_iconst (v := 0) hx hb dX4_legible_23 (by decide) ?_
    exact prI (post := fun r L1 f1 => (True) ∧ L1 = L ∧ f1 = f) S Y rfl (by decide) (by decide) hA1 ⟨trivial, rfl, rfl⟩ dX4_legible_24
  · refine lv_aload_n hx hb dX4_legible_11 rfl (lv_at hl 0 rfl) ?_
    refine lv_iload_n hx hb dX4_legible_12 rfl (lv_at hl 1 rfl) ?_
    refine cVp (As := [.int i]) (rest := []) S Y (c_X4_unreleased (l := l) p_h p_oa qb) cw_X4_unreleased km4_57 p_h ok_X4.1 rfl rfl ⟨Nat.le_of_ble_eq_true rfl, Nat.le_of_ble_eq_true rfl⟩ hl.1 rfl (Nat.le_of_ble_eq_true rfl) ⟨Nat.le_of_ble_eq_true rfl, Nat.le_of_ble_eq_true rfl⟩ dX4_legible_13 (fun r_43 H locs er_43 Y => ?_)
    refine lv_if_eq (tgt := 23) hx hb dX4_legible_16 (by decide) (fun c_44 => ?_) (fun c_44 => ?_)
    · refine lv_iconst (v := 0) hx hb dX4_legible_23 (by decide) ?_
      exact prI (post := fun r L1 f1 => (True) ∧ L1 = L ∧ f1 = f) S Y rfl (by decide) (by decide) hA1 ⟨trivial, rfl, rfl⟩ dX4_legible_24
    · refine lv_iconst (v := 1) hx hb dX4_legible_19 (by decide) ?_
      refine lv_goto (tgt := 24) hx hb dX4_legible_20 (by decide) ?_
      exact prI (post := fun r L1 f1 => (True) ∧ L1 = L ∧ f1 = f) S Y rfl (by decide) (by decide) hA1 ⟨trivial, rfl, rfl⟩ dX4_legible_24
