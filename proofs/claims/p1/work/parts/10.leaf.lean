theorem dX11_within_0 : decode cX11_within 0 = .ok (.iload_n 0, 1) := by decide +kernel
theorem dX11_within_1 : decode cX11_within 1 = .ok (.iload_n 1, 1) := by decide +kernel
theorem dX11_within_2 : decode cX11_within 2 = .ok (.if_icmp .lt 12, 3) := by decide +kernel
theorem dX11_within_14 : decode cX11_within 14 = .ok (.iconst 0, 1) := by decide +kernel
theorem dX11_within_15 : decode cX11_within 15 = .ok (.ireturn, 1) := by decide +kernel
theorem dX11_within_5 : decode cX11_within 5 = .ok (.iload_n 0, 1) := by decide +kernel
theorem dX11_within_6 : decode cX11_within 6 = .ok (.iload_n 2, 1) := by decide +kernel
theorem dX11_within_7 : decode cX11_within 7 = .ok (.if_icmp .gt 7, 3) := by decide +kernel
theorem dX11_within_10 : decode cX11_within 10 = .ok (.iconst 1, 1) := by decide +kernel
theorem dX11_within_11 : decode cX11_within 11 = .ok (.goto 4, 3) := by decide +kernel
theorem dX12_isIn_0 : decode cX12_isIn 0 = .ok (.iload_n 0, 1) := by decide +kernel
theorem dX12_isIn_1 : decode cX12_isIn 1 = .ok (.iload_n 1, 1) := by decide +kernel
theorem dX12_isIn_2 : decode cX12_isIn 2 = .ok (.if_icmp .lt 12, 3) := by decide +kernel
theorem dX12_isIn_14 : decode cX12_isIn 14 = .ok (.iconst 0, 1) := by decide +kernel
theorem dX12_isIn_15 : decode cX12_isIn 15 = .ok (.ireturn, 1) := by decide +kernel
theorem dX12_isIn_5 : decode cX12_isIn 5 = .ok (.iload_n 0, 1) := by decide +kernel
theorem dX12_isIn_6 : decode cX12_isIn 6 = .ok (.iload_n 2, 1) := by decide +kernel
theorem dX12_isIn_7 : decode cX12_isIn 7 = .ok (.if_icmp .gt 7, 3) := by decide +kernel
theorem dX12_isIn_10 : decode cX12_isIn 10 = .ok (.iconst 1, 1) := by decide +kernel
theorem dX12_isIn_11 : decode cX12_isIn 11 = .ok (.goto 4, 3) := by decide +kernel
theorem dX4_has_0 : decode cX4_has 0 = .ok (.iload_n 1, 1) := by decide +kernel
theorem dX4_has_1 : decode cX4_has 1 = .ok (.ifCond .lt 15, 3) := by decide +kernel
theorem dX4_has_16 : decode cX4_has 16 = .ok (.iconst 0, 1) := by decide +kernel
theorem dX4_has_17 : decode cX4_has 17 = .ok (.ireturn, 1) := by decide +kernel
theorem dX4_has_4 : decode cX4_has 4 = .ok (.iload_n 1, 1) := by decide +kernel
theorem dX4_has_5 : decode cX4_has 5 = .ok (.aload_n 0, 1) := by decide +kernel
theorem dX4_has_6 : decode cX4_has 6 = .ok (.getfield 28, 3) := by decide +kernel
theorem ok_X4 : clOK 4 RX4 TX4 7 tyX4 := ⟨rfl, fun w h => ⟨(show ∀ w ∈ u_ws RX4 TX4 7, w ∈ lw_tbl by decide +kernel) w h, (show ∀ w ∈ u_ws RX4 TX4 7, gw w = true by decide +kernel) w h⟩, tyX4_ok, nmX4⟩
theorem kf4_28 : inW (Cond.fieldLink RX4 28 "KneeOaths$Ledger" "oathCount" "I") := ⟨List.mem_of_getElem? (i := 162) (by decide +kernel), by decide +kernel⟩
theorem dX4_has_9 : decode cX4_has 9 = .ok (.if_icmp .ge 7, 3) := by decide +kernel
theorem dX4_get_0 : decode cX4_get 0 = .ok (.iload_n 1, 1) := by decide +kernel
theorem dX4_get_1 : decode cX4_get 1 = .ok (.ifCond .lt 21, 3) := by decide +kernel
theorem dX4_get_22 : decode cX4_get 22 = .ok (.iconst (-1), 1) := by decide +kernel
theorem dX4_get_23 : decode cX4_get 23 = .ok (.ireturn, 1) := by decide +kernel
theorem dX4_get_4 : decode cX4_get 4 = .ok (.iload_n 1, 1) := by decide +kernel
theorem dX4_get_5 : decode cX4_get 5 = .ok (.aload_n 0, 1) := by decide +kernel
theorem dX4_get_6 : decode cX4_get 6 = .ok (.getfield 28, 3) := by decide +kernel
theorem dX4_get_9 : decode cX4_get 9 = .ok (.if_icmp .ge 13, 3) := by decide +kernel
theorem dX4_unreleased_0 : decode cX4_unreleased 0 = .ok (.aload_n 0, 1) := by decide +kernel
theorem dX4_unreleased_1 : decode cX4_unreleased 1 = .ok (.iload_n 1, 1) := by decide +kernel
theorem dX4_unreleased_2 : decode cX4_unreleased 2 = .ok (.invokevirtual 53, 3) := by decide +kernel
theorem cw_X4_has : CWv yX4_has cX4_has 2 (some .boolean) 1 := ⟨⟨⟨List.mem_of_getElem? (i := 125) (by decide +kernel), by decide +kernel⟩, ⟨List.mem_of_getElem? (i := 932) (by decide +kernel), by decide +kernel⟩, by decide +kernel⟩, ⟨List.mem_of_getElem? (i := 930) (by decide +kernel), by decide +kernel⟩, ⟨List.mem_of_getElem? (i := 931) (by decide +kernel), by decide +kernel⟩⟩
theorem km4_53 : inW (Cond.methodLink RX4 53 yX4_has) := ⟨List.mem_of_getElem? (i := 929) (by decide +kernel), by decide +kernel⟩
theorem dX4_unreleased_5 : decode cX4_unreleased 5 = .ok (.ifCond .eq 17, 3) := by decide +kernel
theorem dX4_unreleased_22 : decode cX4_unreleased 22 = .ok (.iconst 0, 1) := by decide +kernel
theorem dX4_unreleased_23 : decode cX4_unreleased 23 = .ok (.ireturn, 1) := by decide +kernel
theorem dX4_legible_0 : decode cX4_legible 0 = .ok (.aload_n 0, 1) := by decide +kernel
theorem dX4_legible_1 : decode cX4_legible 1 = .ok (.iload_n 1, 1) := by decide +kernel
theorem dX4_legible_2 : decode cX4_legible 2 = .ok (.iconst 5, 1) := by decide +kernel
theorem dX4_legible_3 : decode cX4_legible 3 = .ok (.invokevirtual 44, 3) := by decide +kernel
theorem cw_X4_get : CWv yX4_get cX4_get 3 (some .int) 2 := ⟨⟨⟨List.mem_of_getElem? (i := 125) (by decide +kernel), by decide +kernel⟩, ⟨List.mem_of_getElem? (i := 915) (by decide +kernel), by decide +kernel⟩, by decide +kernel⟩, ⟨List.mem_of_getElem? (i := 913) (by decide +kernel), by decide +kernel⟩, ⟨List.mem_of_getElem? (i := 914) (by decide +kernel), by decide +kernel⟩⟩
theorem km4_44 : inW (Cond.methodLink RX4 44 yX4_get) := ⟨List.mem_of_getElem? (i := 933) (by decide +kernel), by decide +kernel⟩
theorem dX4_legible_6 : decode cX4_legible 6 = .ok (.bipush 99, 2) := by decide +kernel
theorem dX4_legible_8 : decode cX4_legible 8 = .ok (.if_icmp .ge 15, 3) := by decide +kernel
theorem dX4_legible_11 : decode cX4_legible 11 = .ok (.aload_n 0, 1) := by decide +kernel
theorem dX4_legible_12 : decode cX4_legible 12 = .ok (.iload_n 1, 1) := by decide +kernel
theorem dX4_legible_13 : decode cX4_legible 13 = .ok (.invokevirtual 57, 3) := by decide +kernel
theorem cw_X4_unreleased : CWv yX4_unreleased cX4_unreleased 2 (some .boolean) 1 := ⟨⟨⟨List.mem_of_getElem? (i := 125) (by decide +kernel), by decide +kernel⟩, ⟨List.mem_of_getElem? (i := 928) (by decide +kernel), by decide +kernel⟩, by decide +kernel⟩, ⟨List.mem_of_getElem? (i := 926) (by decide +kernel), by decide +kernel⟩, ⟨List.mem_of_getElem? (i := 927) (by decide +kernel), by decide +kernel⟩⟩
theorem km4_57 : inW (Cond.methodLink RX4 57 yX4_unreleased) := ⟨List.mem_of_getElem? (i := 1058) (by decide +kernel), by decide +kernel⟩
theorem dX4_legible_16 : decode cX4_legible 16 = .ok (.ifCond .eq 7, 3) := by decide +kernel
theorem dX4_legible_23 : decode cX4_legible 23 = .ok (.iconst 0, 1) := by decide +kernel
theorem dX4_legible_24 : decode cX4_legible 24 = .ok (.ireturn, 1) := by decide +kernel
def wi (v a b : Int32) : Int32 := if v < a then 0 else if b < v then 0 else 1
theorem wi_m1 (x : Int32) : wi x 0 (-1) = 0 := by
  unfold wi
  by_cases h : x < 0
  · rw [if_pos h]
  · rw [if_neg h]; by_cases h2 : -1 < x
    · rw [if_pos h2]
    · exact absurd (by rw [Int32.not_lt, Int32.le_iff_toInt_le] at *; rw [show (-1 : Int32).toInt = -1 from rfl] at *; rw [show (0 : Int32).toInt = 0 from rfl] at *; omega : False) id
theorem wi_10 (x : Int32) : wi x 1 0 = 0 := by
  unfold wi
  by_cases h : x < 1
  · rw [if_pos h]
  · rw [if_neg h]; by_cases h2 : 0 < x
    · rw [if_pos h2]
    · exact absurd (by rw [Int32.not_lt, Int32.le_iff_toInt_le] at *; rw [show (1 : Int32).toInt = 1 from rfl] at *; rw [show (0 : Int32).toInt = 0 from rfl] at *; omega : False) id
theorem i_pos1 {x : Int32} (h : ¬ x ≤ 0) : 1 ≤ x := by
  rw [Int32.not_le, Int32.lt_iff_toInt_lt] at h
  rw [Int32.le_iff_toInt_le]
  rw [show (0 : Int32).toInt = 0 from rfl] at h
  rw [show (1 : Int32).toInt = 1 from rfl]
  omega
set_option maxHeartbeats 4000000 in
set_option maxRecDepth 100000 in
theorem c_X11_within {l : Launch} {G : GG} {L : List Nat} {f : HF} {v a b : Int32}   : PMp l yX11_within cX11_within 3 .boolean 0 0 0 G [.int v, .int a, .int b] L f (fun r => r = wi v a b) := by
  refine PMi.of (post := fun r L1 f1 => (r = wi v a b) ∧ L1 = L ∧ f1 = f) (own := RX11) (by decide) rfl (Nat.le_of_ble_eq_true rfl) (fun sz p e s m args below meth c A ls hA1 hname S Y hl => ?_)
  have hx := S.hx
  have hb := S.hb
  have hl : lv_has ls 3 [(0, .int v), (1, .int a), (2, .int b)] := hl
  refine lv_iload_n hx hb dX11_within_0 rfl (lv_at hl 0 rfl) ?_
  refine lv_iload_n hx hb dX11_within_1 rfl (lv_at hl 1 rfl) ?_
  refine lv_icmp_lt (tgt := 14) hx hb dX11_within_2 (by decide) (fun c_1 => ?_) (fun c_1 => ?_)
  · refine lv_iconst (v := 0) hx hb dX11_within_14 (by decide) ?_
    exact prI (post := fun r L1 f1 => (r = wi v a b) ∧ L1 = L ∧ f1 = f) S Y rfl (by decide) (by decide) hA1 ⟨by unfold wi; rw [if_pos c_1], rfl, rfl⟩ dX11_within_15
  · refine lv_iload_n hx hb dX11_within_5 rfl (lv_at hl 0 rfl) ?_
    refine lv_iload_n hx hb dX11_within_6 rfl (lv_at hl 2 rfl) ?_
    refine lv_icmp_gt (tgt := 14) hx hb dX11_within_7 (by decide) (fun c_2 => ?_) (fun c_2 => ?_)
    · refine lv_iconst (v := 0) hx hb dX11_within_14 (by decide) ?_
      exact prI (post := fun r L1 f1 => (r = wi v a b) ∧ L1 = L ∧ f1 = f) S Y rfl (by decide) (by decide) hA1 ⟨by unfold wi; rw [if_neg c_1, if_pos c_2], rfl, rfl⟩ dX11_within_15
    · refine lv_iconst (v := 1) hx hb dX11_within_10 (by decide) ?_
      refine lv_goto (tgt := 15) hx hb dX11_within_11 (by decide) ?_
      exact prI (post := fun r L1 f1 => (r = wi v a b) ∧ L1 = L ∧ f1 = f) S Y rfl (by decide) (by decide) hA1 ⟨by unfold wi; rw [if_neg c_1, if_neg c_2], rfl, rfl⟩ dX11_within_15
set_option maxHeartbeats 4000000 in
set_option maxRecDepth 100000 in
theorem c_X12_isIn {l : Launch} {G : GG} {L : List Nat} {f : HF} {v a b : Int32}   : PMp l yX12_isIn cX12_isIn 3 .boolean 0 0 0 G [.int v, .int a, .int b] L f (fun r => r = wi v a b) := by
  refine PMi.of (post := fun r L1 f1 => (r = wi v a b) ∧ L1 = L ∧ f1 = f) (own := RX12) (by decide) rfl (Nat.le_of_ble_eq_true rfl) (fun sz p e s m args below meth c A ls hA1 hname S Y hl => ?_)
  have hx := S.hx
  have hb := S.hb
  have hl : lv_has ls 3 [(0, .int v), (1, .int a), (2, .int b)] := hl
  refine lv_iload_n hx hb dX12_isIn_0 rfl (lv_at hl 0 rfl) ?_
  refine lv_iload_n hx hb dX12_isIn_1 rfl (lv_at hl 1 rfl) ?_
  refine lv_icmp_lt (tgt := 14) hx hb dX12_isIn_2 (by decide) (fun c_3 => ?_) (fun c_3 => ?_)
  · refine lv_iconst (v := 0) hx hb dX12_isIn_14 (by decide) ?_
    exact prI (post := fun r L1 f1 => (r = wi v a b) ∧ L1 = L ∧ f1 = f) S Y rfl (by decide) (by decide) hA1 ⟨by unfold wi; rw [if_pos c_3], rfl, rfl⟩ dX12_isIn_15
  · refine lv_iload_n hx hb dX12_isIn_5 rfl (lv_at hl 0 rfl) ?_
    refine lv_iload_n hx hb dX12_isIn_6 rfl (lv_at hl 2 rfl) ?_
    refine lv_icmp_gt (tgt := 14) hx hb dX12_isIn_7 (by decide) (fun c_4 => ?_) (fun c_4 => ?_)
    · refine lv_iconst (v := 0) hx hb dX12_isIn_14 (by decide) ?_
      exact prI (post := fun r L1 f1 => (r = wi v a b) ∧ L1 = L ∧ f1 = f) S Y rfl (by decide) (by decide) hA1 ⟨by unfold wi; rw [if_neg c_3, if_pos c_4], rfl, rfl⟩ dX12_isIn_15
    · refine lv_iconst (v := 1) hx hb dX12_isIn_10 (by decide) ?_
      refine lv_goto (tgt := 15) hx hb dX12_isIn_11 (by decide) ?_
      exact prI (post := fun r L1 f1 => (r = wi v a b) ∧ L1 = L ∧ f1 = f) S Y rfl (by decide) (by decide) hA1 ⟨by unfold wi; rw [if_neg c_3, if_neg c_4], rfl, rfl⟩ dX12_isIn_15
set_option maxHeartbeats 4000000 in
set_option maxRecDepth 100000 in
theorem c_X4_has {l : Launch} {G : GG} {L : List Nat} {f : HF} {h oa aa : Nat} {ac dt rn xx : Int32} {o : Int32} (p_h : pt L f h (.inr (4, [.ref oa, .ref aa, .int 0, .int ac, .int dt, .int rn, .int xx])))  : PMp l yX4_has cX4_has 2 .boolean 0 0 0 G [.ref h, .int o] L f (fun r => r = 0) := by
  refine PMi.of (post := fun r L1 f1 => (r = 0) ∧ L1 = L ∧ f1 = f) (own := RX4) (by decide) rfl (Nat.le_of_ble_eq_true rfl) (fun sz p e s m args below meth c A ls hA1 hname S Y hl => ?_)
  have hx := S.hx
  have hb := S.hb
  have hl : lv_has ls 2 [(0, .ref h), (1, .int o)] := hl
  refine lv_iload_n hx hb dX4_has_0 rfl (lv_at hl 1 rfl) ?_
  refine lv_if_lt (tgt := 16) hx hb dX4_has_1 (by decide) (fun c_5 => ?_) (fun c_5 => ?_)
  · refine lv_iconst (v := 0) hx hb dX4_has_16 (by decide) ?_
    exact prI (post := fun r L1 f1 => (r = 0) ∧ L1 = L ∧ f1 = f) S Y rfl (by decide) (by decide) hA1 ⟨rfl, rfl, rfl⟩ dX4_has_17
  · refine lv_iload_n hx hb dX4_has_4 rfl (lv_at hl 1 rfl) ?_
    refine lv_aload_n hx hb dX4_has_5 rfl (lv_at hl 0 rfl) ?_
    refine pg_get S Y ok_X4 2 (by decide) kf4_28 (v := .int 0) p_h rfl dX4_has_6 ?_
    refine lv_icmp_ge (tgt := 16) hx hb dX4_has_9 (by decide) (fun _ => ?_) (fun h => absurd (i_ge c_5) h)
    refine lv_iconst (v := 0) hx hb dX4_has_16 (by decide) ?_
    exact prI (post := fun r L1 f1 => (r = 0) ∧ L1 = L ∧ f1 = f) S Y rfl (by decide) (by decide) hA1 ⟨rfl, rfl, rfl⟩ dX4_has_17
set_option maxHeartbeats 4000000 in
set_option maxRecDepth 100000 in
theorem c_X4_get {l : Launch} {G : GG} {L : List Nat} {f : HF} {h oa aa : Nat} {ac dt rn xx : Int32} {o k : Int32} (p_h : pt L f h (.inr (4, [.ref oa, .ref aa, .int 0, .int ac, .int dt, .int rn, .int xx])))  : PMp l yX4_get cX4_get 3 .int 0 0 0 G [.ref h, .int o, .int k] L f (fun r => r = (-1)) := by
  refine PMi.of (post := fun r L1 f1 => (r = (-1)) ∧ L1 = L ∧ f1 = f) (own := RX4) (by decide) rfl (Nat.le_of_ble_eq_true rfl) (fun sz p e s m args below meth c A ls hA1 hname S Y hl => ?_)
  have hx := S.hx
  have hb := S.hb
  have hl : lv_has ls 3 [(0, .ref h), (1, .int o), (2, .int k)] := hl
  refine lv_iload_n hx hb dX4_get_0 rfl (lv_at hl 1 rfl) ?_
  refine lv_if_lt (tgt := 22) hx hb dX4_get_1 (by decide) (fun c_6 => ?_) (fun c_6 => ?_)
  · refine lv_iconst (v := (-1)) hx hb dX4_get_22 (by decide) ?_
    exact prI (post := fun r L1 f1 => (r = (-1)) ∧ L1 = L ∧ f1 = f) S Y rfl (by decide) (by decide) hA1 ⟨rfl, rfl, rfl⟩ dX4_get_23
  · refine lv_iload_n hx hb dX4_get_4 rfl (lv_at hl 1 rfl) ?_
    refine lv_aload_n hx hb dX4_get_5 rfl (lv_at hl 0 rfl) ?_
    refine pg_get S Y ok_X4 2 (by decide) kf4_28 (v := .int 0) p_h rfl dX4_get_6 ?_
    refine lv_icmp_ge (tgt := 22) hx hb dX4_get_9 (by decide) (fun _ => ?_) (fun h => absurd (i_ge c_6) h)
    refine lv_iconst (v := (-1)) hx hb dX4_get_22 (by decide) ?_
    exact prI (post := fun r L1 f1 => (r = (-1)) ∧ L1 = L ∧ f1 = f) S Y rfl (by decide) (by decide) hA1 ⟨rfl, rfl, rfl⟩ dX4_get_23
set_option maxHeartbeats 4000000 in
set_option maxRecDepth 100000 in
theorem c_X4_unreleased {l : Launch} {G : GG} {L : List Nat} {f : HF} {h oa aa : Nat} {ac dt rn xx : Int32} {o : Int32} (p_h : pt L f h (.inr (4, [.ref oa, .ref aa, .int 0, .int ac, .int dt, .int rn, .int xx])))  : PMp l yX4_unreleased cX4_unreleased 2 .boolean 1 0 0 G [.ref h, .int o] L f (fun r => r = 0) := by
  refine PMi.of (post := fun r L1 f1 => (r = 0) ∧ L1 = L ∧ f1 = f) (own := RX4) (by decide) rfl (Nat.le_of_ble_eq_true rfl) (fun sz p e s m args below meth c A ls hA1 hname S Y hl => ?_)
  have hx := S.hx
  have hb := S.hb
  have hl : lv_has ls 2 [(0, .ref h), (1, .int o)] := hl
  refine lv_aload_n hx hb dX4_unreleased_0 rfl (lv_at hl 0 rfl) ?_
  refine lv_iload_n hx hb dX4_unreleased_1 rfl (lv_at hl 1 rfl) ?_
  refine cVp (As := [.int o]) (rest := []) S Y (c_X4_has (l := l) p_h) cw_X4_has km4_53 p_h ok_X4.1 rfl rfl ⟨Nat.le_of_ble_eq_true rfl, Nat.le_of_ble_eq_true rfl⟩ hl.1 rfl (Nat.le_of_ble_eq_true rfl) ⟨Nat.le_of_ble_eq_true rfl, Nat.le_of_ble_eq_true rfl⟩ dX4_unreleased_2 (fun r_7 H locs er_7 Y => ?_)
  refine lv_fold (z := 0) er_7 ?_
  refine lv_if_eq (tgt := 22) hx hb dX4_unreleased_5 (by decide) (fun _ => ?_) (fun h => absurd (by decide) h)
  refine lv_iconst (v := 0) hx hb dX4_unreleased_22 (by decide) ?_
  exact prI (post := fun r L1 f1 => (r = 0) ∧ L1 = L ∧ f1 = f) S Y rfl (by decide) (by decide) hA1 ⟨rfl, rfl, rfl⟩ dX4_unreleased_23
set_option maxHeartbeats 4000000 in
set_option maxRecDepth 100000 in
theorem c_X4_legible {l : Launch} {G : GG} {L : List Nat} {f : HF} {h oa aa : Nat} {ac dt rn xx : Int32} {o : Int32} (p_h : pt L f h (.inr (4, [.ref oa, .ref aa, .int 0, .int ac, .int dt, .int rn, .int xx])))  : PMp l yX4_legible cX4_legible 2 .boolean 2 0 0 G [.ref h, .int o] L f (fun r => r = 0) := by
  refine PMi.of (post := fun r L1 f1 => (r = 0) ∧ L1 = L ∧ f1 = f) (own := RX4) (by decide) rfl (Nat.le_of_ble_eq_true rfl) (fun sz p e s m args below meth c A ls hA1 hname S Y hl => ?_)
  have hx := S.hx
  have hb := S.hb
  have hl : lv_has ls 2 [(0, .ref h), (1, .int o)] := hl
  refine lv_aload_n hx hb dX4_legible_0 rfl (lv_at hl 0 rfl) ?_
  refine lv_iload_n hx hb dX4_legible_1 rfl (lv_at hl 1 rfl) ?_
  refine lv_iconst (v := 5) hx hb dX4_legible_2 (by decide) ?_
  refine cVp (As := [.int o, .int 5]) (rest := []) S Y (c_X4_get (l := l) p_h) cw_X4_get km4_44 p_h ok_X4.1 rfl rfl ⟨Nat.le_of_ble_eq_true rfl, Nat.le_of_ble_eq_true rfl⟩ hl.1 rfl (Nat.le_of_ble_eq_true rfl) ⟨Nat.le_of_ble_eq_true rfl, Nat.le_of_ble_eq_true rfl⟩ dX4_legible_3 (fun r_8 H locs er_8 Y => ?_)
  refine lv_fold (z := (-1)) er_8 ?_
  refine lv_bipush (v := 99) hx hb dX4_legible_6 (by decide) ?_
  refine lv_icmp_ge (tgt := 23) hx hb dX4_legible_8 (by decide) (fun h => absurd h (by decide)) (fun _ => ?_)
  refine lv_aload_n hx hb dX4_legible_11 rfl (lv_at hl 0 rfl) ?_
  refine lv_iload_n hx hb dX4_legible_12 rfl (lv_at hl 1 rfl) ?_
  refine cVp (As := [.int o]) (rest := []) S Y (c_X4_unreleased (l := l) p_h) cw_X4_unreleased km4_57 p_h ok_X4.1 rfl rfl ⟨Nat.le_of_ble_eq_true rfl, Nat.le_of_ble_eq_true rfl⟩ hl.1 rfl (Nat.le_of_ble_eq_true rfl) ⟨Nat.le_of_ble_eq_true rfl, Nat.le_of_ble_eq_true rfl⟩ dX4_legible_13 (fun r_9 H locs er_9 Y => ?_)
  refine lv_fold (z := 0) er_9 ?_
  refine lv_if_eq (tgt := 23) hx hb dX4_legible_16 (by decide) (fun _ => ?_) (fun h => absurd (by decide) h)
  refine lv_iconst (v := 0) hx hb dX4_legible_23 (by decide) ?_
  exact prI (post := fun r L1 f1 => (r = 0) ∧ L1 = L ∧ f1 = f) S Y rfl (by decide) (by decide) hA1 ⟨rfl, rfl, rfl⟩ dX4_legible_24
