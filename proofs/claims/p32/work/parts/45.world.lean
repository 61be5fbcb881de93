theorem dX11_within_0 : decode cX11_within 0 = .ok (.iload_n 0, 1) := by decide +kernel
theorem dX11_within_1 : decode cX11_within 1 = .ok (.iload_n 1, 1) := by decide +kernel
theorem dX11_within_2 : decode cX11_within 2 = .ok (.if_icmp .lt 12, 3) := by decide +kernel
theorem dX11_within_14 : decode cX11_within 14 = .ok (.iconst 0, 1) := by decide +kernel
theorem dX11_within_15 : decode cX11_within 15 = .ok (.ireturn, 1) := by decide +kernel
theorem dX11_within_5 : decode cX11_within 5 = .ok (.iload_n 0, 1) := by decide +kernel
theorem dX11_within_6 : decode cX11_within 6 = .ok (.iload_n 2, 1) := by decide +kernel
theorem dX11_within_7 : decode cX11_within 7 = .ok (.if_icmp .gt 7, 3) := by decide +kernel
theorem dX11_within_10 : decode cX11_within 10 = .ok (.iconst 1, 1) := by decide +kernel
theorem dX11_within_11 : decode cX11_within 11 = .ok (.goto 4, 3) := by decide +kernel
theorem dX10_has_0 : decode cX10_has 0 = .ok (.iload_n 1, 1) := by decide +kernel
theorem dX10_has_1 : decode cX10_has 1 = .ok (.ifCond .lt 15, 3) := by decide +kernel
theorem dX10_has_16 : decode cX10_has 16 = .ok (.iconst 0, 1) := by decide +kernel
theorem dX10_has_17 : decode cX10_has 17 = .ok (.ireturn, 1) := by decide +kernel
theorem dX10_has_4 : decode cX10_has 4 = .ok (.iload_n 1, 1) := by decide +kernel
theorem dX10_has_5 : decode cX10_has 5 = .ok (.aload_n 0, 1) := by decide +kernel
theorem dX10_has_6 : decode cX10_has 6 = .ok (.getfield 80, 3) := by decide +kernel
theorem ok_X10 : clOK 10 RX10 TX10 15 tyX10 := ⟨rfl, fun w h => ⟨(show ∀ w ∈ u_ws RX10 TX10 15, w ∈ lw_tbl by decide +kernel) w h, (show ∀ w ∈ u_ws RX10 TX10 15, gw w = true by decide +kernel) w h⟩, tyX10_ok, nmX10⟩
theorem kf10_80 : inW (Cond.fieldLink RX10 80 "KneeOaths$World" "people" "I") := ⟨List.mem_of_getElem? (i := 288) (by decide +kernel), by decide +kernel⟩
theorem dX10_has_9 : decode cX10_has 9 = .ok (.if_icmp .ge 7, 3) := by decide +kernel
theorem dX10_has_12 : decode cX10_has 12 = .ok (.iconst 1, 1) := by decide +kernel
theorem dX10_has_13 : decode cX10_has 13 = .ok (.goto 4, 3) := by decide +kernel
theorem dX10_toughOf_0 : decode cX10_toughOf 0 = .ok (.iload_n 1, 1) := by decide +kernel
theorem dX10_toughOf_1 : decode cX10_toughOf 1 = .ok (.ifCond .lt 20, 3) := by decide +kernel
theorem dX10_toughOf_21 : decode cX10_toughOf 21 = .ok (.iconst 0, 1) := by decide +kernel
theorem dX10_toughOf_22 : decode cX10_toughOf 22 = .ok (.ireturn, 1) := by decide +kernel
theorem dX10_toughOf_4 : decode cX10_toughOf 4 = .ok (.iload_n 1, 1) := by decide +kernel
theorem dX10_toughOf_5 : decode cX10_toughOf 5 = .ok (.aload_n 0, 1) := by decide +kernel
theorem dX10_toughOf_6 : decode cX10_toughOf 6 = .ok (.getfield 80, 3) := by decide +kernel
theorem dX10_toughOf_9 : decode cX10_toughOf 9 = .ok (.if_icmp .ge 12, 3) := by decide +kernel
theorem dX10_toughOf_12 : decode cX10_toughOf 12 = .ok (.aload_n 0, 1) := by decide +kernel
theorem dX10_toughOf_13 : decode cX10_toughOf 13 = .ok (.getfield 9, 3) := by decide +kernel
theorem kf10_9 : inW (Cond.fieldLink RX10 9 "KneeOaths$World" "toughs" "[I") := ⟨List.mem_of_getElem? (i := 261) (by decide +kernel), by decide +kernel⟩
theorem dX10_toughOf_16 : decode cX10_toughOf 16 = .ok (.iload_n 1, 1) := by decide +kernel
theorem dX10_toughOf_17 : decode cX10_toughOf 17 = .ok (.iaload, 1) := by decide +kernel
theorem dX10_toughOf_18 : decode cX10_toughOf 18 = .ok (.goto 4, 3) := by decide +kernel
theorem dX10_ageOf_0 : decode cX10_ageOf 0 = .ok (.iload_n 1, 1) := by decide +kernel
theorem dX10_ageOf_1 : decode cX10_ageOf 1 = .ok (.ifCond .lt 20, 3) := by decide +kernel
theorem dX10_ageOf_21 : decode cX10_ageOf 21 = .ok (.iconst 0, 1) := by decide +kernel
theorem dX10_ageOf_22 : decode cX10_ageOf 22 = .ok (.ireturn, 1) := by decide +kernel
theorem dX10_ageOf_4 : decode cX10_ageOf 4 = .ok (.iload_n 1, 1) := by decide +kernel
theorem dX10_ageOf_5 : decode cX10_ageOf 5 = .ok (.aload_n 0, 1) := by decide +kernel
theorem dX10_ageOf_6 : decode cX10_ageOf 6 = .ok (.getfield 80, 3) := by decide +kernel
theorem dX10_ageOf_9 : decode cX10_ageOf 9 = .ok (.if_icmp .ge 12, 3) := by decide +kernel
theorem dX10_ageOf_12 : decode cX10_ageOf 12 = .ok (.aload_n 0, 1) := by decide +kernel
theorem dX10_ageOf_13 : decode cX10_ageOf 13 = .ok (.getfield 15, 3) := by decide +kernel
theorem kf10_15 : inW (Cond.fieldLink RX10 15 "KneeOaths$World" "ages" "[I") := ⟨List.mem_of_getElem? (i := 262) (by decide +kernel), by decide +kernel⟩
theorem dX10_ageOf_16 : decode cX10_ageOf 16 = .ok (.iload_n 1, 1) := by decide +kernel
theorem dX10_ageOf_17 : decode cX10_ageOf 17 = .ok (.iaload, 1) := by decide +kernel
theorem dX10_ageOf_18 : decode cX10_ageOf 18 = .ok (.goto 4, 3) := by decide +kernel
theorem dX10_welcome_0 : decode cX10_welcome 0 = .ok (.aload_n 0, 1) := by decide +kernel
theorem dX10_welcome_1 : decode cX10_welcome 1 = .ok (.getfield 80, 3) := by decide +kernel
theorem dX10_welcome_4 : decode cX10_welcome 4 = .ok (.bipush 6, 2) := by decide +kernel
theorem dX10_welcome_6 : decode cX10_welcome 6 = .ok (.if_icmp .ge 23, 3) := by decide +kernel
theorem dX10_welcome_29 : decode cX10_welcome 29 = .ok (.iconst (-1), 1) := by decide +kernel
theorem dX10_welcome_30 : decode cX10_welcome 30 = .ok (.ireturn, 1) := by decide +kernel
theorem dX10_welcome_9 : decode cX10_welcome 9 = .ok (.iload_n 1, 1) := by decide +kernel
theorem dX10_welcome_10 : decode cX10_welcome 10 = .ok (.iconst 0, 1) := by decide +kernel
theorem dX10_welcome_11 : decode cX10_welcome 11 = .ok (.bipush 9, 2) := by decide +kernel
theorem dX10_welcome_13 : decode cX10_welcome 13 = .ok (.invokestatic 89, 3) := by decide +kernel
theorem cw_X11_within : CWs yX11_within cX11_within 3 (some .boolean) 3 := ⟨⟨⟨List.mem_of_getElem? (i := 124) (by decide +kernel), by decide +kernel⟩, ⟨List.mem_of_getElem? (i := 543) (by decide +kernel), by decide +kernel⟩, by decide +kernel⟩, ⟨List.mem_of_getElem? (i := 542) (by decide +kernel), by decide +kernel⟩⟩
theorem km10_89 : inW (Cond.methodLinkNest RX10 89 yX11_within "KneeOaths") := ⟨List.mem_of_getElem? (i := 541) (by decide +kernel), by decide +kernel⟩
theorem dX10_welcome_16 : decode cX10_welcome 16 = .ok (.ifCond .eq 13, 3) := by decide +kernel
theorem dX10_welcome_19 : decode cX10_welcome 19 = .ok (.iload_n 2, 1) := by decide +kernel
theorem dX10_welcome_20 : decode cX10_welcome 20 = .ok (.iconst 0, 1) := by decide +kernel
theorem dX10_welcome_21 : decode cX10_welcome 21 = .ok (.bipush 99, 2) := by decide +kernel
theorem dX10_welcome_23 : decode cX10_welcome 23 = .ok (.invokestatic 89, 3) := by decide +kernel
theorem dX10_welcome_26 : decode cX10_welcome 26 = .ok (.ifCond .ne 5, 3) := by decide +kernel
theorem dX10_welcome_31 : decode cX10_welcome 31 = .ok (.aload_n 0, 1) := by decide +kernel
theorem dX10_welcome_32 : decode cX10_welcome 32 = .ok (.getfield 9, 3) := by decide +kernel
theorem dX10_welcome_35 : decode cX10_welcome 35 = .ok (.aload_n 0, 1) := by decide +kernel
theorem dX10_welcome_36 : decode cX10_welcome 36 = .ok (.getfield 80, 3) := by decide +kernel
theorem dX10_welcome_39 : decode cX10_welcome 39 = .ok (.iload_n 1, 1) := by decide +kernel
theorem dX10_welcome_40 : decode cX10_welcome 40 = .ok (.iastore, 1) := by decide +kernel
theorem dX10_welcome_41 : decode cX10_welcome 41 = .ok (.aload_n 0, 1) := by decide +kernel
theorem dX10_welcome_42 : decode cX10_welcome 42 = .ok (.getfield 15, 3) := by decide +kernel
theorem dX10_welcome_45 : decode cX10_welcome 45 = .ok (.aload_n 0, 1) := by decide +kernel
theorem dX10_welcome_46 : decode cX10_welcome 46 = .ok (.getfield 80, 3) := by decide +kernel
theorem dX10_welcome_49 : decode cX10_welcome 49 = .ok (.iload_n 2, 1) := by decide +kernel
theorem dX10_welcome_50 : decode cX10_welcome 50 = .ok (.iastore, 1) := by decide +kernel
theorem dX10_welcome_51 : decode cX10_welcome 51 = .ok (.aload_n 0, 1) := by decide +kernel
theorem dX10_welcome_52 : decode cX10_welcome 52 = .ok (.dup, 1) := by decide +kernel
theorem dX10_welcome_53 : decode cX10_welcome 53 = .ok (.getfield 80, 3) := by decide +kernel
theorem dX10_welcome_56 : decode cX10_welcome 56 = .ok (.iconst 1, 1) := by decide +kernel
theorem dX10_welcome_57 : decode cX10_welcome 57 = .ok (.iadd, 1) := by decide +kernel
theorem dX10_welcome_58 : decode cX10_welcome 58 = .ok (.putfield 80, 3) := by decide +kernel
theorem dX10_welcome_61 : decode cX10_welcome 61 = .ok (.aload_n 0, 1) := by decide +kernel
theorem dX10_welcome_62 : decode cX10_welcome 62 = .ok (.getfield 80, 3) := by decide +kernel
theorem dX10_welcome_65 : decode cX10_welcome 65 = .ok (.iconst 1, 1) := by decide +kernel
theorem dX10_welcome_66 : decode cX10_welcome 66 = .ok (.isub, 1) := by decide +kernel
theorem dX10_welcome_67 : decode cX10_welcome 67 = .ok (.ireturn, 1) := by decide +kernel
theorem dX10_keepScript_0 : decode cX10_keepScript 0 = .ok (.aload_n 0, 1) := by decide +kernel
theorem dX10_keepScript_1 : decode cX10_keepScript 1 = .ok (.dup, 1) := by decide +kernel
theorem dX10_keepScript_2 : decode cX10_keepScript 2 = .ok (.getfield 67, 3) := by decide +kernel
theorem kf10_67 : inW (Cond.fieldLink RX10 67 "KneeOaths$World" "textCount" "I") := ⟨List.mem_of_getElem? (i := 293) (by decide +kernel), by decide +kernel⟩
theorem dX10_keepScript_5 : decode cX10_keepScript 5 = .ok (.iconst 1, 1) := by decide +kernel
theorem dX10_keepScript_6 : decode cX10_keepScript 6 = .ok (.iadd, 1) := by decide +kernel
theorem dX10_keepScript_7 : decode cX10_keepScript 7 = .ok (.putfield 67, 3) := by decide +kernel
theorem dX10_keepScript_10 : decode cX10_keepScript 10 = .ok (.aload_n 0, 1) := by decide +kernel
theorem dX10_keepScript_11 : decode cX10_keepScript 11 = .ok (.getfield 67, 3) := by decide +kernel
theorem dX10_keepScript_14 : decode cX10_keepScript 14 = .ok (.iconst 1, 1) := by decide +kernel
theorem dX10_keepScript_15 : decode cX10_keepScript 15 = .ok (.isub, 1) := by decide +kernel
theorem dX10_keepScript_16 : decode cX10_keepScript 16 = .ok (.ireturn, 1) := by decide +kernel
def wi (v a b : Int32) : Int32 := if v < a then 0 else if b < v then 0 else 1
set_option maxHeartbeats 4000000 in
set_option maxRecDepth 100000 in
theorem c_X11_within {l : Launch} {G : GG} {L : List Nat} {f : HF} {v a b : Int32}   : PMp l yX11_within cX11_within 3 .boolean 0 0 0 G [.int v, .int a, .int b] L f (fun r => r = wi v a b) := by
  refine PMi.of (post := fun r L1 f1 => (r = wi v a b) ∧ L1 = L ∧ f1 = f) (own := RX11) (by decide) rfl (Nat.le_of_ble_eq_true rfl) (fun sz p e s m args below meth c A ls hA1 hname S Y hl => ?_)
  have hx := S.hx
  have hb := S.hb
  have hl : lv_has ls 3 [(0, .int v), (1, .int a), (2, .int b)] := hl
  refine lv_iload_n hx hb dX11_within_0 rfl (lv_at hl 0 rfl) ?_
  refine lv_iload_n hx hb dX11_within_1 rfl (lv_at hl 1 rfl) ?_
  refine lv_icmp_lt (tgt := 14) hx hb dX11_within_2 (by decide) (fun c_153 => ?_) (fun c_153 => ?_)
  · refine lv_iconst (v := 0) hx hb dX11_within_14 (by decide) ?_
    exact prI (post := fun r L1 f1 => (r = wi v a b) ∧ L1 = L ∧ f1 = f) S Y rfl (by decide) (by decide) hA1 ⟨by unfold wi; rw [if_pos c_153], rfl, rfl⟩ dX11_within_15
  · refine lv_iload_n hx hb dX11_within_5 rfl (lv_at hl 0 rfl) ?_
    refine lv_iload_n hx hb dX11_within_6 rfl (lv_at hl 2 rfl) ?_
    refine lv_icmp_gt (tgt := 14) hx hb dX11_within_7 (by decide) (fun c_154 => ?_) (fun c_154 => ?_)
    · refine lv_iconst (v := 0) hx hb dX11_within_14 (by decide) ?_
      exact prI (post := fun r L1 f1 => (r = wi v a b) ∧ L1 = L ∧ f1 = f) S Y rfl (by decide) (by decide) hA1 ⟨by unfold wi; rw [if_neg c_153, if_pos c_154], rfl, rfl⟩ dX11_within_15
    · refine lv_iconst (v := 1) hx hb dX11_within_10 (by decide) ?_
      refine lv_goto (tgt := 15) hx hb dX11_within_11 (by decide) ?_
      exact prI (post := fun r L1 f1 => (r = wi v a b) ∧ L1 = L ∧ f1 = f) S Y rfl (by decide) (by decide) hA1 ⟨by unfold wi; rw [if_neg c_153, if_neg c_154], rfl, rfl⟩ dX11_within_15
theorem ixp {i c : Int32} {n : Nat} (hb : bd c n) (h1 : ¬ i < 0) (h2 : i < c) : vp_in i n := by
  have a := ti0 h1
  rw [Int32.lt_iff_toInt_lt] at h2
  obtain ⟨b1, b2⟩ := hb
  exact vp_of a (by omega)
theorem ixq {c N : Int32} {n : Nat} (hb : bd c n) (h : ¬ N ≤ c) (hN : N.toInt = n) : vp_in c n := by
  rw [Int32.le_iff_toInt_le, hN] at h
  obtain ⟨b1, b2⟩ := hb
  exact vp_of b1 (by omega)
set_option maxHeartbeats 4000000 in
set_option maxRecDepth 100000 in
theorem c_X10_has {l : Launch} {G : GG} {L : List Nat} {f : HF} {h ta ag sc nw pa fe cl wo si we : Nat} {i pe tc ru el so : Int32}  (p_h : pt L f h (.inr (10, [.ref ta, .ref ag, .ref sc, .ref nw, .ref pa, .ref fe, .ref cl, .ref wo, .ref si, .ref we, .int pe, .int tc, .int ru, .int el, .int so])))  : PMp l yX10_has cX10_has 2 .boolean 0 0 0 G [.ref h, .int i] L f (fun r => True) := by
  refine PMi.of (post := fun r L1 f1 => (True) ∧ L1 = L ∧ f1 = f) (own := RX10) (by decide) rfl (Nat.le_of_ble_eq_true rfl) (fun sz p e s m args below meth c A ls hA1 hname S Y hl => ?_)
  have hx := S.hx
  have hb := S.hb
  have hl : lv_has ls 2 [(0, .ref h), (1, .int i)] := hl
  refine lv_iload_n hx hb dX10_has_0 rfl (lv_at hl 1 rfl) ?_
  refine lv_if_lt (tgt := 16) hx hb dX10_has_1 (by decide) (fun c_155 => ?_) (fun c_155 => ?_)
  · refine lv_iconst (v := 0) hx hb dX10_has_16 (by decide) ?_
    exact prI (post := fun r L1 f1 => (True) ∧ L1 = L ∧ f1 = f) S Y rfl (by decide) (by decide) hA1 ⟨trivial, rfl, rfl⟩ dX10_has_17
  · refine lv_iload_n hx hb dX10_has_4 rfl (lv_at hl 1 rfl) ?_
    refine lv_aload_n hx hb dX10_has_5 rfl (lv_at hl 0 rfl) ?_
    refine pg_get S Y ok_X10 10 (by decide) kf10_80 (v := .int pe) p_h rfl dX10_has_6 ?_
    refine lv_icmp_ge (tgt := 16) hx hb dX10_has_9 (by decide) (fun c_156 => ?_) (fun c_156 => ?_)
    · refine lv_iconst (v := 0) hx hb dX10_has_16 (by decide) ?_
      exact prI (post := fun r L1 f1 => (True) ∧ L1 = L ∧ f1 = f) S Y rfl (by decide) (by decide) hA1 ⟨trivial, rfl, rfl⟩ dX10_has_17
    · refine lv_iconst (v := 1) hx hb dX10_has_12 (by decide) ?_
      refine lv_goto (tgt := 17) hx hb dX10_has_13 (by decide) ?_
      exact prI (post := fun r L1 f1 => (True) ∧ L1 = L ∧ f1 = f) S Y rfl (by decide) (by decide) hA1 ⟨trivial, rfl, rfl⟩ dX10_has_17
set_option maxHeartbeats 4000000 in
set_option maxRecDepth 100000 in
theorem c_X10_toughOf {l : Launch} {G : GG} {L : List Nat} {f : HF} {h ta ag sc nw pa fe cl wo si we : Nat} {i pe tc ru el so : Int32} {g : Nat → Int32}  (p_h : pt L f h (.inr (10, [.ref ta, .ref ag, .ref sc, .ref nw, .ref pa, .ref fe, .ref cl, .ref wo, .ref si, .ref we, .int pe, .int tc, .int ru, .int el, .int so]))) (p_ta : pt L f ta (.inl (G.2 0, 6, .inl g))) (qp : bd pe 6) : PMp l yX10_toughOf cX10_toughOf 2 .int 0 0 0 G [.ref h, .int i] L f (fun r => True) := by
  refine PMi.of (post := fun r L1 f1 => (True) ∧ L1 = L ∧ f1 = f) (own := RX10) (by decide) rfl (Nat.le_of_ble_eq_true rfl) (fun sz p e s m args below meth c A ls hA1 hname S Y hl => ?_)
  have hx := S.hx
  have hb := S.hb
  have hl : lv_has ls 2 [(0, .ref h), (1, .int i)] := hl
  refine lv_iload_n hx hb dX10_toughOf_0 rfl (lv_at hl 1 rfl) ?_
  refine lv_if_lt (tgt := 21) hx hb dX10_toughOf_1 (by decide) (fun c_157 => ?_) (fun c_157 => ?_)
  · refine lv_iconst (v := 0) hx hb dX10_toughOf_21 (by decide) ?_
    exact prI (post := fun r L1 f1 => (True) ∧ L1 = L ∧ f1 = f) S Y rfl (by decide) (by decide) hA1 ⟨trivial, rfl, rfl⟩ dX10_toughOf_22
  · refine lv_iload_n hx hb dX10_toughOf_4 rfl (lv_at hl 1 rfl) ?_
    refine lv_aload_n hx hb dX10_toughOf_5 rfl (lv_at hl 0 rfl) ?_
    refine pg_get S Y ok_X10 10 (by decide) kf10_80 (v := .int pe) p_h rfl dX10_toughOf_6 ?_
    refine lv_icmp_ge (tgt := 21) hx hb dX10_toughOf_9 (by decide) (fun c_158 => ?_) (fun c_158 => ?_)
    · refine lv_iconst (v := 0) hx hb dX10_toughOf_21 (by decide) ?_
      exact prI (post := fun r L1 f1 => (True) ∧ L1 = L ∧ f1 = f) S Y rfl (by decide) (by decide) hA1 ⟨trivial, rfl, rfl⟩ dX10_toughOf_22
    · refine lv_aload_n hx hb dX10_toughOf_12 rfl (lv_at hl 0 rfl) ?_
      refine pg_get S Y ok_X10 0 (by decide) kf10_9 (v := .ref ta) p_h rfl dX10_toughOf_13 ?_
      refine lv_iload_n hx hb dX10_toughOf_16 rfl (lv_at hl 1 rfl) ?_
      refine pg_iald S Y (v := (g (i : Int32).toNatClampNeg)) p_ta (ixp qp c_157 (Int32.not_le.mp c_158)) rfl dX10_toughOf_17 ?_
      refine lv_goto (tgt := 22) hx hb dX10_toughOf_18 (by decide) ?_
      exact prI (post := fun r L1 f1 => (True) ∧ L1 = L ∧ f1 = f) S Y rfl (by decide) (by decide) hA1 ⟨trivial, rfl, rfl⟩ dX10_toughOf_22
set_option maxHeartbeats 4000000 in
set_option maxRecDepth 100000 in
theorem c_X10_ageOf {l : Launch} {G : GG} {L : List Nat} {f : HF} {h ta ag sc nw pa fe cl wo si we : Nat} {i pe tc ru el so : Int32} {g : Nat → Int32}  (p_h : pt L f h (.inr (10, [.ref ta, .ref ag, .ref sc, .ref nw, .ref pa, .ref fe, .ref cl, .ref wo, .ref si, .ref we, .int pe, .int tc, .int ru, .int el, .int so]))) (p_ag : pt L f ag (.inl (G.2 0, 6, .inl g))) (qp : bd pe 6) : PMp l yX10_ageOf cX10_ageOf 2 .int 0 0 0 G [.ref h, .int i] L f (fun r => True) := by
  refine PMi.of (post := fun r L1 f1 => (True) ∧ L1 = L ∧ f1 = f) (own := RX10) (by decide) rfl (Nat.le_of_ble_eq_true rfl) (fun sz p e s m args below meth c A ls hA1 hname S Y hl => ?_)
  have hx := S.hx
  have hb := S.hb
  have hl : lv_has ls 2 [(0, .ref h), (1, .int i)] := hl
  refine lv_iload_n hx hb dX10_ageOf_0 rfl (lv_at hl 1 rfl) ?_
  refine lv_if_lt (tgt := 21) hx hb dX10_ageOf_1 (by decide) (fun c_159 => ?_) (fun c_159 => ?_)
  · refine lv_iconst (v := 0) hx hb dX10_ageOf_21 (by decide) ?_
    exact prI (post := fun r L1 f1 => (True) ∧ L1 = L ∧ f1 = f) S Y rfl (by decide) (by decide) hA1 ⟨trivial, rfl, rfl⟩ dX10_ageOf_22
  · refine lv_iload_n hx hb dX10_ageOf_4 rfl (lv_at hl 1 rfl) ?_
    refine lv_aload_n hx hb dX10_ageOf_5 rfl (lv_at hl 0 rfl) ?_
    refine pg_get S Y ok_X10 10 (by decide) kf10_80 (v := .int pe) p_h rfl dX10_ageOf_6 ?_
    refine lv_icmp_ge (tgt := 21) hx hb dX10_ageOf_9 (by decide) (fun c_160 => ?_) (fun c_160 => ?_)
    · refine lv_iconst (v := 0) hx hb dX10_ageOf_21 (by decide) ?_
      exact prI (post := fun r L1 f1 => (True) ∧ L1 = L ∧ f1 = f) S Y rfl (by decide) (by decide) hA1 ⟨trivial, rfl, rfl⟩ dX10_ageOf_22
    · refine lv_aload_n hx hb dX10_ageOf_12 rfl (lv_at hl 0 rfl) ?_
      refine pg_get S Y ok_X10 1 (by decide) kf10_15 (v := .ref ag) p_h rfl dX10_ageOf_13 ?_
      refine lv_iload_n hx hb dX10_ageOf_16 rfl (lv_at hl 1 rfl) ?_
      refine pg_iald S Y (v := (g (i : Int32).toNatClampNeg)) p_ag (ixp qp c_159 (Int32.not_le.mp c_160)) rfl dX10_ageOf_17 ?_
      refine lv_goto (tgt := 22) hx hb dX10_ageOf_18 (by decide) ?_
      exact prI (post := fun r L1 f1 => (True) ∧ L1 = L ∧ f1 = f) S Y rfl (by decide) (by decide) hA1 ⟨trivial, rfl, rfl⟩ dX10_ageOf_22
set_option maxHeartbeats 4000000 in
set_option maxRecDepth 100000 in
theorem c_X10_welcome {l : Launch} {G : GG} {L : List Nat} {f : HF} {h ta ag sc nw pa fe cl wo si we : Nat} {i j pe tc ru el so : Int32} {g1 g2 : Nat → Int32}  (p_h : pt L f h (.inr (10, [.ref ta, .ref ag, .ref sc, .ref nw, .ref pa, .ref fe, .ref cl, .ref wo, .ref si, .ref we, .int pe, .int tc, .int ru, .int el, .int so]))) (p_ta : pt L f ta (.inl (G.2 0, 6, .inl g1))) (p_ag : pt L f ag (.inl (G.2 0, 6, .inl g2))) (n1 : ta ≠ ag) (qp : bd pe 6) : PMi l yX10_welcome cX10_welcome 3 .int 1 0 0 G [.ref h, .int i, .int j] L f (fun r L1 f1 => ∃ pe2 : Int32, ∃ g3 : Nat → Int32, ∃ g4 : Nat → Int32, kp L f L1 f1 [h, ta, ag] ∧ pt L1 f1 h (.inr (10, [.ref ta, .ref ag, .ref sc, .ref nw, .ref pa, .ref fe, .ref cl, .ref wo, .ref si, .ref we, .int pe2, .int tc, .int ru, .int el, .int so])) ∧ pt L1 f1 ta (.inl (G.2 0, 6, .inl g3)) ∧ pt L1 f1 ag (.inl (G.2 0, 6, .inl g4)) ∧ bd pe2 6) := by
  refine PMi.of (post := fun r L1 f1 => ∃ pe2 : Int32, ∃ g3 : Nat → Int32, ∃ g4 : Nat → Int32, kp L f L1 f1 [h, ta, ag] ∧ pt L1 f1 h (.inr (10, [.ref ta, .ref ag, .ref sc, .ref nw, .ref pa, .ref fe, .ref cl, .ref wo, .ref si, .ref we, .int pe2, .int tc, .int ru, .int el, .int so])) ∧ pt L1 f1 ta (.inl (G.2 0, 6, .inl g3)) ∧ pt L1 f1 ag (.inl (G.2 0, 6, .inl g4)) ∧ bd pe2 6) (own := RX10) (by decide) rfl (Nat.le_of_ble_eq_true rfl) (fun sz p e s m args below meth c A ls hA1 hname S Y hl => ?_)
  have hx := S.hx
  have hb := S.hb
  have hl : lv_has ls 3 [(0, .ref h), (1, .int i), (2, .int j)] := hl
  have hk : kp L f L f [h, ta, ag] := kp.rf
  refine lv_aload_n hx hb dX10_welcome_0 rfl (lv_at hl 0 rfl) ?_
  refine pg_get S Y ok_X10 10 (by decide) kf10_80 (v := .int pe) p_h rfl dX10_welcome_1 ?_
  refine lv_bipush (v := 6) hx hb dX10_welcome_4 (by decide) ?_
  refine lv_icmp_ge (tgt := 29) hx hb dX10_welcome_6 (by decide) (fun c_161 => ?_) (fun c_161 => ?_)
  · refine lv_iconst (v := (-1)) hx hb dX10_welcome_29 (by decide) ?_
    exact prI (post := fun r L1 f1 => ∃ pe2 : Int32, ∃ g3 : Nat → Int32, ∃ g4 : Nat → Int32, kp L f L1 f1 [h, ta, ag] ∧ pt L1 f1 h (.inr (10, [.ref ta, .ref ag, .ref sc, .ref nw, .ref pa, .ref fe, .ref cl, .ref wo, .ref si, .ref we, .int pe2, .int tc, .int ru, .int el, .int so])) ∧ pt L1 f1 ta (.inl (G.2 0, 6, .inl g3)) ∧ pt L1 f1 ag (.inl (G.2 0, 6, .inl g4)) ∧ bd pe2 6) S Y rfl (by decide) (by decide) hA1 ⟨pe, g1, g2, hk, p_h, p_ta, p_ag, qp⟩ dX10_welcome_30
  · refine lv_iload_n hx hb dX10_welcome_9 rfl (lv_at hl 1 rfl) ?_
    refine lv_iconst (v := 0) hx hb dX10_welcome_10 (by decide) ?_
    refine lv_bipush (v := 9) hx hb dX10_welcome_11 (by decide) ?_
    refine cNp (As := [.int i, .int 0, .int 9]) (rest := []) S Y (c_X11_within (l := l)) cw_X11_within km10_89 rfl ⟨Nat.le_of_ble_eq_true rfl, Nat.le_of_ble_eq_true rfl⟩ hl.1 rfl (Nat.le_of_ble_eq_true rfl) ⟨Nat.le_of_ble_eq_true rfl, Nat.le_of_ble_eq_true rfl⟩ dX10_welcome_13 (fun r_162 H locs er_162 Y => ?_)
    refine lv_fold (z := (wi i 0 9)) er_162 ?_
    refine lv_if_eq (tgt := 29) hx hb dX10_welcome_16 (by decide) (fun c_163 => ?_) (fun c_163 => ?_)
    · refine lv_iconst (v := (-1)) hx hb dX10_welcome_29 (by decide) ?_
      exact prI (post := fun r L1 f1 => ∃ pe2 : Int32, ∃ g3 : Nat → Int32, ∃ g4 : Nat → Int32, kp L f L1 f1 [h, ta, ag] ∧ pt L1 f1 h (.inr (10, [.ref ta, .ref ag, .ref sc, .ref nw, .ref pa, .ref fe, .ref cl, .ref wo, .ref si, .ref we, .int pe2, .int tc, .int ru, .int el, .int so])) ∧ pt L1 f1 ta (.inl (G.2 0, 6, .inl g3)) ∧ pt L1 f1 ag (.inl (G.2 0, 6, .inl g4)) ∧ bd pe2 6) S Y rfl (by decide) (by decide) hA1 ⟨pe, g1, g2, hk, p_h, p_ta, p_ag, qp⟩ dX10_welcome_30
    · refine lv_iload_n hx hb dX10_welcome_19 rfl (lv_at hl 2 rfl) ?_
      refine lv_iconst (v := 0) hx hb dX10_welcome_20 (by decide) ?_
      refine lv_bipush (v := 99) hx hb dX10_welcome_21 (by decide) ?_
      refine cNp (As := [.int j, .int 0, .int 99]) (rest := []) S Y (c_X11_within (l := l)) cw_X11_within km10_89 rfl ⟨Nat.le_of_ble_eq_true rfl, Nat.le_of_ble_eq_true rfl⟩ hl.1 rfl (Nat.le_of_ble_eq_true rfl) ⟨Nat.le_of_ble_eq_true rfl, Nat.le_of_ble_eq_true rfl⟩ dX10_welcome_23 (fun r_164 H locs er_164 Y => ?_)
      refine lv_fold (z := (wi j 0 99)) er_164 ?_
      refine lv_if_ne (tgt := 31) hx hb dX10_welcome_26 (by decide) (fun c_165 => ?_) (fun c_165 => ?_)
      · refine lv_aload_n hx hb dX10_welcome_31 rfl (lv_at hl 0 rfl) ?_
        refine pg_get S Y ok_X10 0 (by decide) kf10_9 (v := .ref ta) p_h rfl dX10_welcome_32 ?_
        refine lv_aload_n hx hb dX10_welcome_35 rfl (lv_at hl 0 rfl) ?_
        refine pg_get S Y ok_X10 10 (by decide) kf10_80 (v := .int pe) p_h rfl dX10_welcome_36 ?_
        refine lv_iload_n hx hb dX10_welcome_39 rfl (lv_at hl 1 rfl) ?_
        refine pg_iast S Y p_ta (ixq (N := 6) qp c_161 rfl) dX10_welcome_40 (fun f_167 H locs ef_167 Y => ?_)
        obtain ⟨g_166, eg_166⟩ : ∃ z, z = upd (g1) (pe : Int32).toNatClampNeg i := ⟨_, rfl⟩
        rw [← eg_166] at ef_167
        have p_h := p_h.up ef_167 ((p_h.neA p_ta))
        have p_ag := p_ag.up ef_167 ((Ne.symm (n1)))
        have p_ta := p_ta.me ef_167
        have hk := hk.up ef_167 (by simp)
        refine lv_aload_n hx hb dX10_welcome_41 rfl (lv_at hl 0 rfl) ?_
        refine pg_get S Y ok_X10 1 (by decide) kf10_15 (v := .ref ag) p_h rfl dX10_welcome_42 ?_
        refine lv_aload_n hx hb dX10_welcome_45 rfl (lv_at hl 0 rfl) ?_
        refine pg_get S Y ok_X10 10 (by decide) kf10_80 (v := .int pe) p_h rfl dX10_welcome_46 ?_
        refine lv_iload_n hx hb dX10_welcome_49 rfl (lv_at hl 2 rfl) ?_
        refine pg_iast S Y p_ag (ixq (N := 6) qp c_161 rfl) dX10_welcome_50 (fun f_169 H locs ef_169 Y => ?_)
        obtain ⟨g_168, eg_168⟩ : ∃ z, z = upd (g2) (pe : Int32).toNatClampNeg j := ⟨_, rfl⟩
        rw [← eg_168] at ef_169
        have p_h := p_h.up ef_169 ((p_h.neA p_ag))
        have p_ta := p_ta.up ef_169 ((n1))
        have p_ag := p_ag.me ef_169
        have hk := hk.up ef_169 (by simp)
        refine lv_aload_n hx hb dX10_welcome_51 rfl (lv_at hl 0 rfl) ?_
        refine lv_dup hx hb dX10_welcome_52 rfl ?_
        refine pg_get S Y ok_X10 10 (by decide) kf10_80 (v := .int pe) p_h rfl dX10_welcome_53 ?_
        refine lv_iconst (v := 1) hx hb dX10_welcome_56 (by decide) ?_
        refine lv_iadd hx hb dX10_welcome_57 ?_
        refine lv_topi (fun x_170 ex_170 => ?_)
        refine pg_put S Y ok_X10 10 (by decide) kf10_80 rfl (fs' := [.ref ta, .ref ag, .ref sc, .ref nw, .ref pa, .ref fe, .ref cl, .ref wo, .ref si, .ref we, .int x_170, .int tc, .int ru, .int el, .int so]) (v := .int x_170) p_h rfl rfl rfl (Nat.le_of_ble_eq_true rfl) dX10_welcome_58 (fun f_171 H locs ef_171 Y => ?_)
        have p_ta := p_ta.up ef_171 ((p_ta.neB p_h))
        have p_ag := p_ag.up ef_171 ((p_ag.neB p_h))
        have p_h := p_h.me ef_171
        have hk := hk.up ef_171 (by simp)
        refine lv_aload_n hx hb dX10_welcome_61 rfl (lv_at hl 0 rfl) ?_
        refine pg_get S Y ok_X10 10 (by decide) kf10_80 (v := .int x_170) p_h rfl dX10_welcome_62 ?_
        refine lv_iconst (v := 1) hx hb dX10_welcome_65 (by decide) ?_
        refine lv_isub hx hb dX10_welcome_66 ?_
        refine lv_topi (fun x_172 ex_172 => ?_)
        exact prI (post := fun r L1 f1 => ∃ pe2 : Int32, ∃ g3 : Nat → Int32, ∃ g4 : Nat → Int32, kp L f L1 f1 [h, ta, ag] ∧ pt L1 f1 h (.inr (10, [.ref ta, .ref ag, .ref sc, .ref nw, .ref pa, .ref fe, .ref cl, .ref wo, .ref si, .ref we, .int pe2, .int tc, .int ru, .int el, .int so])) ∧ pt L1 f1 ta (.inl (G.2 0, 6, .inl g3)) ∧ pt L1 f1 ag (.inl (G.2 0, 6, .inl g4)) ∧ bd pe2 6) S Y rfl (by decide) (by decide) hA1 ⟨x_170, g_166, g_168, hk, p_h, p_ta, p_ag, (by rw [ex_170]; exact bd_inc qp c_161 rfl (by decide))⟩ dX10_welcome_67
      · refine lv_iconst (v := (-1)) hx hb dX10_welcome_29 (by decide) ?_
        exact prI (post := fun r L1 f1 => ∃ pe2 : Int32, ∃ g3 : Nat → Int32, ∃ g4 : Nat → Int32, kp L f L1 f1 [h, ta, ag] ∧ pt L1 f1 h (.inr (10, [.ref ta, .ref ag, .ref sc, .ref nw, .ref pa, .ref fe, .ref cl, .ref wo, .ref si, .ref we, .int pe2, .int tc, .int ru, .int el, .int so])) ∧ pt L1 f1 ta (.inl (G.2 0, 6, .inl g3)) ∧ pt L1 f1 ag (.inl (G.2 0, 6, .inl g4)) ∧ bd pe2 6) S Y rfl (by decide) (by decide) hA1 ⟨pe, g1, g2, hk, p_h, p_ta, p_ag, qp⟩ dX10_welcome_30
set_option maxHeartbeats 4000000 in
set_option maxRecDepth 100000 in
theorem c_X10_keepScript {l : Launch} {G : GG} {L : List Nat} {f : HF} {h ta ag sc nw pa fe cl wo si we : Nat} {pe tc ru el so : Int32}  (p_h : pt L f h (.inr (10, [.ref ta, .ref ag, .ref sc, .ref nw, .ref pa, .ref fe, .ref cl, .ref wo, .ref si, .ref we, .int pe, .int tc, .int ru, .int el, .int so])))  : PMi l yX10_keepScript cX10_keepScript 1 .int 0 0 0 G [.ref h] L f (fun r L1 f1 => ∃ tc2 : Int32, kp L f L1 f1 [h] ∧ pt L1 f1 h (.inr (10, [.ref ta, .ref ag, .ref sc, .ref nw, .ref pa, .ref fe, .ref cl, .ref wo, .ref si, .ref we, .int pe, .int tc2, .int ru, .int el, .int so])) ∧ tc2 = tc + 1) := by
  refine PMi.of (post := fun r L1 f1 => ∃ tc2 : Int32, kp L f L1 f1 [h] ∧ pt L1 f1 h (.inr (10, [.ref ta, .ref ag, .ref sc, .ref nw, .ref pa, .ref fe, .ref cl, .ref wo, .ref si, .ref we, .int pe, .int tc2, .int ru, .int el, .int so])) ∧ tc2 = tc + 1) (own := RX10) (by decide) rfl (Nat.le_of_ble_eq_true rfl) (fun sz p e s m args below meth c A ls hA1 hname S Y hl => ?_)
  have hx := S.hx
  have hb := S.hb
  have hl : lv_has ls 1 [(0, .ref h)] := hl
  have hk : kp L f L f [h] := kp.rf
  refine lv_aload_n hx hb dX10_keepScript_0 rfl (lv_at hl 0 rfl) ?_
  refine lv_dup hx hb dX10_keepScript_1 rfl ?_
  refine pg_get S Y ok_X10 11 (by decide) kf10_67 (v := .int tc) p_h rfl dX10_keepScript_2 ?_
  refine lv_iconst (v := 1) hx hb dX10_keepScript_5 (by decide) ?_
  refine lv_iadd hx hb dX10_keepScript_6 ?_
  refine lv_topi (fun x_173 ex_173 => ?_)
  refine pg_put S Y ok_X10 11 (by decide) kf10_67 rfl (fs' := [.ref ta, .ref ag, .ref sc, .ref nw, .ref pa, .ref fe, .ref cl, .ref wo, .ref si, .ref we, .int pe, .int x_173, .int ru, .int el, .int so]) (v := .int x_173) p_h rfl rfl rfl (Nat.le_of_ble_eq_true rfl) dX10_keepScript_7 (fun f_174 H locs ef_174 Y => ?_)
  have p_h := p_h.me ef_174
  have hk := hk.up ef_174 (by simp)
  refine lv_aload_n hx hb dX10_keepScript_10 rfl (lv_at hl 0 rfl) ?_
  refine pg_get S Y ok_X10 11 (by decide) kf10_67 (v := .int x_173) p_h rfl dX10_keepScript_11 ?_
  refine lv_iconst (v := 1) hx hb dX10_keepScript_14 (by decide) ?_
  refine lv_isub hx hb dX10_keepScript_15 ?_
  refine lv_topi (fun x_175 ex_175 => ?_)
  exact prI (post := fun r L1 f1 => ∃ tc2 : Int32, kp L f L1 f1 [h] ∧ pt L1 f1 h (.inr (10, [.ref ta, .ref ag, .ref sc, .ref nw, .ref pa, .ref fe, .ref cl, .ref wo, .ref si, .ref we, .int pe, .int tc2, .int ru, .int el, .int so])) ∧ tc2 = tc + 1) S Y rfl (by decide) (by decide) hA1 ⟨x_173, hk, p_h, ex_173⟩ dX10_keepScript_16
