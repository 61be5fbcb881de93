theorem dX12_isAskAhead_0 : decode cX12_isAskAhead 0 = .ok (.aload_n 0, 1) := by decide +kernel
theorem dX12_isAskAhead_1 : decode cX12_isAskAhead 1 = .ok (.invokevirtual 162, 3) := by decide +kernel
theorem cw_X12_isAskHere : CWv yX12_isAskHere cX12_isAskHere 1 (some .boolean) 0 := ⟨⟨⟨List.mem_of_getElem? (i := 137) (by decide +kernel), by decide +kernel⟩, ⟨List.mem_of_getElem? (i := 1713) (by decide +kernel), by decide +kernel⟩, by decide +kernel⟩, ⟨List.mem_of_getElem? (i := 1712) (by decide +kernel), by decide +kernel⟩, ⟨List.mem_of_getElem? (i := 65) (by decide +kernel), by decide +kernel⟩⟩
theorem km12_162 : inW (Cond.methodLink RX12 162 yX12_isAskHere) := ⟨List.mem_of_getElem? (i := 1710) (by decide +kernel), by decide +kernel⟩
theorem dX12_isAskAhead_4 : decode cX12_isAskAhead 4 = .ok (.ifCond .eq 45, 3) := by decide +kernel
theorem dX12_isAskAhead_49 : decode cX12_isAskAhead 49 = .ok (.iconst 0, 1) := by decide +kernel
theorem dX12_isAskAhead_50 : decode cX12_isAskAhead 50 = .ok (.ireturn, 1) := by decide +kernel
theorem dX12_isAskAhead_7 : decode cX12_isAskAhead 7 = .ok (.aload_n 0, 1) := by decide +kernel
theorem dX12_isAskAhead_8 : decode cX12_isAskAhead 8 = .ok (.getfield 29, 3) := by decide +kernel
theorem dX12_isAskAhead_11 : decode cX12_isAskAhead 11 = .ok (.aload_n 0, 1) := by decide +kernel
theorem dX12_isAskAhead_12 : decode cX12_isAskAhead 12 = .ok (.getfield 142, 3) := by decide +kernel
theorem dX12_isAskAhead_15 : decode cX12_isAskAhead 15 = .ok (.iconst 1, 1) := by decide +kernel
theorem dX12_isAskAhead_16 : decode cX12_isAskAhead 16 = .ok (.isub, 1) := by decide +kernel
theorem dX12_isAskAhead_17 : decode cX12_isAskAhead 17 = .ok (.iaload, 1) := by decide +kernel
theorem dX12_isAskAhead_18 : decode cX12_isAskAhead 18 = .ok (.bipush 40, 2) := by decide +kernel
theorem dX12_isAskAhead_20 : decode cX12_isAskAhead 20 = .ok (.if_icmp .ge 25, 3) := by decide +kernel
theorem dX12_isAskAhead_45 : decode cX12_isAskAhead 45 = .ok (.iconst 1, 1) := by decide +kernel
theorem dX12_isAskAhead_46 : decode cX12_isAskAhead 46 = .ok (.goto 4, 3) := by decide +kernel
theorem dX12_isAskAhead_23 : decode cX12_isAskAhead 23 = .ok (.aload_n 0, 1) := by decide +kernel
theorem dX12_isAskAhead_24 : decode cX12_isAskAhead 24 = .ok (.getfield 29, 3) := by decide +kernel
theorem dX12_isAskAhead_27 : decode cX12_isAskAhead 27 = .ok (.aload_n 0, 1) := by decide +kernel
theorem dX12_isAskAhead_28 : decode cX12_isAskAhead 28 = .ok (.getfield 142, 3) := by decide +kernel
theorem dX12_isAskAhead_31 : decode cX12_isAskAhead 31 = .ok (.iconst 1, 1) := by decide +kernel
theorem dX12_isAskAhead_32 : decode cX12_isAskAhead 32 = .ok (.isub, 1) := by decide +kernel
theorem dX12_isAskAhead_33 : decode cX12_isAskAhead 33 = .ok (.iaload, 1) := by decide +kernel
theorem dX12_isAskAhead_34 : decode cX12_isAskAhead 34 = .ok (.invokestatic 145, 3) := by decide +kernel
theorem dX12_isAskAhead_37 : decode cX12_isAskAhead 37 = .ok (.iconst 1, 1) := by decide +kernel
theorem dX12_isAskAhead_38 : decode cX12_isAskAhead 38 = .ok (.iconst 3, 1) := by decide +kernel
theorem dX12_isAskAhead_39 : decode cX12_isAskAhead 39 = .ok (.invokestatic 69, 3) := by decide +kernel
theorem dX12_isAskAhead_42 : decode cX12_isAskAhead 42 = .ok (.ifCond .eq 7, 3) := by decide +kernel
theorem ah_y {gp : Nat → Int32} {r pd x v : Int32} (e : r = 1 ∧ askd (opv (fun j => (gp j).toInt) pd.toInt.toNat) ∨ r = 0 ∧ ¬ askd (opv (fun j => (gp j).toInt) pd.toInt.toNat)) (c : ¬ r = 0) (b : bn 1 160 pd) (ex : x.toInt = pd.toInt - 1) (ev : v = gp x.toNatClampNeg) (h : rk v.toInt ≤ 3) : askd (opv (fun j => (gp j).toInt) pd.toInt.toNat) ∧ bn 1 160 pd ∧ rk ((fun j => (gp j).toInt) (pd.toInt.toNat - 1)) ≤ 3 := by
  refine ⟨?_, b, ?_⟩
  · rcases e with e | e
    · exact e.2
    · exact absurd e.1 c
  · have b1 := b.1
    rw [ev] at h
    have h : rk (gp x.toInt.toNat).toInt ≤ 3 := h
    rw [show x.toInt.toNat = pd.toInt.toNat - 1 by omega] at h
    exact h
theorem askd_no {r : Int32} {q : Prop} (e : r = 1 ∧ q ∨ r = 0 ∧ ¬ q) (h : r = 0) : ¬ q := by
  rcases e with e | e
  · rw [h] at e; exact absurd e.1 (by decide)
  · exact e.2
theorem ah_n {gp : Nat → Int32} {pd x v r2 : Int32} (b : bn 1 160 pd) (ex : x.toInt = pd.toInt - 1) (ev : v = gp x.toNatClampNeg) (hv : v.toInt < 40) (er : r2.toInt = (rk v.toInt : Int)) (hn : ¬ (1 ≤ r2.toInt ∧ r2.toInt ≤ 3)) : ¬ rk ((fun j => (gp j).toInt) (pd.toInt.toNat - 1)) ≤ 3 := by
  have b1 := b.1
  have e2 : (gp (pd.toInt.toNat - 1)).toInt = v.toInt := by
    rw [ev]
    show _ = (gp x.toInt.toNat).toInt
    rw [show x.toInt.toNat = pd.toInt.toNat - 1 by omega]
  show ¬ rk (gp (pd.toInt.toNat - 1)).toInt ≤ 3
  rw [e2]
  have k : 1 ≤ rk v.toInt := by
    unfold rk
    (repeat' split) <;> omega
  omega
theorem aa_eq {g : Nat → Int32} {a b x y : Int32} (ea : a = g x.toNatClampNeg) (eb : b = g y.toNatClampNeg) (h : x.toInt = y.toInt) : a = b := by
  rw [ea, eb, Int32.toInt_inj.mp h]
set_option maxHeartbeats 4000000 in
set_option maxRecDepth 100000 in
theorem x_X12_isAskAhead {l : Launch} {G : GG}  {L : List Nat} {f : HF} {ad : Nat → Nat → Nat} {pa : (Nat → Int32) → Prop} {PA : (Nat → Int32) → Prop} {PI : PIT} {PX : (Nat → Int32) → Prop} {td fa fp at9 ps9 tk nu t0 wr so pd op9 cg iw on9 is9 se : Int32} {wd : Int64} {gp : Nat → Int32} (I : SH (spM PA PI PX pa) nnM G ad L f) (p_ad_0_0 : pt L f (ad 0 0) (.inr (12, [.ref (ad 1 0), .ref (ad 2 0), .ref (ad 3 0), .ref (ad 4 0), .int td, .int fa, .int fp, .int at9, .int ps9, .int tk, .int nu, .long wd, .int t0, .int wr, .int so, .ref (ad 5 0), .ref (ad 6 0), .int pd, .int op9, .int cg, .int iw, .int on9, .ref (ad 7 0), .ref (ad 8 0), .ref (ad 9 0), .int is9, .ref (ad 10 0), .ref (ad 11 0), .ref (ad 12 0), .ref (ad 13 0), .int se, .ref (ad 14 0)]))) (p_ad_5_0 : pt L f (ad 5 0) (.inl (G.2 0, 160, .inl gp))) : PMp l yX12_isAskAhead cX12_isAskAhead 1 .boolean 3 0 0 G [.ref (ad 0 0)] L f (fun r => (bn 0 1 r ∧ (¬ r = 0 → askd (opv (fun j => (gp j).toInt) pd.toInt.toNat) ∧ bn 1 160 pd ∧ rk ((fun j => (gp j).toInt) (pd.toInt.toNat - 1)) ≤ 3) ∧ (r = 0 → ¬ (askd (opv (fun j => (gp j).toInt) pd.toInt.toNat) ∧ rk ((fun j => (gp j).toInt) (pd.toInt.toNat - 1)) ≤ 3)))) := by
  refine PMi.of (post := fun r L1 f1 => ((bn 0 1 r ∧ (¬ r = 0 → askd (opv (fun j => (gp j).toInt) pd.toInt.toNat) ∧ bn 1 160 pd ∧ rk ((fun j => (gp j).toInt) (pd.toInt.toNat - 1)) ≤ 3) ∧ (r = 0 → ¬ (askd (opv (fun j => (gp j).toInt) pd.toInt.toNat) ∧ rk ((fun j => (gp j).toInt) (pd.toInt.toNat - 1)) ≤ 3)))) ∧ L1 = L ∧ f1 = f) (own := RX12) (by decide) rfl (Nat.le_of_ble_eq_true rfl) (fun sz p e s m args below meth c A ls hA1 hname S Y hl => ?_)
  have hx := S.hx
  have hb := S.hb
  have hl : lv_has ls 1 [(0, .ref (ad 0 0))] := hl
  obtain ⟨bfe_4, bfe_5, bfe_6, bfe_7, bfe_8, bfe_12, bfe_13, bfe_17, bfe_18, bfe_19, bfe_20, bfe_25⟩ := obM I p_ad_0_0
  refine lv_aload_n hx hb dX12_isAskAhead_0 rfl (lv_at hl 0 rfl) ?_
  refine cVp (As := []) (rest := []) S Y (x_X12_isAskHere (l := l) I p_ad_0_0 p_ad_5_0) cw_X12_isAskHere km12_162 p_ad_0_0 ok_X12.1 rfl rfl ⟨Nat.le_of_ble_eq_true rfl, Nat.le_of_ble_eq_true rfl⟩ hl.1 rfl (Nat.le_of_ble_eq_true rfl) ⟨Nat.le_of_ble_eq_true rfl, Nat.le_of_ble_eq_true rfl⟩ dX12_isAskAhead_1 (fun r_85595 H locs er_85595 Y => ?_)
  refine lv_if_eq (tgt := 49) hx hb dX12_isAskAhead_4 (by decide) (fun c_85596 => ?_) (fun c_85596 => ?_)
  · have B_85597 : bn 0 0 r_85595 := bn_w (bn_eq c_85596 (show bn 0 0 (0 : Int32) from bn_k (by decide))) (by decide)
    refine lv_iconst (v := 0) hx hb dX12_isAskAhead_49 (by decide) ?_
    exact prI (post := fun r L1 f1 => ((bn 0 1 r ∧ (¬ r = 0 → askd (opv (fun j => (gp j).toInt) pd.toInt.toNat) ∧ bn 1 160 pd ∧ rk ((fun j => (gp j).toInt) (pd.toInt.toNat - 1)) ≤ 3) ∧ (r = 0 → ¬ (askd (opv (fun j => (gp j).toInt) pd.toInt.toNat) ∧ rk ((fun j => (gp j).toInt) (pd.toInt.toNat - 1)) ≤ 3)))) ∧ L1 = L ∧ f1 = f) S Y rfl (by decide) (by decide) hA1 ⟨⟨bn_k (by decide), fun h => absurd rfl h, fun _ z => askd_no er_85595.2 c_85596 z.1⟩, rfl, rfl⟩ dX12_isAskAhead_50
  · have B_85598 : bn 1 160 pd := bn_w (ask_pd er_85595.2 c_85596 (bn_w bfe_17 (by decide))) (by decide)
    have B_85599 : bn 1 1 r_85595 := bn_w (bn_nel c_85596 er_85595.1 (show bn 0 0 (0 : Int32) from bn_k (by decide))) (by decide)
    refine lv_aload_n hx hb dX12_isAskAhead_7 rfl (lv_at hl 0 rfl) ?_
    refine pg_get S Y ok_X12 15 (by decide) kf12_29 (v := .ref (ad 5 0)) p_ad_0_0 rfl dX12_isAskAhead_8 ?_
    refine lv_aload_n hx hb dX12_isAskAhead_11 rfl (lv_at hl 0 rfl) ?_
    refine pg_get S Y ok_X12 17 (by decide) kf12_142 (v := .int pd) p_ad_0_0 rfl dX12_isAskAhead_12 ?_
    refine lv_iconst (v := 1) hx hb dX12_isAskAhead_15 (by decide) ?_
    refine lv_isub hx hb dX12_isAskAhead_16 ?_
    refine lv_topi (fun x_85600 ex_85600 => ?_)
    obtain ⟨v_85601, ev_85601⟩ : ∃ z, z = gp (x_85600 : Int32).toNatClampNeg := ⟨_, rfl⟩
    refine pg_iald S Y (v := v_85601) p_ad_5_0 (vp_bn (bn_eq ex_85600 (bn_sub B_85598 (show bn 1 1 (1 : Int32) from bn_k (by decide)) (by decide))) (by decide)) ev_85601.symm dX12_isAskAhead_17 ?_
    refine lv_bipush (v := 40) hx hb dX12_isAskAhead_18 (by decide) ?_
    refine lv_icmp_ge (tgt := 45) hx hb dX12_isAskAhead_20 (by decide) (fun c_85602 => ?_) (fun c_85602 => ?_)
    · have B_85603 : bn 40 2147483647 v_85601 := bn_w (bn_ler c_85602 (show bn 40 40 (40 : Int32) from bn_k (by decide)) (bn_any v_85601)) (by decide)
      refine lv_iconst (v := 1) hx hb dX12_isAskAhead_45 (by decide) ?_
      refine lv_goto (tgt := 50) hx hb dX12_isAskAhead_46 (by decide) ?_
      exact prI (post := fun r L1 f1 => ((bn 0 1 r ∧ (¬ r = 0 → askd (opv (fun j => (gp j).toInt) pd.toInt.toNat) ∧ bn 1 160 pd ∧ rk ((fun j => (gp j).toInt) (pd.toInt.toNat - 1)) ≤ 3) ∧ (r = 0 → ¬ (askd (opv (fun j => (gp j).toInt) pd.toInt.toNat) ∧ rk ((fun j => (gp j).toInt) (pd.toInt.toNat - 1)) ≤ 3)))) ∧ L1 = L ∧ f1 = f) S Y rfl (by decide) (by decide) hA1 ⟨⟨bn_k (by decide), fun _ => ah_y er_85595.2 c_85596 B_85598 (by have z9 := (la_sub ex_85600 (rfl : pd.toInt = pd.toInt) (show (1 : Int32).toInt = 1 from rfl) B_85598 (show bn 1 1 (1 : Int32) from bn_k (by decide)) (by decide)); omega) ev_85601 (by rw [rk0 (B_85603).1]; omega), fun h => absurd h (by decide)⟩, rfl, rfl⟩ dX12_isAskAhead_50
    · have B_85604 : bn (-2147483648) 39 v_85601 := bn_w (bn_gtr c_85602 (show bn 40 40 (40 : Int32) from bn_k (by decide)) (bn_any v_85601)) (by decide)
      refine lv_aload_n hx hb dX12_isAskAhead_23 rfl (lv_at hl 0 rfl) ?_
      refine pg_get S Y ok_X12 15 (by decide) kf12_29 (v := .ref (ad 5 0)) p_ad_0_0 rfl dX12_isAskAhead_24 ?_
      refine lv_aload_n hx hb dX12_isAskAhead_27 rfl (lv_at hl 0 rfl) ?_
      refine pg_get S Y ok_X12 17 (by decide) kf12_142 (v := .int pd) p_ad_0_0 rfl dX12_isAskAhead_28 ?_
      refine lv_iconst (v := 1) hx hb dX12_isAskAhead_31 (by decide) ?_
      refine lv_isub hx hb dX12_isAskAhead_32 ?_
      refine lv_topi (fun x_85605 ex_85605 => ?_)
      obtain ⟨v_85606, ev_85606⟩ : ∃ z, z = gp (x_85605 : Int32).toNatClampNeg := ⟨_, rfl⟩
      refine pg_iald S Y (v := v_85606) p_ad_5_0 (vp_bn (bn_eq ex_85605 (bn_sub B_85598 (show bn 1 1 (1 : Int32) from bn_k (by decide)) (by decide))) (by decide)) ev_85606.symm dX12_isAskAhead_33 ?_
      refine cSp (As := [.int v_85606]) (rest := []) S Y (x_X12_rank (l := l) ) cw_X12_rank km12_145 rfl ⟨Nat.le_of_ble_eq_true rfl, Nat.le_of_ble_eq_true rfl⟩ hl.1 rfl (Nat.le_of_ble_eq_true rfl) ⟨Nat.le_of_ble_eq_true rfl, Nat.le_of_ble_eq_true rfl⟩ dX12_isAskAhead_34 (fun r_85607 H locs er_85607 Y => ?_)
      have B_85608 : bn 0 7 r_85607 := bn_w (rk_bn er_85607) (by decide)
      refine lv_iconst (v := 1) hx hb dX12_isAskAhead_37 (by decide) ?_
      refine lv_iconst (v := 3) hx hb dX12_isAskAhead_38 (by decide) ?_
      refine cSp (As := [.int r_85607, .int 1, .int 3]) (rest := []) S Y (x_X12_isInX (l := l) ) cw_X12_isIn km12_69 rfl ⟨Nat.le_of_ble_eq_true rfl, Nat.le_of_ble_eq_true rfl⟩ hl.1 rfl (Nat.le_of_ble_eq_true rfl) ⟨Nat.le_of_ble_eq_true rfl, Nat.le_of_ble_eq_true rfl⟩ dX12_isAskAhead_39 (fun r_85609 H locs er_85609 Y => ?_)
      refine lv_if_eq (tgt := 49) hx hb dX12_isAskAhead_42 (by decide) (fun c_85610 => ?_) (fun c_85610 => ?_)
      · have B_85611 : bn 0 0 r_85609 := bn_w (bn_eq c_85610 (show bn 0 0 (0 : Int32) from bn_k (by decide))) (by decide)
        refine lv_iconst (v := 0) hx hb dX12_isAskAhead_49 (by decide) ?_
        exact prI (post := fun r L1 f1 => ((bn 0 1 r ∧ (¬ r = 0 → askd (opv (fun j => (gp j).toInt) pd.toInt.toNat) ∧ bn 1 160 pd ∧ rk ((fun j => (gp j).toInt) (pd.toInt.toNat - 1)) ≤ 3) ∧ (r = 0 → ¬ (askd (opv (fun j => (gp j).toInt) pd.toInt.toNat) ∧ rk ((fun j => (gp j).toInt) (pd.toInt.toNat - 1)) ≤ 3)))) ∧ L1 = L ∧ f1 = f) S Y rfl (by decide) (by decide) hA1 ⟨⟨bn_k (by decide), fun h => absurd rfl h, fun _ z => ah_n B_85598 (by have z9 := (la_sub ex_85605 (rfl : pd.toInt = pd.toInt) (show (1 : Int32).toInt = 1 from rfl) B_85598 (show bn 1 1 (1 : Int32) from bn_k (by decide)) (by decide)); omega) ev_85606 (by have k9 := (show _ from by have z9 := (Int32.not_le.mp c_85602); rw [Int32.lt_iff_toInt_lt] at z9; exact z9); have k8 : (40 : Int32).toInt = 40 := rfl; have k7 : v_85606 = v_85601 := aa_eq ev_85606 ev_85601 (by have z1 := (la_sub ex_85605 (rfl : pd.toInt = pd.toInt) (show (1 : Int32).toInt = 1 from rfl) B_85598 (show bn 1 1 (1 : Int32) from bn_k (by decide)) (by decide)); have z2 := (la_sub ex_85600 (rfl : pd.toInt = pd.toInt) (show (1 : Int32).toInt = 1 from rfl) B_85598 (show bn 1 1 (1 : Int32) from bn_k (by decide)) (by decide)); omega); rw [k7]; omega) er_85607 (winM_f er_85609 c_85610) z.2⟩, rfl, rfl⟩ dX12_isAskAhead_50
      · refine lv_iconst (v := 1) hx hb dX12_isAskAhead_45 (by decide) ?_
        refine lv_goto (tgt := 50) hx hb dX12_isAskAhead_46 (by decide) ?_
        exact prI (post := fun r L1 f1 => ((bn 0 1 r ∧ (¬ r = 0 → askd (opv (fun j => (gp j).toInt) pd.toInt.toNat) ∧ bn 1 160 pd ∧ rk ((fun j => (gp j).toInt) (pd.toInt.toNat - 1)) ≤ 3) ∧ (r = 0 → ¬ (askd (opv (fun j => (gp j).toInt) pd.toInt.toNat) ∧ rk ((fun j => (gp j).toInt) (pd.toInt.toNat - 1)) ≤ 3)))) ∧ L1 = L ∧ f1 = f) S Y rfl (by decide) (by decide) hA1 ⟨⟨bn_k (by decide), fun _ => ah_y er_85595.2 c_85596 B_85598 (by have z9 := (la_sub ex_85605 (rfl : pd.toInt = pd.toInt) (show (1 : Int32).toInt = 1 from rfl) B_85598 (show bn 1 1 (1 : Int32) from bn_k (by decide)) (by decide)); omega) ev_85606 (by have z8 := er_85607; have z9 := (winM_t er_85609 c_85610).2; have z7 : (3 : Int32).toInt = 3 := rfl; omega), fun h => absurd h (by decide)⟩, rfl, rfl⟩ dX12_isAskAhead_50
