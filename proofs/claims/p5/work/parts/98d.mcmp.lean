theorem dX12_isCompared_0 : decode cX12_isCompared 0 = .ok (.aload_n 0, 1) := by decide +kernel
theorem dX12_isCompared_1 : decode cX12_isCompared 1 = .ok (.getfield 142, 3) := by decide +kernel
theorem dX12_isCompared_4 : decode cX12_isCompared 4 = .ok (.iconst 1, 1) := by decide +kernel
theorem dX12_isCompared_5 : decode cX12_isCompared 5 = .ok (.isub, 1) := by decide +kernel
theorem dX12_isCompared_6 : decode cX12_isCompared 6 = .ok (.istore_n 1, 1) := by decide +kernel
theorem dX12_isCompared_7 : decode cX12_isCompared 7 = .ok (.iload_n 1, 1) := by decide +kernel
theorem dX12_isCompared_8 : decode cX12_isCompared 8 = .ok (.ifCond .lt 22, 3) := by decide +kernel
theorem dX12_isCompared_30 : decode cX12_isCompared 30 = .ok (.iload_n 1, 1) := by decide +kernel
theorem dX12_isCompared_31 : decode cX12_isCompared 31 = .ok (.ifCond .lt 20, 3) := by decide +kernel
theorem dX12_isCompared_51 : decode cX12_isCompared 51 = .ok (.iconst 0, 1) := by decide +kernel
theorem dX12_isCompared_52 : decode cX12_isCompared 52 = .ok (.ireturn, 1) := by decide +kernel
theorem dX12_isCompared_11 : decode cX12_isCompared 11 = .ok (.aload_n 0, 1) := by decide +kernel
theorem dX12_isCompared_12 : decode cX12_isCompared 12 = .ok (.getfield 29, 3) := by decide +kernel
theorem dX12_isCompared_15 : decode cX12_isCompared 15 = .ok (.iload_n 1, 1) := by decide +kernel
theorem dX12_isCompared_16 : decode cX12_isCompared 16 = .ok (.iaload, 1) := by decide +kernel
theorem dX12_isCompared_17 : decode cX12_isCompared 17 = .ok (.invokestatic 145, 3) := by decide +kernel
theorem cw_X12_rank : CWs yX12_rank cX12_rank 1 (some .int) 1 := ⟨⟨⟨List.mem_of_getElem? (i := 137) (by decide +kernel), by decide +kernel⟩, ⟨List.mem_of_getElem? (i := 1728) (by decide +kernel), by decide +kernel⟩, by decide +kernel⟩, ⟨List.mem_of_getElem? (i := 1727) (by decide +kernel), by decide +kernel⟩⟩
theorem km12_145 : inW (Cond.methodLink RX12 145 yX12_rank) := ⟨List.mem_of_getElem? (i := 1726) (by decide +kernel), by decide +kernel⟩
theorem dX12_isCompared_20 : decode cX12_isCompared 20 = .ok (.iconst 4, 1) := by decide +kernel
theorem dX12_isCompared_21 : decode cX12_isCompared 21 = .ok (.if_icmp .le 9, 3) := by decide +kernel
theorem dX12_isCompared_34 : decode cX12_isCompared 34 = .ok (.aload_n 0, 1) := by decide +kernel
theorem dX12_isCompared_35 : decode cX12_isCompared 35 = .ok (.getfield 29, 3) := by decide +kernel
theorem dX12_isCompared_38 : decode cX12_isCompared 38 = .ok (.iload_n 1, 1) := by decide +kernel
theorem dX12_isCompared_39 : decode cX12_isCompared 39 = .ok (.iaload, 1) := by decide +kernel
theorem dX12_isCompared_40 : decode cX12_isCompared 40 = .ok (.invokestatic 145, 3) := by decide +kernel
theorem dX12_isCompared_43 : decode cX12_isCompared 43 = .ok (.iconst 4, 1) := by decide +kernel
theorem dX12_isCompared_44 : decode cX12_isCompared 44 = .ok (.if_icmp .ne 7, 3) := by decide +kernel
theorem dX12_isCompared_47 : decode cX12_isCompared 47 = .ok (.iconst 1, 1) := by decide +kernel
theorem dX12_isCompared_48 : decode cX12_isCompared 48 = .ok (.goto 4, 3) := by decide +kernel
theorem dX12_isCompared_24 : decode cX12_isCompared 24 = .ok (.iinc 1 (-1), 3) := by decide +kernel
theorem dX12_isCompared_27 : decode cX12_isCompared 27 = .ok (.goto (-20), 3) := by decide +kernel
theorem cmk_st {gp : Nat → Int32} {x y v r : Int32} {q : Bool} (h : cmk (fun j => (gp j).toInt) (y.toInt + 1).toNat = q) (ey : bn 0 159 y) (ex : x.toInt = y.toInt + -1) (ev : v = gp y.toNatClampNeg) (er : r.toInt = (rk v.toInt : Int)) (hr : bn 5 7 r) : cmk (fun j => (gp j).toInt) (x.toInt + 1).toNat = q := by
  have y1 := ey.1
  have e1 : (x.toInt + 1).toNat = y.toInt.toNat := by omega
  have e2 : (y.toInt + 1).toNat = y.toInt.toNat + 1 := by omega
  have e3 : 4 < rk (gp y.toInt.toNat).toInt := by have z := hr.1; rw [ev] at er; have er : r.toInt = (rk (gp y.toInt.toNat).toInt : Int) := er; omega
  rw [e1]
  rw [e2] at h
  unfold cmk at h
  rw [if_pos e3] at h
  exact h
theorem cmk_lo {gp : Nat → Int32} {y : Int32} {q : Bool} (h : cmk (fun j => (gp j).toInt) (y.toInt + 1).toNat = q) (ey : bn (-1) (-1) y) : (0 : Int32) = if q = true then 1 else 0 := by
  have y1 := ey.1
  have y2 := ey.2
  have e2 : (y.toInt + 1).toNat = 0 := by omega
  rw [e2] at h
  rw [← h]
  rfl
theorem cmk_ye {gp : Nat → Int32} {y v r v2 r2 : Int32} {q : Bool} (h : cmk (fun j => (gp j).toInt) (y.toInt + 1).toNat = q) (ey : bn 0 159 y) (ev : v = gp y.toNatClampNeg) (er : r.toInt = (rk v.toInt : Int)) (hr : bn 0 4 r) (ev2 : v2 = gp y.toNatClampNeg) (er2 : r2.toInt = (rk v2.toInt : Int)) (hr2 : bn 4 4 r2) : (1 : Int32) = if q = true then 1 else 0 := by
  have y1 := ey.1
  have e2 : (y.toInt + 1).toNat = y.toInt.toNat + 1 := by omega
  have z := hr.2
  rw [ev] at er
  rw [ev2] at er2
  have er : r.toInt = (rk (gp y.toInt.toNat).toInt : Int) := er
  have er2 : r2.toInt = (rk (gp y.toInt.toNat).toInt : Int) := er2
  have z2 := hr2.1; have e4 : rk (gp y.toInt.toNat).toInt = 4 := by omega
  rw [e2] at h
  unfold cmk at h
  rw [if_neg (by omega)] at h
  rw [← h]
  rw [show decide (rk (gp y.toInt.toNat).toInt = 4) = true from decide_eq_true e4]
  rfl
theorem cmk_no {gp : Nat → Int32} {y v r v2 r2 : Int32} {q : Bool} (h : cmk (fun j => (gp j).toInt) (y.toInt + 1).toNat = q) (ey : bn 0 159 y) (ev : v = gp y.toNatClampNeg) (er : r.toInt = (rk v.toInt : Int)) (hr : bn 0 4 r) (ev2 : v2 = gp y.toNatClampNeg) (er2 : r2.toInt = (rk v2.toInt : Int)) (hr2 : ¬ r2 = 4) : (0 : Int32) = if q = true then 1 else 0 := by
  have y1 := ey.1
  have e2 : (y.toInt + 1).toNat = y.toInt.toNat + 1 := by omega
  have z := hr.2
  rw [ev] at er
  rw [ev2] at er2
  have er : r.toInt = (rk (gp y.toInt.toNat).toInt : Int) := er
  have er2 : r2.toInt = (rk (gp y.toInt.toNat).toInt : Int) := er2
  have e4 : ¬ rk (gp y.toInt.toNat).toInt = 4 := fun h9 => hr2 (Int32.toInt_inj.mp (by rw [er2, h9]; rfl))
  rw [e2] at h
  unfold cmk at h
  rw [if_neg (by omega)] at h
  rw [← h]
  rw [show decide (rk (gp y.toInt.toNat).toInt = 4) = false from decide_eq_false e4]
  rfl
set_option maxHeartbeats 4000000 in
set_option maxRecDepth 100000 in
theorem x_X12_isCompared {l : Launch} {G : GG}  {L : List Nat} {f : HF} {ad : Nat → Nat → Nat} {pa : (Nat → Int32) → Prop} {PA : (Nat → Int32) → Prop} {PI : PIT} {PX : (Nat → Int32) → Prop} {td fa fp at9 ps9 tk nu t0 wr so pd op9 cg iw on9 is9 se : Int32} {wd : Int64} {gp : Nat → Int32} (I : SH (spM PA PI PX pa) nnM G ad L f) (p_ad_0_0 : pt L f (ad 0 0) (.inr (12, [.ref (ad 1 0), .ref (ad 2 0), .ref (ad 3 0), .ref (ad 4 0), .int td, .int fa, .int fp, .int at9, .int ps9, .int tk, .int nu, .long wd, .int t0, .int wr, .int so, .ref (ad 5 0), .ref (ad 6 0), .int pd, .int op9, .int cg, .int iw, .int on9, .ref (ad 7 0), .ref (ad 8 0), .ref (ad 9 0), .int is9, .ref (ad 10 0), .ref (ad 11 0), .ref (ad 12 0), .ref (ad 13 0), .int se, .ref (ad 14 0)]))) (p_ad_5_0 : pt L f (ad 5 0) (.inl (G.2 0, 160, .inl gp))) : PMp l yX12_isCompared cX12_isCompared 2 .boolean 1 0 0 G [.ref (ad 0 0)] L f (fun r => (bn 0 1 r ∧ r = if cmk (fun j => (gp j).toInt) pd.toInt.toNat = true then 1 else 0)) := by
  refine PMi.of (post := fun r L1 f1 => ((bn 0 1 r ∧ r = if cmk (fun j => (gp j).toInt) pd.toInt.toNat = true then 1 else 0)) ∧ L1 = L ∧ f1 = f) (own := RX12) (by decide) rfl (Nat.le_of_ble_eq_true rfl) (fun sz p e s m args below meth c A ls hA1 hname S Y hl => ?_)
  have hx := S.hx
  have hb := S.hb
  have hl : lv_has ls 2 [(0, .ref (ad 0 0))] := hl
  obtain ⟨bfe_4, bfe_5, bfe_6, bfe_7, bfe_8, bfe_12, bfe_13, bfe_17, bfe_18, bfe_19, bfe_20, bfe_25⟩ := obM I p_ad_0_0
  have J_7 : ∀ (n7 : Nat) (y7_1 : Int32) (H : Heap) (locs : List Loc) (ls : Array Slot), (bn (-1) 159 y7_1) → (cmk (fun j => (gp j).toInt) (y7_1.toInt + 1).toNat = cmk (fun j => (gp j).toInt) pd.toInt.toNat) → (pt L f (ad 0 0) (.inr (12, [.ref (ad 1 0), .ref (ad 2 0), .ref (ad 3 0), .ref (ad 4 0), .int td, .int fa, .int fp, .int at9, .int ps9, .int tk, .int nu, .long wd, .int t0, .int wr, .int so, .ref (ad 5 0), .ref (ad 6 0), .int pd, .int op9, .int cg, .int iw, .int on9, .ref (ad 7 0), .ref (ad 8 0), .ref (ad 9 0), .int is9, .ref (ad 10 0), .ref (ad 11 0), .ref (ad 12 0), .ref (ad 13 0), .int se, .ref (ad 14 0)]))) → ((y7_1.toInt - ((-1) : Int)).toNat = n7) → (DY G A s [] L f H locs) → (lv_has ls 2 [(0, .ref (ad 0 0)), (1, .int y7_1)]) → W p l e (rmD 1 0 0) s m args below meth c H locs (0) (0) (MQ below (va_Qi (fun r (u : List Nat × HF) => (fun r L1 f1 => ((bn 0 1 r ∧ r = if cmk (fun j => (gp j).toInt) pd.toInt.toNat = true then 1 else 0)) ∧ L1 = L ∧ f1 = f) r u.1 u.2) (fun u t => pOut G (va_A (va_pl L f) sz) u.1 u.2 t) (va_A (va_pl L f) sz)) args s 0 0 A) (F0 m 7 ls []) := by
    intro n7
    induction n7 using Nat.strongRecOn with
    | _ n7 ih7 =>
      intro y7_1 H locs ls b_y7_1 hcm p_ad_0_0 hm7 Y hl
      obtain ⟨bf7_4, bf7_5, bf7_6, bf7_7, bf7_8, bf7_12, bf7_13, bf7_17, bf7_18, bf7_19, bf7_20, bf7_25⟩ := obM I p_ad_0_0
      refine lv_iload_n hx hb dX12_isCompared_7 rfl (lv_at hl 1 rfl) ?_
      refine lv_if_lt (tgt := 30) hx hb dX12_isCompared_8 (by decide) (fun c_85527 => ?_) (fun c_85527 => ?_)
      · have B_85528 : bn (-1) (-1) y7_1 := bn_w (bn_ltl c_85527 b_y7_1 (show bn 0 0 (0 : Int32) from bn_k (by decide))) (by decide)
        refine lv_iload_n hx hb dX12_isCompared_30 rfl (lv_at hl 1 rfl) ?_
        refine lv_if_lt (tgt := 51) hx hb dX12_isCompared_31 (by decide) (fun _ => ?_) (fun h => absurd c_85527 h)
        refine lv_iconst (v := 0) hx hb dX12_isCompared_51 (by decide) ?_
        exact prI (post := fun r L1 f1 => ((bn 0 1 r ∧ r = if cmk (fun j => (gp j).toInt) pd.toInt.toNat = true then 1 else 0)) ∧ L1 = L ∧ f1 = f) S Y rfl (by decide) (by decide) hA1 ⟨⟨bn_k (by decide), (cmk_lo hcm B_85528)⟩, rfl, rfl⟩ dX12_isCompared_52
      · have B_85529 : bn 0 159 y7_1 := bn_w (bn_gel c_85527 b_y7_1 (show bn 0 0 (0 : Int32) from bn_k (by decide))) (by decide)
        refine lv_aload_n hx hb dX12_isCompared_11 rfl (lv_at hl 0 rfl) ?_
        refine pg_get S Y ok_X12 15 (by decide) kf12_29 (v := .ref (ad 5 0)) p_ad_0_0 rfl dX12_isCompared_12 ?_
        refine lv_iload_n hx hb dX12_isCompared_15 rfl (lv_at hl 1 rfl) ?_
        obtain ⟨v_85530, ev_85530⟩ : ∃ z, z = gp (y7_1 : Int32).toNatClampNeg := ⟨_, rfl⟩
        refine pg_iald S Y (v := v_85530) p_ad_5_0 (vp_bn B_85529 (by decide)) ev_85530.symm dX12_isCompared_16 ?_
        refine cSp (As := [.int v_85530]) (rest := []) S Y (x_X12_rank (l := l) ) cw_X12_rank km12_145 rfl ⟨Nat.le_of_ble_eq_true rfl, Nat.le_of_ble_eq_true rfl⟩ hl.1 rfl (Nat.le_of_ble_eq_true rfl) ⟨Nat.le_of_ble_eq_true rfl, Nat.le_of_ble_eq_true rfl⟩ dX12_isCompared_17 (fun r_85531 H locs er_85531 Y => ?_)
        have B_85532 : bn 0 7 r_85531 := bn_w (rk_bn er_85531) (by decide)
        refine lv_iconst (v := 4) hx hb dX12_isCompared_20 (by decide) ?_
        refine lv_icmp_le (tgt := 30) hx hb dX12_isCompared_21 (by decide) (fun c_85533 => ?_) (fun c_85533 => ?_)
        · have B_85534 : bn 0 4 r_85531 := bn_w (bn_lel c_85533 B_85532 (show bn 4 4 (4 : Int32) from bn_k (by decide))) (by decide)
          refine lv_iload_n hx hb dX12_isCompared_30 rfl (lv_at hl 1 rfl) ?_
          refine lv_if_lt (tgt := 51) hx hb dX12_isCompared_31 (by decide) (fun h => absurd h c_85527) (fun _ => ?_)
          refine lv_aload_n hx hb dX12_isCompared_34 rfl (lv_at hl 0 rfl) ?_
          refine pg_get S Y ok_X12 15 (by decide) kf12_29 (v := .ref (ad 5 0)) p_ad_0_0 rfl dX12_isCompared_35 ?_
          refine lv_iload_n hx hb dX12_isCompared_38 rfl (lv_at hl 1 rfl) ?_
          obtain ⟨v_85536, ev_85536⟩ : ∃ z, z = gp (y7_1 : Int32).toNatClampNeg := ⟨_, rfl⟩
          refine pg_iald S Y (v := v_85536) p_ad_5_0 (vp_bn B_85529 (by decide)) ev_85536.symm dX12_isCompared_39 ?_
          refine cSp (As := [.int v_85536]) (rest := []) S Y (x_X12_rank (l := l) ) cw_X12_rank km12_145 rfl ⟨Nat.le_of_ble_eq_true rfl, Nat.le_of_ble_eq_true rfl⟩ hl.1 rfl (Nat.le_of_ble_eq_true rfl) ⟨Nat.le_of_ble_eq_true rfl, Nat.le_of_ble_eq_true rfl⟩ dX12_isCompared_40 (fun r_85537 H locs er_85537 Y => ?_)
          have B_85538 : bn 0 7 r_85537 := bn_w (rk_bn er_85537) (by decide)
          refine lv_iconst (v := 4) hx hb dX12_isCompared_43 (by decide) ?_
          refine lv_icmp_ne (tgt := 51) hx hb dX12_isCompared_44 (by decide) (fun c_85539 => ?_) (fun c_85539 => ?_)
          · refine lv_iconst (v := 0) hx hb dX12_isCompared_51 (by decide) ?_
            exact prI (post := fun r L1 f1 => ((bn 0 1 r ∧ r = if cmk (fun j => (gp j).toInt) pd.toInt.toNat = true then 1 else 0)) ∧ L1 = L ∧ f1 = f) S Y rfl (by decide) (by decide) hA1 ⟨⟨bn_k (by decide), (cmk_no hcm B_85529 ev_85530 er_85531 B_85534 ev_85536 er_85537 c_85539)⟩, rfl, rfl⟩ dX12_isCompared_52
          · have B_85540 : bn 4 4 r_85537 := bn_w (bn_eq c_85539 (show bn 4 4 (4 : Int32) from bn_k (by decide))) (by decide)
            refine lv_iconst (v := 1) hx hb dX12_isCompared_47 (by decide) ?_
            refine lv_goto (tgt := 52) hx hb dX12_isCompared_48 (by decide) ?_
            exact prI (post := fun r L1 f1 => ((bn 0 1 r ∧ r = if cmk (fun j => (gp j).toInt) pd.toInt.toNat = true then 1 else 0)) ∧ L1 = L ∧ f1 = f) S Y rfl (by decide) (by decide) hA1 ⟨⟨bn_k (by decide), (cmk_ye hcm B_85529 ev_85530 er_85531 B_85534 ev_85536 er_85537 B_85540)⟩, rfl, rfl⟩ dX12_isCompared_52
        · have B_85535 : bn 5 7 r_85531 := bn_w (bn_gtl c_85533 B_85532 (show bn 4 4 (4 : Int32) from bn_k (by decide))) (by decide)
          obtain ⟨x_85541, ex_85541⟩ : ∃ z : Int32, z = y7_1 + (-1) := ⟨_, rfl⟩
          refine lv_iinc (v := x_85541) (lv' := [(1, .int x_85541), (0, .ref (ad 0 0))]) hx hb dX12_isCompared_24 hl (k := 1) rfl (by rw [ex_85541]; rfl) (by decide) rfl (fun ls hl => ?_)
          refine lv_goto (tgt := 7) hx hb dX12_isCompared_27 (by decide) ?_
          exact ih7 _ (by rw [← hm7]; exact ms_dn (m := (-1)) ex_85541 (show bn (-1) (-1) ((-1) : Int32) from bn_k (by decide)) B_85529 (bn_w (bn_eq ex_85541 (bn_add B_85529 (show bn (-1) (-1) ((-1) : Int32) from bn_k (by decide)) (by decide))) (by decide) : bn (-1) 159 x_85541) (by decide)) x_85541  _ _ _  (bn_w (bn_eq ex_85541 (bn_add B_85529 (show bn (-1) (-1) ((-1) : Int32) from bn_k (by decide)) (by decide))) (by decide)) (cmk_st hcm B_85529 (by have z9 := (la_add ex_85541 (rfl : y7_1.toInt = y7_1.toInt) (show ((-1) : Int32).toInt = (-1) from rfl) B_85529 (show bn (-1) (-1) ((-1) : Int32) from bn_k (by decide)) (by decide)); omega) ev_85530 er_85531 B_85535) p_ad_0_0 rfl Y (lv_sub hl [1, 0] rfl)
  refine lv_aload_n hx hb dX12_isCompared_0 rfl (lv_at hl 0 rfl) ?_
  refine pg_get S Y ok_X12 17 (by decide) kf12_142 (v := .int pd) p_ad_0_0 rfl dX12_isCompared_1 ?_
  refine lv_iconst (v := 1) hx hb dX12_isCompared_4 (by decide) ?_
  refine lv_isub hx hb dX12_isCompared_5 ?_
  refine lv_topi (fun x_85542 ex_85542 => ?_)
  refine lv_istore_n (lv' := [(1, .int x_85542), (0, .ref (ad 0 0))]) hx hb dX12_isCompared_6 rfl hl (by decide) rfl (fun ls hl => ?_)
  exact J_7 _ x_85542  _ _ _  (bn_w (bn_eq ex_85542 (bn_sub bfe_17 (show bn 1 1 (1 : Int32) from bn_k (by decide)) (by decide))) (by decide)) (by have z9 := (la_sub ex_85542 (rfl : pd.toInt = pd.toInt) (show (1 : Int32).toInt = 1 from rfl) bfe_17 (show bn 1 1 (1 : Int32) from bn_k (by decide)) (by decide)); rw [show (x_85542.toInt + 1).toNat = pd.toInt.toNat from by omega]) p_ad_0_0 rfl Y (lv_sub hl [1, 0] rfl)
