theorem dX12_openAt_0 : decode cX12_openAt 0 = .ok (.aload_n 0, 1) := by decide +kernel
theorem dX12_openAt_1 : decode cX12_openAt 1 = .ok (.getfield 142, 3) := by decide +kernel
theorem kf12_142 : inW (Cond.fieldLink RX12 142 "KneeOathsModel" "piled" "I") := ⟨List.mem_of_getElem? (i := 1515) (by decide +kernel), by decide +kernel⟩
theorem dX12_openAt_4 : decode cX12_openAt 4 = .ok (.iconst 1, 1) := by decide +kernel
theorem dX12_openAt_5 : decode cX12_openAt 5 = .ok (.isub, 1) := by decide +kernel
theorem dX12_openAt_6 : decode cX12_openAt 6 = .ok (.istore_n 1, 1) := by decide +kernel
theorem dX12_openAt_7 : decode cX12_openAt 7 = .ok (.iload_n 1, 1) := by decide +kernel
theorem dX12_openAt_8 : decode cX12_openAt 8 = .ok (.ifCond .lt 20, 3) := by decide +kernel
theorem dX12_openAt_28 : decode cX12_openAt 28 = .ok (.iload_n 1, 1) := by decide +kernel
theorem dX12_openAt_29 : decode cX12_openAt 29 = .ok (.ireturn, 1) := by decide +kernel
theorem dX12_openAt_11 : decode cX12_openAt 11 = .ok (.aload_n 0, 1) := by decide +kernel
theorem dX12_openAt_12 : decode cX12_openAt 12 = .ok (.getfield 29, 3) := by decide +kernel
theorem kf12_29 : inW (Cond.fieldLink RX12 29 "KneeOathsModel" "pile" "[I") := ⟨List.mem_of_getElem? (i := 1513) (by decide +kernel), by decide +kernel⟩
theorem dX12_openAt_15 : decode cX12_openAt 15 = .ok (.iload_n 1, 1) := by decide +kernel
theorem dX12_openAt_16 : decode cX12_openAt 16 = .ok (.iaload, 1) := by decide +kernel
theorem dX12_openAt_17 : decode cX12_openAt 17 = .ok (.bipush 40, 2) := by decide +kernel
theorem dX12_openAt_19 : decode cX12_openAt 19 = .ok (.if_icmp .ge 9, 3) := by decide +kernel
theorem dX12_openAt_22 : decode cX12_openAt 22 = .ok (.iinc 1 (-1), 3) := by decide +kernel
theorem dX12_openAt_25 : decode cX12_openAt 25 = .ok (.goto (-18), 3) := by decide +kernel
theorem dX12_openNow_0 : decode cX12_openNow 0 = .ok (.aload_n 0, 1) := by decide +kernel
theorem dX12_openNow_1 : decode cX12_openNow 1 = .ok (.invokevirtual 155, 3) := by decide +kernel
theorem cw_X12_openAt : CWv yX12_openAt cX12_openAt 2 (some .int) 0 := ⟨⟨⟨List.mem_of_getElem? (i := 137) (by decide +kernel), by decide +kernel⟩, ⟨List.mem_of_getElem? (i := 1721) (by decide +kernel), by decide +kernel⟩, by decide +kernel⟩, ⟨List.mem_of_getElem? (i := 1720) (by decide +kernel), by decide +kernel⟩, ⟨List.mem_of_getElem? (i := 67) (by decide +kernel), by decide +kernel⟩⟩
theorem km12_155 : inW (Cond.methodLink RX12 155 yX12_openAt) := ⟨List.mem_of_getElem? (i := 1718) (by decide +kernel), by decide +kernel⟩
theorem dX12_openNow_4 : decode cX12_openNow 4 = .ok (.ifCond .ge 7, 3) := by decide +kernel
theorem dX12_openNow_11 : decode cX12_openNow 11 = .ok (.aload_n 0, 1) := by decide +kernel
theorem dX12_openNow_12 : decode cX12_openNow 12 = .ok (.getfield 29, 3) := by decide +kernel
theorem dX12_openNow_15 : decode cX12_openNow 15 = .ok (.aload_n 0, 1) := by decide +kernel
theorem dX12_openNow_16 : decode cX12_openNow 16 = .ok (.invokevirtual 155, 3) := by decide +kernel
theorem dX12_openNow_19 : decode cX12_openNow 19 = .ok (.iaload, 1) := by decide +kernel
theorem dX12_openNow_20 : decode cX12_openNow 20 = .ok (.ireturn, 1) := by decide +kernel
theorem dX12_openNow_7 : decode cX12_openNow 7 = .ok (.iconst (-1), 1) := by decide +kernel
theorem dX12_openNow_8 : decode cX12_openNow 8 = .ok (.goto 12, 3) := by decide +kernel
theorem opk_st {gp : Nat → Int32} {x y v : Int32} {q : Int} (h : opk (fun j => (gp j).toInt) (y.toInt + 1).toNat = q) (ey : bn 0 159 y) (ex : x.toInt = y.toInt + -1) (ev : v = gp y.toNatClampNeg) (hv : bn (-2147483648) 39 v) : opk (fun j => (gp j).toInt) (x.toInt + 1).toNat = q := by
  have y1 := ey.1
  have e1 : (x.toInt + 1).toNat = y.toInt.toNat := by omega
  have e2 : (y.toInt + 1).toNat = y.toInt.toNat + 1 := by omega
  have e3 : (gp y.toInt.toNat).toInt ≤ 39 := by have z := hv.2; rw [ev] at z; exact z
  rw [e1]
  rw [e2] at h
  unfold opk at h
  rw [if_pos (show (gp y.toInt.toNat).toInt < 40 by omega)] at h
  exact h
theorem opk_lo {gp : Nat → Int32} {y : Int32} {q : Int} (h : opk (fun j => (gp j).toInt) (y.toInt + 1).toNat = q) (ey : bn (-1) (-1) y) : y.toInt = q := by
  have y1 := ey.1
  have y2 := ey.2
  have e2 : (y.toInt + 1).toNat = 0 := by omega
  rw [e2] at h
  rw [← h]
  show y.toInt = -1
  omega
theorem opk_hi {gp : Nat → Int32} {y v : Int32} {q : Int} (h : opk (fun j => (gp j).toInt) (y.toInt + 1).toNat = q) (ey : bn 0 159 y) (ev : v = gp y.toNatClampNeg) (hv : bn 40 2147483647 v) : y.toInt = q := by
  have y1 := ey.1
  have e2 : (y.toInt + 1).toNat = y.toInt.toNat + 1 := by omega
  have e3 : 40 ≤ (gp y.toInt.toNat).toInt := by have z := hv.1; rw [ev] at z; exact z
  rw [e2] at h
  unfold opk at h
  rw [if_neg (show ¬ (gp y.toInt.toNat).toInt < 40 by omega)] at h
  rw [← h]
  omega
set_option maxHeartbeats 4000000 in
set_option maxRecDepth 100000 in
theorem x_X12_openAt {l : Launch} {G : GG}  {L : List Nat} {f : HF} {ad : Nat → Nat → Nat} {pa : (Nat → Int32) → Prop} {PA : (Nat → Int32) → Prop} {PI : PIT} {PX : (Nat → Int32) → Prop} {td fa fp at9 ps9 tk nu t0 wr so pd op9 cg iw on9 is9 se : Int32} {wd : Int64} {gp : Nat → Int32} (I : SH (spM PA PI PX pa) nnM G ad L f) (p_ad_0_0 : pt L f (ad 0 0) (.inr (12, [.ref (ad 1 0), .ref (ad 2 0), .ref (ad 3 0), .ref (ad 4 0), .int td, .int fa, .int fp, .int at9, .int ps9, .int tk, .int nu, .long wd, .int t0, .int wr, .int so, .ref (ad 5 0), .ref (ad 6 0), .int pd, .int op9, .int cg, .int iw, .int on9, .ref (ad 7 0), .ref (ad 8 0), .ref (ad 9 0), .int is9, .ref (ad 10 0), .ref (ad 11 0), .ref (ad 12 0), .ref (ad 13 0), .int se, .ref (ad 14 0)]))) (p_ad_5_0 : pt L f (ad 5 0) (.inl (G.2 0, 160, .inl gp))) : PMp l yX12_openAt cX12_openAt 2 .int 0 0 0 G [.ref (ad 0 0)] L f (fun r => (bn (-1) 159 r ∧ r.toInt = opk (fun j => (gp j).toInt) pd.toInt.toNat)) := by
  refine PMi.of (post := fun r L1 f1 => ((bn (-1) 159 r ∧ r.toInt = opk (fun j => (gp j).toInt) pd.toInt.toNat)) ∧ L1 = L ∧ f1 = f) (own := RX12) (by decide) rfl (Nat.le_of_ble_eq_true rfl) (fun sz p e s m args below meth c A ls hA1 hname S Y hl => ?_)
  have hx := S.hx
  have hb := S.hb
  have hl : lv_has ls 2 [(0, .ref (ad 0 0))] := hl
  obtain ⟨bfe_4, bfe_5, bfe_6, bfe_7, bfe_8, bfe_12, bfe_13, bfe_17, bfe_18, bfe_19, bfe_20, bfe_25⟩ := obM I p_ad_0_0
  have J_7 : ∀ (n7 : Nat) (y7_1 : Int32) (H : Heap) (locs : List Loc) (ls : Array Slot), (bn (-1) 159 y7_1) → (opk (fun j => (gp j).toInt) (y7_1.toInt + 1).toNat = opk (fun j => (gp j).toInt) pd.toInt.toNat) → (pt L f (ad 0 0) (.inr (12, [.ref (ad 1 0), .ref (ad 2 0), .ref (ad 3 0), .ref (ad 4 0), .int td, .int fa, .int fp, .int at9, .int ps9, .int tk, .int nu, .long wd, .int t0, .int wr, .int so, .ref (ad 5 0), .ref (ad 6 0), .int pd, .int op9, .int cg, .int iw, .int on9, .ref (ad 7 0), .ref (ad 8 0), .ref (ad 9 0), .int is9, .ref (ad 10 0), .ref (ad 11 0), .ref (ad 12 0), .ref (ad 13 0), .int se, .ref (ad 14 0)]))) → ((y7_1.toInt - ((-1) : Int)).toNat = n7) → (DY G A s [] L f H locs) → (lv_has ls 2 [(0, .ref (ad 0 0)), (1, .int y7_1)]) → W p l e (rmD 0 0 0) s m args below meth c H locs (0) (0) (MQ below (va_Qi (fun r (u : List Nat × HF) => (fun r L1 f1 => ((bn (-1) 159 r ∧ r.toInt = opk (fun j => (gp j).toInt) pd.toInt.toNat)) ∧ L1 = L ∧ f1 = f) r u.1 u.2) (fun u t => pOut G (va_A (va_pl L f) sz) u.1 u.2 t) (va_A (va_pl L f) sz)) args s 0 0 A) (F0 m 7 ls []) := by
    intro n7
    induction n7 using Nat.strongRecOn with
    | _ n7 ih7 =>
      intro y7_1 H locs ls b_y7_1 hok p_ad_0_0 hm7 Y hl
      obtain ⟨bf7_4, bf7_5, bf7_6, bf7_7, bf7_8, bf7_12, bf7_13, bf7_17, bf7_18, bf7_19, bf7_20, bf7_25⟩ := obM I p_ad_0_0
      refine lv_iload_n hx hb dX12_openAt_7 rfl (lv_at hl 1 rfl) ?_
      refine lv_if_lt (tgt := 28) hx hb dX12_openAt_8 (by decide) (fun c_85465 => ?_) (fun c_85465 => ?_)
      · have B_85466 : bn (-1) (-1) y7_1 := bn_w (bn_ltl c_85465 b_y7_1 (show bn 0 0 (0 : Int32) from bn_k (by decide))) (by decide)
        refine lv_iload_n hx hb dX12_openAt_28 rfl (lv_at hl 1 rfl) ?_
        exact prI (post := fun r L1 f1 => ((bn (-1) 159 r ∧ r.toInt = opk (fun j => (gp j).toInt) pd.toInt.toNat)) ∧ L1 = L ∧ f1 = f) S Y rfl (by decide) (by decide) hA1 ⟨⟨bn_w B_85466 (by decide), (opk_lo hok B_85466)⟩, rfl, rfl⟩ dX12_openAt_29
      · have B_85467 : bn 0 159 y7_1 := bn_w (bn_gel c_85465 b_y7_1 (show bn 0 0 (0 : Int32) from bn_k (by decide))) (by decide)
        refine lv_aload_n hx hb dX12_openAt_11 rfl (lv_at hl 0 rfl) ?_
        refine pg_get S Y ok_X12 15 (by decide) kf12_29 (v := .ref (ad 5 0)) p_ad_0_0 rfl dX12_openAt_12 ?_
        refine lv_iload_n hx hb dX12_openAt_15 rfl (lv_at hl 1 rfl) ?_
        obtain ⟨v_85468, ev_85468⟩ : ∃ z, z = gp (y7_1 : Int32).toNatClampNeg := ⟨_, rfl⟩
        refine pg_iald S Y (v := v_85468) p_ad_5_0 (vp_bn B_85467 (by decide)) ev_85468.symm dX12_openAt_16 ?_
        refine lv_bipush (v := 40) hx hb dX12_openAt_17 (by decide) ?_
        refine lv_icmp_ge (tgt := 28) hx hb dX12_openAt_19 (by decide) (fun c_85469 => ?_) (fun c_85469 => ?_)
        · have B_85470 : bn 40 2147483647 v_85468 := bn_w (bn_ler c_85469 (show bn 40 40 (40 : Int32) from bn_k (by decide)) (bn_any v_85468)) (by decide)
          refine lv_iload_n hx hb dX12_openAt_28 rfl (lv_at hl 1 rfl) ?_
          exact prI (post := fun r L1 f1 => ((bn (-1) 159 r ∧ r.toInt = opk (fun j => (gp j).toInt) pd.toInt.toNat)) ∧ L1 = L ∧ f1 = f) S Y rfl (by decide) (by decide) hA1 ⟨⟨bn_w B_85467 (by decide), (opk_hi hok B_85467 ev_85468 B_85470)⟩, rfl, rfl⟩ dX12_openAt_29
        · have B_85471 : bn (-2147483648) 39 v_85468 := bn_w (bn_gtr c_85469 (show bn 40 40 (40 : Int32) from bn_k (by decide)) (bn_any v_85468)) (by decide)
          obtain ⟨x_85472, ex_85472⟩ : ∃ z : Int32, z = y7_1 + (-1) := ⟨_, rfl⟩
          refine lv_iinc (v := x_85472) (lv' := [(1, .int x_85472), (0, .ref (ad 0 0))]) hx hb dX12_openAt_22 hl (k := 1) rfl (by rw [ex_85472]; rfl) (by decide) rfl (fun ls hl => ?_)
          refine lv_goto (tgt := 7) hx hb dX12_openAt_25 (by decide) ?_
          exact ih7 _ (by rw [← hm7]; exact ms_dn (m := (-1)) ex_85472 (show bn (-1) (-1) ((-1) : Int32) from bn_k (by decide)) B_85467 (bn_w (bn_eq ex_85472 (bn_add B_85467 (show bn (-1) (-1) ((-1) : Int32) from bn_k (by decide)) (by decide))) (by decide) : bn (-1) 159 x_85472) (by decide)) x_85472  _ _ _  (bn_w (bn_eq ex_85472 (bn_add B_85467 (show bn (-1) (-1) ((-1) : Int32) from bn_k (by decide)) (by decide))) (by decide)) (opk_st hok B_85467 (by have z9 := (la_add ex_85472 (rfl : y7_1.toInt = y7_1.toInt) (show ((-1) : Int32).toInt = (-1) from rfl) B_85467 (show bn (-1) (-1) ((-1) : Int32) from bn_k (by decide)) (by decide)); omega) ev_85468 B_85471) p_ad_0_0 rfl Y (lv_sub hl [1, 0] rfl)
  refine lv_aload_n hx hb dX12_openAt_0 rfl (lv_at hl 0 rfl) ?_
  refine pg_get S Y ok_X12 17 (by decide) kf12_142 (v := .int pd) p_ad_0_0 rfl dX12_openAt_1 ?_
  refine lv_iconst (v := 1) hx hb dX12_openAt_4 (by decide) ?_
  refine lv_isub hx hb dX12_openAt_5 ?_
  refine lv_topi (fun x_85473 ex_85473 => ?_)
  refine lv_istore_n (lv' := [(1, .int x_85473), (0, .ref (ad 0 0))]) hx hb dX12_openAt_6 rfl hl (by decide) rfl (fun ls hl => ?_)
  exact J_7 _ x_85473  _ _ _  (bn_w (bn_eq ex_85473 (bn_sub bfe_17 (show bn 1 1 (1 : Int32) from bn_k (by decide)) (by decide))) (by decide)) (by have z9 := (la_sub ex_85473 (rfl : pd.toInt = pd.toInt) (show (1 : Int32).toInt = 1 from rfl) bfe_17 (show bn 1 1 (1 : Int32) from bn_k (by decide)) (by decide)); rw [show (x_85473.toInt + 1).toNat = pd.toInt.toNat from by omega]) p_ad_0_0 rfl Y (lv_sub hl [1, 0] rfl)
def opv (gp : Nat → Int) (i : Nat) : Int := if opk gp i < 0 then -1 else gp (opk gp i).toNat
theorem opv_lo {gp : Nat → Int32} {r : Int32} {i : Nat} (e : r.toInt = opk (fun j => (gp j).toInt) i) (h : bn (-1) (-1) r) : (-1 : Int32).toInt = opv (fun j => (gp j).toInt) i := by
  unfold opv
  have y2 := h.2
  rw [if_pos (by omega)]
  rfl
theorem opv_hi {gp : Nat → Int32} {r v : Int32} {i : Nat} (e : r.toInt = opk (fun j => (gp j).toInt) i) (h : bn 0 159 r) (ev : v = gp r.toNatClampNeg) : v.toInt = opv (fun j => (gp j).toInt) i := by
  unfold opv
  have y1 := h.1
  rw [if_neg (by omega), ← e, ev]
  rfl
set_option maxHeartbeats 4000000 in
set_option maxRecDepth 100000 in
theorem x_X12_openNow {l : Launch} {G : GG}  {L : List Nat} {f : HF} {ad : Nat → Nat → Nat} {pa : (Nat → Int32) → Prop} {PA : (Nat → Int32) → Prop} {PI : PIT} {PX : (Nat → Int32) → Prop} {td fa fp at9 ps9 tk nu t0 wr so pd op9 cg iw on9 is9 se : Int32} {wd : Int64} {gp : Nat → Int32} (I : SH (spM PA PI PX pa) nnM G ad L f) (p_ad_0_0 : pt L f (ad 0 0) (.inr (12, [.ref (ad 1 0), .ref (ad 2 0), .ref (ad 3 0), .ref (ad 4 0), .int td, .int fa, .int fp, .int at9, .int ps9, .int tk, .int nu, .long wd, .int t0, .int wr, .int so, .ref (ad 5 0), .ref (ad 6 0), .int pd, .int op9, .int cg, .int iw, .int on9, .ref (ad 7 0), .ref (ad 8 0), .ref (ad 9 0), .int is9, .ref (ad 10 0), .ref (ad 11 0), .ref (ad 12 0), .ref (ad 13 0), .int se, .ref (ad 14 0)]))) (p_ad_5_0 : pt L f (ad 5 0) (.inl (G.2 0, 160, .inl gp))) : PMp l yX12_openNow cX12_openNow 1 .int 1 0 0 G [.ref (ad 0 0)] L f (fun r => (r.toInt = opv (fun j => (gp j).toInt) pd.toInt.toNat)) := by
  refine PMi.of (post := fun r L1 f1 => ((r.toInt = opv (fun j => (gp j).toInt) pd.toInt.toNat)) ∧ L1 = L ∧ f1 = f) (own := RX12) (by decide) rfl (Nat.le_of_ble_eq_true rfl) (fun sz p e s m args below meth c A ls hA1 hname S Y hl => ?_)
  have hx := S.hx
  have hb := S.hb
  have hl : lv_has ls 1 [(0, .ref (ad 0 0))] := hl
  obtain ⟨bfe_4, bfe_5, bfe_6, bfe_7, bfe_8, bfe_12, bfe_13, bfe_17, bfe_18, bfe_19, bfe_20, bfe_25⟩ := obM I p_ad_0_0
  refine lv_aload_n hx hb dX12_openNow_0 rfl (lv_at hl 0 rfl) ?_
  refine cVp (As := []) (rest := []) S Y (x_X12_openAt (l := l) I p_ad_0_0 p_ad_5_0) cw_X12_openAt km12_155 p_ad_0_0 ok_X12.1 rfl rfl ⟨Nat.le_of_ble_eq_true rfl, Nat.le_of_ble_eq_true rfl⟩ hl.1 rfl (Nat.le_of_ble_eq_true rfl) ⟨Nat.le_of_ble_eq_true rfl, Nat.le_of_ble_eq_true rfl⟩ dX12_openNow_1 (fun r_85488 H locs er_85488 Y => ?_)
  refine lv_if_ge (tgt := 11) hx hb dX12_openNow_4 (by decide) (fun c_85489 => ?_) (fun c_85489 => ?_)
  · have B_85490 : bn 0 159 r_85488 := bn_w (bn_ler c_85489 (show bn 0 0 (0 : Int32) from bn_k (by decide)) er_85488.1) (by decide)
    refine lv_aload_n hx hb dX12_openNow_11 rfl (lv_at hl 0 rfl) ?_
    refine pg_get S Y ok_X12 15 (by decide) kf12_29 (v := .ref (ad 5 0)) p_ad_0_0 rfl dX12_openNow_12 ?_
    refine lv_aload_n hx hb dX12_openNow_15 rfl (lv_at hl 0 rfl) ?_
    refine cVp (As := []) (rest := [.ref (ad 5 0)]) S Y (x_X12_openAt (l := l) I p_ad_0_0 p_ad_5_0) cw_X12_openAt km12_155 p_ad_0_0 ok_X12.1 rfl rfl ⟨Nat.le_of_ble_eq_true rfl, Nat.le_of_ble_eq_true rfl⟩ hl.1 rfl (Nat.le_of_ble_eq_true rfl) ⟨Nat.le_of_ble_eq_true rfl, Nat.le_of_ble_eq_true rfl⟩ dX12_openNow_16 (fun r_85492 H locs er_85492 Y => ?_)
    have B_85493 : bn 0 159 r_85492 := bn_w (show bn 0 159 r_85492 from ⟨by have z7 := er_85488.2; have z8 := er_85492.2; have z9 := (B_85490).1; omega, by have z7 := er_85488.2; have z8 := er_85492.2; have z9 := (B_85490).2; omega⟩) (by decide)
    obtain ⟨v_85494, ev_85494⟩ : ∃ z, z = gp (r_85492 : Int32).toNatClampNeg := ⟨_, rfl⟩
    refine pg_iald S Y (v := v_85494) p_ad_5_0 (vp_bn B_85493 (by decide)) ev_85494.symm dX12_openNow_19 ?_
    exact prI (post := fun r L1 f1 => ((r.toInt = opv (fun j => (gp j).toInt) pd.toInt.toNat)) ∧ L1 = L ∧ f1 = f) S Y rfl (by decide) (by decide) hA1 ⟨(opv_hi er_85492.2 (bn_w B_85493 (by decide)) ev_85494), rfl, rfl⟩ dX12_openNow_20
  · have B_85491 : bn (-1) (-1) r_85488 := bn_w (bn_gtr c_85489 (show bn 0 0 (0 : Int32) from bn_k (by decide)) er_85488.1) (by decide)
    refine lv_iconst (v := (-1)) hx hb dX12_openNow_7 (by decide) ?_
    refine lv_goto (tgt := 20) hx hb dX12_openNow_8 (by decide) ?_
    exact prI (post := fun r L1 f1 => ((r.toInt = opv (fun j => (gp j).toInt) pd.toInt.toNat)) ∧ L1 = L ∧ f1 = f) S Y rfl (by decide) (by decide) hA1 ⟨(opv_lo er_85488.2 B_85491), rfl, rfl⟩ dX12_openNow_20
