theorem dX12_isAskHere_0 : decode cX12_isAskHere 0 = .ok (.aload_n 0, 1) := by decide +kernel
theorem dX12_isAskHere_1 : decode cX12_isAskHere 1 = .ok (.invokevirtual 159, 3) := by decide +kernel
theorem cw_X12_openNow : CWv yX12_openNow cX12_openNow 1 (some .int) 0 := ⟨⟨⟨List.mem_of_getElem? (i := 137) (by decide +kernel), by decide +kernel⟩, ⟨List.mem_of_getElem? (i := 1717) (by decide +kernel), by decide +kernel⟩, by decide +kernel⟩, ⟨List.mem_of_getElem? (i := 1716) (by decide +kernel), by decide +kernel⟩, ⟨List.mem_of_getElem? (i := 66) (by decide +kernel), by decide +kernel⟩⟩
theorem km12_159 : inW (Cond.methodLink RX12 159 yX12_openNow) := ⟨List.mem_of_getElem? (i := 1714) (by decide +kernel), by decide +kernel⟩
theorem dX12_isAskHere_4 : decode cX12_isAskHere 4 = .ok (.bipush 41, 2) := by decide +kernel
theorem dX12_isAskHere_6 : decode cX12_isAskHere 6 = .ok (.if_icmp .eq 12, 3) := by decide +kernel
theorem dX12_isAskHere_18 : decode cX12_isAskHere 18 = .ok (.iconst 1, 1) := by decide +kernel
theorem dX12_isAskHere_19 : decode cX12_isAskHere 19 = .ok (.goto 4, 3) := by decide +kernel
theorem dX12_isAskHere_23 : decode cX12_isAskHere 23 = .ok (.ireturn, 1) := by decide +kernel
theorem dX12_isAskHere_9 : decode cX12_isAskHere 9 = .ok (.aload_n 0, 1) := by decide +kernel
theorem dX12_isAskHere_10 : decode cX12_isAskHere 10 = .ok (.invokevirtual 159, 3) := by decide +kernel
theorem dX12_isAskHere_13 : decode cX12_isAskHere 13 = .ok (.bipush 44, 2) := by decide +kernel
theorem dX12_isAskHere_15 : decode cX12_isAskHere 15 = .ok (.if_icmp .ne 7, 3) := by decide +kernel
theorem dX12_isAskHere_22 : decode cX12_isAskHere 22 = .ok (.iconst 0, 1) := by decide +kernel
theorem ask_41 {r : Int32} {q : Int} (e : r.toInt = q) (h : r = 41) : (1 : Int32) = 1 ∧ askd q ∨ (1 : Int32) = 0 ∧ ¬ askd q := by
  subst h
  exact Or.inl ⟨rfl, Or.inl e.symm⟩
theorem ask_44 {r : Int32} {q : Int} (e : r.toInt = q) (h : r = 44) : (1 : Int32) = 1 ∧ askd q ∨ (1 : Int32) = 0 ∧ ¬ askd q := by
  subst h
  exact Or.inl ⟨rfl, Or.inr e.symm⟩
theorem ask_no {r r2 : Int32} {q : Int} (e : r.toInt = q) (h : ¬ r = 41) (e2 : r2.toInt = q) (h2 : ¬ r2 = 44) : (0 : Int32) = 1 ∧ askd q ∨ (0 : Int32) = 0 ∧ ¬ askd q := by
  refine Or.inr ⟨rfl, fun z => ?_⟩
  rcases z with z | z
  · exact h (Int32.toInt_inj.mp (e.trans z))
  · exact h2 (Int32.toInt_inj.mp (e2.trans z))
theorem ask_pd {gp : Nat → Int32} {r pd : Int32} (e : r = 1 ∧ askd (opv (fun j => (gp j).toInt) pd.toInt.toNat) ∨ r = 0 ∧ ¬ askd (opv (fun j => (gp j).toInt) pd.toInt.toNat)) (h : ¬ r = 0) (b : bn 0 160 pd) : bn 1 160 pd := by
  have b1 := b.1
  have b2 := b.2
  refine ⟨?_, b2⟩
  rcases e with e | e
  · by_cases z : pd.toInt = 0
    · have k : askd (opv (fun j => (gp j).toInt) pd.toInt.toNat) := e.2
      rw [z] at k
      rcases k with k | k
      · exact absurd k (by show ¬ ((-1 : Int) = 41); decide)
      · exact absurd k (by show ¬ ((-1 : Int) = 44); decide)
    · omega
  · exact absurd e.1 h
set_option maxHeartbeats 4000000 in
set_option maxRecDepth 100000 in
theorem x_X12_isAskHere {l : Launch} {G : GG}  {L : List Nat} {f : HF} {ad : Nat → Nat → Nat} {pa : (Nat → Int32) → Prop} {PA : (Nat → Int32) → Prop} {PI : PIT} {PX : (Nat → Int32) → Prop} {td fa fp at9 ps9 tk nu t0 wr so pd op9 cg iw on9 is9 se : Int32} {wd : Int64} {gp : Nat → Int32} (I : SH (spM PA PI PX pa) nnM G ad L f) (p_ad_0_0 : pt L f (ad 0 0) (.inr (12, [.ref (ad 1 0), .ref (ad 2 0), .ref (ad 3 0), .ref (ad 4 0), .int td, .int fa, .int fp, .int at9, .int ps9, .int tk, .int nu, .long wd, .int t0, .int wr, .int so, .ref (ad 5 0), .ref (ad 6 0), .int pd, .int op9, .int cg, .int iw, .int on9, .ref (ad 7 0), .ref (ad 8 0), .ref (ad 9 0), .int is9, .ref (ad 10 0), .ref (ad 11 0), .ref (ad 12 0), .ref (ad 13 0), .int se, .ref (ad 14 0)]))) (p_ad_5_0 : pt L f (ad 5 0) (.inl (G.2 0, 160, .inl gp))) : PMp l yX12_isAskHere cX12_isAskHere 1 .boolean 2 0 0 G [.ref (ad 0 0)] L f (fun r => (bn 0 1 r ∧ (r = 1 ∧ askd (opv (fun j => (gp j).toInt) pd.toInt.toNat) ∨ r = 0 ∧ ¬ askd (opv (fun j => (gp j).toInt) pd.toInt.toNat)))) := by
  refine PMi.of (post := fun r L1 f1 => ((bn 0 1 r ∧ (r = 1 ∧ askd (opv (fun j => (gp j).toInt) pd.toInt.toNat) ∨ r = 0 ∧ ¬ askd (opv (fun j => (gp j).toInt) pd.toInt.toNat)))) ∧ L1 = L ∧ f1 = f) (own := RX12) (by decide) rfl (Nat.le_of_ble_eq_true rfl) (fun sz p e s m args below meth c A ls hA1 hname S Y hl => ?_)
  have hx := S.hx
  have hb := S.hb
  have hl : lv_has ls 1 [(0, .ref (ad 0 0))] := hl
  obtain ⟨bfe_4, bfe_5, bfe_6, bfe_7, bfe_8, bfe_12, bfe_13, bfe_17, bfe_18, bfe_19, bfe_20, bfe_25⟩ := obM I p_ad_0_0
  refine lv_aload_n hx hb dX12_isAskHere_0 rfl (lv_at hl 0 rfl) ?_
  refine cVp (As := []) (rest := []) S Y (x_X12_openNow (l := l) I p_ad_0_0 p_ad_5_0) cw_X12_openNow km12_159 p_ad_0_0 ok_X12.1 rfl rfl ⟨Nat.le_of_ble_eq_true rfl, Nat.le_of_ble_eq_true rfl⟩ hl.1 rfl (Nat.le_of_ble_eq_true rfl) ⟨Nat.le_of_ble_eq_true rfl, Nat.le_of_ble_eq_true rfl⟩ dX12_isAskHere_1 (fun r_85555 H locs er_85555 Y => ?_)
  refine lv_bipush (v := 41) hx hb dX12_isAskHere_4 (by decide) ?_
  refine lv_icmp_eq (tgt := 18) hx hb dX12_isAskHere_6 (by decide) (fun c_85556 => ?_) (fun c_85556 => ?_)
  · have B_85557 : bn 41 41 r_85555 := bn_w (bn_eq c_85556 (show bn 41 41 (41 : Int32) from bn_k (by decide))) (by decide)
    refine lv_iconst (v := 1) hx hb dX12_isAskHere_18 (by decide) ?_
    refine lv_goto (tgt := 23) hx hb dX12_isAskHere_19 (by decide) ?_
    exact prI (post := fun r L1 f1 => ((bn 0 1 r ∧ (r = 1 ∧ askd (opv (fun j => (gp j).toInt) pd.toInt.toNat) ∨ r = 0 ∧ ¬ askd (opv (fun j => (gp j).toInt) pd.toInt.toNat)))) ∧ L1 = L ∧ f1 = f) S Y rfl (by decide) (by decide) hA1 ⟨⟨bn_k (by decide), (ask_41 er_85555 c_85556)⟩, rfl, rfl⟩ dX12_isAskHere_23
  · refine lv_aload_n hx hb dX12_isAskHere_9 rfl (lv_at hl 0 rfl) ?_
    refine cVp (As := []) (rest := []) S Y (x_X12_openNow (l := l) I p_ad_0_0 p_ad_5_0) cw_X12_openNow km12_159 p_ad_0_0 ok_X12.1 rfl rfl ⟨Nat.le_of_ble_eq_true rfl, Nat.le_of_ble_eq_true rfl⟩ hl.1 rfl (Nat.le_of_ble_eq_true rfl) ⟨Nat.le_of_ble_eq_true rfl, Nat.le_of_ble_eq_true rfl⟩ dX12_isAskHere_10 (fun r_85558 H locs er_85558 Y => ?_)
    refine lv_bipush (v := 44) hx hb dX12_isAskHere_13 (by decide) ?_
    refine lv_icmp_ne (tgt := 22) hx hb dX12_isAskHere_15 (by decide) (fun c_85559 => ?_) (fun c_85559 => ?_)
    · refine lv_iconst (v := 0) hx hb dX12_isAskHere_22 (by decide) ?_
      exact prI (post := fun r L1 f1 => ((bn 0 1 r ∧ (r = 1 ∧ askd (opv (fun j => (gp j).toInt) pd.toInt.toNat) ∨ r = 0 ∧ ¬ askd (opv (fun j => (gp j).toInt) pd.toInt.toNat)))) ∧ L1 = L ∧ f1 = f) S Y rfl (by decide) (by decide) hA1 ⟨⟨bn_k (by decide), (ask_no er_85555 c_85556 er_85558 c_85559)⟩, rfl, rfl⟩ dX12_isAskHere_23
    · have B_85560 : bn 44 44 r_85558 := bn_w (bn_eq c_85559 (show bn 44 44 (44 : Int32) from bn_k (by decide))) (by decide)
      refine lv_iconst (v := 1) hx hb dX12_isAskHere_18 (by decide) ?_
      refine lv_goto (tgt := 23) hx hb dX12_isAskHere_19 (by decide) ?_
      exact prI (post := fun r L1 f1 => ((bn 0 1 r ∧ (r = 1 ∧ askd (opv (fun j => (gp j).toInt) pd.toInt.toNat) ∨ r = 0 ∧ ¬ askd (opv (fun j => (gp j).toInt) pd.toInt.toNat)))) ∧ L1 = L ∧ f1 = f) S Y rfl (by decide) (by decide) hA1 ⟨⟨bn_k (by decide), (ask_44 er_85558 c_85559)⟩, rfl, rfl⟩ dX12_isAskHere_23
