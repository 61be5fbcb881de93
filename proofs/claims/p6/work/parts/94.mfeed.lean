theorem dX12_four_0 : decode cX12_four 0 = .ok (.bipush 24, 2) := by decide +kernel
theorem dX12_four_2 : decode cX12_four 2 = .ok (.istore_n 2, 1) := by decide +kernel
theorem dX12_four_3 : decode cX12_four 3 = .ok (.iload_n 2, 1) := by decide +kernel
theorem dX12_four_4 : decode cX12_four 4 = .ok (.ifCond .lt 35, 3) := by decide +kernel
theorem dX12_four_7 : decode cX12_four 7 = .ok (.aload_n 0, 1) := by decide +kernel
theorem dX12_four_8 : decode cX12_four 8 = .ok (.getfield 19, 3) := by decide +kernel
theorem dX12_four_11 : decode cX12_four 11 = .ok (.aload_n 0, 1) := by decide +kernel
theorem dX12_four_12 : decode cX12_four 12 = .ok (.getfield 81, 3) := by decide +kernel
theorem dX12_four_15 : decode cX12_four 15 = .ok (.iload_n 1, 1) := by decide +kernel
theorem dX12_four_16 : decode cX12_four 16 = .ok (.iload_n 2, 1) := by decide +kernel
theorem dX12_four_17 : decode cX12_four 17 = .ok (.ishr, 1) := by decide +kernel
theorem dX12_four_18 : decode cX12_four 18 = .ok (.sipush 255, 3) := by decide +kernel
theorem dX12_four_21 : decode cX12_four 21 = .ok (.iand, 1) := by decide +kernel
theorem dX12_four_22 : decode cX12_four 22 = .ok (.iastore, 1) := by decide +kernel
theorem dX12_four_23 : decode cX12_four 23 = .ok (.aload_n 0, 1) := by decide +kernel
theorem dX12_four_24 : decode cX12_four 24 = .ok (.dup, 1) := by decide +kernel
theorem dX12_four_25 : decode cX12_four 25 = .ok (.getfield 81, 3) := by decide +kernel
theorem dX12_four_28 : decode cX12_four 28 = .ok (.iconst 1, 1) := by decide +kernel
theorem dX12_four_29 : decode cX12_four 29 = .ok (.iadd, 1) := by decide +kernel
theorem dX12_four_30 : decode cX12_four 30 = .ok (.putfield 81, 3) := by decide +kernel
theorem dX12_four_33 : decode cX12_four 33 = .ok (.iinc 2 (-8), 3) := by decide +kernel
theorem dX12_four_36 : decode cX12_four 36 = .ok (.goto (-33), 3) := by decide +kernel
theorem dX12_four_39 : decode cX12_four 39 = .ok (.return_, 1) := by decide +kernel
theorem dX12_feed_0 : decode cX12_feed 0 = .ok (.aload_n 0, 1) := by decide +kernel
theorem dX12_feed_1 : decode cX12_feed 1 = .ok (.getfield 81, 3) := by decide +kernel
theorem dX12_feed_4 : decode cX12_feed 4 = .ok (.bipush 20, 2) := by decide +kernel
theorem dX12_feed_6 : decode cX12_feed 6 = .ok (.iadd, 1) := by decide +kernel
theorem dX12_feed_7 : decode cX12_feed 7 = .ok (.sipush 300, 3) := by decide +kernel
theorem dX12_feed_10 : decode cX12_feed 10 = .ok (.if_icmp .le 5, 3) := by decide +kernel
theorem dX12_feed_15 : decode cX12_feed 15 = .ok (.aload_n 0, 1) := by decide +kernel
theorem dX12_feed_16 : decode cX12_feed 16 = .ok (.iload_n 1, 1) := by decide +kernel
theorem dX12_feed_17 : decode cX12_feed 17 = .ok (.invokevirtual 84, 3) := by decide +kernel
theorem cw_X12_four : CWv yX12_four cX12_four 3 none 1 := ⟨⟨⟨List.mem_of_getElem? (i := 137) (by decide +kernel), by decide +kernel⟩, ⟨List.mem_of_getElem? (i := 1611) (by decide +kernel), by decide +kernel⟩, by decide +kernel⟩, ⟨List.mem_of_getElem? (i := 1610) (by decide +kernel), by decide +kernel⟩, ⟨List.mem_of_getElem? (i := 48) (by decide +kernel), by decide +kernel⟩⟩
theorem km12_84 : inW (Cond.methodLink RX12 84 yX12_four) := ⟨List.mem_of_getElem? (i := 1608) (by decide +kernel), by decide +kernel⟩
theorem dX12_feed_20 : decode cX12_feed 20 = .ok (.aload_n 0, 1) := by decide +kernel
theorem dX12_feed_21 : decode cX12_feed 21 = .ok (.iload_n 2, 1) := by decide +kernel
theorem dX12_feed_22 : decode cX12_feed 22 = .ok (.invokevirtual 84, 3) := by decide +kernel
theorem dX12_feed_25 : decode cX12_feed 25 = .ok (.aload_n 0, 1) := by decide +kernel
theorem dX12_feed_26 : decode cX12_feed 26 = .ok (.iload_n 3, 1) := by decide +kernel
theorem dX12_feed_27 : decode cX12_feed 27 = .ok (.invokevirtual 84, 3) := by decide +kernel
theorem dX12_feed_30 : decode cX12_feed 30 = .ok (.aload_n 0, 1) := by decide +kernel
theorem dX12_feed_31 : decode cX12_feed 31 = .ok (.iload 4, 2) := by decide +kernel
theorem dX12_feed_33 : decode cX12_feed 33 = .ok (.invokevirtual 84, 3) := by decide +kernel
theorem dX12_feed_36 : decode cX12_feed 36 = .ok (.aload_n 0, 1) := by decide +kernel
theorem dX12_feed_37 : decode cX12_feed 37 = .ok (.iload 5, 2) := by decide +kernel
theorem dX12_feed_39 : decode cX12_feed 39 = .ok (.invokevirtual 84, 3) := by decide +kernel
theorem dX12_feed_42 : decode cX12_feed 42 = .ok (.aload_n 0, 1) := by decide +kernel
theorem dX12_feed_43 : decode cX12_feed 43 = .ok (.getfield 81, 3) := by decide +kernel
theorem dX12_feed_46 : decode cX12_feed 46 = .ok (.ireturn, 1) := by decide +kernel
theorem dX12_feed_13 : decode cX12_feed 13 = .ok (.iconst (-1), 1) := by decide +kernel
theorem dX12_feed_14 : decode cX12_feed 14 = .ok (.ireturn, 1) := by decide +kernel
theorem dX12_end_0 : decode cX12_end 0 = .ok (.iload_n 1, 1) := by decide +kernel
theorem dX12_end_1 : decode cX12_end 1 = .ok (.iconst 0, 1) := by decide +kernel
theorem dX12_end_2 : decode cX12_end 2 = .ok (.aload_n 0, 1) := by decide +kernel
theorem dX12_end_3 : decode cX12_end 3 = .ok (.getfield 81, 3) := by decide +kernel
theorem dX12_end_6 : decode cX12_end 6 = .ok (.invokestatic 69, 3) := by decide +kernel
theorem dX12_end_9 : decode cX12_end 9 = .ok (.ifCond .ne 5, 3) := by decide +kernel
theorem dX12_end_14 : decode cX12_end 14 = .ok (.aload_n 0, 1) := by decide +kernel
theorem dX12_end_15 : decode cX12_end 15 = .ok (.iload_n 1, 1) := by decide +kernel
theorem dX12_end_16 : decode cX12_end 16 = .ok (.putfield 81, 3) := by decide +kernel
theorem dX12_end_19 : decode cX12_end 19 = .ok (.iload_n 1, 1) := by decide +kernel
theorem dX12_end_20 : decode cX12_end 20 = .ok (.ireturn, 1) := by decide +kernel
theorem dX12_end_12 : decode cX12_end 12 = .ok (.iconst (-1), 1) := by decide +kernel
theorem dX12_end_13 : decode cX12_end 13 = .ok (.ireturn, 1) := by decide +kernel
theorem sh255 (x : BitVec 32) (n : Nat) (hn : n ≤ 24) : (x.sshiftRight n) &&& 255#32 = (x >>> n) &&& 255#32 := by
  apply BitVec.eq_of_getLsbD_eq
  intro i hi
  rw [BitVec.getLsbD_and, BitVec.getLsbD_and, BitVec.getLsbD_sshiftRight, BitVec.getLsbD_ushiftRight]
  by_cases h : i < 8
  · have h2 : n + i < 32 := by omega
    have h3 : ¬ 32 ≤ i := by omega
    simp [h2, h3]
  · have h2 : (255#32).getLsbD i = false := by
      rw [BitVec.getLsbD_ofNat]
      have h3 : Nat.testBit 255 i = false := Nat.testBit_lt_two_pow (Nat.lt_of_lt_of_le (by decide : 255 < 2 ^ 8) (Nat.pow_le_pow_right (by decide) (by omega)))
      rw [h3, Bool.and_false]
    rw [h2, Bool.and_false, Bool.and_false]
theorem by_24 {i x y : Int32} (e : x = i >>> ((24 : Int32) &&& 31)) (e2 : y = x &&& 255) : y = byC i 24 := by
  rw [e2, e]; exact Int32.toBitVec_inj.mp (sh255 i.toBitVec 24 (by decide))
theorem by_16 {i x y : Int32} (e : x = i >>> ((16 : Int32) &&& 31)) (e2 : y = x &&& 255) : y = byC i 16 := by
  rw [e2, e]; exact Int32.toBitVec_inj.mp (sh255 i.toBitVec 16 (by decide))
theorem by_8 {i x y : Int32} (e : x = i >>> ((8 : Int32) &&& 31)) (e2 : y = x &&& 255) : y = byC i 8 := by
  rw [e2, e]; exact Int32.toBitVec_inj.mp (sh255 i.toBitVec 8 (by decide))
theorem by_0 {i x y : Int32} (e : x = i >>> ((0 : Int32) &&& 31)) (e2 : y = x &&& 255) : y = byC i 0 := by
  rw [e2, e]; exact Int32.toBitVec_inj.mp (sh255 i.toBitVec 0 (by decide))
theorem bc255 (i s : Int32) : bn 0 255 (byC i s) := by
  have h : (byC i s).toBitVec.toNat ≤ 255 := by
    unfold byC
    show (_ &&& 255#32).toNat ≤ 255
    rw [BitVec.toNat_and]
    exact Nat.and_le_right
  have e : (byC i s).toInt = (byC i s).toBitVec.toInt := rfl
  unfold bn
  rw [e, BitVec.toInt_eq_toNat_cond, if_pos (by omega)]
  exact ⟨by omega, by omega⟩
theorem BYT_up {B : Nat → Int32} {n : Nat} {x : Int32} (h : BYT B) (hx : bn 0 255 x) : BYT (upd B n x) := by
  intro k
  by_cases z : k = n
  · subst z; rw [pk_us]; exact hx
  · rw [pk_un z]; exact h k
theorem BYT_4 {B : Nat → Int32} {n : Nat} {x : Int32} (h : BYT B) : BYT (ap4 B n x) := BYT_up (BYT_up (BYT_up (BYT_up h (bc255 _ _)) (bc255 _ _)) (bc255 _ _)) (bc255 _ _)
theorem BYT_fe {B : Nat → Int32} {n : Int} {i1 i2 i3 i4 i5 : Int32} (h : BYT B) : BYT (feB B n i1 i2 i3 i4 i5) := by
  unfold feB
  split
  · exact BYT_4 (BYT_4 (BYT_4 (BYT_4 (BYT_4 h))))
  · exact h
set_option maxHeartbeats 4000000 in
set_option maxRecDepth 100000 in
theorem x_X12_four {l : Launch} {G : GG}  {L : List Nat} {f : HF} {ad : Nat → Nat → Nat} {gp2 : (Nat → Int32) → Prop} {zF : Int × Int} {zQ : Int × Int} {nL : Int} {bT : Nat → Int32} {pa : (Nat → Int32) → Prop} {PA : (Nat → Int32) → Prop} {PX : (Nat → Int32) → Prop} {i1 : Int32} {td fa fp at9 ps9 tk nu t0 wr so pd op9 cg iw on9 is9 se : Int32} {wd : Int64} (I : SH (spM PA ((gp2, (pp nL), zF, zQ, (EQ bT)) : PIT) PX pa) nnM G ad L f) (p_ad_0_0 : pt L f (ad 0 0) (.inr (12, [.ref (ad 1 0), .ref (ad 2 0), .ref (ad 3 0), .ref (ad 4 0), .int td, .int fa, .int fp, .int at9, .int ps9, .int tk, .int nu, .long wd, .int t0, .int wr, .int so, .ref (ad 5 0), .ref (ad 6 0), .int pd, .int op9, .int cg, .int iw, .int on9, .ref (ad 7 0), .ref (ad 8 0), .ref (ad 9 0), .int is9, .ref (ad 10 0), .ref (ad 11 0), .ref (ad 12 0), .ref (ad 13 0), .int se, .ref (ad 14 0)]))) (hr : 0 ≤ nL ∧ nL ≤ 296) : PMv l yX12_four cX12_four 3 0 0 0 G [.ref (ad 0 0), .int i1] L f (fun L1 f1 => ∃ td2 : Int32, SH (spM PA ((gp2, (pp (nL + 4)), zF, zQ, (EQ (ap4 bT nL.toNat i1))) : PIT) PX pa) nnM G ad L1 f1 ∧ pt L1 f1 (ad 0 0) (.inr (12, [.ref (ad 1 0), .ref (ad 2 0), .ref (ad 3 0), .ref (ad 4 0), .int td2, .int fa, .int fp, .int at9, .int ps9, .int tk, .int nu, .long wd, .int t0, .int wr, .int so, .ref (ad 5 0), .ref (ad 6 0), .int pd, .int op9, .int cg, .int iw, .int on9, .ref (ad 7 0), .ref (ad 8 0), .ref (ad 9 0), .int is9, .ref (ad 10 0), .ref (ad 11 0), .ref (ad 12 0), .ref (ad 13 0), .int se, .ref (ad 14 0)]))) := by
  refine PMv.of (post := fun L1 f1 => ∃ td2 : Int32, SH (spM PA ((gp2, (pp (nL + 4)), zF, zQ, (EQ (ap4 bT nL.toNat i1))) : PIT) PX pa) nnM G ad L1 f1 ∧ pt L1 f1 (ad 0 0) (.inr (12, [.ref (ad 1 0), .ref (ad 2 0), .ref (ad 3 0), .ref (ad 4 0), .int td2, .int fa, .int fp, .int at9, .int ps9, .int tk, .int nu, .long wd, .int t0, .int wr, .int so, .ref (ad 5 0), .ref (ad 6 0), .int pd, .int op9, .int cg, .int iw, .int on9, .ref (ad 7 0), .ref (ad 8 0), .ref (ad 9 0), .int is9, .ref (ad 10 0), .ref (ad 11 0), .ref (ad 12 0), .ref (ad 13 0), .int se, .ref (ad 14 0)]))) (own := RX12) (by decide) rfl (Nat.le_of_ble_eq_true rfl) (fun sz p e s m args below meth c A ls hA1 hname S Y hl => ?_)
  have hx := S.hx
  have hb := S.hb
  have hl : lv_has ls 3 [(0, .ref (ad 0 0)), (1, .int i1)] := hl
  obtain ⟨bfe_4, bfe_5, bfe_6, bfe_7, bfe_8, bfe_12, bfe_13, bfe_17, bfe_18, bfe_19, bfe_20, bfe_25⟩ := obM I p_ad_0_0
  have tt_84550 : td.toInt = nL := lim_eq bfe_4
  have B_84551 : bn 0 296 td := ⟨by have h9 := tt_84550; have h8 := hr.1; omega, by have h9 := tt_84550; have h8 := hr.2; omega⟩
  refine lv_bipush (v := 24) hx hb dX12_four_0 (by decide) ?_
  refine lv_istore_n (lv' := [(2, .int 24), (0, .ref (ad 0 0)), (1, .int i1)]) hx hb dX12_four_2 rfl hl (by decide) rfl (fun ls hl => ?_)
  refine lv_iload_n hx hb dX12_four_3 rfl (lv_at hl 0 rfl) ?_
  refine lv_if_lt (tgt := 39) hx hb dX12_four_4 (by decide) (fun h => absurd h (by decide)) (fun _ => ?_)
  refine lv_aload_n hx hb dX12_four_7 rfl (lv_at hl 1 rfl) ?_
  refine pg_get S Y ok_X12 3 (by decide) kf12_19 (v := .ref (ad 4 0)) p_ad_0_0 rfl dX12_four_8 ?_
  refine lv_aload_n hx hb dX12_four_11 rfl (lv_at hl 1 rfl) ?_
  refine pg_get S Y ok_X12 4 (by decide) kf12_81 (v := .int td) p_ad_0_0 rfl dX12_four_12 ?_
  refine lv_iload_n hx hb dX12_four_15 rfl (lv_at hl 2 rfl) ?_
  refine lv_iload_n hx hb dX12_four_16 rfl (lv_at hl 0 rfl) ?_
  refine lv_ishr hx hb dX12_four_17 ?_
  refine lv_topi (fun x_84552 ex_84552 => ?_)
  refine lv_sipush (v := 255) hx hb dX12_four_18 (by decide) ?_
  refine lv_iand hx hb dX12_four_21 ?_
  refine lv_topi (fun x_84553 ex_84553 => ?_)
  obtain ⟨g_84554, p_ad_4_0, o_84555⟩ := I.opi (k := 4) (j := 0) (by decide) rfl
  have p_ad_4_0 : pt L f (ad 4 0) (.inl (G.2 0, 300, .inl g_84554)) := p_ad_4_0
  refine pg_iast S Y p_ad_4_0 (vp_bn B_84551 (by decide)) dX12_four_22 (fun f_84557 H locs ef_84557 Y => ?_)
  obtain ⟨g_84556, eg_84556⟩ : ∃ z, z = upd (g_84554) (td : Int32).toNatClampNeg x_84553 := ⟨_, rfl⟩
  rw [← eg_84556] at ef_84557
  have p_ad_0_0 := p_ad_0_0.up ef_84557 (I.ne (k := 0) (j := 0) (k' := 4) (j' := 0) (by decide) (by decide) (Or.inl (by decide)))
  have p_ad_4_0 := p_ad_4_0.me ef_84557
  have o_84558 : EQ g_84556 g_84556 := rfl
  have I := I.upS (sp' := spM PA ((gp2, (pp nL), zF, zQ, (EQ g_84556)) : PIT) PX pa) (k := 4) (j := 0) (by decide) ef_84557 (okE_a (g := g_84556) o_84558) pTC
  refine lv_aload_n hx hb dX12_four_23 rfl (lv_at hl 1 rfl) ?_
  refine lv_dup hx hb dX12_four_24 rfl ?_
  refine pg_get S Y ok_X12 4 (by decide) kf12_81 (v := .int td) p_ad_0_0 rfl dX12_four_25 ?_
  refine lv_iconst (v := 1) hx hb dX12_four_28 (by decide) ?_
  refine lv_iadd hx hb dX12_four_29 ?_
  refine lv_topi (fun x_84559 ex_84559 => ?_)
  refine pg_put S Y ok_X12 4 (by decide) kf12_81 rfl (fs' := [.ref (ad 1 0), .ref (ad 2 0), .ref (ad 3 0), .ref (ad 4 0), .int x_84559, .int fa, .int fp, .int at9, .int ps9, .int tk, .int nu, .long wd, .int t0, .int wr, .int so, .ref (ad 5 0), .ref (ad 6 0), .int pd, .int op9, .int cg, .int iw, .int on9, .ref (ad 7 0), .ref (ad 8 0), .ref (ad 9 0), .int is9, .ref (ad 10 0), .ref (ad 11 0), .ref (ad 12 0), .ref (ad 13 0), .int se, .ref (ad 14 0)]) (v := .int x_84559) p_ad_0_0 rfl rfl rfl (Nat.le_of_ble_eq_true rfl) dX12_four_30 (fun f_84560 H locs ef_84560 Y => ?_)
  have p_ad_4_0 := p_ad_4_0.up ef_84560 (I.ne (k := 4) (j := 0) (k' := 0) (j' := 0) (by decide) (by decide) (Or.inl (by decide)))
  have p_ad_0_0 := p_ad_0_0.me ef_84560
  have I := I.upS (sp' := spM PA ((gp2, (pp (nL + 1)), zF, zQ, (EQ g_84556)) : PIT) PX pa) (k := 0) (j := 0) (by decide) ef_84560 (okE_o (okFs_c okV_r (okFs_c okV_r (okFs_c okV_r (okFs_c okV_r (okFs_c (okV_p (lim_mk (bn_w (bn_eq ex_84559 (bn_add B_84551 (show bn 1 1 (1 : Int32) from bn_k (by decide)) (by decide))) (by decide) : bn 0 300 x_84559) (la_add ex_84559 tt_84550 (show (1 : Int32).toInt = 1 from rfl) B_84551 (show bn 1 1 (1 : Int32) from bn_k (by decide)) (by decide)))) (okFs_c (okV_p bfe_5) (okFs_c (okV_p bfe_6) (okFs_c (okV_i bfe_7) (okFs_c (okV_i bfe_8) (okFs_c (okV_i (bn_any _)) (okFs_c (okV_i (bn_any _)) (okFs_c okV_l (okFs_c (okV_i bfe_12) (okFs_c (okV_i bfe_13) (okFs_c (okV_i (bn_any _)) (okFs_c okV_r (okFs_c okV_r (okFs_c (okV_i bfe_17) (okFs_c (okV_i bfe_18) (okFs_c (okV_i bfe_19) (okFs_c (okV_i bfe_20) (okFs_c (okV_i (bn_any _)) (okFs_c okV_r (okFs_c okV_r (okFs_c okV_r (okFs_c (okV_i bfe_25) (okFs_c okV_r (okFs_c okV_r (okFs_c okV_r (okFs_c okV_r (okFs_c (okV_i (bn_any _)) (okFs_c okV_r okFs_n))))))))))))))))))))))))))))))))) pVC
  refine lv_iinc (v := 16) (lv' := [(2, .int 16), (0, .ref (ad 0 0)), (1, .int i1)]) hx hb dX12_four_33 hl (k := 0) rfl (by decide) (by decide) rfl (fun ls hl => ?_)
  refine lv_goto (tgt := 3) hx hb dX12_four_36 (by decide) ?_
  refine lv_iload_n hx hb dX12_four_3 rfl (lv_at hl 0 rfl) ?_
  refine lv_if_lt (tgt := 39) hx hb dX12_four_4 (by decide) (fun h => absurd h (by decide)) (fun _ => ?_)
  refine lv_aload_n hx hb dX12_four_7 rfl (lv_at hl 1 rfl) ?_
  refine pg_get S Y ok_X12 3 (by decide) kf12_19 (v := .ref (ad 4 0)) p_ad_0_0 rfl dX12_four_8 ?_
  refine lv_aload_n hx hb dX12_four_11 rfl (lv_at hl 1 rfl) ?_
  refine pg_get S Y ok_X12 4 (by decide) kf12_81 (v := .int x_84559) p_ad_0_0 rfl dX12_four_12 ?_
  refine lv_iload_n hx hb dX12_four_15 rfl (lv_at hl 2 rfl) ?_
  refine lv_iload_n hx hb dX12_four_16 rfl (lv_at hl 0 rfl) ?_
  refine lv_ishr hx hb dX12_four_17 ?_
  refine lv_topi (fun x_84561 ex_84561 => ?_)
  refine lv_sipush (v := 255) hx hb dX12_four_18 (by decide) ?_
  refine lv_iand hx hb dX12_four_21 ?_
  refine lv_topi (fun x_84562 ex_84562 => ?_)
  refine pg_iast S Y p_ad_4_0 (vp_bn (bn_eq ex_84559 (bn_add B_84551 (show bn 1 1 (1 : Int32) from bn_k (by decide)) (by decide))) (by decide)) dX12_four_22 (fun f_84564 H locs ef_84564 Y => ?_)
  obtain ⟨g_84563, eg_84563⟩ : ∃ z, z = upd (g_84556) (x_84559 : Int32).toNatClampNeg x_84562 := ⟨_, rfl⟩
  rw [← eg_84563] at ef_84564
  have p_ad_0_0 := p_ad_0_0.up ef_84564 (I.ne (k := 0) (j := 0) (k' := 4) (j' := 0) (by decide) (by decide) (Or.inl (by decide)))
  have p_ad_4_0 := p_ad_4_0.me ef_84564
  have o_84565 : EQ g_84563 g_84563 := rfl
  have I := I.upS (sp' := spM PA ((gp2, (pp (nL + 1)), zF, zQ, (EQ g_84563)) : PIT) PX pa) (k := 4) (j := 0) (by decide) ef_84564 (okE_a (g := g_84563) o_84565) pTC
  refine lv_aload_n hx hb dX12_four_23 rfl (lv_at hl 1 rfl) ?_
  refine lv_dup hx hb dX12_four_24 rfl ?_
  refine pg_get S Y ok_X12 4 (by decide) kf12_81 (v := .int x_84559) p_ad_0_0 rfl dX12_four_25 ?_
  refine lv_iconst (v := 1) hx hb dX12_four_28 (by decide) ?_
  refine lv_iadd hx hb dX12_four_29 ?_
  refine lv_topi (fun x_84566 ex_84566 => ?_)
  refine pg_put S Y ok_X12 4 (by decide) kf12_81 rfl (fs' := [.ref (ad 1 0), .ref (ad 2 0), .ref (ad 3 0), .ref (ad 4 0), .int x_84566, .int fa, .int fp, .int at9, .int ps9, .int tk, .int nu, .long wd, .int t0, .int wr, .int so, .ref (ad 5 0), .ref (ad 6 0), .int pd, .int op9, .int cg, .int iw, .int on9, .ref (ad 7 0), .ref (ad 8 0), .ref (ad 9 0), .int is9, .ref (ad 10 0), .ref (ad 11 0), .ref (ad 12 0), .ref (ad 13 0), .int se, .ref (ad 14 0)]) (v := .int x_84566) p_ad_0_0 rfl rfl rfl (Nat.le_of_ble_eq_true rfl) dX12_four_30 (fun f_84567 H locs ef_84567 Y => ?_)
  have p_ad_4_0 := p_ad_4_0.up ef_84567 (I.ne (k := 4) (j := 0) (k' := 0) (j' := 0) (by decide) (by decide) (Or.inl (by decide)))
  have p_ad_0_0 := p_ad_0_0.me ef_84567
  have I := I.upS (sp' := spM PA ((gp2, (pp ((nL + 1) + 1)), zF, zQ, (EQ g_84563)) : PIT) PX pa) (k := 0) (j := 0) (by decide) ef_84567 (okE_o (okFs_c okV_r (okFs_c okV_r (okFs_c okV_r (okFs_c okV_r (okFs_c (okV_p (lim_mk (bn_w (bn_eq ex_84566 (bn_add (bn_eq ex_84559 (bn_add B_84551 (show bn 1 1 (1 : Int32) from bn_k (by decide)) (by decide))) (show bn 1 1 (1 : Int32) from bn_k (by decide)) (by decide))) (by decide) : bn 0 300 x_84566) (la_add ex_84566 (la_add ex_84559 tt_84550 (show (1 : Int32).toInt = 1 from rfl) B_84551 (show bn 1 1 (1 : Int32) from bn_k (by decide)) (by decide)) (show (1 : Int32).toInt = 1 from rfl) (bn_eq ex_84559 (bn_add B_84551 (show bn 1 1 (1 : Int32) from bn_k (by decide)) (by decide))) (show bn 1 1 (1 : Int32) from bn_k (by decide)) (by decide)))) (okFs_c (okV_p bfe_5) (okFs_c (okV_p bfe_6) (okFs_c (okV_i bfe_7) (okFs_c (okV_i bfe_8) (okFs_c (okV_i (bn_any _)) (okFs_c (okV_i (bn_any _)) (okFs_c okV_l (okFs_c (okV_i bfe_12) (okFs_c (okV_i bfe_13) (okFs_c (okV_i (bn_any _)) (okFs_c okV_r (okFs_c okV_r (okFs_c (okV_i bfe_17) (okFs_c (okV_i bfe_18) (okFs_c (okV_i bfe_19) (okFs_c (okV_i bfe_20) (okFs_c (okV_i (bn_any _)) (okFs_c okV_r (okFs_c okV_r (okFs_c okV_r (okFs_c (okV_i bfe_25) (okFs_c okV_r (okFs_c okV_r (okFs_c okV_r (okFs_c okV_r (okFs_c (okV_i (bn_any _)) (okFs_c okV_r okFs_n))))))))))))))))))))))))))))))))) pVC
  refine lv_iinc (v := 8) (lv' := [(2, .int 8), (0, .ref (ad 0 0)), (1, .int i1)]) hx hb dX12_four_33 hl (k := 0) rfl (by decide) (by decide) rfl (fun ls hl => ?_)
  refine lv_goto (tgt := 3) hx hb dX12_four_36 (by decide) ?_
  refine lv_iload_n hx hb dX12_four_3 rfl (lv_at hl 0 rfl) ?_
  refine lv_if_lt (tgt := 39) hx hb dX12_four_4 (by decide) (fun h => absurd h (by decide)) (fun _ => ?_)
  refine lv_aload_n hx hb dX12_four_7 rfl (lv_at hl 1 rfl) ?_
  refine pg_get S Y ok_X12 3 (by decide) kf12_19 (v := .ref (ad 4 0)) p_ad_0_0 rfl dX12_four_8 ?_
  refine lv_aload_n hx hb dX12_four_11 rfl (lv_at hl 1 rfl) ?_
  refine pg_get S Y ok_X12 4 (by decide) kf12_81 (v := .int x_84566) p_ad_0_0 rfl dX12_four_12 ?_
  refine lv_iload_n hx hb dX12_four_15 rfl (lv_at hl 2 rfl) ?_
  refine lv_iload_n hx hb dX12_four_16 rfl (lv_at hl 0 rfl) ?_
  refine lv_ishr hx hb dX12_four_17 ?_
  refine lv_topi (fun x_84568 ex_84568 => ?_)
  refine lv_sipush (v := 255) hx hb dX12_four_18 (by decide) ?_
  refine lv_iand hx hb dX12_four_21 ?_
  refine lv_topi (fun x_84569 ex_84569 => ?_)
  refine pg_iast S Y p_ad_4_0 (vp_bn (bn_eq ex_84566 (bn_add (bn_eq ex_84559 (bn_add B_84551 (show bn 1 1 (1 : Int32) from bn_k (by decide)) (by decide))) (show bn 1 1 (1 : Int32) from bn_k (by decide)) (by decide))) (by decide)) dX12_four_22 (fun f_84571 H locs ef_84571 Y => ?_)
  obtain ⟨g_84570, eg_84570⟩ : ∃ z, z = upd (g_84563) (x_84566 : Int32).toNatClampNeg x_84569 := ⟨_, rfl⟩
  rw [← eg_84570] at ef_84571
  have p_ad_0_0 := p_ad_0_0.up ef_84571 (I.ne (k := 0) (j := 0) (k' := 4) (j' := 0) (by decide) (by decide) (Or.inl (by decide)))
  have p_ad_4_0 := p_ad_4_0.me ef_84571
  have o_84572 : EQ g_84570 g_84570 := rfl
  have I := I.upS (sp' := spM PA ((gp2, (pp ((nL + 1) + 1)), zF, zQ, (EQ g_84570)) : PIT) PX pa) (k := 4) (j := 0) (by decide) ef_84571 (okE_a (g := g_84570) o_84572) pTC
  refine lv_aload_n hx hb dX12_four_23 rfl (lv_at hl 1 rfl) ?_
  refine lv_dup hx hb dX12_four_24 rfl ?_
  refine pg_get S Y ok_X12 4 (by decide) kf12_81 (v := .int x_84566) p_ad_0_0 rfl dX12_four_25 ?_
  refine lv_iconst (v := 1) hx hb dX12_four_28 (by decide) ?_
  refine lv_iadd hx hb dX12_four_29 ?_
  refine lv_topi (fun x_84573 ex_84573 => ?_)
  refine pg_put S Y ok_X12 4 (by decide) kf12_81 rfl (fs' := [.ref (ad 1 0), .ref (ad 2 0), .ref (ad 3 0), .ref (ad 4 0), .int x_84573, .int fa, .int fp, .int at9, .int ps9, .int tk, .int nu, .long wd, .int t0, .int wr, .int so, .ref (ad 5 0), .ref (ad 6 0), .int pd, .int op9, .int cg, .int iw, .int on9, .ref (ad 7 0), .ref (ad 8 0), .ref (ad 9 0), .int is9, .ref (ad 10 0), .ref (ad 11 0), .ref (ad 12 0), .ref (ad 13 0), .int se, .ref (ad 14 0)]) (v := .int x_84573) p_ad_0_0 rfl rfl rfl (Nat.le_of_ble_eq_true rfl) dX12_four_30 (fun f_84574 H locs ef_84574 Y => ?_)
  have p_ad_4_0 := p_ad_4_0.up ef_84574 (I.ne (k := 4) (j := 0) (k' := 0) (j' := 0) (by decide) (by decide) (Or.inl (by decide)))
  have p_ad_0_0 := p_ad_0_0.me ef_84574
  have I := I.upS (sp' := spM PA ((gp2, (pp (((nL + 1) + 1) + 1)), zF, zQ, (EQ g_84570)) : PIT) PX pa) (k := 0) (j := 0) (by decide) ef_84574 (okE_o (okFs_c okV_r (okFs_c okV_r (okFs_c okV_r (okFs_c okV_r (okFs_c (okV_p (lim_mk (bn_w (bn_eq ex_84573 (bn_add (bn_eq ex_84566 (bn_add (bn_eq ex_84559 (bn_add B_84551 (show bn 1 1 (1 : Int32) from bn_k (by decide)) (by decide))) (show bn 1 1 (1 : Int32) from bn_k (by decide)) (by decide))) (show bn 1 1 (1 : Int32) from bn_k (by decide)) (by decide))) (by decide) : bn 0 300 x_84573) (la_add ex_84573 (la_add ex_84566 (la_add ex_84559 tt_84550 (show (1 : Int32).toInt = 1 from rfl) B_84551 (show bn 1 1 (1 : Int32) from bn_k (by decide)) (by decide)) (show (1 : Int32).toInt = 1 from rfl) (bn_eq ex_84559 (bn_add B_84551 (show bn 1 1 (1 : Int32) from bn_k (by decide)) (by decide))) (show bn 1 1 (1 : Int32) from bn_k (by decide)) (by decide)) (show (1 : Int32).toInt = 1 from rfl) (bn_eq ex_84566 (bn_add (bn_eq ex_84559 (bn_add B_84551 (show bn 1 1 (1 : Int32) from bn_k (by decide)) (by decide))) (show bn 1 1 (1 : Int32) from bn_k (by decide)) (by decide))) (show bn 1 1 (1 : Int32) from bn_k (by decide)) (by decide)))) (okFs_c (okV_p bfe_5) (okFs_c (okV_p bfe_6) (okFs_c (okV_i bfe_7) (okFs_c (okV_i bfe_8) (okFs_c (okV_i (bn_any _)) (okFs_c (okV_i (bn_any _)) (okFs_c okV_l (okFs_c (okV_i bfe_12) (okFs_c (okV_i bfe_13) (okFs_c (okV_i (bn_any _)) (okFs_c okV_r (okFs_c okV_r (okFs_c (okV_i bfe_17) (okFs_c (okV_i bfe_18) (okFs_c (okV_i bfe_19) (okFs_c (okV_i bfe_20) (okFs_c (okV_i (bn_any _)) (okFs_c okV_r (okFs_c okV_r (okFs_c okV_r (okFs_c (okV_i bfe_25) (okFs_c okV_r (okFs_c okV_r (okFs_c okV_r (okFs_c okV_r (okFs_c (okV_i (bn_any _)) (okFs_c okV_r okFs_n))))))))))))))))))))))))))))))))) pVC
  refine lv_iinc (v := 0) (lv' := [(2, .int 0), (0, .ref (ad 0 0)), (1, .int i1)]) hx hb dX12_four_33 hl (k := 0) rfl (by decide) (by decide) rfl (fun ls hl => ?_)
  refine lv_goto (tgt := 3) hx hb dX12_four_36 (by decide) ?_
  refine lv_iload_n hx hb dX12_four_3 rfl (lv_at hl 0 rfl) ?_
  refine lv_if_lt (tgt := 39) hx hb dX12_four_4 (by decide) (fun h => absurd h (by decide)) (fun _ => ?_)
  refine lv_aload_n hx hb dX12_four_7 rfl (lv_at hl 1 rfl) ?_
  refine pg_get S Y ok_X12 3 (by decide) kf12_19 (v := .ref (ad 4 0)) p_ad_0_0 rfl dX12_four_8 ?_
  refine lv_aload_n hx hb dX12_four_11 rfl (lv_at hl 1 rfl) ?_
  refine pg_get S Y ok_X12 4 (by decide) kf12_81 (v := .int x_84573) p_ad_0_0 rfl dX12_four_12 ?_
  refine lv_iload_n hx hb dX12_four_15 rfl (lv_at hl 2 rfl) ?_
  refine lv_iload_n hx hb dX12_four_16 rfl (lv_at hl 0 rfl) ?_
  refine lv_ishr hx hb dX12_four_17 ?_
  refine lv_topi (fun x_84575 ex_84575 => ?_)
  refine lv_sipush (v := 255) hx hb dX12_four_18 (by decide) ?_
  refine lv_iand hx hb dX12_four_21 ?_
  refine lv_topi (fun x_84576 ex_84576 => ?_)
  refine pg_iast S Y p_ad_4_0 (vp_bn (bn_eq ex_84573 (bn_add (bn_eq ex_84566 (bn_add (bn_eq ex_84559 (bn_add B_84551 (show bn 1 1 (1 : Int32) from bn_k (by decide)) (by decide))) (show bn 1 1 (1 : Int32) from bn_k (by decide)) (by decide))) (show bn 1 1 (1 : Int32) from bn_k (by decide)) (by decide))) (by decide)) dX12_four_22 (fun f_84578 H locs ef_84578 Y => ?_)
  obtain ⟨g_84577, eg_84577⟩ : ∃ z, z = upd (g_84570) (x_84573 : Int32).toNatClampNeg x_84576 := ⟨_, rfl⟩
  rw [← eg_84577] at ef_84578
  have p_ad_0_0 := p_ad_0_0.up ef_84578 (I.ne (k := 0) (j := 0) (k' := 4) (j' := 0) (by decide) (by decide) (Or.inl (by decide)))
  have p_ad_4_0 := p_ad_4_0.me ef_84578
  have o_84579 : EQ g_84577 g_84577 := rfl
  have I := I.upS (sp' := spM PA ((gp2, (pp (((nL + 1) + 1) + 1)), zF, zQ, (EQ g_84577)) : PIT) PX pa) (k := 4) (j := 0) (by decide) ef_84578 (okE_a (g := g_84577) o_84579) pTC
  refine lv_aload_n hx hb dX12_four_23 rfl (lv_at hl 1 rfl) ?_
  refine lv_dup hx hb dX12_four_24 rfl ?_
  refine pg_get S Y ok_X12 4 (by decide) kf12_81 (v := .int x_84573) p_ad_0_0 rfl dX12_four_25 ?_
  refine lv_iconst (v := 1) hx hb dX12_four_28 (by decide) ?_
  refine lv_iadd hx hb dX12_four_29 ?_
  refine lv_topi (fun x_84580 ex_84580 => ?_)
  have B_84581 : bn 4 300 x_84580 := bn_w (bn_eq ex_84580 (bn_add (bn_eq ex_84573 (bn_add (bn_eq ex_84566 (bn_add (bn_eq ex_84559 (bn_add B_84551 (show bn 1 1 (1 : Int32) from bn_k (by decide)) (by decide))) (show bn 1 1 (1 : Int32) from bn_k (by decide)) (by decide))) (show bn 1 1 (1 : Int32) from bn_k (by decide)) (by decide))) (show bn 1 1 (1 : Int32) from bn_k (by decide)) (by decide))) (by decide)
  refine pg_put S Y ok_X12 4 (by decide) kf12_81 rfl (fs' := [.ref (ad 1 0), .ref (ad 2 0), .ref (ad 3 0), .ref (ad 4 0), .int x_84580, .int fa, .int fp, .int at9, .int ps9, .int tk, .int nu, .long wd, .int t0, .int wr, .int so, .ref (ad 5 0), .ref (ad 6 0), .int pd, .int op9, .int cg, .int iw, .int on9, .ref (ad 7 0), .ref (ad 8 0), .ref (ad 9 0), .int is9, .ref (ad 10 0), .ref (ad 11 0), .ref (ad 12 0), .ref (ad 13 0), .int se, .ref (ad 14 0)]) (v := .int x_84580) p_ad_0_0 rfl rfl rfl (Nat.le_of_ble_eq_true rfl) dX12_four_30 (fun f_84582 H locs ef_84582 Y => ?_)
  have p_ad_4_0 := p_ad_4_0.up ef_84582 (I.ne (k := 4) (j := 0) (k' := 0) (j' := 0) (by decide) (by decide) (Or.inl (by decide)))
  have p_ad_0_0 := p_ad_0_0.me ef_84582
  have I := I.upS (sp' := spM PA ((gp2, (pp ((((nL + 1) + 1) + 1) + 1)), zF, zQ, (EQ g_84577)) : PIT) PX pa) (k := 0) (j := 0) (by decide) ef_84582 (okE_o (okFs_c okV_r (okFs_c okV_r (okFs_c okV_r (okFs_c okV_r (okFs_c (okV_p (lim_mk (bn_w B_84581 (by decide) : bn 0 300 x_84580) (la_add ex_84580 (la_add ex_84573 (la_add ex_84566 (la_add ex_84559 tt_84550 (show (1 : Int32).toInt = 1 from rfl) B_84551 (show bn 1 1 (1 : Int32) from bn_k (by decide)) (by decide)) (show (1 : Int32).toInt = 1 from rfl) (bn_eq ex_84559 (bn_add B_84551 (show bn 1 1 (1 : Int32) from bn_k (by decide)) (by decide))) (show bn 1 1 (1 : Int32) from bn_k (by decide)) (by decide)) (show (1 : Int32).toInt = 1 from rfl) (bn_eq ex_84566 (bn_add (bn_eq ex_84559 (bn_add B_84551 (show bn 1 1 (1 : Int32) from bn_k (by decide)) (by decide))) (show bn 1 1 (1 : Int32) from bn_k (by decide)) (by decide))) (show bn 1 1 (1 : Int32) from bn_k (by decide)) (by decide)) (show (1 : Int32).toInt = 1 from rfl) (bn_eq ex_84573 (bn_add (bn_eq ex_84566 (bn_add (bn_eq ex_84559 (bn_add B_84551 (show bn 1 1 (1 : Int32) from bn_k (by decide)) (by decide))) (show bn 1 1 (1 : Int32) from bn_k (by decide)) (by decide))) (show bn 1 1 (1 : Int32) from bn_k (by decide)) (by decide))) (show bn 1 1 (1 : Int32) from bn_k (by decide)) (by decide)))) (okFs_c (okV_p bfe_5) (okFs_c (okV_p bfe_6) (okFs_c (okV_i bfe_7) (okFs_c (okV_i bfe_8) (okFs_c (okV_i (bn_any _)) (okFs_c (okV_i (bn_any _)) (okFs_c okV_l (okFs_c (okV_i bfe_12) (okFs_c (okV_i bfe_13) (okFs_c (okV_i (bn_any _)) (okFs_c okV_r (okFs_c okV_r (okFs_c (okV_i bfe_17) (okFs_c (okV_i bfe_18) (okFs_c (okV_i bfe_19) (okFs_c (okV_i bfe_20) (okFs_c (okV_i (bn_any _)) (okFs_c okV_r (okFs_c okV_r (okFs_c okV_r (okFs_c (okV_i bfe_25) (okFs_c okV_r (okFs_c okV_r (okFs_c okV_r (okFs_c okV_r (okFs_c (okV_i (bn_any _)) (okFs_c okV_r okFs_n))))))))))))))))))))))))))))))))) pVC
  refine lv_iinc (v := (-8)) (lv' := [(2, .int (-8)), (0, .ref (ad 0 0)), (1, .int i1)]) hx hb dX12_four_33 hl (k := 0) rfl (by decide) (by decide) rfl (fun ls hl => ?_)
  refine lv_goto (tgt := 3) hx hb dX12_four_36 (by decide) ?_
  refine lv_iload_n hx hb dX12_four_3 rfl (lv_at hl 0 rfl) ?_
  refine lv_if_lt (tgt := 39) hx hb dX12_four_4 (by decide) (fun _ => ?_) (fun h => absurd (by decide) h)
  exact prV (post := fun L1 f1 => ∃ td2 : Int32, SH (spM PA ((gp2, (pp (nL + 4)), zF, zQ, (EQ (ap4 bT nL.toNat i1))) : PIT) PX pa) nnM G ad L1 f1 ∧ pt L1 f1 (ad 0 0) (.inr (12, [.ref (ad 1 0), .ref (ad 2 0), .ref (ad 3 0), .ref (ad 4 0), .int td2, .int fa, .int fp, .int at9, .int ps9, .int tk, .int nu, .long wd, .int t0, .int wr, .int so, .ref (ad 5 0), .ref (ad 6 0), .int pd, .int op9, .int cg, .int iw, .int on9, .ref (ad 7 0), .ref (ad 8 0), .ref (ad 9 0), .int is9, .ref (ad 10 0), .ref (ad 11 0), .ref (ad 12 0), .ref (ad 13 0), .int se, .ref (ad 14 0)]))) S Y (by decide) (by decide) hA1 ⟨x_84580, (SHe I (by rw [show nL + 1 + 1 + 1 + 1 = nL + 4 from by omega, show g_84577 = ap4 bT nL.toNat i1 from (by rw [eg_84577, eg_84570, eg_84563, eg_84556, show g_84554 = bT from o_84555, show (td : Int32).toNatClampNeg = nL.toNat from (by have z9 := tt_84550; have z8 := hr.1; show td.toInt.toNat = _; omega), show (x_84559 : Int32).toNatClampNeg = nL.toNat + 1 from (by have z9 := (la_add ex_84559 tt_84550 (show (1 : Int32).toInt = 1 from rfl) B_84551 (show bn 1 1 (1 : Int32) from bn_k (by decide)) (by decide)); have z8 := hr.1; show x_84559.toInt.toNat = _; omega), show (x_84566 : Int32).toNatClampNeg = nL.toNat + 2 from (by have z9 := (la_add ex_84566 (la_add ex_84559 tt_84550 (show (1 : Int32).toInt = 1 from rfl) B_84551 (show bn 1 1 (1 : Int32) from bn_k (by decide)) (by decide)) (show (1 : Int32).toInt = 1 from rfl) (bn_eq ex_84559 (bn_add B_84551 (show bn 1 1 (1 : Int32) from bn_k (by decide)) (by decide))) (show bn 1 1 (1 : Int32) from bn_k (by decide)) (by decide)); have z8 := hr.1; show x_84566.toInt.toNat = _; omega), show (x_84573 : Int32).toNatClampNeg = nL.toNat + 3 from (by have z9 := (la_add ex_84573 (la_add ex_84566 (la_add ex_84559 tt_84550 (show (1 : Int32).toInt = 1 from rfl) B_84551 (show bn 1 1 (1 : Int32) from bn_k (by decide)) (by decide)) (show (1 : Int32).toInt = 1 from rfl) (bn_eq ex_84559 (bn_add B_84551 (show bn 1 1 (1 : Int32) from bn_k (by decide)) (by decide))) (show bn 1 1 (1 : Int32) from bn_k (by decide)) (by decide)) (show (1 : Int32).toInt = 1 from rfl) (bn_eq ex_84566 (bn_add (bn_eq ex_84559 (bn_add B_84551 (show bn 1 1 (1 : Int32) from bn_k (by decide)) (by decide))) (show bn 1 1 (1 : Int32) from bn_k (by decide)) (by decide))) (show bn 1 1 (1 : Int32) from bn_k (by decide)) (by decide)); have z8 := hr.1; show x_84573.toInt.toNat = _; omega), by_24 ex_84552 ex_84553, by_16 ex_84561 ex_84562, by_8 ex_84568 ex_84569, by_0 ex_84575 ex_84576]; rfl)])), p_ad_0_0⟩ dX12_four_39
set_option maxHeartbeats 4000000 in
set_option maxRecDepth 100000 in
theorem x_X12_feed {l : Launch} {G : GG}  {L : List Nat} {f : HF} {ad : Nat → Nat → Nat} {w : WW} {gp2 : (Nat → Int32) → Prop} {zF : Int × Int} {zQ : Int × Int} {nL : Int} {bT : Nat → Int32} {g0 : Nat → Int32} {i1 i2 i3 i4 i5 : Int32} (I : SH (spM (IA 0 0 14 9999 w) ((gp2, (pp nL), zF, zQ, (EQ bT)) : PIT) (EQ g0) LDa) nnM G ad L f) (hB : BBp 0 0 14 9999 w) (hX : TX g0) (hL : 0 ≤ nL ∧ nL ≤ 300) : PMi l yX12_feed cX12_feed 6 .int 1 0 0 G [.ref (ad 0 0), .int i1, .int i2, .int i3, .int i4, .int i5] L f (fun r L1 f1 => (r.toInt = if nL + 20 ≤ 300 then nL + 20 else -1) ∧ SH (spM (IA 0 0 14 9999 w) ((gp2, (pp (feN nL)), zF, zQ, (EQ (feB bT nL i1 i2 i3 i4 i5))) : PIT) (EQ g0) LDa) nnM G ad L1 f1) := by
  refine PMi.of (post := fun r L1 f1 => (r.toInt = if nL + 20 ≤ 300 then nL + 20 else -1) ∧ SH (spM (IA 0 0 14 9999 w) ((gp2, (pp (feN nL)), zF, zQ, (EQ (feB bT nL i1 i2 i3 i4 i5))) : PIT) (EQ g0) LDa) nnM G ad L1 f1) (own := RX12) (by decide) rfl (Nat.le_of_ble_eq_true rfl) (fun sz p e s m args below meth c A ls hA1 hname S Y hl => ?_)
  have hx := S.hx
  have hb := S.hb
  have hl : lv_has ls 6 [(0, .ref (ad 0 0)), (1, .int i1), (2, .int i2), (3, .int i3), (4, .int i4), (5, .int i5)] := hl
  refine lv_aload_n hx hb dX12_feed_0 rfl (lv_at hl 0 rfl) ?_
  obtain ⟨v_84733, v_84735, v_84737, v_84739, v_84741, v_84743, v_84745, v_84747, v_84748, v_84750, v_84752, v_84754, v_84756, v_84758, v_84760, v_84762, v_84764, v_84766, p_ad_0_0, b_84734, b_84736, b_84738, b_84740, b_84742, b_84744, b_84746, b_84749, b_84751, b_84753, b_84755, b_84757, b_84759, b_84761, b_84763, b_84765, b_84767⟩ := opnM_0 (j := 0) I (by decide)
  have p_ad_0_0 : pt L f (ad 0 0) (.inr (12, [.ref (ad 1 0), .ref (ad 2 0), .ref (ad 3 0), .ref (ad 4 0), .int v_84733, .int v_84735, .int v_84737, .int v_84739, .int v_84741, .int v_84743, .int v_84745, .long v_84747, .int v_84748, .int v_84750, .int v_84752, .ref (ad 5 0), .ref (ad 6 0), .int v_84754, .int v_84756, .int v_84758, .int v_84760, .int v_84762, .ref (ad 7 0), .ref (ad 8 0), .ref (ad 9 0), .int v_84764, .ref (ad 10 0), .ref (ad 11 0), .ref (ad 12 0), .ref (ad 13 0), .int v_84766, .ref (ad 14 0)])) := p_ad_0_0
  have tt_84768 : v_84733.toInt = nL := lim_eq b_84734
  refine pg_get S Y ok_X12 4 (by decide) kf12_81 (v := .int v_84733) p_ad_0_0 rfl dX12_feed_1 ?_
  refine lv_bipush (v := 20) hx hb dX12_feed_4 (by decide) ?_
  refine lv_iadd hx hb dX12_feed_6 ?_
  refine lv_topi (fun x_84769 ex_84769 => ?_)
  refine lv_sipush (v := 300) hx hb dX12_feed_7 (by decide) ?_
  refine lv_icmp_le (tgt := 15) hx hb dX12_feed_10 (by decide) (fun c_84770 => ?_) (fun c_84770 => ?_)
  · have B_84771 : bn 20 300 x_84769 := bn_w (bn_lel c_84770 (bn_eq ex_84769 (bn_add (bn_w (a' := 0) (b' := 300) b_84734 (lim_b _ _ _)) (show bn 20 20 (20 : Int32) from bn_k (by decide)) (by decide))) (show bn 300 300 (300 : Int32) from bn_k (by decide))) (by decide)
    have hroom := (show nL + 20 ≤ 300 from by have k9 := (show _ from by have z9 := c_84770; rw [Int32.le_iff_toInt_le] at z9; exact z9); have k8 := (la_add ex_84769 tt_84768 (show (20 : Int32).toInt = 20 from rfl) (bn_w (a' := 0) (b' := 300) b_84734 (lim_b _ _ _)) (show bn 20 20 (20 : Int32) from bn_k (by decide)) (by decide)); have k7 : (300 : Int32).toInt = 300 := rfl; omega)
    refine lv_aload_n hx hb dX12_feed_15 rfl (lv_at hl 0 rfl) ?_
    refine lv_iload_n hx hb dX12_feed_16 rfl (lv_at hl 1 rfl) ?_
    refine cVv (As := [.int i1]) (rest := []) S Y (x_X12_four (l := l) I p_ad_0_0 (by have h9 := hroom; have h8 := hL.1; omega)) cw_X12_four km12_84 p_ad_0_0 ok_X12.1 rfl rfl ⟨Nat.le_of_ble_eq_true rfl, Nat.le_of_ble_eq_true rfl⟩ hl.1 rfl (Nat.le_of_ble_eq_true rfl) ⟨Nat.le_of_ble_eq_true rfl, Nat.le_of_ble_eq_true rfl⟩ dX12_feed_17 (fun L_84773 f_84774 H locs hr_84775 Y => ?_)
    obtain ⟨v_84776, I, p_ad_0_0⟩ := hr_84775
    obtain ⟨bfc84776_4, bfc84776_5, bfc84776_6, bfc84776_7, bfc84776_8, bfc84776_12, bfc84776_13, bfc84776_17, bfc84776_18, bfc84776_19, bfc84776_20, bfc84776_25⟩ := obM I p_ad_0_0
    have tt_84778 : v_84776.toInt = (nL + 4) := lim_eq bfc84776_4
    have B_84779 : bn 0 300 v_84776 := ⟨by have h9 := tt_84778; have h8 := hL.1; omega, by have h9 := tt_84778; have h8 := hroom; omega⟩
    refine lv_aload_n hx hb dX12_feed_20 rfl (lv_at hl 0 rfl) ?_
    refine lv_iload_n hx hb dX12_feed_21 rfl (lv_at hl 2 rfl) ?_
    refine cVv (As := [.int i2]) (rest := []) S Y (x_X12_four (l := l) I p_ad_0_0 (by have h9 := hroom; have h8 := hL.1; omega)) cw_X12_four km12_84 p_ad_0_0 ok_X12.1 rfl rfl ⟨Nat.le_of_ble_eq_true rfl, Nat.le_of_ble_eq_true rfl⟩ hl.1 rfl (Nat.le_of_ble_eq_true rfl) ⟨Nat.le_of_ble_eq_true rfl, Nat.le_of_ble_eq_true rfl⟩ dX12_feed_22 (fun L_84780 f_84781 H locs hr_84782 Y => ?_)
    obtain ⟨v_84783, I, p_ad_0_0⟩ := hr_84782
    obtain ⟨bfc84783_4, bfc84783_5, bfc84783_6, bfc84783_7, bfc84783_8, bfc84783_12, bfc84783_13, bfc84783_17, bfc84783_18, bfc84783_19, bfc84783_20, bfc84783_25⟩ := obM I p_ad_0_0
    have tt_84785 : v_84783.toInt = ((nL + 4) + 4) := lim_eq bfc84783_4
    have B_84786 : bn 0 300 v_84783 := ⟨by have h9 := tt_84785; have h8 := hL.1; omega, by have h9 := tt_84785; have h8 := hroom; omega⟩
    refine lv_aload_n hx hb dX12_feed_25 rfl (lv_at hl 0 rfl) ?_
    refine lv_iload_n hx hb dX12_feed_26 rfl (lv_at hl 3 rfl) ?_
    refine cVv (As := [.int i3]) (rest := []) S Y (x_X12_four (l := l) I p_ad_0_0 (by have h9 := hroom; have h8 := hL.1; omega)) cw_X12_four km12_84 p_ad_0_0 ok_X12.1 rfl rfl ⟨Nat.le_of_ble_eq_true rfl, Nat.le_of_ble_eq_true rfl⟩ hl.1 rfl (Nat.le_of_ble_eq_true rfl) ⟨Nat.le_of_ble_eq_true rfl, Nat.le_of_ble_eq_true rfl⟩ dX12_feed_27 (fun L_84787 f_84788 H locs hr_84789 Y => ?_)
    obtain ⟨v_84790, I, p_ad_0_0⟩ := hr_84789
    obtain ⟨bfc84790_4, bfc84790_5, bfc84790_6, bfc84790_7, bfc84790_8, bfc84790_12, bfc84790_13, bfc84790_17, bfc84790_18, bfc84790_19, bfc84790_20, bfc84790_25⟩ := obM I p_ad_0_0
    have tt_84792 : v_84790.toInt = (((nL + 4) + 4) + 4) := lim_eq bfc84790_4
    have B_84793 : bn 0 300 v_84790 := ⟨by have h9 := tt_84792; have h8 := hL.1; omega, by have h9 := tt_84792; have h8 := hroom; omega⟩
    refine lv_aload_n hx hb dX12_feed_30 rfl (lv_at hl 0 rfl) ?_
    refine lv_iload hx hb dX12_feed_31 (lv_at hl 4 rfl) ?_
    refine cVv (As := [.int i4]) (rest := []) S Y (x_X12_four (l := l) I p_ad_0_0 (by have h9 := hroom; have h8 := hL.1; omega)) cw_X12_four km12_84 p_ad_0_0 ok_X12.1 rfl rfl ⟨Nat.le_of_ble_eq_true rfl, Nat.le_of_ble_eq_true rfl⟩ hl.1 rfl (Nat.le_of_ble_eq_true rfl) ⟨Nat.le_of_ble_eq_true rfl, Nat.le_of_ble_eq_true rfl⟩ dX12_feed_33 (fun L_84794 f_84795 H locs hr_84796 Y => ?_)
    obtain ⟨v_84797, I, p_ad_0_0⟩ := hr_84796
    obtain ⟨bfc84797_4, bfc84797_5, bfc84797_6, bfc84797_7, bfc84797_8, bfc84797_12, bfc84797_13, bfc84797_17, bfc84797_18, bfc84797_19, bfc84797_20, bfc84797_25⟩ := obM I p_ad_0_0
    have tt_84799 : v_84797.toInt = ((((nL + 4) + 4) + 4) + 4) := lim_eq bfc84797_4
    have B_84800 : bn 0 300 v_84797 := ⟨by have h9 := tt_84799; have h8 := hL.1; omega, by have h9 := tt_84799; have h8 := hroom; omega⟩
    refine lv_aload_n hx hb dX12_feed_36 rfl (lv_at hl 0 rfl) ?_
    refine lv_iload hx hb dX12_feed_37 (lv_at hl 5 rfl) ?_
    refine cVv (As := [.int i5]) (rest := []) S Y (x_X12_four (l := l) I p_ad_0_0 (by have h9 := hroom; have h8 := hL.1; omega)) cw_X12_four km12_84 p_ad_0_0 ok_X12.1 rfl rfl ⟨Nat.le_of_ble_eq_true rfl, Nat.le_of_ble_eq_true rfl⟩ hl.1 rfl (Nat.le_of_ble_eq_true rfl) ⟨Nat.le_of_ble_eq_true rfl, Nat.le_of_ble_eq_true rfl⟩ dX12_feed_39 (fun L_84801 f_84802 H locs hr_84803 Y => ?_)
    obtain ⟨v_84804, I, p_ad_0_0⟩ := hr_84803
    obtain ⟨bfc84804_4, bfc84804_5, bfc84804_6, bfc84804_7, bfc84804_8, bfc84804_12, bfc84804_13, bfc84804_17, bfc84804_18, bfc84804_19, bfc84804_20, bfc84804_25⟩ := obM I p_ad_0_0
    have tt_84806 : v_84804.toInt = (((((nL + 4) + 4) + 4) + 4) + 4) := lim_eq bfc84804_4
    have B_84807 : bn 0 300 v_84804 := ⟨by have h9 := tt_84806; have h8 := hL.1; omega, by have h9 := tt_84806; have h8 := hroom; omega⟩
    refine lv_aload_n hx hb dX12_feed_42 rfl (lv_at hl 0 rfl) ?_
    refine pg_get S Y ok_X12 4 (by decide) kf12_81 (v := .int v_84804) p_ad_0_0 rfl dX12_feed_43 ?_
    exact prI (post := fun r L1 f1 => (r.toInt = if nL + 20 ≤ 300 then nL + 20 else -1) ∧ SH (spM (IA 0 0 14 9999 w) ((gp2, (pp (feN nL)), zF, zQ, (EQ (feB bT nL i1 i2 i3 i4 i5))) : PIT) (EQ g0) LDa) nnM G ad L1 f1) S Y rfl (by decide) (by decide) hA1 ⟨(by rw [if_pos hroom]; have h9 := tt_84806; omega), (SHe I (by rw [(fe_y (B := bT) (i1 := i1) (i2 := i2) (i3 := i3) (i4 := i4) (i5 := i5) hroom hL.1).1, (fe_y (B := bT) (i1 := i1) (i2 := i2) (i3 := i3) (i4 := i4) (i5 := i5) hroom hL.1).2]))⟩ dX12_feed_46
  · have B_84772 : bn 301 320 x_84769 := bn_w (bn_gtl c_84770 (bn_eq ex_84769 (bn_add (bn_w (a' := 0) (b' := 300) b_84734 (lim_b _ _ _)) (show bn 20 20 (20 : Int32) from bn_k (by decide)) (by decide))) (show bn 300 300 (300 : Int32) from bn_k (by decide))) (by decide)
    refine lv_iconst (v := (-1)) hx hb dX12_feed_13 (by decide) ?_
    exact prI (post := fun r L1 f1 => (r.toInt = if nL + 20 ≤ 300 then nL + 20 else -1) ∧ SH (spM (IA 0 0 14 9999 w) ((gp2, (pp (feN nL)), zF, zQ, (EQ (feB bT nL i1 i2 i3 i4 i5))) : PIT) (EQ g0) LDa) nnM G ad L1 f1) S Y rfl (by decide) (by decide) hA1 ⟨(show (-1 : Int32).toInt = _ from by rw [if_neg (show ¬ nL + 20 ≤ 300 from by have k9 := (show _ from by have z9 := (Int32.not_le.mp c_84770); rw [Int32.lt_iff_toInt_lt] at z9; exact z9); have k8 := (la_add ex_84769 tt_84768 (show (20 : Int32).toInt = 20 from rfl) (bn_w (a' := 0) (b' := 300) b_84734 (lim_b _ _ _)) (show bn 20 20 (20 : Int32) from bn_k (by decide)) (by decide)); have k7 : (300 : Int32).toInt = 300 := rfl; omega)]; rfl), (SHe I (by rw [(fe_n (B := bT) (i1 := i1) (i2 := i2) (i3 := i3) (i4 := i4) (i5 := i5) (show ¬ nL + 20 ≤ 300 from by have k9 := (show _ from by have z9 := (Int32.not_le.mp c_84770); rw [Int32.lt_iff_toInt_lt] at z9; exact z9); have k8 := (la_add ex_84769 tt_84768 (show (20 : Int32).toInt = 20 from rfl) (bn_w (a' := 0) (b' := 300) b_84734 (lim_b _ _ _)) (show bn 20 20 (20 : Int32) from bn_k (by decide)) (by decide)); have k7 : (300 : Int32).toInt = 300 := rfl; omega)).1, (fe_n (B := bT) (i1 := i1) (i2 := i2) (i3 := i3) (i4 := i4) (i5 := i5) (show ¬ nL + 20 ≤ 300 from by have k9 := (show _ from by have z9 := (Int32.not_le.mp c_84770); rw [Int32.lt_iff_toInt_lt] at z9; exact z9); have k8 := (la_add ex_84769 tt_84768 (show (20 : Int32).toInt = 20 from rfl) (bn_w (a' := 0) (b' := 300) b_84734 (lim_b _ _ _)) (show bn 20 20 (20 : Int32) from bn_k (by decide)) (by decide)); have k7 : (300 : Int32).toInt = 300 := rfl; omega)).2]))⟩ dX12_feed_14
set_option maxHeartbeats 4000000 in
set_option maxRecDepth 100000 in
theorem x_X12_end {l : Launch} {G : GG}  {L : List Nat} {f : HF} {ad : Nat → Nat → Nat} {w : WW} {gp2 : (Nat → Int32) → Prop} {zF : Int × Int} {zQ : Int × Int} {zT : (Nat → Int32) → Prop} {nL : Int} {g0 : Nat → Int32} {i1 : Int32} (I : SH (spM (IA 0 0 14 9999 w) ((gp2, (pp nL), zF, zQ, zT) : PIT) (EQ g0) LDa) nnM G ad L f) (hB : BBp 0 0 14 9999 w) (hX : TX g0) (hL : 0 ≤ nL ∧ nL ≤ 300) : PMi l yX12_end cX12_end 2 .int 1 0 0 G [.ref (ad 0 0), .int i1] L f (fun r L1 f1 => (r.toInt = if 0 ≤ i1.toInt ∧ i1.toInt ≤ nL then i1.toInt else -1) ∧ SH (spM (IA 0 0 14 9999 w) ((gp2, (pp (cuL nL i1.toInt)), zF, zQ, zT) : PIT) (EQ g0) LDa) nnM G ad L1 f1) := by
  refine PMi.of (post := fun r L1 f1 => (r.toInt = if 0 ≤ i1.toInt ∧ i1.toInt ≤ nL then i1.toInt else -1) ∧ SH (spM (IA 0 0 14 9999 w) ((gp2, (pp (cuL nL i1.toInt)), zF, zQ, zT) : PIT) (EQ g0) LDa) nnM G ad L1 f1) (own := RX12) (by decide) rfl (Nat.le_of_ble_eq_true rfl) (fun sz p e s m args below meth c A ls hA1 hname S Y hl => ?_)
  have hx := S.hx
  have hb := S.hb
  have hl : lv_has ls 2 [(0, .ref (ad 0 0)), (1, .int i1)] := hl
  refine lv_iload_n hx hb dX12_end_0 rfl (lv_at hl 1 rfl) ?_
  refine lv_iconst (v := 0) hx hb dX12_end_1 (by decide) ?_
  refine lv_aload_n hx hb dX12_end_2 rfl (lv_at hl 0 rfl) ?_
  obtain ⟨v_84890, v_84892, v_84894, v_84896, v_84898, v_84900, v_84902, v_84904, v_84905, v_84907, v_84909, v_84911, v_84913, v_84915, v_84917, v_84919, v_84921, v_84923, p_ad_0_0, b_84891, b_84893, b_84895, b_84897, b_84899, b_84901, b_84903, b_84906, b_84908, b_84910, b_84912, b_84914, b_84916, b_84918, b_84920, b_84922, b_84924⟩ := opnM_0 (j := 0) I (by decide)
  have p_ad_0_0 : pt L f (ad 0 0) (.inr (12, [.ref (ad 1 0), .ref (ad 2 0), .ref (ad 3 0), .ref (ad 4 0), .int v_84890, .int v_84892, .int v_84894, .int v_84896, .int v_84898, .int v_84900, .int v_84902, .long v_84904, .int v_84905, .int v_84907, .int v_84909, .ref (ad 5 0), .ref (ad 6 0), .int v_84911, .int v_84913, .int v_84915, .int v_84917, .int v_84919, .ref (ad 7 0), .ref (ad 8 0), .ref (ad 9 0), .int v_84921, .ref (ad 10 0), .ref (ad 11 0), .ref (ad 12 0), .ref (ad 13 0), .int v_84923, .ref (ad 14 0)])) := p_ad_0_0
  have tt_84925 : v_84890.toInt = nL := lim_eq b_84891
  refine pg_get S Y ok_X12 4 (by decide) kf12_81 (v := .int v_84890) p_ad_0_0 rfl dX12_end_3 ?_
  refine cSp (As := [.int i1, .int 0, .int v_84890]) (rest := []) S Y (x_X12_isInX (l := l) ) cw_X12_isIn km12_69 rfl ⟨Nat.le_of_ble_eq_true rfl, Nat.le_of_ble_eq_true rfl⟩ hl.1 rfl (Nat.le_of_ble_eq_true rfl) ⟨Nat.le_of_ble_eq_true rfl, Nat.le_of_ble_eq_true rfl⟩ dX12_end_6 (fun r_84926 H locs er_84926 Y => ?_)
  refine lv_if_ne (tgt := 14) hx hb dX12_end_9 (by decide) (fun c_84927 => ?_) (fun c_84927 => ?_)
  · refine lv_aload_n hx hb dX12_end_14 rfl (lv_at hl 0 rfl) ?_
    refine lv_iload_n hx hb dX12_end_15 rfl (lv_at hl 1 rfl) ?_
    have B_84929 : bn 0 300 i1 := ⟨(winM_t er_84926 c_84927).1, by have h9 := (winM_t er_84926 c_84927).2; have h8 := tt_84925; have h7 := hL.2; omega⟩
    refine pg_put S Y ok_X12 4 (by decide) kf12_81 rfl (fs' := [.ref (ad 1 0), .ref (ad 2 0), .ref (ad 3 0), .ref (ad 4 0), .int i1, .int v_84892, .int v_84894, .int v_84896, .int v_84898, .int v_84900, .int v_84902, .long v_84904, .int v_84905, .int v_84907, .int v_84909, .ref (ad 5 0), .ref (ad 6 0), .int v_84911, .int v_84913, .int v_84915, .int v_84917, .int v_84919, .ref (ad 7 0), .ref (ad 8 0), .ref (ad 9 0), .int v_84921, .ref (ad 10 0), .ref (ad 11 0), .ref (ad 12 0), .ref (ad 13 0), .int v_84923, .ref (ad 14 0)]) (v := .int i1) p_ad_0_0 rfl rfl rfl (Nat.le_of_ble_eq_true rfl) dX12_end_16 (fun f_84930 H locs ef_84930 Y => ?_)
    have p_ad_0_0 := p_ad_0_0.me ef_84930
    have I := I.upS (sp' := spM (IA 0 0 14 9999 w) ((gp2, (pp i1.toInt), zF, zQ, zT) : PIT) (EQ g0) LDa) (k := 0) (j := 0) (by decide) ef_84930 (okE_o (okFs_c okV_r (okFs_c okV_r (okFs_c okV_r (okFs_c okV_r (okFs_c (okV_p (lim_mk (bn_w B_84929 (by decide) : bn 0 300 i1) (rfl : i1.toInt = i1.toInt))) (okFs_c (okV_p b_84893) (okFs_c (okV_p b_84895) (okFs_c (okV_i b_84897) (okFs_c (okV_i b_84899) (okFs_c (okV_i b_84901) (okFs_c (okV_i b_84903) (okFs_c okV_l (okFs_c (okV_i b_84906) (okFs_c (okV_i b_84908) (okFs_c (okV_i b_84910) (okFs_c okV_r (okFs_c okV_r (okFs_c (okV_i b_84912) (okFs_c (okV_i b_84914) (okFs_c (okV_i b_84916) (okFs_c (okV_i b_84918) (okFs_c (okV_i b_84920) (okFs_c okV_r (okFs_c okV_r (okFs_c okV_r (okFs_c (okV_i b_84922) (okFs_c okV_r (okFs_c okV_r (okFs_c okV_r (okFs_c okV_r (okFs_c (okV_i b_84924) (okFs_c okV_r okFs_n))))))))))))))))))))))))))))))))) pVC
    refine lv_iload_n hx hb dX12_end_19 rfl (lv_at hl 1 rfl) ?_
    exact prI (post := fun r L1 f1 => (r.toInt = if 0 ≤ i1.toInt ∧ i1.toInt ≤ nL then i1.toInt else -1) ∧ SH (spM (IA 0 0 14 9999 w) ((gp2, (pp (cuL nL i1.toInt)), zF, zQ, zT) : PIT) (EQ g0) LDa) nnM G ad L1 f1) S Y rfl (by decide) (by decide) hA1 ⟨(by rw [if_pos (by have h9 := (winM_t er_84926 c_84927); have h8 := tt_84925; have h7 : (0 : Int32).toInt = 0 := rfl; omega)]), (SHe I (by rw [show cuL nL i1.toInt = i1.toInt from if_pos (by have h9 := (winM_t er_84926 c_84927); have h8 := tt_84925; have h7 : (0 : Int32).toInt = 0 := rfl; omega)]))⟩ dX12_end_20
  · have B_84928 : bn 0 0 r_84926 := bn_w (bn_eq c_84927 (show bn 0 0 (0 : Int32) from bn_k (by decide))) (by decide)
    refine lv_iconst (v := (-1)) hx hb dX12_end_12 (by decide) ?_
    exact prI (post := fun r L1 f1 => (r.toInt = if 0 ≤ i1.toInt ∧ i1.toInt ≤ nL then i1.toInt else -1) ∧ SH (spM (IA 0 0 14 9999 w) ((gp2, (pp (cuL nL i1.toInt)), zF, zQ, zT) : PIT) (EQ g0) LDa) nnM G ad L1 f1) S Y rfl (by decide) (by decide) hA1 ⟨(show (-1 : Int32).toInt = _ from by rw [if_neg (by have h9 := (winM_f er_84926 c_84927); have h8 := tt_84925; have h7 : (0 : Int32).toInt = 0 := rfl; omega)]; rfl), (SHe I (by rw [show cuL nL i1.toInt = nL from if_neg (by have h9 := (winM_f er_84926 c_84927); have h8 := tt_84925; have h7 : (0 : Int32).toInt = 0 := rfl; omega)]))⟩ dX12_end_13
set_option maxHeartbeats 4000000 in
set_option maxRecDepth 100000 in
theorem x_X12_faultE {l : Launch} {G : GG}  {L : List Nat} {f : HF} {ad : Nat → Nat → Nat} {w : WW} {gp2 : (Nat → Int32) → Prop} {zL : Int × Int} {zT : (Nat → Int32) → Prop} {kF : Int} {pF : Int} {g0 : Nat → Int32} {i1 : Int32} (I : SH (spM (IA 0 0 14 9999 w) ((gp2, zL, (pp kF), (pp pF), zT) : PIT) (EQ g0) LDa) nnM G ad L f) (hB : BBp 0 0 14 9999 w) (hX : TX g0) : PMi l yX12_fault cX12_fault 2 .int 0 0 0 G [.ref (ad 0 0), .int i1] L f (fun r L1 f1 => (r.toInt = faV kF pF i1) ∧ SH (spM (IA 0 0 14 9999 w) ((gp2, zL, (pp kF), (pp pF), zT) : PIT) (EQ g0) LDa) nnM G ad L1 f1) := by
  refine PMi.of (post := fun r L1 f1 => (r.toInt = faV kF pF i1) ∧ SH (spM (IA 0 0 14 9999 w) ((gp2, zL, (pp kF), (pp pF), zT) : PIT) (EQ g0) LDa) nnM G ad L1 f1) (own := RX12) (by decide) rfl (Nat.le_of_ble_eq_true rfl) (fun sz p e s m args below meth c A ls hA1 hname S Y hl => ?_)
  have hx := S.hx
  have hb := S.hb
  have hl : lv_has ls 2 [(0, .ref (ad 0 0)), (1, .int i1)] := hl
  refine lv_iload_n hx hb dX12_fault_0 rfl (lv_at hl 1 rfl) ?_
  refine lv_if_ne (tgt := 11) hx hb dX12_fault_1 (by decide) (fun c_85087 => ?_) (fun c_85087 => ?_)
  · refine lv_iload_n hx hb dX12_fault_11 rfl (lv_at hl 1 rfl) ?_
    refine lv_iconst (v := 1) hx hb dX12_fault_12 (by decide) ?_
    refine lv_icmp_ne (tgt := 23) hx hb dX12_fault_13 (by decide) (fun c_85089 => ?_) (fun c_85089 => ?_)
    · refine lv_iconst (v := (-1)) hx hb dX12_fault_23 (by decide) ?_
      exact prI (post := fun r L1 f1 => (r.toInt = faV kF pF i1) ∧ SH (spM (IA 0 0 14 9999 w) ((gp2, zL, (pp kF), (pp pF), zT) : PIT) (EQ g0) LDa) nnM G ad L1 f1) S Y rfl (by decide) (by decide) hA1 ⟨(show (-1 : Int32).toInt = faV kF pF i1 from by unfold faV; rw [if_neg c_85087, if_neg c_85089]; rfl), I⟩ dX12_fault_24
    · have B_85090 : bn 1 1 i1 := bn_w (bn_eq c_85089 (show bn 1 1 (1 : Int32) from bn_k (by decide))) (by decide)
      refine lv_aload_n hx hb dX12_fault_16 rfl (lv_at hl 0 rfl) ?_
      obtain ⟨v_85091, v_85093, v_85095, v_85097, v_85099, v_85101, v_85103, v_85105, v_85106, v_85108, v_85110, v_85112, v_85114, v_85116, v_85118, v_85120, v_85122, v_85124, p_ad_0_0, b_85092, b_85094, b_85096, b_85098, b_85100, b_85102, b_85104, b_85107, b_85109, b_85111, b_85113, b_85115, b_85117, b_85119, b_85121, b_85123, b_85125⟩ := opnM_0 (j := 0) I (by decide)
      have p_ad_0_0 : pt L f (ad 0 0) (.inr (12, [.ref (ad 1 0), .ref (ad 2 0), .ref (ad 3 0), .ref (ad 4 0), .int v_85091, .int v_85093, .int v_85095, .int v_85097, .int v_85099, .int v_85101, .int v_85103, .long v_85105, .int v_85106, .int v_85108, .int v_85110, .ref (ad 5 0), .ref (ad 6 0), .int v_85112, .int v_85114, .int v_85116, .int v_85118, .int v_85120, .ref (ad 7 0), .ref (ad 8 0), .ref (ad 9 0), .int v_85122, .ref (ad 10 0), .ref (ad 11 0), .ref (ad 12 0), .ref (ad 13 0), .int v_85124, .ref (ad 14 0)])) := p_ad_0_0
      have tt_85126 : v_85093.toInt = kF := lim_eq b_85094
      have tt_85127 : v_85095.toInt = pF := lim_eq b_85096
      refine pg_get S Y ok_X12 6 (by decide) kf12_26 (v := .int v_85095) p_ad_0_0 rfl dX12_fault_17 ?_
      refine lv_goto (tgt := 24) hx hb dX12_fault_20 (by decide) ?_
      exact prI (post := fun r L1 f1 => (r.toInt = faV kF pF i1) ∧ SH (spM (IA 0 0 14 9999 w) ((gp2, zL, (pp kF), (pp pF), zT) : PIT) (EQ g0) LDa) nnM G ad L1 f1) S Y rfl (by decide) (by decide) hA1 ⟨(by unfold faV; rw [if_neg c_85087, if_pos c_85089]; exact tt_85127), I⟩ dX12_fault_24
  · have B_85088 : bn 0 0 i1 := bn_w (bn_eq c_85087 (show bn 0 0 (0 : Int32) from bn_k (by decide))) (by decide)
    refine lv_aload_n hx hb dX12_fault_4 rfl (lv_at hl 0 rfl) ?_
    obtain ⟨v_85128, v_85130, v_85132, v_85134, v_85136, v_85138, v_85140, v_85142, v_85143, v_85145, v_85147, v_85149, v_85151, v_85153, v_85155, v_85157, v_85159, v_85161, p_ad_0_0, b_85129, b_85131, b_85133, b_85135, b_85137, b_85139, b_85141, b_85144, b_85146, b_85148, b_85150, b_85152, b_85154, b_85156, b_85158, b_85160, b_85162⟩ := opnM_0 (j := 0) I (by decide)
    have p_ad_0_0 : pt L f (ad 0 0) (.inr (12, [.ref (ad 1 0), .ref (ad 2 0), .ref (ad 3 0), .ref (ad 4 0), .int v_85128, .int v_85130, .int v_85132, .int v_85134, .int v_85136, .int v_85138, .int v_85140, .long v_85142, .int v_85143, .int v_85145, .int v_85147, .ref (ad 5 0), .ref (ad 6 0), .int v_85149, .int v_85151, .int v_85153, .int v_85155, .int v_85157, .ref (ad 7 0), .ref (ad 8 0), .ref (ad 9 0), .int v_85159, .ref (ad 10 0), .ref (ad 11 0), .ref (ad 12 0), .ref (ad 13 0), .int v_85161, .ref (ad 14 0)])) := p_ad_0_0
    have tt_85163 : v_85130.toInt = kF := lim_eq b_85131
    have tt_85164 : v_85132.toInt = pF := lim_eq b_85133
    refine pg_get S Y ok_X12 5 (by decide) kf12_22 (v := .int v_85130) p_ad_0_0 rfl dX12_fault_5 ?_
    refine lv_goto (tgt := 24) hx hb dX12_fault_8 (by decide) ?_
    exact prI (post := fun r L1 f1 => (r.toInt = faV kF pF i1) ∧ SH (spM (IA 0 0 14 9999 w) ((gp2, zL, (pp kF), (pp pF), zT) : PIT) (EQ g0) LDa) nnM G ad L1 f1) S Y rfl (by decide) (by decide) hA1 ⟨(by unfold faV; rw [if_pos c_85087]; exact tt_85163), I⟩ dX12_fault_24
