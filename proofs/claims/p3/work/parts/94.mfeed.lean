theorem dX12_four_0 : decode cX12_four 0 = .ok (.bipush 24, 2) := by decide +kernel
theorem dX12_four_2 : decode cX12_four 2 = .ok (.istore_n 2, 1) := by decide +kernel
theorem dX12_four_3 : decode cX12_four 3 = .ok (.iload_n 2, 1) := by decide +kernel
theorem dX12_four_4 : decode cX12_four 4 = .ok (.ifCond .lt 35, 3) := by decide +kernel
theorem dX12_four_7 : decode cX12_four 7 = .ok (.aload_n 0, 1) := by decide +kernel
theorem dX12_four_8 : decode cX12_four 8 = .ok (.getfield 19, 3) := by decide +kernel
theorem dX12_four_11 : decode cX12_four 11 = .ok (.aload_n 0, 1) := by decide +kernel
theorem dX12_four_12 : decode cX12_four 12 = .ok (.getfield 81, 3) := by decide +kernel
theorem dX12_four_15 : decode cX12_four 15 = .ok (.iload_n 1, 1) := by decide +kernel
theorem dX12_four_16 : decode cX12_four 16 = .ok (.iload_n 2, 1) := by decide +kernel
theorem dX12_four_17 : decode cX12_four 17 = .ok (.ishr, 1) := by decide +kernel
theorem dX12_four_18 : decode cX12_four 18 = .ok (.sipush 255, 3) := by decide +kernel
theorem dX12_four_21 : decode cX12_four 21 = .ok (.iand, 1) := by decide +kernel
theorem dX12_four_22 : decode cX12_four 22 = .ok (.iastore, 1) := by decide +kernel
theorem dX12_four_23 : decode cX12_four 23 = .ok (.aload_n 0, 1) := by decide +kernel
theorem dX12_four_24 : decode cX12_four 24 = .ok (.dup, 1) := by decide +kernel
theorem dX12_four_25 : decode cX12_four 25 = .ok (.getfield 81, 3) := by decide +kernel
theorem dX12_four_28 : decode cX12_four 28 = .ok (.iconst 1, 1) := by decide +kernel
theorem dX12_four_29 : decode cX12_four 29 = .ok (.iadd, 1) := by decide +kernel
theorem dX12_four_30 : decode cX12_four 30 = .ok (.putfield 81, 3) := by decide +kernel
theorem dX12_four_33 : decode cX12_four 33 = .ok (.iinc 2 (-8), 3) := by decide +kernel
theorem dX12_four_36 : decode cX12_four 36 = .ok (.goto (-33), 3) := by decide +kernel
theorem dX12_four_39 : decode cX12_four 39 = .ok (.return_, 1) := by decide +kernel
theorem dX12_feed_0 : decode cX12_feed 0 = .ok (.aload_n 0, 1) := by decide +kernel
theorem dX12_feed_1 : decode cX12_feed 1 = .ok (.getfield 81, 3) := by decide +kernel
theorem dX12_feed_4 : decode cX12_feed 4 = .ok (.bipush 20, 2) := by decide +kernel
theorem dX12_feed_6 : decode cX12_feed 6 = .ok (.iadd, 1) := by decide +kernel
theorem dX12_feed_7 : decode cX12_feed 7 = .ok (.sipush 300, 3) := by decide +kernel
theorem dX12_feed_10 : decode cX12_feed 10 = .ok (.if_icmp .le 5, 3) := by decide +kernel
theorem dX12_feed_15 : decode cX12_feed 15 = .ok (.aload_n 0, 1) := by decide +kernel
theorem dX12_feed_16 : decode cX12_feed 16 = .ok (.iload_n 1, 1) := by decide +kernel
theorem dX12_feed_17 : decode cX12_feed 17 = .ok (.invokevirtual 84, 3) := by decide +kernel
theorem cw_X12_four : CWv yX12_four cX12_four 3 none 1 := ⟨⟨⟨List.mem_of_getElem? (i := 137) (by decide +kernel), by decide +kernel⟩, ⟨List.mem_of_getElem? (i := 1611) (by decide +kernel), by decide +kernel⟩, by decide +kernel⟩, ⟨List.mem_of_getElem? (i := 1610) (by decide +kernel), by decide +kernel⟩, ⟨List.mem_of_getElem? (i := 48) (by decide +kernel), by decide +kernel⟩⟩
theorem km12_84 : inW (Cond.methodLink RX12 84 yX12_four) := ⟨List.mem_of_getElem? (i := 1608) (by decide +kernel), by decide +kernel⟩
theorem dX12_feed_20 : decode cX12_feed 20 = .ok (.aload_n 0, 1) := by decide +kernel
theorem dX12_feed_21 : decode cX12_feed 21 = .ok (.iload_n 2, 1) := by decide +kernel
theorem dX12_feed_22 : decode cX12_feed 22 = .ok (.invokevirtual 84, 3) := by decide +kernel
theorem dX12_feed_25 : decode cX12_feed 25 = .ok (.aload_n 0, 1) := by decide +kernel
theorem dX12_feed_26 : decode cX12_feed 26 = .ok (.iload_n 3, 1) := by decide +kernel
theorem dX12_feed_27 : decode cX12_feed 27 = .ok (.invokevirtual 84, 3) := by decide +kernel
theorem dX12_feed_30 : decode cX12_feed 30 = .ok (.aload_n 0, 1) := by decide +kernel
theorem dX12_feed_31 : decode cX12_feed 31 = .ok (.iload 4, 2) := by decide +kernel
theorem dX12_feed_33 : decode cX12_feed 33 = .ok (.invokevirtual 84, 3) := by decide +kernel
theorem dX12_feed_36 : decode cX12_feed 36 = .ok (.aload_n 0, 1) := by decide +kernel
theorem dX12_feed_37 : decode cX12_feed 37 = .ok (.iload 5, 2) := by decide +kernel
theorem dX12_feed_39 : decode cX12_feed 39 = .ok (.invokevirtual 84, 3) := by decide +kernel
theorem dX12_feed_42 : decode cX12_feed 42 = .ok (.aload_n 0, 1) := by decide +kernel
theorem dX12_feed_43 : decode cX12_feed 43 = .ok (.getfield 81, 3) := by decide +kernel
theorem dX12_feed_46 : decode cX12_feed 46 = .ok (.ireturn, 1) := by decide +kernel
theorem dX12_feed_13 : decode cX12_feed 13 = .ok (.iconst (-1), 1) := by decide +kernel
theorem dX12_feed_14 : decode cX12_feed 14 = .ok (.ireturn, 1) := by decide +kernel
theorem dX12_end_0 : decode cX12_end 0 = .ok (.iload_n 1, 1) := by decide +kernel
theorem dX12_end_1 : decode cX12_end 1 = .ok (.iconst 0, 1) := by decide +kernel
theorem dX12_end_2 : decode cX12_end 2 = .ok (.aload_n 0, 1) := by decide +kernel
theorem dX12_end_3 : decode cX12_end 3 = .ok (.getfield 81, 3) := by decide +kernel
theorem dX12_end_6 : decode cX12_end 6 = .ok (.invokestatic 69, 3) := by decide +kernel
theorem dX12_end_9 : decode cX12_end 9 = .ok (.ifCond .ne 5, 3) := by decide +kernel
theorem dX12_end_14 : decode cX12_end 14 = .ok (.aload_n 0, 1) := by decide +kernel
theorem dX12_end_15 : decode cX12_end 15 = .ok (.iload_n 1, 1) := by decide +kernel
theorem dX12_end_16 : decode cX12_end 16 = .ok (.putfield 81, 3) := by decide +kernel
theorem dX12_end_19 : decode cX12_end 19 = .ok (.iload_n 1, 1) := by decide +kernel
theorem dX12_end_20 : decode cX12_end 20 = .ok (.ireturn, 1) := by decide +kernel
theorem dX12_end_12 : decode cX12_end 12 = .ok (.iconst (-1), 1) := by decide +kernel
theorem dX12_end_13 : decode cX12_end 13 = .ok (.ireturn, 1) := by decide +kernel
theorem sh255 (x : BitVec 32) (n : Nat) (hn : n ≤ 24) : (x.sshiftRight n) &&& 255#32 = (x >>> n) &&& 255#32 := by
  apply BitVec.eq_of_getLsbD_eq
  intro i hi
  rw [BitVec.getLsbD_and, BitVec.getLsbD_and, BitVec.getLsbD_sshiftRight, BitVec.getLsbD_ushiftRight]
  by_cases h : i < 8
  · have h2 : n + i < 32 := by omega
    simp [h2, hi]
  · have h2 : (255#32).getLsbD i = false := by
      rw [BitVec.getLsbD_ofNat]
      have h3 : Nat.testBit 255 i = false := Nat.testBit_lt_two_pow (Nat.lt_of_lt_of_le (by decide : 255 < 2 ^ 8) (Nat.pow_le_pow_right (by decide) (by omega)))
      rw [h3, Bool.and_false]
    rw [h2, Bool.and_false, Bool.and_false]
theorem by_24 {i x y : Int32} (e : x = i >>> ((24 : Int32) &&& 31)) (e2 : y = x &&& 255) : y = byC i 24 := by
  rw [e2, e]; exact Int32.toBitVec_inj.mp (sh255 i.toBitVec 24 (by decide))
theorem by_16 {i x y : Int32} (e : x = i >>> ((16 : Int32) &&& 31)) (e2 : y = x &&& 255) : y = byC i 16 := by
  rw [e2, e]; exact Int32.toBitVec_inj.mp (sh255 i.toBitVec 16 (by decide))
theorem by_8 {i x y : Int32} (e : x = i >>> ((8 : Int32) &&& 31)) (e2 : y = x &&& 255) : y = byC i 8 := by
  rw [e2, e]; exact Int32.toBitVec_inj.mp (sh255 i.toBitVec 8 (by decide))
theorem by_0 {i x y : Int32} (e : x = i >>> ((0 : Int32) &&& 31)) (e2 : y = x &&& 255) : y = byC i 0 := by
  rw [e2, e]; exact Int32.toBitVec_inj.mp (sh255 i.toBitVec 0 (by decide))
theorem bc255 (i s : Int32) : bn 0 255 (byC i s) := by
  have h : (byC i s).toBitVec.toNat ≤ 255 := by
    unfold byC
    show (_ &&& 255#32).toNat ≤ 255
    rw [BitVec.toNat_and]
    exact Nat.and_le_right
  have e : (byC i s).toInt = (byC i s).toBitVec.toInt := rfl
  unfold bn
  rw [e, BitVec.toInt_eq_toNat_cond, if_pos (by omega)]
  exact ⟨by omega, by omega⟩
theorem BYT_up {B : Nat → Int32} {n : Nat} {x : Int32} (h : BYT B) (hx : bn 0 255 x) : BYT (upd B n x) := by
  intro k
  by_cases z : k = n
  · subst z; rw [pk_us]; exact hx
  · rw [pk_un z]; exact h k
theorem BYT_4 {B : Nat → Int32} {n : Nat} {x : Int32} (h : BYT B) : BYT (ap4 B n x) := BYT_up (BYT_up (BYT_up (BYT_up h (bc255 _ _)) (bc255 _ _)) (bc255 _ _)) (bc255 _ _)
theorem BYT_fe {B : Nat → Int32} {n : Int} {i1 i2 i3 i4 i5 : Int32} (h : BYT B) : BYT (feB B n i1 i2 i3 i4 i5) := by
  unfold feB
  split
  · exact BYT_4 (BYT_4 (BYT_4 (BYT_4 (BYT_4 h))))
  · exact h
set_option maxHeartbeats 4000000 in
set_option maxRecDepth 100000 in
theorem x_X12_four {l : Launch} {G : GG}  {L : List Nat} {f : HF} {ad : Nat → Nat → Nat} {gp2 : (Nat → Int32) → Prop} {zF : Int × Int} {zQ : Int × Int} {nL : Int} {bT : Nat → Int32} {pa : (Nat → Int32) → Prop} {PA : (Nat → Int32) → Prop} {PX : (Nat → Int32) → Prop} {i1 : Int32} {td fa fp at9 ps9 tk nu t0 wr so pd op9 cg iw on9 is9 se : Int32} {wd : Int64} (I : SH (spM PA ((gp2, (pp nL), zF, zQ, (EQ bT)) : PIT) PX pa) nnM G ad L f) (p_ad_0_0 : pt L f (ad 0 0) (.inr (12, [.ref (ad 1 0), .ref (ad 2 0), .ref (ad 3 0), .ref (ad 4 0), .int td, .int fa, .int fp, .int at9, .int ps9, .int tk, .int nu, .long wd, .int t0, .int wr, .int so, .ref (ad 5 0), .ref (ad 6 0), .int pd, .int op9, .int cg, .int iw, .int on9, .ref (ad 7 0), .ref (ad 8 0), .ref (ad 9 0), .int is9, .ref (ad 10 0), .ref (ad 11 0), .ref (ad 12 0), .ref (ad 13 0), .int se, .ref (ad 14 0)]))) (hr : 0 ≤ nL ∧ nL ≤ 296) : PMv l yX12_four cX12_four 3 0 0 0 G [.ref (ad 0 0), .int i1] L f (fun L1 f1 => ∃ td2 : Int32, SH (spM PA ((gp2, (pp (nL + 4)), zF, zQ, (EQ (ap4 bT nL.toNat i1))) : PIT) PX pa) nnM G ad L1 f1 ∧ pt L1 f1 (ad 0 0) (.inr (12, [.ref (ad 1 0), .ref (ad 2 0), .ref (ad 3 0), .ref (ad 4 0), .int td2, .int fa, .int fp, .int at9, .int ps9, .int tk, .int nu, .long wd, .int t0, .int wr, .int so, .ref (ad 5 0), .ref (ad 6 0), .int pd, .int op9, .int cg, .int iw, .int on9, .ref (ad 7 0), .ref (ad 8 0), .ref (ad 9 0), .int is9, .ref (ad 10 0), .ref (ad 11 0), .ref (ad 12 0), .ref (ad 13 0), .int se, .ref (ad 14 0)]))) := by
  refine PMv.of (post := fun L1 f1 => ∃ td2 : Int32, SH (spM PA ((gp2, (pp (nL + 4)), zF, zQ, (EQ (ap4 bT nL.toNat i1))) : PIT) PX pa) nnM G ad L1 f1 ∧ pt L1 f1 (ad 0 0) (.inr (12, [.ref (ad 1 0), .ref (ad 2 0), .ref (ad 3 0), .ref (ad 4 0), .int td2, .int fa, .int fp, .int at9, .int ps9, .int tk, .int nu, .long wd, .int t0, .int wr, .int so, .ref (ad 5 0), .ref (ad 6 0), .int pd, .int op9, .int cg, .int iw, .int on9, .ref (ad 7 0), .ref (ad 8 0), .ref (ad 9 0), .int is9, .ref (ad 10 0), .ref (ad 11 0), .ref (ad 12 0), .ref (ad 13 0), .int se, .ref (ad 14 0)]))) (own := RX12) (by decide) rfl (Nat.le_of_ble_eq_true rfl) (fun sz p e s m args below meth c A ls hA1 hname S Y hl => ?_)
  have hx := S.hx
  have hb := S.hb
  have hl : lv_has ls 3 [(0, .ref (ad 0 0)), (1, .int i1)] := hl
  obtain ⟨bfe_4, bfe_5, bfe_6, bfe_7, bfe_8, bfe_12, bfe_13, bfe_17, bfe_18, bfe_19, bfe_20, bfe_25⟩ := obM I p_ad_0_0
  have tt_84461 : td.toInt = nL := lim_eq bfe_4
  have B_84462 : bn 0 296 td := ⟨by have h9 := tt_84461; have h8 := hr.1; omega, by have h9 := tt_84461; have h8 := hr.2; omega⟩
  refine lv_bipush (v := 24) hx hb dX12_four_0 (by decide) ?_
  refine lv_istore_n (lv' := [(2, .int 24), (0, .ref (ad 0 0)), (1, .int i1)]) hx hb dX12_four_2 rfl hl (by decide) rfl (fun ls hl => ?_)
  refine lv_iload_n hx hb dX12_four_3 rfl (lv_at hl 0 rfl) ?_
  refine lv_if_lt (tgt := 39) hx hb dX12_four_4 (by decide) (fun h => absurd h (by decide)) (fun _ => ?_)
  refine lv_aload_n hx hb dX12_four_7 rfl (lv_at hl 1 rfl) ?_
  refine pg_get S Y ok_X12 3 (by decide) kf12_19 (v := .ref (ad 4 0)) p_ad_0_0 rfl dX12_four_8 ?_
  refine lv_aload_n hx hb dX12_four_11 rfl (lv_at hl 1 rfl) ?_
  refine pg_get S Y ok_X12 4 (by decide) kf12_81 (v := .int td) p_ad_0_0 rfl dX12_four_12 ?_
  refine lv_iload_n hx hb dX12_four_15 rfl (lv_at hl 2 rfl) ?_
  refine lv_iload_n hx hb dX12_four_16 rfl (lv_at hl 0 rfl) ?_
  refine lv_ishr hx hb dX12_four_17 ?_
  refine lv_topi (fun x_84463 ex_84463 => ?_)
  refine lv_sipush (v := 255) hx hb dX12_four_18 (by decide) ?_
  refine lv_iand hx hb dX12_four_21 ?_
  refine lv_topi (fun x_84464 ex_84464 => ?_)
  obtain ⟨g_84465, p_ad_4_0, o_84466⟩ := I.opi (k := 4) (j := 0) (by decide) rfl
  have p_ad_4_0 : pt L f (ad 4 0) (.inl (G.2 0, 300, .inl g_84465)) := p_ad_4_0
  refine pg_iast S Y p_ad_4_0 (vp_bn B_84462 (by decide)) dX12_four_22 (fun f_84468 H locs ef_84468 Y => ?_)
  obtain ⟨g_84467, eg_84467⟩ : ∃ z, z = upd (g_84465) (td : Int32).toNatClampNeg x_84464 := ⟨_, rfl⟩
  rw [← eg_84467] at ef_84468
  have p_ad_0_0 := p_ad_0_0.up ef_84468 (I.ne (k := 0) (j := 0) (k' := 4) (j' := 0) (by decide) (by decide) (Or.inl (by decide)))
  have p_ad_4_0 := p_ad_4_0.me ef_84468
  have o_84469 : EQ g_84467 g_84467 := rfl
  have I := I.upS (sp' := spM PA ((gp2, (pp nL), zF, zQ, (EQ g_84467)) : PIT) PX pa) (k := 4) (j := 0) (by decide) ef_84468 (okE_a (g := g_84467) o_84469) pTC
  refine lv_aload_n hx hb dX12_four_23 rfl (lv_at hl 1 rfl) ?_
  refine lv_dup hx hb dX12_four_24 rfl ?_
  refine pg_get S Y ok_X12 4 (by decide) kf12_81 (v := .int td) p_ad_0_0 rfl dX12_four_25 ?_
  refine lv_iconst (v := 1) hx hb dX12_four_28 (by decide) ?_
  refine lv_iadd hx hb dX12_four_29 ?_
  refine lv_topi (fun x_84470 ex_84470 => ?_)
  refine pg_put S Y ok_X12 4 (by decide) kf12_81 rfl (fs' := [.ref (ad 1 0), .ref (ad 2 0), .ref (ad 3 0), .ref (ad 4 0), .int x_84470, .int fa, .int fp, .int at9, .int ps9, .int tk, .int nu, .long wd, .int t0, .int wr, .int so, .ref (ad 5 0), .ref (ad 6 0), .int pd, .int op9, .int cg, .int iw, .int on9, .ref (ad 7 0), .ref (ad 8 0), .ref (ad 9 0), .int is9, .ref (ad 10 0), .ref (ad 11 0), .ref (ad 12 0), .ref (ad 13 0), .int se, .ref (ad 14 0)]) (v := .int x_84470) p_ad_0_0 rfl rfl rfl (Nat.le_of_ble_eq_true rfl) dX12_four_30 (fun f_84471 H locs ef_84471 Y => ?_)
  have p_ad_4_0 := p_ad_4_0.up ef_84471 (I.ne (k := 4) (j := 0) (k' := 0) (j' := 0) (by decide) (by decide) (Or.inl (by decide)))
  have p_ad_0_0 := p_ad_0_0.me ef_84471
  have I := I.upS (sp' := spM PA ((gp2, (pp (nL + 1)), zF, zQ, (EQ g_84467)) : PIT) PX pa) (k := 0) (j := 0) (by decide) ef_84471 (okE_o (okFs_c okV_r (okFs_c okV_r (okFs_c okV_r (okFs_c okV_r (okFs_c (okV_p (lim_mk (bn_w (bn_eq ex_84470 (bn_add B_84462 (show bn 1 1 (1 : Int32) from bn_k (by decide)) (by decide))) (by decide) : bn 0 300 x_84470) (la_add ex_84470 tt_84461 (show (1 : Int32).toInt = 1 from rfl) B_84462 (show bn 1 1 (1 : Int32) from bn_k (by decide)) (by decide)))) (okFs_c (okV_p bfe_5) (okFs_c (okV_p bfe_6) (okFs_c (okV_i bfe_7) (okFs_c (okV_i bfe_8) (okFs_c (okV_i (bn_any _)) (okFs_c (okV_i (bn_any _)) (okFs_c okV_l (okFs_c (okV_i bfe_12) (okFs_c (okV_i bfe_13) (okFs_c (okV_i (bn_any _)) (okFs_c okV_r (okFs_c okV_r (okFs_c (okV_i bfe_17) (okFs_c (okV_i bfe_18) (okFs_c (okV_i bfe_19) (okFs_c (okV_i bfe_20) (okFs_c (okV_i (bn_any _)) (okFs_c okV_r (okFs_c okV_r (okFs_c okV_r (okFs_c (okV_i bfe_25) (okFs_c okV_r (okFs_c okV_r (okFs_c okV_r (okFs_c okV_r (okFs_c (okV_i (bn_any _)) (okFs_c okV_r okFs_n))))))))))))))))))))))))))))))))) pVC
  refine lv_iinc (v := 16) (lv' := [(2, .int 16), (0, .ref (ad 0 0)), (1, .int i1)]) hx hb dX12_four_33 hl (k := 0) rfl (by decide) (by decide) rfl (fun ls hl => ?_)
  refine lv_goto (tgt := 3) hx hb dX12_four_36 (by decide) ?_
  refine lv_iload_n hx hb dX12_four_3 rfl (lv_at hl 0 rfl) ?_
  refine lv_if_lt (tgt := 39) hx hb dX12_four_4 (by decide) (fun h => absurd h (by decide)) (fun _ => ?_)
  refine lv_aload_n hx hb dX12_four_7 rfl (lv_at hl 1 rfl) ?_
  refine pg_get S Y ok_X12 3 (by decide) kf12_19 (v := .ref (ad 4 0)) p_ad_0_0 rfl dX12_four_8 ?_
  refine lv_aload_n hx hb dX12_four_11 rfl (lv_at hl 1 rfl) ?_
  refine pg_get S Y ok_X12 4 (by decide) kf12_81 (v := .int x_84470) p_ad_0_0 rfl dX12_four_12 ?_
  refine lv_iload_n hx hb dX12_four_15 rfl (lv_at hl 2 rfl) ?_
  refine lv_iload_n hx hb dX12_four_16 rfl (lv_at hl 0 rfl) ?_
  refine lv_ishr hx hb dX12_four_17 ?_
  refine lv_topi (fun x_84472 ex_84472 => ?_)
  refine lv_sipush (v := 255) hx hb dX12_four_18 (by decide) ?_
  refine lv_iand hx hb dX12_four_21 ?_
  refine lv_topi (fun x_84473 ex_84473 => ?_)
  refine pg_iast S Y p_ad_4_0 (vp_bn (bn_eq ex_84470 (bn_add B_84462 (show bn 1 1 (1 : Int32) from bn_k (by decide)) (by decide))) (by decide)) dX12_four_22 (fun f_84475 H locs ef_84475 Y => ?_)
  obtain ⟨g_84474, eg_84474⟩ : ∃ z, z = upd (g_84467) (x_84470 : Int32).toNatClampNeg x_84473 := ⟨_, rfl⟩
  rw [← eg_84474] at ef_84475
  have p_ad_0_0 := p_ad_0_0.up ef_84475 (I.ne (k := 0) (j := 0) (k' := 4) (j' := 0) (by decide) (by decide) (Or.inl (by decide)))
  have p_ad_4_0 := p_ad_4_0.me ef_84475
  have o_84476 : EQ g_84474 g_84474 := rfl
  have I := I.upS (sp' := spM PA ((gp2, (pp (nL + 1)), zF, zQ, (EQ g_84474)) : PIT) PX pa) (k := 4) (j := 0) (by decide) ef_84475 (okE_a (g := g_84474) o_84476) pTC
  refine lv_aload_n hx hb dX12_four_23 rfl (lv_at hl 1 rfl) ?_
  refine lv_dup hx hb dX12_four_24 rfl ?_
  refine pg_get S Y ok_X12 4 (by decide) kf12_81 (v := .int x_84470) p_ad_0_0 rfl dX12_four_25 ?_
  refine lv_iconst (v := 1) hx hb dX12_four_28 (by decide) ?_
  refine lv_iadd hx hb dX12_four_29 ?_
  refine lv_topi (fun x_84477 ex_84477 => ?_)
  refine pg_put S Y ok_X12 4 (by decide) kf12_81 rfl (fs' := [.ref (ad 1 0), .ref (ad 2 0), .ref (ad 3 0), .ref (ad 4 0), .int x_84477, .int fa, .int fp, .int at9, .int ps9, .int tk, .int nu, .long wd, .int t0, .int wr, .int so, .ref (ad 5 0), .ref (ad 6 0), .int pd, .int op9, .int cg, .int iw, .int on9, .ref (ad 7 0), .ref (ad 8 0), .ref (ad 9 0), .int is9, .ref (ad 10 0), .ref (ad 11 0), .ref (ad 12 0), .ref (ad 13 0), .int se, .ref (ad 14 0)]) (v := .int x_84477) p_ad_0_0 rfl rfl rfl (Nat.le_of_ble_eq_true rfl) dX12_four_30 (fun f_84478 H locs ef_84478 Y => ?_)
  have p_ad_4_0 := p_ad_4_0.up ef_84478 (I.ne (k := 4) (j := 0) (k' := 0) (j' := 0) (by decide) (by decide) (Or.inl (by decide)))
  have p_ad_0_0 := p_ad_0_0.me ef_84478
  have I := I.upS (sp' := spM PA ((gp2, (pp ((nL + 1) + 1)), zF, zQ, (EQ g_84474)) : PIT) PX pa) (k := 0) (j := 0) (by decide) ef_84478 (okE_o (okFs_c okV_r (okFs_c okV_r (okFs_c okV_r (okFs_c okV_r (okFs_c (okV_p (lim_mk (bn_w (bn_eq ex_84477 (bn_add (bn_eq ex_84470 (bn_add B_84462 (show bn 1 1 (1 : Int32) from bn_k (by decide)) (by decide))) (show bn 1 1 (1 : Int32) from bn_k (by decide)) (by decide))) (by decide) : bn 0 300 x_84477) (la_add ex_84477 (la_add ex_84470 tt_84461 (show (1 : Int32).toInt = 1 from rfl) B_84462 (show bn 1 1 (1 : Int32) from bn_k (by decide)) (by decide)) (show (1 : Int32).toInt = 1 from rfl) (bn_eq ex_84470 (bn_add B_84462 (show bn 1 1 (1 : Int32) from bn_k (by decide)) (by decide))) (show bn 1 1 (1 : Int32) from bn_k (by decide)) (by decide)))) (okFs_c (okV_p bfe_5) (okFs_c (okV_p bfe_6) (okFs_c (okV_i bfe_7) (okFs_c (okV_i bfe_8) (okFs_c (okV_i (bn_any _)) (okFs_c (okV_i (bn_any _)) (okFs_c okV_l (okFs_c (okV_i bfe_12) (okFs_c (okV_i bfe_13) (okFs_c (okV_i (bn_any _)) (okFs_c okV_r (okFs_c okV_r (okFs_c (okV_i bfe_17) (okFs_c (okV_i bfe_18) (okFs_c (okV_i bfe_19) (okFs_c (okV_i bfe_20) (okFs_c (okV_i (bn_any _)) (okFs_c okV_r (okFs_c okV_r (okFs_c okV_r (okFs_c (okV_i bfe_25) (okFs_c okV_r (okFs_c okV_r (okFs_c okV_r (okFs_c okV_r (okFs_c (okV_i (bn_any _)) (okFs_c okV_r okFs_n))))))))))))))))))))))))))))))))) pVC
  refine lv_iinc (v := 8) (lv' := [(2, .int 8), (0, .ref (ad 0 0)), (1, .int i1)]) hx hb dX12_four_33 hl (k := 0) rfl (by decide) (by decide) rfl (fun ls hl => ?_)
  refine lv_goto (tgt := 3) hx hb dX12_four_36 (by decide) ?_
  refine lv_iload_n hx hb dX12_four_3 rfl (lv_at hl 0 rfl) ?_
  refine lv_if_lt (tgt := 39) hx hb dX12_four_4 (by decide) (fun h => absurd h (by decide)) (fun _ => ?_)
  refine lv_aload_n hx hb dX12_four_7 rfl (lv_at hl 1 rfl) ?_
  refine pg_get S Y ok_X12 3 (by decide) kf12_19 (v := .ref (ad 4 0)) p_ad_0_0 rfl dX12_four_8 ?_
  refine lv_aload_n hx hb dX12_four_11 rfl (lv_at hl 1 rfl) ?_
  refine pg_get S Y ok_X12 4 (by decide) kf12_81 (v := .int x_84477) p_ad_0_0 rfl dX12_four_12 ?_
  refine lv_iload_n hx hb dX12_four_15 rfl (lv_at hl 2 rfl) ?_
  refine lv_iload_n hx hb dX12_four_16 rfl (lv_at hl 0 rfl) ?_
  refine lv_ishr hx hb dX12_four_17 ?_
  refine lv_topi (fun x_84479 ex_84479 => ?_)
  refine lv_sipush (v := 255) hx hb dX12_four_18 (by decide) ?_
  refine lv_iand hx hb dX12_four_21 ?_
  refine lv_topi (fun x_84480 ex_84480 => ?_)
  refine pg_iast S Y p_ad_4_0 (vp_bn (bn_eq ex_84477 (bn_add (bn_eq ex_84470 (bn_add B_84462 (show bn 1 1 (1 : Int32) from bn_k (by decide)) (by decide))) (show bn 1 1 (1 : Int32) from bn_k (by decide)) (by decide))) (by decide)) dX12_four_22 (fun f_84482 H locs ef_84482 Y => ?_)
  obtain ⟨g_84481, eg_84481⟩ : ∃ z, z = upd (g_84474) (x_84477 : Int32).toNatClampNeg x_84480 := ⟨_, rfl⟩
  rw [← eg_84481] at ef_84482
  have p_ad_0_0 := p_ad_0_0.up ef_84482 (I.ne (k := 0) (j := 0) (k' := 4) (j' := 0) (by decide) (by decide) (Or.inl (by decide)))
  have p_ad_4_0 := p_ad_4_0.me ef_84482
  have o_84483 : EQ g_84481 g_84481 := rfl
  have I := I.upS (sp' := spM PA ((gp2, (pp ((nL + 1) + 1)), zF, zQ, (EQ g_84481)) : PIT) PX pa) (k := 4) (j := 0) (by decide) ef_84482 (okE_a (g := g_84481) o_84483) pTC
  refine lv_aload_n hx hb dX12_four_23 rfl (lv_at hl 1 rfl) ?_
  refine lv_dup hx hb dX12_four_24 rfl ?_
  refine pg_get S Y ok_X12 4 (by decide) kf12_81 (v := .int x_84477) p_ad_0_0 rfl dX12_four_25 ?_
  refine lv_iconst (v := 1) hx hb dX12_four_28 (by decide) ?_
  refine lv_iadd hx hb dX12_four_29 ?_
  refine lv_topi (fun x_84484 ex_84484 => ?_)
  refine pg_put S Y ok_X12 4 (by decide) kf12_81 rfl (fs' := [.ref (ad 1 0), .ref (ad 2 0), .ref (ad 3 0), .ref (ad 4 0), .int x_84484, .int fa, .int fp, .int at9, .int ps9, .int tk, .int nu, .long wd, .int t0, .int wr, .int so, .ref (ad 5 0), .ref (ad 6 0), .int pd, .int op9, .int cg, .int iw, .int on9, .ref (ad 7 0), .ref (ad 8 0), .ref (ad 9 0), .int is9, .ref (ad 10 0), .ref (ad 11 0), .ref (ad 12 0), .ref (ad 13 0), .int se, .ref (ad 14 0)]) (v := .int x_84484) p_ad_0_0 rfl rfl rfl (Nat.le_of_ble_eq_true rfl) dX12_four_30 (fun f_84485 H locs ef_84485 Y => ?_)
  have p_ad_4_0 := p_ad_4_0.up ef_84485 (I.ne (k := 4) (j := 0) (k' := 0) (j' := 0) (by decide) (by decide) (Or.inl (by decide)))
  have p_ad_0_0 := p_ad_0_0.me ef_84485
  have I := I.upS (sp' := spM PA ((gp2, (pp (((nL + 1) + 1) + 1)), zF, zQ, (EQ g_84481)) : PIT) PX pa) (k := 0) (j := 0) (by decide) ef_84485 (okE_o (okFs_c okV_r (okFs_c okV_r (okFs_c okV_r (okFs_c okV_r (okFs_c (okV_p (lim_mk (bn_w (bn_eq ex_84484 (bn_add (bn_eq ex_84477 (bn_add (bn_eq ex_84470 (bn_add B_84462 (show bn 1 1 (1 : Int32) from bn_k (by decide)) (by decide))) (show bn 1 1 (1 : Int32) from bn_k (by decide)) (by decide))) (show bn 1 1 (1 : Int32) from bn_k (by decide)) (by decide))) (by decide) : bn 0 300 x_84484) (la_add ex_84484 (la_add ex_84477 (la_add ex_84470 tt_84461 (show (1 : Int32).toInt = 1 from rfl) B_84462 (show bn 1 1 (1 : Int32) from bn_k (by decide)) (by decide)) (show (1 : Int32).toInt = 1 from rfl) (bn_eq ex_84470 (bn_add B_84462 (show bn 1 1 (1 : Int32) from bn_k (by decide)) (by decide))) (show bn 1 1 (1 : Int32) from bn_k (by decide)) (by decide)) (show (1 : Int32).toInt = 1 from rfl) (bn_eq ex_84477 (bn_add (bn_eq ex_84470 (bn_add B_84462 (show bn 1 1 (1 : Int32) from bn_k (by decide)) (by decide))) (show bn 1 1 (1 : Int32) from bn_k (by decide)) (by decide))) (show bn 1 1 (1 : Int32) from bn_k (by decide)) (by decide)))) (okFs_c (okV_p bfe_5) (okFs_c (okV_p bfe_6) (okFs_c (okV_i bfe_7) (okFs_c (okV_i bfe_8) (okFs_c (okV_i (bn_any _)) (okFs_c (okV_i (bn_any _)) (okFs_c okV_l (okFs_c (okV_i bfe_12) (okFs_c (okV_i bfe_13) (okFs_c (okV_i (bn_any _)) (okFs_c okV_r (okFs_c okV_r (okFs_c (okV_i bfe_17) (okFs_c (okV_i bfe_18) (okFs_c (okV_i bfe_19) (okFs_c (okV_i bfe_20) (okFs_c (okV_i (bn_any _)) (okFs_c okV_r (okFs_c okV_r (okFs_c okV_r (okFs_c (okV_i bfe_25) (okFs_c okV_r (okFs_c okV_r (okFs_c okV_r (okFs_c okV_r (okFs_c (okV_i (bn_any _)) (okFs_c okV_r okFs_n))))))))))))))))))))))))))))))))) pVC
  refine lv_iinc (v := 0) (lv' := [(2, .int 0), (0, .ref (ad 0 0)), (1, .int i1)]) hx hb dX12_four_33 hl (k := 0) rfl (by decide) (by decide) rfl (fun ls hl => ?_)
  refine lv_goto (tgt := 3) hx hb dX12_four_36 (by decide) ?_
  refine lv_iload_n hx hb dX12_four_3 rfl (lv_at hl 0 rfl) ?_
  refine lv_if_lt (tgt := 39) hx hb dX12_four_4 (by decide) (fun h => absurd h (by decide)) (fun _ => ?_)
  refine lv_aload_n hx hb dX12_four_7 rfl (lv_at hl 1 rfl) ?_
  refine pg_get S Y ok_X12 3 (by decide) kf12_19 (v := .ref (ad 4 0)) p_ad_0_0 rfl dX12_four_8 ?_
  refine lv_aload_n hx hb dX12_four_11 rfl (lv_at hl 1 rfl) ?_
  refine pg_get S Y ok_X12 4 (by decide) kf12_81 (v := .int x_84484) p_ad_0_0 rfl dX12_four_12 ?_
  refine lv_iload_n hx hb dX12_four_15 rfl (lv_at hl 2 rfl) ?_
  refine lv_iload_n hx hb dX12_four_16 rfl (lv_at hl 0 rfl) ?_
  refine lv_ishr hx hb dX12_four_17 ?_
  refine lv_topi (fun x_84486 ex_84486 => ?_)
  refine lv_sipush (v := 255) hx hb dX12_four_18 (by decide) ?_
  refine lv_iand hx hb dX12_four_21 ?_
  refine lv_topi (fun x_84487 ex_84487 => ?_)
  refine pg_iast S Y p_ad_4_0 (vp_bn (bn_eq ex_84484 (bn_add (bn_eq ex_84477 (bn_add (bn_eq ex_84470 (bn_add B_84462 (show bn 1 1 (1 : Int32) from bn_k (by decide)) (by decide))) (show bn 1 1 (1 : Int32) from bn_k (by decide)) (by decide))) (show bn 1 1 (1 : Int32) from bn_k (by decide)) (by decide))) (by decide)) dX12_four_22 (fun f_84489 H locs ef_84489 Y => ?_)
  obtain ⟨g_84488, eg_84488⟩ : ∃ z, z = upd (g_84481) (x_84484 : Int32).toNatClampNeg x_84487 := ⟨_, rfl⟩
  rw [← eg_84488] at ef_84489
  have p_ad_0_0 := p_ad_0_0.up ef_84489 (I.ne (k := 0) (j := 0) (k' := 4) (j' := 0) (by decide) (by decide) (Or.inl (by decide)))
  have p_ad_4_0 := p_ad_4_0.me ef_84489
  have o_84490 : EQ g_84488 g_84488 := rfl
  have I := I.upS (sp' := spM PA ((gp2, (pp (((nL + 1) + 1) + 1)), zF, zQ, (EQ g_84488)) : PIT) PX pa) (k := 4) (j := 0) (by decide) ef_84489 (okE_a (g := g_84488) o_84490) pTC
  refine lv_aload_n hx hb dX12_four_23 rfl (lv_at hl 1 rfl) ?_
  refine lv_dup hx hb dX12_four_24 rfl ?_
  refine pg_get S Y ok_X12 4 (by decide) kf12_81 (v := .int x_84484) p_ad_0_0 rfl dX12_four_25 ?_
  refine lv_iconst (v := 1) hx hb dX12_four_28 (by decide) ?_
  refine lv_iadd hx hb dX12_four_29 ?_
  refine lv_topi (fun x_84491 ex_84491 => ?_)
  have B_84492 : bn 4 300 x_84491 := bn_w (bn_eq ex_84491 (bn_add (bn_eq ex_84484 (bn_add (bn_eq ex_84477 (bn_add (bn_eq ex_84470 (bn_add B_84462 (show bn 1 1 (1 : Int32) from bn_k (by decide)) (by decide))) (show bn 1 1 (1 : Int32) from bn_k (by decide)) (by decide))) (show bn 1 1 (1 : Int32) from bn_k (by decide)) (by decide))) (show bn 1 1 (1 : Int32) from bn_k (by decide)) (by decide))) (by decide)
  refine pg_put S Y ok_X12 4 (by decide) kf12_81 rfl (fs' := [.ref (ad 1 0), .ref (ad 2 0), .ref (ad 3 0), .ref (ad 4 0), .int x_84491, .int fa, .int fp, .int at9, .int ps9, .int tk, .int nu, .long wd, .int t0, .int wr, .int so, .ref (ad 5 0), .ref (ad 6 0), .int pd, .int op9, .int cg, .int iw, .int on9, .ref (ad 7 0), .ref (ad 8 0), .ref (ad 9 0), .int is9, .ref (ad 10 0), .ref (ad 11 0), .ref (ad 12 0), .ref (ad 13 0), .int se, .ref (ad 14 0)]) (v := .int x_84491) p_ad_0_0 rfl rfl rfl (Nat.le_of_ble_eq_true rfl) dX12_four_30 (fun f_84493 H locs ef_84493 Y => ?_)
  have p_ad_4_0 := p_ad_4_0.up ef_84493 (I.ne (k := 4) (j := 0) (k' := 0) (j' := 0) (by decide) (by decide) (Or.inl (by decide)))
  have p_ad_0_0 := p_ad_0_0.me ef_84493
  have I := I.upS (sp' := spM PA ((gp2, (pp ((((nL + 1) + 1) + 1) + 1)), zF, zQ, (EQ g_84488)) : PIT) PX pa) (k := 0) (j := 0) (by decide) ef_84493 (okE_o (okFs_c okV_r (okFs_c okV_r (okFs_c okV_r (okFs_c okV_r (okFs_c (okV_p (lim_mk (bn_w B_84492 (by decide) : bn 0 300 x_84491) (la_add ex_84491 (la_add ex_84484 (la_add ex_84477 (la_add ex_84470 tt_84461 (show (1 : Int32).toInt = 1 from rfl) B_84462 (show bn 1 1 (1 : Int32) from bn_k (by decide)) (by decide)) (show (1 : Int32).toInt = 1 from rfl) (bn_eq ex_84470 (bn_add B_84462 (show bn 1 1 (1 : Int32) from bn_k (by decide)) (by decide))) (show bn 1 1 (1 : Int32) from bn_k (by decide)) (by decide)) (show (1 : Int32).toInt = 1 from rfl) (bn_eq ex_84477 (bn_add (bn_eq ex_84470 (bn_add B_84462 (show bn 1 1 (1 : Int32) from bn_k (by decide)) (by decide))) (show bn 1 1 (1 : Int32) from bn_k (by decide)) (by decide))) (show bn 1 1 (1 : Int32) from bn_k (by decide)) (by decide)) (show (1 : Int32).toInt = 1 from rfl) (bn_eq ex_84484 (bn_add (bn_eq ex_84477 (bn_add (bn_eq ex_84470 (bn_add B_84462 (show bn 1 1 (1 : Int32) from bn_k (by decide)) (by decide))) (show bn 1 1 (1 : Int32) from bn_k (by decide)) (by decide))) (show bn 1 1 (1 : Int32) from bn_k (by decide)) (by decide))) (show bn 1 1 (1 : Int32) from bn_k (by decide)) (by decide)))) (okFs_c (okV_p bfe_5) (okFs_c (okV_p bfe_6) (okFs_c (okV_i bfe_7) (okFs_c (okV_i bfe_8) (okFs_c (okV_i (bn_any _)) (okFs_c (okV_i (bn_any _)) (okFs_c okV_l (okFs_c (okV_i bfe_12) (okFs_c (okV_i bfe_13) (okFs_c (okV_i (bn_any _)) (okFs_c okV_r (okFs_c okV_r (okFs_c (okV_i bfe_17) (okFs_c (okV_i bfe_18) (okFs_c (okV_i bfe_19) (okFs_c (okV_i bfe_20) (okFs_c (okV_i (bn_any _)) (okFs_c okV_r (okFs_c okV_r (okFs_c okV_r (okFs_c (okV_i bfe_25) (okFs_c okV_r (okFs_c okV_r (okFs_c okV_r (okFs_c okV_r (okFs_c (okV_i (bn_any _)) (okFs_c okV_r okFs_n))))))))))))))))))))))))))))))))) pVC
  refine lv_iinc (v := (-8)) (lv' := [(2, .int (-8)), (0, .ref (ad 0 0)), (1, .int i1)]) hx hb dX12_four_33 hl (k := 0) rfl (by decide) (by decide) rfl (fun ls hl => ?_)
  refine lv_goto (tgt := 3) hx hb dX12_four_36 (by decide) ?_
  refine lv_iload_n hx hb dX12_four_3 rfl (lv_at hl 0 rfl) ?_
  refine lv_if_lt (tgt := 39) hx hb dX12_four_4 (by decide) (fun _ => ?_) (fun h => absurd (by decide) h)
  exact prV (post := fun L1 f1 => ∃ td2 : Int32, SH (spM PA ((gp2, (pp (nL + 4)), zF, zQ, (EQ (ap4 bT nL.toNat i1))) : PIT) PX pa) nnM G ad L1 f1 ∧ pt L1 f1 (ad 0 0) (.inr (12, [.ref (ad 1 0), .ref (ad 2 0), .ref (ad 3 0), .ref (ad 4 0), .int td2, .int fa, .int fp, .int at9, .int ps9, .int tk, .int nu, .long wd, .int t0, .int wr, .int so, .ref (ad 5 0), .ref (ad 6 0), .int pd, .int op9, .int cg, .int iw, .int on9, .ref (ad 7 0), .ref (ad 8 0), .ref (ad 9 0), .int is9, .ref (ad 10 0), .ref (ad 11 0), .ref (ad 12 0), .ref (ad 13 0), .int se, .ref (ad 14 0)]))) S Y (by decide) (by decide) hA1 ⟨x_84491, (SHe I (by rw [show nL + 1 + 1 + 1 + 1 = nL + 4 from by omega, show g_84488 = ap4 bT nL.toNat i1 from (by rw [eg_84488, eg_84481, eg_84474, eg_84467, show g_84465 = bT from o_84466, show (td : Int32).toNatClampNeg = nL.toNat from (by have z9 := tt_84461; have z8 := hr.1; show td.toInt.toNat = _; omega), show (x_84470 : Int32).toNatClampNeg = nL.toNat + 1 from (by have z9 := (la_add ex_84470 tt_84461 (show (1 : Int32).toInt = 1 from rfl) B_84462 (show bn 1 1 (1 : Int32) from bn_k (by decide)) (by decide)); have z8 := hr.1; show x_84470.toInt.toNat = _; omega), show (x_84477 : Int32).toNatClampNeg = nL.toNat + 2 from (by have z9 := (la_add ex_84477 (la_add ex_84470 tt_84461 (show (1 : Int32).toInt = 1 from rfl) B_84462 (show bn 1 1 (1 : Int32) from bn_k (by decide)) (by decide)) (show (1 : Int32).toInt = 1 from rfl) (bn_eq ex_84470 (bn_add B_84462 (show bn 1 1 (1 : Int32) from bn_k (by decide)) (by decide))) (show bn 1 1 (1 : Int32) from bn_k (by decide)) (by decide)); have z8 := hr.1; show x_84477.toInt.toNat = _; omega), show (x_84484 : Int32).toNatClampNeg = nL.toNat + 3 from (by have z9 := (la_add ex_84484 (la_add ex_84477 (la_add ex_84470 tt_84461 (show (1 : Int32).toInt = 1 from rfl) B_84462 (show bn 1 1 (1 : Int32) from bn_k (by decide)) (by decide)) (show (1 : Int32).toInt = 1 from rfl) (bn_eq ex_84470 (bn_add B_84462 (show bn 1 1 (1 : Int32) from bn_k (by decide)) (by decide))) (show bn 1 1 (1 : Int32) from bn_k (by decide)) (by decide)) (show (1 : Int32).toInt = 1 from rfl) (bn_eq ex_84477 (bn_add (bn_eq ex_84470 (bn_add B_84462 (show bn 1 1 (1 : Int32) from bn_k (by decide)) (by decide))) (show bn 1 1 (1 : Int32) from bn_k (by decide)) (by decide))) (show bn 1 1 (1 : Int32) from bn_k (by decide)) (by decide)); have z8 := hr.1; show x_84484.toInt.toNat = _; omega), by_24 ex_84463 ex_84464, by_16 ex_84472 ex_84473, by_8 ex_84479 ex_84480, by_0 ex_84486 ex_84487]; rfl)])), p_ad_0_0⟩ dX12_four_39
set_option maxHeartbeats 4000000 in
set_option maxRecDepth 100000 in
theorem x_X12_feed {l : Launch} {G : GG}  {L : List Nat} {f : HF} {ad : Nat → Nat → Nat} {w : WW} {gp2 : (Nat → Int32) → Prop} {zF : Int × Int} {zQ : Int × Int} {nL : Int} {bT : Nat → Int32} {g0 : Nat → Int32} {i1 i2 i3 i4 i5 : Int32} (I : SH (spM (IA 0 0 14 9999 w) ((gp2, (pp nL), zF, zQ, (EQ bT)) : PIT) (EQ g0) LDa) nnM G ad L f) (hB : BBp 0 0 14 9999 w) (hX : TX g0) (hL : 0 ≤ nL ∧ nL ≤ 300) : PMi l yX12_feed cX12_feed 6 .int 1 0 0 G [.ref (ad 0 0), .int i1, .int i2, .int i3, .int i4, .int i5] L f (fun r L1 f1 => (r.toInt = if nL + 20 ≤ 300 then nL + 20 else -1) ∧ SH (spM (IA 0 0 14 9999 w) ((gp2, (pp (feN nL)), zF, zQ, (EQ (feB bT nL i1 i2 i3 i4 i5))) : PIT) (EQ g0) LDa) nnM G ad L1 f1) := by
  refine PMi.of (post := fun r L1 f1 => (r.toInt = if nL + 20 ≤ 300 then nL + 20 else -1) ∧ SH (spM (IA 0 0 14 9999 w) ((gp2, (pp (feN nL)), zF, zQ, (EQ (feB bT nL i1 i2 i3 i4 i5))) : PIT) (EQ g0) LDa) nnM G ad L1 f1) (own := RX12) (by decide) rfl (Nat.le_of_ble_eq_true rfl) (fun sz p e s m args below meth c A ls hA1 hname S Y hl => ?_)
  have hx := S.hx
  have hb := S.hb
  have hl : lv_has ls 6 [(0, .ref (ad 0 0)), (1, .int i1), (2, .int i2), (3, .int i3), (4, .int i4), (5, .int i5)] := hl
  refine lv_aload_n hx hb dX12_feed_0 rfl (lv_at hl 0 rfl) ?_
  obtain ⟨v_84644, v_84646, v_84648, v_84650, v_84652, v_84654, v_84656, v_84658, v_84659, v_84661, v_84663, v_84665, v_84667, v_84669, v_84671, v_84673, v_84675, v_84677, p_ad_0_0, b_84645, b_84647, b_84649, b_84651, b_84653, b_84655, b_84657, b_84660, b_84662, b_84664, b_84666, b_84668, b_84670, b_84672, b_84674, b_84676, b_84678⟩ := opnM_0 (j := 0) I (by decide)
  have p_ad_0_0 : pt L f (ad 0 0) (.inr (12, [.ref (ad 1 0), .ref (ad 2 0), .ref (ad 3 0), .ref (ad 4 0), .int v_84644, .int v_84646, .int v_84648, .int v_84650, .int v_84652, .int v_84654, .int v_84656, .long v_84658, .int v_84659, .int v_84661, .int v_84663, .ref (ad 5 0), .ref (ad 6 0), .int v_84665, .int v_84667, .int v_84669, .int v_84671, .int v_84673, .ref (ad 7 0), .ref (ad 8 0), .ref (ad 9 0), .int v_84675, .ref (ad 10 0), .ref (ad 11 0), .ref (ad 12 0), .ref (ad 13 0), .int v_84677, .ref (ad 14 0)])) := p_ad_0_0
  have tt_84679 : v_84644.toInt = nL := lim_eq b_84645
  refine pg_get S Y ok_X12 4 (by decide) kf12_81 (v := .int v_84644) p_ad_0_0 rfl dX12_feed_1 ?_
  refine lv_bipush (v := 20) hx hb dX12_feed_4 (by decide) ?_
  refine lv_iadd hx hb dX12_feed_6 ?_
  refine lv_topi (fun x_84680 ex_84680 => ?_)
  refine lv_sipush (v := 300) hx hb dX12_feed_7 (by decide) ?_
  refine lv_icmp_le (tgt := 15) hx hb dX12_feed_10 (by decide) (fun c_84681 => ?_) (fun c_84681 => ?_)
  · have B_84682 : bn 20 300 x_84680 := bn_w (bn_lel c_84681 (bn_eq ex_84680 (bn_add (bn_w (a' := 0) (b' := 300) b_84645 (lim_b _ _ _)) (show bn 20 20 (20 : Int32) from bn_k (by decide)) (by decide))) (show bn 300 300 (300 : Int32) from bn_k (by decide))) (by decide)
    have hroom := (show nL + 20 ≤ 300 from by have k9 := (show _ from by have z9 := c_84681; rw [Int32.le_iff_toInt_le] at z9; exact z9); have k8 := (la_add ex_84680 tt_84679 (show (20 : Int32).toInt = 20 from rfl) (bn_w (a' := 0) (b' := 300) b_84645 (lim_b _ _ _)) (show bn 20 20 (20 : Int32) from bn_k (by decide)) (by decide)); have k7 : (300 : Int32).toInt = 300 := rfl; omega)
    refine lv_aload_n hx hb dX12_feed_15 rfl (lv_at hl 0 rfl) ?_
    refine lv_iload_n hx hb dX12_feed_16 rfl (lv_at hl 1 rfl) ?_
    refine cVv (As := [.int i1]) (rest := []) S Y (x_X12_four (l := l) I p_ad_0_0 (by have h9 := hroom; have h8 := hL.1; omega)) cw_X12_four km12_84 p_ad_0_0 ok_X12.1 rfl rfl ⟨Nat.le_of_ble_eq_true rfl, Nat.le_of_ble_eq_true rfl⟩ hl.1 rfl (Nat.le_of_ble_eq_true rfl) ⟨Nat.le_of_ble_eq_true rfl, Nat.le_of_ble_eq_true rfl⟩ dX12_feed_17 (fun L_84684 f_84685 H locs hr_84686 Y => ?_)
    obtain ⟨v_84687, I, p_ad_0_0⟩ := hr_84686
    obtain ⟨bfc84687_4, bfc84687_5, bfc84687_6, bfc84687_7, bfc84687_8, bfc84687_12, bfc84687_13, bfc84687_17, bfc84687_18, bfc84687_19, bfc84687_20, bfc84687_25⟩ := obM I p_ad_0_0
    have tt_84689 : v_84687.toInt = (nL + 4) := lim_eq bfc84687_4
    have B_84690 : bn 0 300 v_84687 := ⟨by have h9 := tt_84689; have h8 := hL.1; omega, by have h9 := tt_84689; have h8 := hroom; omega⟩
    refine lv_aload_n hx hb dX12_feed_20 rfl (lv_at hl 0 rfl) ?_
    refine lv_iload_n hx hb dX12_feed_21 rfl (lv_at hl 2 rfl) ?_
    refine cVv (As := [.int i2]) (rest := []) S Y (x_X12_four (l := l) I p_ad_0_0 (by have h9 := hroom; have h8 := hL.1; omega)) cw_X12_four km12_84 p_ad_0_0 ok_X12.1 rfl rfl ⟨Nat.le_of_ble_eq_true rfl, Nat.le_of_ble_eq_true rfl⟩ hl.1 rfl (Nat.le_of_ble_eq_true rfl) ⟨Nat.le_of_ble_eq_true rfl, Nat.le_of_ble_eq_true rfl⟩ dX12_feed_22 (fun L_84691 f_84692 H locs hr_84693 Y => ?_)
    obtain ⟨v_84694, I, p_ad_0_0⟩ := hr_84693
    obtain ⟨bfc84694_4, bfc84694_5, bfc84694_6, bfc84694_7, bfc84694_8, bfc84694_12, bfc84694_13, bfc84694_17, bfc84694_18, bfc84694_19, bfc84694_20, bfc84694_25⟩ := obM I p_ad_0_0
    have tt_84696 : v_84694.toInt = ((nL + 4) + 4) := lim_eq bfc84694_4
    have B_84697 : bn 0 300 v_84694 := ⟨by have h9 := tt_84696; have h8 := hL.1; omega, by have h9 := tt_84696; have h8 := hroom; omega⟩
    refine lv_aload_n hx hb dX12_feed_25 rfl (lv_at hl 0 rfl) ?_
    refine lv_iload_n hx hb dX12_feed_26 rfl (lv_at hl 3 rfl) ?_
    refine cVv (As := [.int i3]) (rest := []) S Y (x_X12_four (l := l) I p_ad_0_0 (by have h9 := hroom; have h8 := hL.1; omega)) cw_X12_four km12_84 p_ad_0_0 ok_X12.1 rfl rfl ⟨Nat.le_of_ble_eq_true rfl, Nat.le_of_ble_eq_true rfl⟩ hl.1 rfl (Nat.le_of_ble_eq_true rfl) ⟨Nat.le_of_ble_eq_true rfl, Nat.le_of_ble_eq_true rfl⟩ dX12_feed_27 (fun L_84698 f_84699 H locs hr_84700 Y => ?_)
    obtain ⟨v_84701, I, p_ad_0_0⟩ := hr_84700
    obtain ⟨bfc84701_4, bfc84701_5, bfc84701_6, bfc84701_7, bfc84701_8, bfc84701_12, bfc84701_13, bfc84701_17, bfc84701_18, bfc84701_19, bfc84701_20, bfc84701_25⟩ := obM I p_ad_0_0
    have tt_84703 : v_84701.toInt = (((nL + 4) + 4) + 4) := lim_eq bfc84701_4
    have B_84704 : bn 0 300 v_84701 := ⟨by have h9 := tt_84703; have h8 := hL.1; omega, by have h9 := tt_84703; have h8 := hroom; omega⟩
    refine lv_aload_n hx hb dX12_feed_30 rfl (lv_at hl 0 rfl) ?_
    refine lv_iload hx hb dX12_feed_31 (lv_at hl 4 rfl) ?_
    refine cVv (As := [.int i4]) (rest := []) S Y (x_X12_four (l := l) I p_ad_0_0 (by have h9 := hroom; have h8 := hL.1; omega)) cw_X12_four km12_84 p_ad_0_0 ok_X12.1 rfl rfl ⟨Nat.le_of_ble_eq_true rfl, Nat.le_of_ble_eq_true rfl⟩ hl.1 rfl (Nat.le_of_ble_eq_true rfl) ⟨Nat.le_of_ble_eq_true rfl, Nat.le_of_ble_eq_true rfl⟩ dX12_feed_33 (fun L_84705 f_84706 H locs hr_84707 Y => ?_)
    obtain ⟨v_84708, I, p_ad_0_0⟩ := hr_84707
    obtain ⟨bfc84708_4, bfc84708_5, bfc84708_6, bfc84708_7, bfc84708_8, bfc84708_12, bfc84708_13, bfc84708_17, bfc84708_18, bfc84708_19, bfc84708_20, bfc84708_25⟩ := obM I p_ad_0_0
    have tt_84710 : v_84708.toInt = ((((nL + 4) + 4) + 4) + 4) := lim_eq bfc84708_4
    have B_84711 : bn 0 300 v_84708 := ⟨by have h9 := tt_84710; have h8 := hL.1; omega, by have h9 := tt_84710; have h8 := hroom; omega⟩
    refine lv_aload_n hx hb dX12_feed_36 rfl (lv_at hl 0 rfl) ?_
    refine lv_iload hx hb dX12_feed_37 (lv_at hl 5 rfl) ?_
    refine cVv (As := [.int i5]) (rest := []) S Y (x_X12_four (l := l) I p_ad_0_0 (by have h9 := hroom; have h8 := hL.1; omega)) cw_X12_four km12_84 p_ad_0_0 ok_X12.1 rfl rfl ⟨Nat.le_of_ble_eq_true rfl, Nat.le_of_ble_eq_true rfl⟩ hl.1 rfl (Nat.le_of_ble_eq_true rfl) ⟨Nat.le_of_ble_eq_true rfl, Nat.le_of_ble_eq_true rfl⟩ dX12_feed_39 (fun L_84712 f_84713 H locs hr_84714 Y => ?_)
    obtain ⟨v_84715, I, p_ad_0_0⟩ := hr_84714
    obtain ⟨bfc84715_4, bfc84715_5, bfc84715_6, bfc84715_7, bfc84715_8, bfc84715_12, bfc84715_13, bfc84715_17, bfc84715_18, bfc84715_19, bfc84715_20, bfc84715_25⟩ := obM I p_ad_0_0
    have tt_84717 : v_84715.toInt = (((((nL + 4) + 4) + 4) + 4) + 4) := lim_eq bfc84715_4
    have B_84718 : bn 0 300 v_84715 := ⟨by have h9 := tt_84717; have h8 := hL.1; omega, by have h9 := tt_84717; have h8 := hroom; omega⟩
    refine lv_aload_n hx hb dX12_feed_42 rfl (lv_at hl 0 rfl) ?_
    refine pg_get S Y ok_X12 4 (by decide) kf12_81 (v := .int v_84715) p_ad_0_0 rfl dX12_feed_43 ?_
    exact prI (post := fun r L1 f1 => (r.toInt = if nL + 20 ≤ 300 then nL + 20 else -1) ∧ SH (spM (IA 0 0 14 9999 w) ((gp2, (pp (feN nL)), zF, zQ, (EQ (feB bT nL i1 i2 i3 i4 i5))) : PIT) (EQ g0) LDa) nnM G ad L1 f1) S Y rfl (by decide) (by decide) hA1 ⟨(by rw [if_pos hroom]; have h9 := tt_84717; omega), (SHe I (by rw [(fe_y (B := bT) (i1 := i1) (i2 := i2) (i3 := i3) (i4 := i4) (i5 := i5) hroom hL.1).1, (fe_y (B := bT) (i1 := i1) (i2 := i2) (i3 := i3) (i4 := i4) (i5 := i5) hroom hL.1).2]))⟩ dX12_feed_46
  · have B_84683 : bn 301 320 x_84680 := bn_w (bn_gtl c_84681 (bn_eq ex_84680 (bn_add (bn_w (a' := 0) (b' := 300) b_84645 (lim_b _ _ _)) (show bn 20 20 (20 : Int32) from bn_k (by decide)) (by decide))) (show bn 300 300 (300 : Int32) from bn_k (by decide))) (by decide)
    refine lv_iconst (v := (-1)) hx hb dX12_feed_13 (by decide) ?_
    exact prI (post := fun r L1 f1 => (r.toInt = if nL + 20 ≤ 300 then nL + 20 else -1) ∧ SH (spM (IA 0 0 14 9999 w) ((gp2, (pp (feN nL)), zF, zQ, (EQ (feB bT nL i1 i2 i3 i4 i5))) : PIT) (EQ g0) LDa) nnM G ad L1 f1) S Y rfl (by decide) (by decide) hA1 ⟨(show (-1 : Int32).toInt = _ from by rw [if_neg (show ¬ nL + 20 ≤ 300 from by have k9 := (show _ from by have z9 := (Int32.not_le.mp c_84681); rw [Int32.lt_iff_toInt_lt] at z9; exact z9); have k8 := (la_add ex_84680 tt_84679 (show (20 : Int32).toInt = 20 from rfl) (bn_w (a' := 0) (b' := 300) b_84645 (lim_b _ _ _)) (show bn 20 20 (20 : Int32) from bn_k (by decide)) (by decide)); have k7 : (300 : Int32).toInt = 300 := rfl; omega)]; rfl), (SHe I (by rw [(fe_n (B := bT) (i1 := i1) (i2 := i2) (i3 := i3) (i4 := i4) (i5 := i5) (show ¬ nL + 20 ≤ 300 from by have k9 := (show _ from by have z9 := (Int32.not_le.mp c_84681); rw [Int32.lt_iff_toInt_lt] at z9; exact z9); have k8 := (la_add ex_84680 tt_84679 (show (20 : Int32).toInt = 20 from rfl) (bn_w (a' := 0) (b' := 300) b_84645 (lim_b _ _ _)) (show bn 20 20 (20 : Int32) from bn_k (by decide)) (by decide)); have k7 : (300 : Int32).toInt = 300 := rfl; omega)).1, (fe_n (B := bT) (i1 := i1) (i2 := i2) (i3 := i3) (i4 := i4) (i5 := i5) (show ¬ nL + 20 ≤ 300 from by have k9 := (show _ from by have z9 := (Int32.not_le.mp c_84681); rw [Int32.lt_iff_toInt_lt] at z9; exact z9); have k8 := (la_add ex_84680 tt_84679 (show (20 : Int32).toInt = 20 from rfl) (bn_w (a' := 0) (b' := 300) b_84645 (lim_b _ _ _)) (show bn 20 20 (20 : Int32) from bn_k (by decide)) (by decide)); have k7 : (300 : Int32).toInt = 300 := rfl; omega)).2]))⟩ dX12_feed_14
set_option maxHeartbeats 4000000 in
set_option maxRecDepth 100000 in
theorem x_X12_end {l : Launch} {G : GG}  {L : List Nat} {f : HF} {ad : Nat → Nat → Nat} {w : WW} {gp2 : (Nat → Int32) → Prop} {zF : Int × Int} {zQ : Int × Int} {zT : (Nat → Int32) → Prop} {nL : Int} {g0 : Nat → Int32} {i1 : Int32} (I : SH (spM (IA 0 0 14 9999 w) ((gp2, (pp nL), zF, zQ, zT) : PIT) (EQ g0) LDa) nnM G ad L f) (hB : BBp 0 0 14 9999 w) (hX : TX g0) (hL : 0 ≤ nL ∧ nL ≤ 300) : PMi l yX12_end cX12_end 2 .int 1 0 0 G [.ref (ad 0 0), .int i1] L f (fun r L1 f1 => (r.toInt = if 0 ≤ i1.toInt ∧ i1.toInt ≤ nL then i1.toInt else -1) ∧ SH (spM (IA 0 0 14 9999 w) ((gp2, (pp (cuL nL i1.toInt)), zF, zQ, zT) : PIT) (EQ g0) LDa) nnM G ad L1 f1) := by
  refine PMi.of (post := fun r L1 f1 => (r.toInt = if 0 ≤ i1.toInt ∧ i1.toInt ≤ nL then i1.toInt else -1) ∧ SH (spM (IA 0 0 14 9999 w) ((gp2, (pp (cuL nL i1.toInt)), zF, zQ, zT) : PIT) (EQ g0) LDa) nnM G ad L1 f1) (own := RX12) (by decide) rfl (Nat.le_of_ble_eq_true rfl) (fun sz p e s m args below meth c A ls hA1 hname S Y hl => ?_)
  have hx := S.hx
  have hb := S.hb
  have hl : lv_has ls 2 [(0, .ref (ad 0 0)), (1, .int i1)] := hl
  refine lv_iload_n hx hb dX12_end_0 rfl (lv_at hl 1 rfl) ?_
  refine lv_iconst (v := 0) hx hb dX12_end_1 (by decide) ?_
  refine lv_aload_n hx hb dX12_end_2 rfl (lv_at hl 0 rfl) ?_
  obtain ⟨v_84801, v_84803, v_84805, v_84807, v_84809, v_84811, v_84813, v_84815, v_84816, v_84818, v_84820, v_84822, v_84824, v_84826, v_84828, v_84830, v_84832, v_84834, p_ad_0_0, b_84802, b_84804, b_84806, b_84808, b_84810, b_84812, b_84814, b_84817, b_84819, b_84821, b_84823, b_84825, b_84827, b_84829, b_84831, b_84833, b_84835⟩ := opnM_0 (j := 0) I (by decide)
  have p_ad_0_0 : pt L f (ad 0 0) (.inr (12, [.ref (ad 1 0), .ref (ad 2 0), .ref (ad 3 0), .ref (ad 4 0), .int v_84801, .int v_84803, .int v_84805, .int v_84807, .int v_84809, .int v_84811, .int v_84813, .long v_84815, .int v_84816, .int v_84818, .int v_84820, .ref (ad 5 0), .ref (ad 6 0), .int v_84822, .int v_84824, .int v_84826, .int v_84828, .int v_84830, .ref (ad 7 0), .ref (ad 8 0), .ref (ad 9 0), .int v_84832, .ref (ad 10 0), .ref (ad 11 0), .ref (ad 12 0), .ref (ad 13 0), .int v_84834, .ref (ad 14 0)])) := p_ad_0_0
  have tt_84836 : v_84801.toInt = nL := lim_eq b_84802
  refine pg_get S Y ok_X12 4 (by decide) kf12_81 (v := .int v_84801) p_ad_0_0 rfl dX12_end_3 ?_
  refine cSp (As := [.int i1, .int 0, .int v_84801]) (rest := []) S Y (x_X12_isInX (l := l) ) cw_X12_isIn km12_69 rfl ⟨Nat.le_of_ble_eq_true rfl, Nat.le_of_ble_eq_true rfl⟩ hl.1 rfl (Nat.le_of_ble_eq_true rfl) ⟨Nat.le_of_ble_eq_true rfl, Nat.le_of_ble_eq_true rfl⟩ dX12_end_6 (fun r_84837 H locs er_84837 Y => ?_)
  refine lv_if_ne (tgt := 14) hx hb dX12_end_9 (by decide) (fun c_84838 => ?_) (fun c_84838 => ?_)
  · refine lv_aload_n hx hb dX12_end_14 rfl (lv_at hl 0 rfl) ?_
    refine lv_iload_n hx hb dX12_end_15 rfl (lv_at hl 1 rfl) ?_
    have B_84840 : bn 0 300 i1 := ⟨(winM_t er_84837 c_84838).1, by have h9 := (winM_t er_84837 c_84838).2; have h8 := tt_84836; have h7 := hL.2; omega⟩
    refine pg_put S Y ok_X12 4 (by decide) kf12_81 rfl (fs' := [.ref (ad 1 0), .ref (ad 2 0), .ref (ad 3 0), .ref (ad 4 0), .int i1, .int v_84803, .int v_84805, .int v_84807, .int v_84809, .int v_84811, .int v_84813, .long v_84815, .int v_84816, .int v_84818, .int v_84820, .ref (ad 5 0), .ref (ad 6 0), .int v_84822, .int v_84824, .int v_84826, .int v_84828, .int v_84830, .ref (ad 7 0), .ref (ad 8 0), .ref (ad 9 0), .int v_84832, .ref (ad 10 0), .ref (ad 11 0), .ref (ad 12 0), .ref (ad 13 0), .int v_84834, .ref (ad 14 0)]) (v := .int i1) p_ad_0_0 rfl rfl rfl (Nat.le_of_ble_eq_true rfl) dX12_end_16 (fun f_84841 H locs ef_84841 Y => ?_)
    have p_ad_0_0 := p_ad_0_0.me ef_84841
    have I := I.upS (sp' := spM (IA 0 0 14 9999 w) ((gp2, (pp i1.toInt), zF, zQ, zT) : PIT) (EQ g0) LDa) (k := 0) (j := 0) (by decide) ef_84841 (okE_o (okFs_c okV_r (okFs_c okV_r (okFs_c okV_r (okFs_c okV_r (okFs_c (okV_p (lim_mk (bn_w B_84840 (by decide) : bn 0 300 i1) (rfl : i1.toInt = i1.toInt))) (okFs_c (okV_p b_84804) (okFs_c (okV_p b_84806) (okFs_c (okV_i b_84808) (okFs_c (okV_i b_84810) (okFs_c (okV_i b_84812) (okFs_c (okV_i b_84814) (okFs_c okV_l (okFs_c (okV_i b_84817) (okFs_c (okV_i b_84819) (okFs_c (okV_i b_84821) (okFs_c okV_r (okFs_c okV_r (okFs_c (okV_i b_84823) (okFs_c (okV_i b_84825) (okFs_c (okV_i b_84827) (okFs_c (okV_i b_84829) (okFs_c (okV_i b_84831) (okFs_c okV_r (okFs_c okV_r (okFs_c okV_r (okFs_c (okV_i b_84833) (okFs_c okV_r (okFs_c okV_r (okFs_c okV_r (okFs_c okV_r (okFs_c (okV_i b_84835) (okFs_c okV_r okFs_n))))))))))))))))))))))))))))))))) pVC
    refine lv_iload_n hx hb dX12_end_19 rfl (lv_at hl 1 rfl) ?_
    exact prI (post := fun r L1 f1 => (r.toInt = if 0 ≤ i1.toInt ∧ i1.toInt ≤ nL then i1.toInt else -1) ∧ SH (spM (IA 0 0 14 9999 w) ((gp2, (pp (cuL nL i1.toInt)), zF, zQ, zT) : PIT) (EQ g0) LDa) nnM G ad L1 f1) S Y rfl (by decide) (by decide) hA1 ⟨(by rw [if_pos (by have h9 := (winM_t er_84837 c_84838); have h8 := tt_84836; have h7 : (0 : Int32).toInt = 0 := rfl; omega)]), (SHe I (by rw [show cuL nL i1.toInt = i1.toInt from if_pos (by have h9 := (winM_t er_84837 c_84838); have h8 := tt_84836; have h7 : (0 : Int32).toInt = 0 := rfl; omega)]))⟩ dX12_end_20
  · have B_84839 : bn 0 0 r_84837 := bn_w (bn_eq c_84838 (show bn 0 0 (0 : Int32) from bn_k (by decide))) (by decide)
    refine lv_iconst (v := (-1)) hx hb dX12_end_12 (by decide) ?_
    exact prI (post := fun r L1 f1 => (r.toInt = if 0 ≤ i1.toInt ∧ i1.toInt ≤ nL then i1.toInt else -1) ∧ SH (spM (IA 0 0 14 9999 w) ((gp2, (pp (cuL nL i1.toInt)), zF, zQ, zT) : PIT) (EQ g0) LDa) nnM G ad L1 f1) S Y rfl (by decide) (by decide) hA1 ⟨(show (-1 : Int32).toInt = _ from by rw [if_neg (by have h9 := (winM_f er_84837 c_84838); have h8 := tt_84836; have h7 : (0 : Int32).toInt = 0 := rfl; omega)]; rfl), (SHe I (by rw [show cuL nL i1.toInt = nL from if_neg (by have h9 := (winM_f er_84837 c_84838); have h8 := tt_84836; have h7 : (0 : Int32).toInt = 0 := rfl; omega)]))⟩ dX12_end_13
set_option maxHeartbeats 4000000 in
set_option maxRecDepth 100000 in
theorem x_X12_fault {l : Launch} {G : GG}  {L : List Nat} {f : HF} {ad : Nat → Nat → Nat} {w : WW} {gp2 : (Nat → Int32) → Prop} {zL : Int × Int} {zT : (Nat → Int32) → Prop} {kF : Int} {pF : Int} {g0 : Nat → Int32} {i1 : Int32} (I : SH (spM (IA 0 0 14 9999 w) ((gp2, zL, (pp kF), (pp pF), zT) : PIT) (EQ g0) LDa) nnM G ad L f) (hB : BBp 0 0 14 9999 w) (hX : TX g0) : PMi l yX12_fault cX12_fault 2 .int 0 0 0 G [.ref (ad 0 0), .int i1] L f (fun r L1 f1 => (r.toInt = faV kF pF i1) ∧ SH (spM (IA 0 0 14 9999 w) ((gp2, zL, (pp kF), (pp pF), zT) : PIT) (EQ g0) LDa) nnM G ad L1 f1) := by
  refine PMi.of (post := fun r L1 f1 => (r.toInt = faV kF pF i1) ∧ SH (spM (IA 0 0 14 9999 w) ((gp2, zL, (pp kF), (pp pF), zT) : PIT) (EQ g0) LDa) nnM G ad L1 f1) (own := RX12) (by decide) rfl (Nat.le_of_ble_eq_true rfl) (fun sz p e s m args below meth c A ls hA1 hname S Y hl => ?_)
  have hx := S.hx
  have hb := S.hb
  have hl : lv_has ls 2 [(0, .ref (ad 0 0)), (1, .int i1)] := hl
  refine lv_iload_n hx hb dX12_fault_0 rfl (lv_at hl 1 rfl) ?_
  refine lv_if_ne (tgt := 11) hx hb dX12_fault_1 (by decide) (fun c_84998 => ?_) (fun c_84998 => ?_)
  · refine lv_iload_n hx hb dX12_fault_11 rfl (lv_at hl 1 rfl) ?_
    refine lv_iconst (v := 1) hx hb dX12_fault_12 (by decide) ?_
    refine lv_icmp_ne (tgt := 23) hx hb dX12_fault_13 (by decide) (fun c_85000 => ?_) (fun c_85000 => ?_)
    · refine lv_iconst (v := (-1)) hx hb dX12_fault_23 (by decide) ?_
      exact prI (post := fun r L1 f1 => (r.toInt = faV kF pF i1) ∧ SH (spM (IA 0 0 14 9999 w) ((gp2, zL, (pp kF), (pp pF), zT) : PIT) (EQ g0) LDa) nnM G ad L1 f1) S Y rfl (by decide) (by decide) hA1 ⟨(show (-1 : Int32).toInt = faV kF pF i1 from by unfold faV; rw [if_neg c_84998, if_neg c_85000]; rfl), I⟩ dX12_fault_24
    · have B_85001 : bn 1 1 i1 := bn_w (bn_eq c_85000 (show bn 1 1 (1 : Int32) from bn_k (by decide))) (by decide)
      refine lv_aload_n hx hb dX12_fault_16 rfl (lv_at hl 0 rfl) ?_
      obtain ⟨v_85002, v_85004, v_85006, v_85008, v_85010, v_85012, v_85014, v_85016, v_85017, v_85019, v_85021, v_85023, v_85025, v_85027, v_85029, v_85031, v_85033, v_85035, p_ad_0_0, b_85003, b_85005, b_85007, b_85009, b_85011, b_85013, b_85015, b_85018, b_85020, b_85022, b_85024, b_85026, b_85028, b_85030, b_85032, b_85034, b_85036⟩ := opnM_0 (j := 0) I (by decide)
      have p_ad_0_0 : pt L f (ad 0 0) (.inr (12, [.ref (ad 1 0), .ref (ad 2 0), .ref (ad 3 0), .ref (ad 4 0), .int v_85002, .int v_85004, .int v_85006, .int v_85008, .int v_85010, .int v_85012, .int v_85014, .long v_85016, .int v_85017, .int v_85019, .int v_85021, .ref (ad 5 0), .ref (ad 6 0), .int v_85023, .int v_85025, .int v_85027, .int v_85029, .int v_85031, .ref (ad 7 0), .ref (ad 8 0), .ref (ad 9 0), .int v_85033, .ref (ad 10 0), .ref (ad 11 0), .ref (ad 12 0), .ref (ad 13 0), .int v_85035, .ref (ad 14 0)])) := p_ad_0_0
      have tt_85037 : v_85004.toInt = kF := lim_eq b_85005
      have tt_85038 : v_85006.toInt = pF := lim_eq b_85007
      refine pg_get S Y ok_X12 6 (by decide) kf12_26 (v := .int v_85006) p_ad_0_0 rfl dX12_fault_17 ?_
      refine lv_goto (tgt := 24) hx hb dX12_fault_20 (by decide) ?_
      exact prI (post := fun r L1 f1 => (r.toInt = faV kF pF i1) ∧ SH (spM (IA 0 0 14 9999 w) ((gp2, zL, (pp kF), (pp pF), zT) : PIT) (EQ g0) LDa) nnM G ad L1 f1) S Y rfl (by decide) (by decide) hA1 ⟨(by unfold faV; rw [if_neg c_84998, if_pos c_85000]; exact tt_85038), I⟩ dX12_fault_24
  · have B_84999 : bn 0 0 i1 := bn_w (bn_eq c_84998 (show bn 0 0 (0 : Int32) from bn_k (by decide))) (by decide)
    refine lv_aload_n hx hb dX12_fault_4 rfl (lv_at hl 0 rfl) ?_
    obtain ⟨v_85039, v_85041, v_85043, v_85045, v_85047, v_85049, v_85051, v_85053, v_85054, v_85056, v_85058, v_85060, v_85062, v_85064, v_85066, v_85068, v_85070, v_85072, p_ad_0_0, b_85040, b_85042, b_85044, b_85046, b_85048, b_85050, b_85052, b_85055, b_85057, b_85059, b_85061, b_85063, b_85065, b_85067, b_85069, b_85071, b_85073⟩ := opnM_0 (j := 0) I (by decide)
    have p_ad_0_0 : pt L f (ad 0 0) (.inr (12, [.ref (ad 1 0), .ref (ad 2 0), .ref (ad 3 0), .ref (ad 4 0), .int v_85039, .int v_85041, .int v_85043, .int v_85045, .int v_85047, .int v_85049, .int v_85051, .long v_85053, .int v_85054, .int v_85056, .int v_85058, .ref (ad 5 0), .ref (ad 6 0), .int v_85060, .int v_85062, .int v_85064, .int v_85066, .int v_85068, .ref (ad 7 0), .ref (ad 8 0), .ref (ad 9 0), .int v_85070, .ref (ad 10 0), .ref (ad 11 0), .ref (ad 12 0), .ref (ad 13 0), .int v_85072, .ref (ad 14 0)])) := p_ad_0_0
    have tt_85074 : v_85041.toInt = kF := lim_eq b_85042
    have tt_85075 : v_85043.toInt = pF := lim_eq b_85044
    refine pg_get S Y ok_X12 5 (by decide) kf12_22 (v := .int v_85041) p_ad_0_0 rfl dX12_fault_5 ?_
    refine lv_goto (tgt := 24) hx hb dX12_fault_8 (by decide) ?_
    exact prI (post := fun r L1 f1 => (r.toInt = faV kF pF i1) ∧ SH (spM (IA 0 0 14 9999 w) ((gp2, zL, (pp kF), (pp pF), zT) : PIT) (EQ g0) LDa) nnM G ad L1 f1) S Y rfl (by decide) (by decide) hA1 ⟨(by unfold faV; rw [if_pos c_84998]; exact tt_85074), I⟩ dX12_fault_24
