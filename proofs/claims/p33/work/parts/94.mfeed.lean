theorem dX12_four_0 : decode cX12_four 0 = .ok (.bipush 24, 2) := by decide +kernel
theorem dX12_four_2 : decode cX12_four 2 = .ok (.istore_n 2, 1) := by decide +kernel
theorem dX12_four_3 : decode cX12_four 3 = .ok (.iload_n 2, 1) := by decide +kernel
theorem dX12_four_4 : decode cX12_four 4 = .ok (.ifCond .lt 35, 3) := by decide +kernel
theorem dX12_four_7 : decode cX12_four 7 = .ok (.aload_n 0, 1) := by decide +kernel
theorem dX12_four_8 : decode cX12_four 8 = .ok (.getfield 19, 3) := by decide +kernel
theorem dX12_four_11 : decode cX12_four 11 = .ok (.aload_n 0, 1) := by decide +kernel
theorem dX12_four_12 : decode cX12_four 12 = .ok (.getfield 81, 3) := by decide +kernel
theorem dX12_four_15 : decode cX12_four 15 = .ok (.iload_n 1, 1) := by decide +kernel
theorem dX12_four_16 : decode cX12_four 16 = .ok (.iload_n 2, 1) := by decide +kernel
theorem dX12_four_17 : decode cX12_four 17 = .ok (.ishr, 1) := by decide +kernel
theorem dX12_four_18 : decode cX12_four 18 = .ok (.sipush 255, 3) := by decide +kernel
theorem dX12_four_21 : decode cX12_four 21 = .ok (.iand, 1) := by decide +kernel
theorem dX12_four_22 : decode cX12_four 22 = .ok (.iastore, 1) := by decide +kernel
theorem dX12_four_23 : decode cX12_four 23 = .ok (.aload_n 0, 1) := by decide +kernel
theorem dX12_four_24 : decode cX12_four 24 = .ok (.dup, 1) := by decide +kernel
theorem dX12_four_25 : decode cX12_four 25 = .ok (.getfield 81, 3) := by decide +kernel
theorem dX12_four_28 : decode cX12_four 28 = .ok (.iconst 1, 1) := by decide +kernel
theorem dX12_four_29 : decode cX12_four 29 = .ok (.iadd, 1) := by decide +kernel
theorem dX12_four_30 : decode cX12_four 30 = .ok (.putfield 81, 3) := by decide +kernel
theorem dX12_four_33 : decode cX12_four 33 = .ok (.iinc 2 (-8), 3) := by decide +kernel
theorem dX12_four_36 : decode cX12_four 36 = .ok (.goto (-33), 3) := by decide +kernel
theorem dX12_four_39 : decode cX12_four 39 = .ok (.return_, 1) := by decide +kernel
theorem dX12_feed_0 : decode cX12_feed 0 = .ok (.aload_n 0, 1) := by decide +kernel
theorem dX12_feed_1 : decode cX12_feed 1 = .ok (.getfield 81, 3) := by decide +kernel
theorem dX12_feed_4 : decode cX12_feed 4 = .ok (.bipush 20, 2) := by decide +kernel
theorem dX12_feed_6 : decode cX12_feed 6 = .ok (.iadd, 1) := by decide +kernel
theorem dX12_feed_7 : decode cX12_feed 7 = .ok (.sipush 300, 3) := by decide +kernel
theorem dX12_feed_10 : decode cX12_feed 10 = .ok (.if_icmp .le 5, 3) := by decide +kernel
theorem dX12_feed_15 : decode cX12_feed 15 = .ok (.aload_n 0, 1) := by decide +kernel
theorem dX12_feed_16 : decode cX12_feed 16 = .ok (.iload_n 1, 1) := by decide +kernel
theorem dX12_feed_17 : decode cX12_feed 17 = .ok (.invokevirtual 84, 3) := by decide +kernel
theorem cw_X12_four : CWv yX12_four cX12_four 3 none 1 := ⟨⟨⟨List.mem_of_getElem? (i := 137) (by decide +kernel), by decide +kernel⟩, ⟨List.mem_of_getElem? (i := 1611) (by decide +kernel), by decide +kernel⟩, by decide +kernel⟩, ⟨List.mem_of_getElem? (i := 1610) (by decide +kernel), by decide +kernel⟩, ⟨List.mem_of_getElem? (i := 48) (by decide +kernel), by decide +kernel⟩⟩
theorem km12_84 : inW (Cond.methodLink RX12 84 yX12_four) := ⟨List.mem_of_getElem? (i := 1608) (by decide +kernel), by decide +kernel⟩
theorem dX12_feed_20 : decode cX12_feed 20 = .ok (.aload_n 0, 1) := by decide +kernel
theorem dX12_feed_21 : decode cX12_feed 21 = .ok (.iload_n 2, 1) := by decide +kernel
theorem dX12_feed_22 : decode cX12_feed 22 = .ok (.invokevirtual 84, 3) := by decide +kernel
theorem dX12_feed_25 : decode cX12_feed 25 = .ok (.aload_n 0, 1) := by decide +kernel
theorem dX12_feed_26 : decode cX12_feed 26 = .ok (.iload_n 3, 1) := by decide +kernel
theorem dX12_feed_27 : decode cX12_feed 27 = .ok (.invokevirtual 84, 3) := by decide +kernel
theorem dX12_feed_30 : decode cX12_feed 30 = .ok (.aload_n 0, 1) := by decide +kernel
theorem dX12_feed_31 : decode cX12_feed 31 = .ok (.iload 4, 2) := by decide +kernel
theorem dX12_feed_33 : decode cX12_feed 33 = .ok (.invokevirtual 84, 3) := by decide +kernel
theorem dX12_feed_36 : decode cX12_feed 36 = .ok (.aload_n 0, 1) := by decide +kernel
theorem dX12_feed_37 : decode cX12_feed 37 = .ok (.iload 5, 2) := by decide +kernel
theorem dX12_feed_39 : decode cX12_feed 39 = .ok (.invokevirtual 84, 3) := by decide +kernel
theorem dX12_feed_42 : decode cX12_feed 42 = .ok (.aload_n 0, 1) := by decide +kernel
theorem dX12_feed_43 : decode cX12_feed 43 = .ok (.getfield 81, 3) := by decide +kernel
theorem dX12_feed_46 : decode cX12_feed 46 = .ok (.ireturn, 1) := by decide +kernel
theorem dX12_feed_13 : decode cX12_feed 13 = .ok (.iconst (-1), 1) := by decide +kernel
theorem dX12_feed_14 : decode cX12_feed 14 = .ok (.ireturn, 1) := by decide +kernel
theorem dX12_end_0 : decode cX12_end 0 = .ok (.iload_n 1, 1) := by decide +kernel
theorem dX12_end_1 : decode cX12_end 1 = .ok (.iconst 0, 1) := by decide +kernel
theorem dX12_end_2 : decode cX12_end 2 = .ok (.aload_n 0, 1) := by decide +kernel
theorem dX12_end_3 : decode cX12_end 3 = .ok (.getfield 81, 3) := by decide +kernel
theorem dX12_end_6 : decode cX12_end 6 = .ok (.invokestatic 69, 3) := by decide +kernel
theorem dX12_end_9 : decode cX12_end 9 = .ok (.ifCond .ne 5, 3) := by decide +kernel
theorem dX12_end_14 : decode cX12_end 14 = .ok (.aload_n 0, 1) := by decide +kernel
theorem dX12_end_15 : decode cX12_end 15 = .ok (.iload_n 1, 1) := by decide +kernel
theorem dX12_end_16 : decode cX12_end 16 = .ok (.putfield 81, 3) := by decide +kernel
theorem dX12_end_19 : decode cX12_end 19 = .ok (.iload_n 1, 1) := by decide +kernel
theorem dX12_end_20 : decode cX12_end 20 = .ok (.ireturn, 1) := by decide +kernel
theorem dX12_end_12 : decode cX12_end 12 = .ok (.iconst (-1), 1) := by decide +kernel
theorem dX12_end_13 : decode cX12_end 13 = .ok (.ireturn, 1) := by decide +kernel
set_option maxHeartbeats 4000000 in
set_option maxRecDepth 100000 in
theorem x_X12_four {l : Launch} {G : GG}  {L : List Nat} {f : HF} {ad : Nat → Nat → Nat} {pa : (Nat → Int32) → Prop} {PA : (Nat → Int32) → Prop} {PI : (Nat → Int32) → Prop} {PX : (Nat → Int32) → Prop} {i1 : Int32} {td fa fp at9 ps9 tk nu t0 wr so pd op9 cg iw on9 is9 se : Int32} {wd : Int64} (I : SH (spM PA PI PX pa) nnM G ad L f) (p_ad_0_0 : pt L f (ad 0 0) (.inr (12, [.ref (ad 1 0), .ref (ad 2 0), .ref (ad 3 0), .ref (ad 4 0), .int td, .int fa, .int fp, .int at9, .int ps9, .int tk, .int nu, .long wd, .int t0, .int wr, .int so, .ref (ad 5 0), .ref (ad 6 0), .int pd, .int op9, .int cg, .int iw, .int on9, .ref (ad 7 0), .ref (ad 8 0), .ref (ad 9 0), .int is9, .ref (ad 10 0), .ref (ad 11 0), .ref (ad 12 0), .ref (ad 13 0), .int se, .ref (ad 14 0)]))) (ht : bn 0 296 td) : PMv l yX12_four cX12_four 3 0 0 0 G [.ref (ad 0 0), .int i1] L f (fun L1 f1 => ∃ td2 : Int32, SH (spM PA PI PX pa) nnM G ad L1 f1 ∧ pt L1 f1 (ad 0 0) (.inr (12, [.ref (ad 1 0), .ref (ad 2 0), .ref (ad 3 0), .ref (ad 4 0), .int td2, .int fa, .int fp, .int at9, .int ps9, .int tk, .int nu, .long wd, .int t0, .int wr, .int so, .ref (ad 5 0), .ref (ad 6 0), .int pd, .int op9, .int cg, .int iw, .int on9, .ref (ad 7 0), .ref (ad 8 0), .ref (ad 9 0), .int is9, .ref (ad 10 0), .ref (ad 11 0), .ref (ad 12 0), .ref (ad 13 0), .int se, .ref (ad 14 0)])) ∧ td2.toInt = td.toInt + 4) := by
  refine PMv.of (post := fun L1 f1 => ∃ td2 : Int32, SH (spM PA PI PX pa) nnM G ad L1 f1 ∧ pt L1 f1 (ad 0 0) (.inr (12, [.ref (ad 1 0), .ref (ad 2 0), .ref (ad 3 0), .ref (ad 4 0), .int td2, .int fa, .int fp, .int at9, .int ps9, .int tk, .int nu, .long wd, .int t0, .int wr, .int so, .ref (ad 5 0), .ref (ad 6 0), .int pd, .int op9, .int cg, .int iw, .int on9, .ref (ad 7 0), .ref (ad 8 0), .ref (ad 9 0), .int is9, .ref (ad 10 0), .ref (ad 11 0), .ref (ad 12 0), .ref (ad 13 0), .int se, .ref (ad 14 0)])) ∧ td2.toInt = td.toInt + 4) (own := RX12) (by decide) rfl (Nat.le_of_ble_eq_true rfl) (fun sz p e s m args below meth c A ls hA1 hname S Y hl => ?_)
  have hx := S.hx
  have hb := S.hb
  have hl : lv_has ls 3 [(0, .ref (ad 0 0)), (1, .int i1)] := hl
  obtain ⟨bfe_4, bfe_7, bfe_8, bfe_12, bfe_13, bfe_17, bfe_18, bfe_19, bfe_20, bfe_25⟩ := obM I p_ad_0_0
  refine lv_bipush (v := 24) hx hb dX12_four_0 (by decide) ?_
  refine lv_istore_n (lv' := [(2, .int 24), (0, .ref (ad 0 0)), (1, .int i1)]) hx hb dX12_four_2 rfl hl (by decide) rfl (fun ls hl => ?_)
  refine lv_iload_n hx hb dX12_four_3 rfl (lv_at hl 0 rfl) ?_
  refine lv_if_lt (tgt := 39) hx hb dX12_four_4 (by decide) (fun h => absurd h (by decide)) (fun _ => ?_)
  refine lv_aload_n hx hb dX12_four_7 rfl (lv_at hl 1 rfl) ?_
  refine pg_get S Y ok_X12 3 (by decide) kf12_19 (v := .ref (ad 4 0)) p_ad_0_0 rfl dX12_four_8 ?_
  refine lv_aload_n hx hb dX12_four_11 rfl (lv_at hl 1 rfl) ?_
  refine pg_get S Y ok_X12 4 (by decide) kf12_81 (v := .int td) p_ad_0_0 rfl dX12_four_12 ?_
  refine lv_iload_n hx hb dX12_four_15 rfl (lv_at hl 2 rfl) ?_
  refine lv_iload_n hx hb dX12_four_16 rfl (lv_at hl 0 rfl) ?_
  refine lv_ishr hx hb dX12_four_17 ?_
  refine lv_topi (fun x_84457 ex_84457 => ?_)
  refine lv_sipush (v := 255) hx hb dX12_four_18 (by decide) ?_
  refine lv_iand hx hb dX12_four_21 ?_
  refine lv_topi (fun x_84458 ex_84458 => ?_)
  obtain ⟨g_84459, p_ad_4_0, o_84460⟩ := I.opi (k := 4) (j := 0) (by decide) rfl
  have p_ad_4_0 : pt L f (ad 4 0) (.inl (G.2 0, 300, .inl g_84459)) := p_ad_4_0
  refine pg_iast S Y p_ad_4_0 (vp_bn ht (by decide)) dX12_four_22 (fun f_84462 H locs ef_84462 Y => ?_)
  obtain ⟨g_84461, eg_84461⟩ : ∃ z, z = upd (g_84459) (td : Int32).toNatClampNeg x_84458 := ⟨_, rfl⟩
  rw [← eg_84461] at ef_84462
  have p_ad_0_0 := p_ad_0_0.up ef_84462 (I.ne (k := 0) (j := 0) (k' := 4) (j' := 0) (by decide) (by decide) (Or.inl (by decide)))
  have p_ad_4_0 := p_ad_4_0.me ef_84462
  have o_84463 : True := trivial
  have I := I.up (k := 4) (j := 0) (by decide) ef_84462 (okE_a (g := g_84461) o_84463)
  refine lv_aload_n hx hb dX12_four_23 rfl (lv_at hl 1 rfl) ?_
  refine lv_dup hx hb dX12_four_24 rfl ?_
  refine pg_get S Y ok_X12 4 (by decide) kf12_81 (v := .int td) p_ad_0_0 rfl dX12_four_25 ?_
  refine lv_iconst (v := 1) hx hb dX12_four_28 (by decide) ?_
  refine lv_iadd hx hb dX12_four_29 ?_
  refine lv_topi (fun x_84464 ex_84464 => ?_)
  refine pg_put S Y ok_X12 4 (by decide) kf12_81 rfl (fs' := [.ref (ad 1 0), .ref (ad 2 0), .ref (ad 3 0), .ref (ad 4 0), .int x_84464, .int fa, .int fp, .int at9, .int ps9, .int tk, .int nu, .long wd, .int t0, .int wr, .int so, .ref (ad 5 0), .ref (ad 6 0), .int pd, .int op9, .int cg, .int iw, .int on9, .ref (ad 7 0), .ref (ad 8 0), .ref (ad 9 0), .int is9, .ref (ad 10 0), .ref (ad 11 0), .ref (ad 12 0), .ref (ad 13 0), .int se, .ref (ad 14 0)]) (v := .int x_84464) p_ad_0_0 rfl rfl rfl (Nat.le_of_ble_eq_true rfl) dX12_four_30 (fun f_84465 H locs ef_84465 Y => ?_)
  have p_ad_4_0 := p_ad_4_0.up ef_84465 (I.ne (k := 4) (j := 0) (k' := 0) (j' := 0) (by decide) (by decide) (Or.inl (by decide)))
  have p_ad_0_0 := p_ad_0_0.me ef_84465
  have I := I.up (k := 0) (j := 0) (by decide) ef_84465 (okE_o (okFs_c okV_r (okFs_c okV_r (okFs_c okV_r (okFs_c okV_r (okFs_c (okV_i (bn_w (bn_eq ex_84464 (bn_add ht (show bn 1 1 (1 : Int32) from bn_k (by decide)) (by decide))) (by decide))) (okFs_c (okV_i (bn_any _)) (okFs_c (okV_i (bn_any _)) (okFs_c (okV_i bfe_7) (okFs_c (okV_i bfe_8) (okFs_c (okV_i (bn_any _)) (okFs_c (okV_i (bn_any _)) (okFs_c okV_l (okFs_c (okV_i bfe_12) (okFs_c (okV_i bfe_13) (okFs_c (okV_i (bn_any _)) (okFs_c okV_r (okFs_c okV_r (okFs_c (okV_i bfe_17) (okFs_c (okV_i bfe_18) (okFs_c (okV_i bfe_19) (okFs_c (okV_i bfe_20) (okFs_c (okV_i (bn_any _)) (okFs_c okV_r (okFs_c okV_r (okFs_c okV_r (okFs_c (okV_i bfe_25) (okFs_c okV_r (okFs_c okV_r (okFs_c okV_r (okFs_c okV_r (okFs_c (okV_i (bn_any _)) (okFs_c okV_r okFs_n)))))))))))))))))))))))))))))))))
  refine lv_iinc (v := 16) (lv' := [(2, .int 16), (0, .ref (ad 0 0)), (1, .int i1)]) hx hb dX12_four_33 hl (k := 0) rfl (by decide) (by decide) rfl (fun ls hl => ?_)
  refine lv_goto (tgt := 3) hx hb dX12_four_36 (by decide) ?_
  refine lv_iload_n hx hb dX12_four_3 rfl (lv_at hl 0 rfl) ?_
  refine lv_if_lt (tgt := 39) hx hb dX12_four_4 (by decide) (fun h => absurd h (by decide)) (fun _ => ?_)
  refine lv_aload_n hx hb dX12_four_7 rfl (lv_at hl 1 rfl) ?_
  refine pg_get S Y ok_X12 3 (by decide) kf12_19 (v := .ref (ad 4 0)) p_ad_0_0 rfl dX12_four_8 ?_
  refine lv_aload_n hx hb dX12_four_11 rfl (lv_at hl 1 rfl) ?_
  refine pg_get S Y ok_X12 4 (by decide) kf12_81 (v := .int x_84464) p_ad_0_0 rfl dX12_four_12 ?_
  refine lv_iload_n hx hb dX12_four_15 rfl (lv_at hl 2 rfl) ?_
  refine lv_iload_n hx hb dX12_four_16 rfl (lv_at hl 0 rfl) ?_
  refine lv_ishr hx hb dX12_four_17 ?_
  refine lv_topi (fun x_84466 ex_84466 => ?_)
  refine lv_sipush (v := 255) hx hb dX12_four_18 (by decide) ?_
  refine lv_iand hx hb dX12_four_21 ?_
  refine lv_topi (fun x_84467 ex_84467 => ?_)
  refine pg_iast S Y p_ad_4_0 (vp_bn (bn_eq ex_84464 (bn_add ht (show bn 1 1 (1 : Int32) from bn_k (by decide)) (by decide))) (by decide)) dX12_four_22 (fun f_84469 H locs ef_84469 Y => ?_)
  obtain ⟨g_84468, eg_84468⟩ : ∃ z, z = upd (g_84461) (x_84464 : Int32).toNatClampNeg x_84467 := ⟨_, rfl⟩
  rw [← eg_84468] at ef_84469
  have p_ad_0_0 := p_ad_0_0.up ef_84469 (I.ne (k := 0) (j := 0) (k' := 4) (j' := 0) (by decide) (by decide) (Or.inl (by decide)))
  have p_ad_4_0 := p_ad_4_0.me ef_84469
  have o_84470 : True := trivial
  have I := I.up (k := 4) (j := 0) (by decide) ef_84469 (okE_a (g := g_84468) o_84470)
  refine lv_aload_n hx hb dX12_four_23 rfl (lv_at hl 1 rfl) ?_
  refine lv_dup hx hb dX12_four_24 rfl ?_
  refine pg_get S Y ok_X12 4 (by decide) kf12_81 (v := .int x_84464) p_ad_0_0 rfl dX12_four_25 ?_
  refine lv_iconst (v := 1) hx hb dX12_four_28 (by decide) ?_
  refine lv_iadd hx hb dX12_four_29 ?_
  refine lv_topi (fun x_84471 ex_84471 => ?_)
  refine pg_put S Y ok_X12 4 (by decide) kf12_81 rfl (fs' := [.ref (ad 1 0), .ref (ad 2 0), .ref (ad 3 0), .ref (ad 4 0), .int x_84471, .int fa, .int fp, .int at9, .int ps9, .int tk, .int nu, .long wd, .int t0, .int wr, .int so, .ref (ad 5 0), .ref (ad 6 0), .int pd, .int op9, .int cg, .int iw, .int on9, .ref (ad 7 0), .ref (ad 8 0), .ref (ad 9 0), .int is9, .ref (ad 10 0), .ref (ad 11 0), .ref (ad 12 0), .ref (ad 13 0), .int se, .ref (ad 14 0)]) (v := .int x_84471) p_ad_0_0 rfl rfl rfl (Nat.le_of_ble_eq_true rfl) dX12_four_30 (fun f_84472 H locs ef_84472 Y => ?_)
  have p_ad_4_0 := p_ad_4_0.up ef_84472 (I.ne (k := 4) (j := 0) (k' := 0) (j' := 0) (by decide) (by decide) (Or.inl (by decide)))
  have p_ad_0_0 := p_ad_0_0.me ef_84472
  have I := I.up (k := 0) (j := 0) (by decide) ef_84472 (okE_o (okFs_c okV_r (okFs_c okV_r (okFs_c okV_r (okFs_c okV_r (okFs_c (okV_i (bn_w (bn_eq ex_84471 (bn_add (bn_eq ex_84464 (bn_add ht (show bn 1 1 (1 : Int32) from bn_k (by decide)) (by decide))) (show bn 1 1 (1 : Int32) from bn_k (by decide)) (by decide))) (by decide))) (okFs_c (okV_i (bn_any _)) (okFs_c (okV_i (bn_any _)) (okFs_c (okV_i bfe_7) (okFs_c (okV_i bfe_8) (okFs_c (okV_i (bn_any _)) (okFs_c (okV_i (bn_any _)) (okFs_c okV_l (okFs_c (okV_i bfe_12) (okFs_c (okV_i bfe_13) (okFs_c (okV_i (bn_any _)) (okFs_c okV_r (okFs_c okV_r (okFs_c (okV_i bfe_17) (okFs_c (okV_i bfe_18) (okFs_c (okV_i bfe_19) (okFs_c (okV_i bfe_20) (okFs_c (okV_i (bn_any _)) (okFs_c okV_r (okFs_c okV_r (okFs_c okV_r (okFs_c (okV_i bfe_25) (okFs_c okV_r (okFs_c okV_r (okFs_c okV_r (okFs_c okV_r (okFs_c (okV_i (bn_any _)) (okFs_c okV_r okFs_n)))))))))))))))))))))))))))))))))
  refine lv_iinc (v := 8) (lv' := [(2, .int 8), (0, .ref (ad 0 0)), (1, .int i1)]) hx hb dX12_four_33 hl (k := 0) rfl (by decide) (by decide) rfl (fun ls hl => ?_)
  refine lv_goto (tgt := 3) hx hb dX12_four_36 (by decide) ?_
  refine lv_iload_n hx hb dX12_four_3 rfl (lv_at hl 0 rfl) ?_
  refine lv_if_lt (tgt := 39) hx hb dX12_four_4 (by decide) (fun h => absurd h (by decide)) (fun _ => ?_)
  refine lv_aload_n hx hb dX12_four_7 rfl (lv_at hl 1 rfl) ?_
  refine pg_get S Y ok_X12 3 (by decide) kf12_19 (v := .ref (ad 4 0)) p_ad_0_0 rfl dX12_four_8 ?_
  refine lv_aload_n hx hb dX12_four_11 rfl (lv_at hl 1 rfl) ?_
  refine pg_get S Y ok_X12 4 (by decide) kf12_81 (v := .int x_84471) p_ad_0_0 rfl dX12_four_12 ?_
  refine lv_iload_n hx hb dX12_four_15 rfl (lv_at hl 2 rfl) ?_
  refine lv_iload_n hx hb dX12_four_16 rfl (lv_at hl 0 rfl) ?_
  refine lv_ishr hx hb dX12_four_17 ?_
  refine lv_topi (fun x_84473 ex_84473 => ?_)
  refine lv_sipush (v := 255) hx hb dX12_four_18 (by decide) ?_
  refine lv_iand hx hb dX12_four_21 ?_
  refine lv_topi (fun x_84474 ex_84474 => ?_)
  refine pg_iast S Y p_ad_4_0 (vp_bn (bn_eq ex_84471 (bn_add (bn_eq ex_84464 (bn_add ht (show bn 1 1 (1 : Int32) from bn_k (by decide)) (by decide))) (show bn 1 1 (1 : Int32) from bn_k (by decide)) (by decide))) (by decide)) dX12_four_22 (fun f_84476 H locs ef_84476 Y => ?_)
  obtain ⟨g_84475, eg_84475⟩ : ∃ z, z = upd (g_84468) (x_84471 : Int32).toNatClampNeg x_84474 := ⟨_, rfl⟩
  rw [← eg_84475] at ef_84476
  have p_ad_0_0 := p_ad_0_0.up ef_84476 (I.ne (k := 0) (j := 0) (k' := 4) (j' := 0) (by decide) (by decide) (Or.inl (by decide)))
  have p_ad_4_0 := p_ad_4_0.me ef_84476
  have o_84477 : True := trivial
  have I := I.up (k := 4) (j := 0) (by decide) ef_84476 (okE_a (g := g_84475) o_84477)
  refine lv_aload_n hx hb dX12_four_23 rfl (lv_at hl 1 rfl) ?_
  refine lv_dup hx hb dX12_four_24 rfl ?_
  refine pg_get S Y ok_X12 4 (by decide) kf12_81 (v := .int x_84471) p_ad_0_0 rfl dX12_four_25 ?_
  refine lv_iconst (v := 1) hx hb dX12_four_28 (by decide) ?_
  refine lv_iadd hx hb dX12_four_29 ?_
  refine lv_topi (fun x_84478 ex_84478 => ?_)
  refine pg_put S Y ok_X12 4 (by decide) kf12_81 rfl (fs' := [.ref (ad 1 0), .ref (ad 2 0), .ref (ad 3 0), .ref (ad 4 0), .int x_84478, .int fa, .int fp, .int at9, .int ps9, .int tk, .int nu, .long wd, .int t0, .int wr, .int so, .ref (ad 5 0), .ref (ad 6 0), .int pd, .int op9, .int cg, .int iw, .int on9, .ref (ad 7 0), .ref (ad 8 0), .ref (ad 9 0), .int is9, .ref (ad 10 0), .ref (ad 11 0), .ref (ad 12 0), .ref (ad 13 0), .int se, .ref (ad 14 0)]) (v := .int x_84478) p_ad_0_0 rfl rfl rfl (Nat.le_of_ble_eq_true rfl) dX12_four_30 (fun f_84479 H locs ef_84479 Y => ?_)
  have p_ad_4_0 := p_ad_4_0.up ef_84479 (I.ne (k := 4) (j := 0) (k' := 0) (j' := 0) (by decide) (by decide) (Or.inl (by decide)))
  have p_ad_0_0 := p_ad_0_0.me ef_84479
  have I := I.up (k := 0) (j := 0) (by decide) ef_84479 (okE_o (okFs_c okV_r (okFs_c okV_r (okFs_c okV_r (okFs_c okV_r (okFs_c (okV_i (bn_w (bn_eq ex_84478 (bn_add (bn_eq ex_84471 (bn_add (bn_eq ex_84464 (bn_add ht (show bn 1 1 (1 : Int32) from bn_k (by decide)) (by decide))) (show bn 1 1 (1 : Int32) from bn_k (by decide)) (by decide))) (show bn 1 1 (1 : Int32) from bn_k (by decide)) (by decide))) (by decide))) (okFs_c (okV_i (bn_any _)) (okFs_c (okV_i (bn_any _)) (okFs_c (okV_i bfe_7) (okFs_c (okV_i bfe_8) (okFs_c (okV_i (bn_any _)) (okFs_c (okV_i (bn_any _)) (okFs_c okV_l (okFs_c (okV_i bfe_12) (okFs_c (okV_i bfe_13) (okFs_c (okV_i (bn_any _)) (okFs_c okV_r (okFs_c okV_r (okFs_c (okV_i bfe_17) (okFs_c (okV_i bfe_18) (okFs_c (okV_i bfe_19) (okFs_c (okV_i bfe_20) (okFs_c (okV_i (bn_any _)) (okFs_c okV_r (okFs_c okV_r (okFs_c okV_r (okFs_c (okV_i bfe_25) (okFs_c okV_r (okFs_c okV_r (okFs_c okV_r (okFs_c okV_r (okFs_c (okV_i (bn_any _)) (okFs_c okV_r okFs_n)))))))))))))))))))))))))))))))))
  refine lv_iinc (v := 0) (lv' := [(2, .int 0), (0, .ref (ad 0 0)), (1, .int i1)]) hx hb dX12_four_33 hl (k := 0) rfl (by decide) (by decide) rfl (fun ls hl => ?_)
  refine lv_goto (tgt := 3) hx hb dX12_four_36 (by decide) ?_
  refine lv_iload_n hx hb dX12_four_3 rfl (lv_at hl 0 rfl) ?_
  refine lv_if_lt (tgt := 39) hx hb dX12_four_4 (by decide) (fun h => absurd h (by decide)) (fun _ => ?_)
  refine lv_aload_n hx hb dX12_four_7 rfl (lv_at hl 1 rfl) ?_
  refine pg_get S Y ok_X12 3 (by decide) kf12_19 (v := .ref (ad 4 0)) p_ad_0_0 rfl dX12_four_8 ?_
  refine lv_aload_n hx hb dX12_four_11 rfl (lv_at hl 1 rfl) ?_
  refine pg_get S Y ok_X12 4 (by decide) kf12_81 (v := .int x_84478) p_ad_0_0 rfl dX12_four_12 ?_
  refine lv_iload_n hx hb dX12_four_15 rfl (lv_at hl 2 rfl) ?_
  refine lv_iload_n hx hb dX12_four_16 rfl (lv_at hl 0 rfl) ?_
  refine lv_ishr hx hb dX12_four_17 ?_
  refine lv_topi (fun x_84480 ex_84480 => ?_)
  refine lv_sipush (v := 255) hx hb dX12_four_18 (by decide) ?_
  refine lv_iand hx hb dX12_four_21 ?_
  refine lv_topi (fun x_84481 ex_84481 => ?_)
  refine pg_iast S Y p_ad_4_0 (vp_bn (bn_eq ex_84478 (bn_add (bn_eq ex_84471 (bn_add (bn_eq ex_84464 (bn_add ht (show bn 1 1 (1 : Int32) from bn_k (by decide)) (by decide))) (show bn 1 1 (1 : Int32) from bn_k (by decide)) (by decide))) (show bn 1 1 (1 : Int32) from bn_k (by decide)) (by decide))) (by decide)) dX12_four_22 (fun f_84483 H locs ef_84483 Y => ?_)
  obtain ⟨g_84482, eg_84482⟩ : ∃ z, z = upd (g_84475) (x_84478 : Int32).toNatClampNeg x_84481 := ⟨_, rfl⟩
  rw [← eg_84482] at ef_84483
  have p_ad_0_0 := p_ad_0_0.up ef_84483 (I.ne (k := 0) (j := 0) (k' := 4) (j' := 0) (by decide) (by decide) (Or.inl (by decide)))
  have p_ad_4_0 := p_ad_4_0.me ef_84483
  have o_84484 : True := trivial
  have I := I.up (k := 4) (j := 0) (by decide) ef_84483 (okE_a (g := g_84482) o_84484)
  refine lv_aload_n hx hb dX12_four_23 rfl (lv_at hl 1 rfl) ?_
  refine lv_dup hx hb dX12_four_24 rfl ?_
  refine pg_get S Y ok_X12 4 (by decide) kf12_81 (v := .int x_84478) p_ad_0_0 rfl dX12_four_25 ?_
  refine lv_iconst (v := 1) hx hb dX12_four_28 (by decide) ?_
  refine lv_iadd hx hb dX12_four_29 ?_
  refine lv_topi (fun x_84485 ex_84485 => ?_)
  have B_84486 : bn 4 300 x_84485 := bn_w (bn_eq ex_84485 (bn_add (bn_eq ex_84478 (bn_add (bn_eq ex_84471 (bn_add (bn_eq ex_84464 (bn_add ht (show bn 1 1 (1 : Int32) from bn_k (by decide)) (by decide))) (show bn 1 1 (1 : Int32) from bn_k (by decide)) (by decide))) (show bn 1 1 (1 : Int32) from bn_k (by decide)) (by decide))) (show bn 1 1 (1 : Int32) from bn_k (by decide)) (by decide))) (by decide)
  refine pg_put S Y ok_X12 4 (by decide) kf12_81 rfl (fs' := [.ref (ad 1 0), .ref (ad 2 0), .ref (ad 3 0), .ref (ad 4 0), .int x_84485, .int fa, .int fp, .int at9, .int ps9, .int tk, .int nu, .long wd, .int t0, .int wr, .int so, .ref (ad 5 0), .ref (ad 6 0), .int pd, .int op9, .int cg, .int iw, .int on9, .ref (ad 7 0), .ref (ad 8 0), .ref (ad 9 0), .int is9, .ref (ad 10 0), .ref (ad 11 0), .ref (ad 12 0), .ref (ad 13 0), .int se, .ref (ad 14 0)]) (v := .int x_84485) p_ad_0_0 rfl rfl rfl (Nat.le_of_ble_eq_true rfl) dX12_four_30 (fun f_84487 H locs ef_84487 Y => ?_)
  have p_ad_4_0 := p_ad_4_0.up ef_84487 (I.ne (k := 4) (j := 0) (k' := 0) (j' := 0) (by decide) (by decide) (Or.inl (by decide)))
  have p_ad_0_0 := p_ad_0_0.me ef_84487
  have I := I.up (k := 0) (j := 0) (by decide) ef_84487 (okE_o (okFs_c okV_r (okFs_c okV_r (okFs_c okV_r (okFs_c okV_r (okFs_c (okV_i (bn_w B_84486 (by decide))) (okFs_c (okV_i (bn_any _)) (okFs_c (okV_i (bn_any _)) (okFs_c (okV_i bfe_7) (okFs_c (okV_i bfe_8) (okFs_c (okV_i (bn_any _)) (okFs_c (okV_i (bn_any _)) (okFs_c okV_l (okFs_c (okV_i bfe_12) (okFs_c (okV_i bfe_13) (okFs_c (okV_i (bn_any _)) (okFs_c okV_r (okFs_c okV_r (okFs_c (okV_i bfe_17) (okFs_c (okV_i bfe_18) (okFs_c (okV_i bfe_19) (okFs_c (okV_i bfe_20) (okFs_c (okV_i (bn_any _)) (okFs_c okV_r (okFs_c okV_r (okFs_c okV_r (okFs_c (okV_i bfe_25) (okFs_c okV_r (okFs_c okV_r (okFs_c okV_r (okFs_c okV_r (okFs_c (okV_i (bn_any _)) (okFs_c okV_r okFs_n)))))))))))))))))))))))))))))))))
  refine lv_iinc (v := (-8)) (lv' := [(2, .int (-8)), (0, .ref (ad 0 0)), (1, .int i1)]) hx hb dX12_four_33 hl (k := 0) rfl (by decide) (by decide) rfl (fun ls hl => ?_)
  refine lv_goto (tgt := 3) hx hb dX12_four_36 (by decide) ?_
  refine lv_iload_n hx hb dX12_four_3 rfl (lv_at hl 0 rfl) ?_
  refine lv_if_lt (tgt := 39) hx hb dX12_four_4 (by decide) (fun _ => ?_) (fun h => absurd (by decide) h)
  exact prV (post := fun L1 f1 => ∃ td2 : Int32, SH (spM PA PI PX pa) nnM G ad L1 f1 ∧ pt L1 f1 (ad 0 0) (.inr (12, [.ref (ad 1 0), .ref (ad 2 0), .ref (ad 3 0), .ref (ad 4 0), .int td2, .int fa, .int fp, .int at9, .int ps9, .int tk, .int nu, .long wd, .int t0, .int wr, .int so, .ref (ad 5 0), .ref (ad 6 0), .int pd, .int op9, .int cg, .int iw, .int on9, .ref (ad 7 0), .ref (ad 8 0), .ref (ad 9 0), .int is9, .ref (ad 10 0), .ref (ad 11 0), .ref (ad 12 0), .ref (ad 13 0), .int se, .ref (ad 14 0)])) ∧ td2.toInt = td.toInt + 4) S Y (by decide) (by decide) hA1 ⟨x_84485, I, p_ad_0_0, (by have z9 := (la_add ex_84485 (la_add ex_84478 (la_add ex_84471 (la_add ex_84464 (rfl : td.toInt = td.toInt) (show (1 : Int32).toInt = 1 from rfl) ht (show bn 1 1 (1 : Int32) from bn_k (by decide)) (by decide)) (show (1 : Int32).toInt = 1 from rfl) (bn_eq ex_84464 (bn_add ht (show bn 1 1 (1 : Int32) from bn_k (by decide)) (by decide))) (show bn 1 1 (1 : Int32) from bn_k (by decide)) (by decide)) (show (1 : Int32).toInt = 1 from rfl) (bn_eq ex_84471 (bn_add (bn_eq ex_84464 (bn_add ht (show bn 1 1 (1 : Int32) from bn_k (by decide)) (by decide))) (show bn 1 1 (1 : Int32) from bn_k (by decide)) (by decide))) (show bn 1 1 (1 : Int32) from bn_k (by decide)) (by decide)) (show (1 : Int32).toInt = 1 from rfl) (bn_eq ex_84478 (bn_add (bn_eq ex_84471 (bn_add (bn_eq ex_84464 (bn_add ht (show bn 1 1 (1 : Int32) from bn_k (by decide)) (by decide))) (show bn 1 1 (1 : Int32) from bn_k (by decide)) (by decide))) (show bn 1 1 (1 : Int32) from bn_k (by decide)) (by decide))) (show bn 1 1 (1 : Int32) from bn_k (by decide)) (by decide)); omega)⟩ dX12_four_39
set_option maxHeartbeats 4000000 in
set_option maxRecDepth 100000 in
theorem x_X12_feed {l : Launch} {G : GG}  {L : List Nat} {f : HF} {ad : Nat → Nat → Nat} {w : WW} {pi : (Nat → Int32) → Prop} {g0 : Nat → Int32} {i1 i2 i3 i4 i5 : Int32} (I : SH (spM (IA 0 0 14 9999 w) pi (EQ g0) LDa) nnM G ad L f) (hB : BBp 0 0 14 9999 w) (hX : TX g0) : PMi l yX12_feed cX12_feed 6 .int 1 0 0 G [.ref (ad 0 0), .int i1, .int i2, .int i3, .int i4, .int i5] L f (fun r L1 f1 => SH (spM (IA 0 0 14 9999 w) pi (EQ g0) LDa) nnM G ad L1 f1) := by
  refine PMi.of (post := fun r L1 f1 => SH (spM (IA 0 0 14 9999 w) pi (EQ g0) LDa) nnM G ad L1 f1) (own := RX12) (by decide) rfl (Nat.le_of_ble_eq_true rfl) (fun sz p e s m args below meth c A ls hA1 hname S Y hl => ?_)
  have hx := S.hx
  have hb := S.hb
  have hl : lv_has ls 6 [(0, .ref (ad 0 0)), (1, .int i1), (2, .int i2), (3, .int i3), (4, .int i4), (5, .int i5)] := hl
  refine lv_aload_n hx hb dX12_feed_0 rfl (lv_at hl 0 rfl) ?_
  obtain ⟨v_84638, v_84640, v_84642, v_84644, v_84646, v_84648, v_84650, v_84652, v_84653, v_84655, v_84657, v_84659, v_84661, v_84663, v_84665, v_84667, v_84669, v_84671, p_ad_0_0, b_84639, b_84641, b_84643, b_84645, b_84647, b_84649, b_84651, b_84654, b_84656, b_84658, b_84660, b_84662, b_84664, b_84666, b_84668, b_84670, b_84672⟩ := opnM_0 (j := 0) I (by decide)
  have p_ad_0_0 : pt L f (ad 0 0) (.inr (12, [.ref (ad 1 0), .ref (ad 2 0), .ref (ad 3 0), .ref (ad 4 0), .int v_84638, .int v_84640, .int v_84642, .int v_84644, .int v_84646, .int v_84648, .int v_84650, .long v_84652, .int v_84653, .int v_84655, .int v_84657, .ref (ad 5 0), .ref (ad 6 0), .int v_84659, .int v_84661, .int v_84663, .int v_84665, .int v_84667, .ref (ad 7 0), .ref (ad 8 0), .ref (ad 9 0), .int v_84669, .ref (ad 10 0), .ref (ad 11 0), .ref (ad 12 0), .ref (ad 13 0), .int v_84671, .ref (ad 14 0)])) := p_ad_0_0
  refine pg_get S Y ok_X12 4 (by decide) kf12_81 (v := .int v_84638) p_ad_0_0 rfl dX12_feed_1 ?_
  refine lv_bipush (v := 20) hx hb dX12_feed_4 (by decide) ?_
  refine lv_iadd hx hb dX12_feed_6 ?_
  refine lv_topi (fun x_84673 ex_84673 => ?_)
  refine lv_sipush (v := 300) hx hb dX12_feed_7 (by decide) ?_
  refine lv_icmp_le (tgt := 15) hx hb dX12_feed_10 (by decide) (fun c_84674 => ?_) (fun c_84674 => ?_)
  · have B_84675 : bn 20 300 x_84673 := bn_w (bn_lel c_84674 (bn_eq ex_84673 (bn_add b_84639 (show bn 20 20 (20 : Int32) from bn_k (by decide)) (by decide))) (show bn 300 300 (300 : Int32) from bn_k (by decide))) (by decide)
    have B_84677 : bn 0 280 v_84638 := ⟨(b_84639).1, by have z9 := (la_add ex_84673 (rfl : v_84638.toInt = v_84638.toInt) (show (20 : Int32).toInt = 20 from rfl) b_84639 (show bn 20 20 (20 : Int32) from bn_k (by decide)) (by decide)); have z8 := (B_84675).2; omega⟩
    refine lv_aload_n hx hb dX12_feed_15 rfl (lv_at hl 0 rfl) ?_
    refine lv_iload_n hx hb dX12_feed_16 rfl (lv_at hl 1 rfl) ?_
    refine cVv (As := [.int i1]) (rest := []) S Y (x_X12_four (l := l) I p_ad_0_0 (bn_w B_84677 (by decide))) cw_X12_four km12_84 p_ad_0_0 ok_X12.1 rfl rfl ⟨Nat.le_of_ble_eq_true rfl, Nat.le_of_ble_eq_true rfl⟩ hl.1 rfl (Nat.le_of_ble_eq_true rfl) ⟨Nat.le_of_ble_eq_true rfl, Nat.le_of_ble_eq_true rfl⟩ dX12_feed_17 (fun L_84678 f_84679 H locs hr_84680 Y => ?_)
    obtain ⟨v_84681, I, p_ad_0_0, e4_84682⟩ := hr_84680
    obtain ⟨bfc84682_4, bfc84682_7, bfc84682_8, bfc84682_12, bfc84682_13, bfc84682_17, bfc84682_18, bfc84682_19, bfc84682_20, bfc84682_25⟩ := obM I p_ad_0_0
    have B_84684 : bn 4 284 v_84681 := bn_w (show bn 4 284 v_84681 from ⟨by have z8 := e4_84682; have z9 := (B_84677).1; omega, by have z8 := e4_84682; have z9 := (B_84677).2; omega⟩) (by decide)
    refine lv_aload_n hx hb dX12_feed_20 rfl (lv_at hl 0 rfl) ?_
    refine lv_iload_n hx hb dX12_feed_21 rfl (lv_at hl 2 rfl) ?_
    refine cVv (As := [.int i2]) (rest := []) S Y (x_X12_four (l := l) I p_ad_0_0 (bn_w B_84684 (by decide))) cw_X12_four km12_84 p_ad_0_0 ok_X12.1 rfl rfl ⟨Nat.le_of_ble_eq_true rfl, Nat.le_of_ble_eq_true rfl⟩ hl.1 rfl (Nat.le_of_ble_eq_true rfl) ⟨Nat.le_of_ble_eq_true rfl, Nat.le_of_ble_eq_true rfl⟩ dX12_feed_22 (fun L_84685 f_84686 H locs hr_84687 Y => ?_)
    obtain ⟨v_84688, I, p_ad_0_0, e4_84689⟩ := hr_84687
    obtain ⟨bfc84689_4, bfc84689_7, bfc84689_8, bfc84689_12, bfc84689_13, bfc84689_17, bfc84689_18, bfc84689_19, bfc84689_20, bfc84689_25⟩ := obM I p_ad_0_0
    have B_84691 : bn 8 288 v_84688 := bn_w (show bn 8 288 v_84688 from ⟨by have z8 := e4_84689; have z9 := (B_84684).1; omega, by have z8 := e4_84689; have z9 := (B_84684).2; omega⟩) (by decide)
    refine lv_aload_n hx hb dX12_feed_25 rfl (lv_at hl 0 rfl) ?_
    refine lv_iload_n hx hb dX12_feed_26 rfl (lv_at hl 3 rfl) ?_
    refine cVv (As := [.int i3]) (rest := []) S Y (x_X12_four (l := l) I p_ad_0_0 (bn_w B_84691 (by decide))) cw_X12_four km12_84 p_ad_0_0 ok_X12.1 rfl rfl ⟨Nat.le_of_ble_eq_true rfl, Nat.le_of_ble_eq_true rfl⟩ hl.1 rfl (Nat.le_of_ble_eq_true rfl) ⟨Nat.le_of_ble_eq_true rfl, Nat.le_of_ble_eq_true rfl⟩ dX12_feed_27 (fun L_84692 f_84693 H locs hr_84694 Y => ?_)
    obtain ⟨v_84695, I, p_ad_0_0, e4_84696⟩ := hr_84694
    obtain ⟨bfc84696_4, bfc84696_7, bfc84696_8, bfc84696_12, bfc84696_13, bfc84696_17, bfc84696_18, bfc84696_19, bfc84696_20, bfc84696_25⟩ := obM I p_ad_0_0
    have B_84698 : bn 12 292 v_84695 := bn_w (show bn 12 292 v_84695 from ⟨by have z8 := e4_84696; have z9 := (B_84691).1; omega, by have z8 := e4_84696; have z9 := (B_84691).2; omega⟩) (by decide)
    refine lv_aload_n hx hb dX12_feed_30 rfl (lv_at hl 0 rfl) ?_
    refine lv_iload hx hb dX12_feed_31 (lv_at hl 4 rfl) ?_
    refine cVv (As := [.int i4]) (rest := []) S Y (x_X12_four (l := l) I p_ad_0_0 (bn_w B_84698 (by decide))) cw_X12_four km12_84 p_ad_0_0 ok_X12.1 rfl rfl ⟨Nat.le_of_ble_eq_true rfl, Nat.le_of_ble_eq_true rfl⟩ hl.1 rfl (Nat.le_of_ble_eq_true rfl) ⟨Nat.le_of_ble_eq_true rfl, Nat.le_of_ble_eq_true rfl⟩ dX12_feed_33 (fun L_84699 f_84700 H locs hr_84701 Y => ?_)
    obtain ⟨v_84702, I, p_ad_0_0, e4_84703⟩ := hr_84701
    obtain ⟨bfc84703_4, bfc84703_7, bfc84703_8, bfc84703_12, bfc84703_13, bfc84703_17, bfc84703_18, bfc84703_19, bfc84703_20, bfc84703_25⟩ := obM I p_ad_0_0
    have B_84705 : bn 16 296 v_84702 := bn_w (show bn 16 296 v_84702 from ⟨by have z8 := e4_84703; have z9 := (B_84698).1; omega, by have z8 := e4_84703; have z9 := (B_84698).2; omega⟩) (by decide)
    refine lv_aload_n hx hb dX12_feed_36 rfl (lv_at hl 0 rfl) ?_
    refine lv_iload hx hb dX12_feed_37 (lv_at hl 5 rfl) ?_
    refine cVv (As := [.int i5]) (rest := []) S Y (x_X12_four (l := l) I p_ad_0_0 (bn_w B_84705 (by decide))) cw_X12_four km12_84 p_ad_0_0 ok_X12.1 rfl rfl ⟨Nat.le_of_ble_eq_true rfl, Nat.le_of_ble_eq_true rfl⟩ hl.1 rfl (Nat.le_of_ble_eq_true rfl) ⟨Nat.le_of_ble_eq_true rfl, Nat.le_of_ble_eq_true rfl⟩ dX12_feed_39 (fun L_84706 f_84707 H locs hr_84708 Y => ?_)
    obtain ⟨v_84709, I, p_ad_0_0, e4_84710⟩ := hr_84708
    obtain ⟨bfc84710_4, bfc84710_7, bfc84710_8, bfc84710_12, bfc84710_13, bfc84710_17, bfc84710_18, bfc84710_19, bfc84710_20, bfc84710_25⟩ := obM I p_ad_0_0
    have B_84712 : bn 20 300 v_84709 := bn_w (show bn 20 300 v_84709 from ⟨by have z8 := e4_84710; have z9 := (B_84705).1; omega, by have z8 := e4_84710; have z9 := (B_84705).2; omega⟩) (by decide)
    refine lv_aload_n hx hb dX12_feed_42 rfl (lv_at hl 0 rfl) ?_
    refine pg_get S Y ok_X12 4 (by decide) kf12_81 (v := .int v_84709) p_ad_0_0 rfl dX12_feed_43 ?_
    exact prI (post := fun r L1 f1 => SH (spM (IA 0 0 14 9999 w) pi (EQ g0) LDa) nnM G ad L1 f1) S Y rfl (by decide) (by decide) hA1 I dX12_feed_46
  · have B_84676 : bn 301 320 x_84673 := bn_w (bn_gtl c_84674 (bn_eq ex_84673 (bn_add b_84639 (show bn 20 20 (20 : Int32) from bn_k (by decide)) (by decide))) (show bn 300 300 (300 : Int32) from bn_k (by decide))) (by decide)
    refine lv_iconst (v := (-1)) hx hb dX12_feed_13 (by decide) ?_
    exact prI (post := fun r L1 f1 => SH (spM (IA 0 0 14 9999 w) pi (EQ g0) LDa) nnM G ad L1 f1) S Y rfl (by decide) (by decide) hA1 I dX12_feed_14
set_option maxHeartbeats 4000000 in
set_option maxRecDepth 100000 in
theorem x_X12_end {l : Launch} {G : GG}  {L : List Nat} {f : HF} {ad : Nat → Nat → Nat} {w : WW} {pi : (Nat → Int32) → Prop} {g0 : Nat → Int32} {i1 : Int32} (I : SH (spM (IA 0 0 14 9999 w) pi (EQ g0) LDa) nnM G ad L f) (hB : BBp 0 0 14 9999 w) (hX : TX g0) : PMi l yX12_end cX12_end 2 .int 1 0 0 G [.ref (ad 0 0), .int i1] L f (fun r L1 f1 => SH (spM (IA 0 0 14 9999 w) pi (EQ g0) LDa) nnM G ad L1 f1) := by
  refine PMi.of (post := fun r L1 f1 => SH (spM (IA 0 0 14 9999 w) pi (EQ g0) LDa) nnM G ad L1 f1) (own := RX12) (by decide) rfl (Nat.le_of_ble_eq_true rfl) (fun sz p e s m args below meth c A ls hA1 hname S Y hl => ?_)
  have hx := S.hx
  have hb := S.hb
  have hl : lv_has ls 2 [(0, .ref (ad 0 0)), (1, .int i1)] := hl
  refine lv_iload_n hx hb dX12_end_0 rfl (lv_at hl 1 rfl) ?_
  refine lv_iconst (v := 0) hx hb dX12_end_1 (by decide) ?_
  refine lv_aload_n hx hb dX12_end_2 rfl (lv_at hl 0 rfl) ?_
  obtain ⟨v_84795, v_84797, v_84799, v_84801, v_84803, v_84805, v_84807, v_84809, v_84810, v_84812, v_84814, v_84816, v_84818, v_84820, v_84822, v_84824, v_84826, v_84828, p_ad_0_0, b_84796, b_84798, b_84800, b_84802, b_84804, b_84806, b_84808, b_84811, b_84813, b_84815, b_84817, b_84819, b_84821, b_84823, b_84825, b_84827, b_84829⟩ := opnM_0 (j := 0) I (by decide)
  have p_ad_0_0 : pt L f (ad 0 0) (.inr (12, [.ref (ad 1 0), .ref (ad 2 0), .ref (ad 3 0), .ref (ad 4 0), .int v_84795, .int v_84797, .int v_84799, .int v_84801, .int v_84803, .int v_84805, .int v_84807, .long v_84809, .int v_84810, .int v_84812, .int v_84814, .ref (ad 5 0), .ref (ad 6 0), .int v_84816, .int v_84818, .int v_84820, .int v_84822, .int v_84824, .ref (ad 7 0), .ref (ad 8 0), .ref (ad 9 0), .int v_84826, .ref (ad 10 0), .ref (ad 11 0), .ref (ad 12 0), .ref (ad 13 0), .int v_84828, .ref (ad 14 0)])) := p_ad_0_0
  refine pg_get S Y ok_X12 4 (by decide) kf12_81 (v := .int v_84795) p_ad_0_0 rfl dX12_end_3 ?_
  refine cSp (As := [.int i1, .int 0, .int v_84795]) (rest := []) S Y (x_X12_isIn (l := l) ) cw_X12_isIn km12_69 rfl ⟨Nat.le_of_ble_eq_true rfl, Nat.le_of_ble_eq_true rfl⟩ hl.1 rfl (Nat.le_of_ble_eq_true rfl) ⟨Nat.le_of_ble_eq_true rfl, Nat.le_of_ble_eq_true rfl⟩ dX12_end_6 (fun r_84830 H locs er_84830 Y => ?_)
  refine lv_if_ne (tgt := 14) hx hb dX12_end_9 (by decide) (fun c_84831 => ?_) (fun c_84831 => ?_)
  · have B_84832 : bn 0 300 i1 := bn_w (bn_i (bn_any i1) (bn_btw (er_84830.2 c_84831).1 (er_84830.2 c_84831).2 (show bn 0 0 (0 : Int32) from bn_k (by decide)) b_84796)) (by decide)
    have B_84833 : bn 1 1 r_84830 := bn_w (bn_nel c_84831 er_84830.1 (show bn 0 0 (0 : Int32) from bn_k (by decide))) (by decide)
    refine lv_aload_n hx hb dX12_end_14 rfl (lv_at hl 0 rfl) ?_
    refine lv_iload_n hx hb dX12_end_15 rfl (lv_at hl 1 rfl) ?_
    refine pg_put S Y ok_X12 4 (by decide) kf12_81 rfl (fs' := [.ref (ad 1 0), .ref (ad 2 0), .ref (ad 3 0), .ref (ad 4 0), .int i1, .int v_84797, .int v_84799, .int v_84801, .int v_84803, .int v_84805, .int v_84807, .long v_84809, .int v_84810, .int v_84812, .int v_84814, .ref (ad 5 0), .ref (ad 6 0), .int v_84816, .int v_84818, .int v_84820, .int v_84822, .int v_84824, .ref (ad 7 0), .ref (ad 8 0), .ref (ad 9 0), .int v_84826, .ref (ad 10 0), .ref (ad 11 0), .ref (ad 12 0), .ref (ad 13 0), .int v_84828, .ref (ad 14 0)]) (v := .int i1) p_ad_0_0 rfl rfl rfl (Nat.le_of_ble_eq_true rfl) dX12_end_16 (fun f_84835 H locs ef_84835 Y => ?_)
    have p_ad_0_0 := p_ad_0_0.me ef_84835
    have I := I.up (k := 0) (j := 0) (by decide) ef_84835 (okE_o (okFs_c okV_r (okFs_c okV_r (okFs_c okV_r (okFs_c okV_r (okFs_c (okV_i (bn_w B_84832 (by decide))) (okFs_c (okV_i b_84798) (okFs_c (okV_i b_84800) (okFs_c (okV_i b_84802) (okFs_c (okV_i b_84804) (okFs_c (okV_i b_84806) (okFs_c (okV_i b_84808) (okFs_c okV_l (okFs_c (okV_i b_84811) (okFs_c (okV_i b_84813) (okFs_c (okV_i b_84815) (okFs_c okV_r (okFs_c okV_r (okFs_c (okV_i b_84817) (okFs_c (okV_i b_84819) (okFs_c (okV_i b_84821) (okFs_c (okV_i b_84823) (okFs_c (okV_i b_84825) (okFs_c okV_r (okFs_c okV_r (okFs_c okV_r (okFs_c (okV_i b_84827) (okFs_c okV_r (okFs_c okV_r (okFs_c okV_r (okFs_c okV_r (okFs_c (okV_i b_84829) (okFs_c okV_r okFs_n)))))))))))))))))))))))))))))))))
    refine lv_iload_n hx hb dX12_end_19 rfl (lv_at hl 1 rfl) ?_
    exact prI (post := fun r L1 f1 => SH (spM (IA 0 0 14 9999 w) pi (EQ g0) LDa) nnM G ad L1 f1) S Y rfl (by decide) (by decide) hA1 I dX12_end_20
  · have B_84834 : bn 0 0 r_84830 := bn_w (bn_eq c_84831 (show bn 0 0 (0 : Int32) from bn_k (by decide))) (by decide)
    refine lv_iconst (v := (-1)) hx hb dX12_end_12 (by decide) ?_
    exact prI (post := fun r L1 f1 => SH (spM (IA 0 0 14 9999 w) pi (EQ g0) LDa) nnM G ad L1 f1) S Y rfl (by decide) (by decide) hA1 I dX12_end_13
