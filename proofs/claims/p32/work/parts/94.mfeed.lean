theorem dX12_four_0 : decode cX12_four 0 = .ok (.bipush 24, 2) := by decide +kernel
theorem dX12_four_2 : decode cX12_four 2 = .ok (.istore_n 2, 1) := by decide +kernel
theorem dX12_four_3 : decode cX12_four 3 = .ok (.iload_n 2, 1) := by decide +kernel
theorem dX12_four_4 : decode cX12_four 4 = .ok (.ifCond .lt 35, 3) := by decide +kernel
theorem dX12_four_7 : decode cX12_four 7 = .ok (.aload_n 0, 1) := by decide +kernel
theorem dX12_four_8 : decode cX12_four 8 = .ok (.getfield 19, 3) := by decide +kernel
theorem dX12_four_11 : decode cX12_four 11 = .ok (.aload_n 0, 1) := by decide +kernel
theorem dX12_four_12 : decode cX12_four 12 = .ok (.getfield 81, 3) := by decide +kernel
theorem dX12_four_15 : decode cX12_four 15 = .ok (.iload_n 1, 1) := by decide +kernel
theorem dX12_four_16 : decode cX12_four 16 = .ok (.iload_n 2, 1) := by decide +kernel
theorem dX12_four_17 : decode cX12_four 17 = .ok (.ishr, 1) := by decide +kernel
theorem dX12_four_18 : decode cX12_four 18 = .ok (.sipush 255, 3) := by decide +kernel
theorem dX12_four_21 : decode cX12_four 21 = .ok (.iand, 1) := by decide +kernel
theorem dX12_four_22 : decode cX12_four 22 = .ok (.iastore, 1) := by decide +kernel
theorem dX12_four_23 : decode cX12_four 23 = .ok (.aload_n 0, 1) := by decide +kernel
theorem dX12_four_24 : decode cX12_four 24 = .ok (.dup, 1) := by decide +kernel
theorem dX12_four_25 : decode cX12_four 25 = .ok (.getfield 81, 3) := by decide +kernel
theorem dX12_four_28 : decode cX12_four 28 = .ok (.iconst 1, 1) := by decide +kernel
theorem dX12_four_29 : decode cX12_four 29 = .ok (.iadd, 1) := by decide +kernel
theorem dX12_four_30 : decode cX12_four 30 = .ok (.putfield 81, 3) := by decide +kernel
theorem dX12_four_33 : decode cX12_four 33 = .ok (.iinc 2 (-8), 3) := by decide +kernel
theorem dX12_four_36 : decode cX12_four 36 = .ok (.goto (-33), 3) := by decide +kernel
theorem dX12_four_39 : decode cX12_four 39 = .ok (.return_, 1) := by decide +kernel
theorem dX12_feed_0 : decode cX12_feed 0 = .ok (.aload_n 0, 1) := by decide +kernel
theorem dX12_feed_1 : decode cX12_feed 1 = .ok (.getfield 81, 3) := by decide +kernel
theorem dX12_feed_4 : decode cX12_feed 4 = .ok (.bipush 20, 2) := by decide +kernel
theorem dX12_feed_6 : decode cX12_feed 6 = .ok (.iadd, 1) := by decide +kernel
theorem dX12_feed_7 : decode cX12_feed 7 = .ok (.sipush 300, 3) := by decide +kernel
theorem dX12_feed_10 : decode cX12_feed 10 = .ok (.if_icmp .le 5, 3) := by decide +kernel
theorem dX12_feed_15 : decode cX12_feed 15 = .ok (.aload_n 0, 1) := by decide +kernel
theorem dX12_feed_16 : decode cX12_feed 16 = .ok (.iload_n 1, 1) := by decide +kernel
theorem dX12_feed_17 : decode cX12_feed 17 = .ok (.invokevirtual 84, 3) := by decide +kernel
theorem cw_X12_four : CWv yX12_four cX12_four 3 none 1 := ⟨⟨⟨List.mem_of_getElem? (i := 137) (by decide +kernel), by decide +kernel⟩, ⟨List.mem_of_getElem? (i := 1611) (by decide +kernel), by decide +kernel⟩, by decide +kernel⟩, ⟨List.mem_of_getElem? (i := 1610) (by decide +kernel), by decide +kernel⟩, ⟨List.mem_of_getElem? (i := 48) (by decide +kernel), by decide +kernel⟩⟩
theorem km12_84 : inW (Cond.methodLink RX12 84 yX12_four) := ⟨List.mem_of_getElem? (i := 1608) (by decide +kernel), by decide +kernel⟩
theorem dX12_feed_20 : decode cX12_feed 20 = .ok (.aload_n 0, 1) := by decide +kernel
theorem dX12_feed_21 : decode cX12_feed 21 = .ok (.iload_n 2, 1) := by decide +kernel
theorem dX12_feed_22 : decode cX12_feed 22 = .ok (.invokevirtual 84, 3) := by decide +kernel
theorem dX12_feed_25 : decode cX12_feed 25 = .ok (.aload_n 0, 1) := by decide +kernel
theorem dX12_feed_26 : decode cX12_feed 26 = .ok (.iload_n 3, 1) := by decide +kernel
theorem dX12_feed_27 : decode cX12_feed 27 = .ok (.invokevirtual 84, 3) := by decide +kernel
theorem dX12_feed_30 : decode cX12_feed 30 = .ok (.aload_n 0, 1) := by decide +kernel
theorem dX12_feed_31 : decode cX12_feed 31 = .ok (.iload 4, 2) := by decide +kernel
theorem dX12_feed_33 : decode cX12_feed 33 = .ok (.invokevirtual 84, 3) := by decide +kernel
theorem dX12_feed_36 : decode cX12_feed 36 = .ok (.aload_n 0, 1) := by decide +kernel
theorem dX12_feed_37 : decode cX12_feed 37 = .ok (.iload 5, 2) := by decide +kernel
theorem dX12_feed_39 : decode cX12_feed 39 = .ok (.invokevirtual 84, 3) := by decide +kernel
theorem dX12_feed_42 : decode cX12_feed 42 = .ok (.aload_n 0, 1) := by decide +kernel
theorem dX12_feed_43 : decode cX12_feed 43 = .ok (.getfield 81, 3) := by decide +kernel
theorem dX12_feed_46 : decode cX12_feed 46 = .ok (.ireturn, 1) := by decide +kernel
theorem dX12_feed_13 : decode cX12_feed 13 = .ok (.iconst (-1), 1) := by decide +kernel
theorem dX12_feed_14 : decode cX12_feed 14 = .ok (.ireturn, 1) := by decide +kernel
theorem dX12_end_0 : decode cX12_end 0 = .ok (.iload_n 1, 1) := by decide +kernel
theorem dX12_end_1 : decode cX12_end 1 = .ok (.iconst 0, 1) := by decide +kernel
theorem dX12_end_2 : decode cX12_end 2 = .ok (.aload_n 0, 1) := by decide +kernel
theorem dX12_end_3 : decode cX12_end 3 = .ok (.getfield 81, 3) := by decide +kernel
theorem dX12_end_6 : decode cX12_end 6 = .ok (.invokestatic 69, 3) := by decide +kernel
theorem dX12_end_9 : decode cX12_end 9 = .ok (.ifCond .ne 5, 3) := by decide +kernel
theorem dX12_end_14 : decode cX12_end 14 = .ok (.aload_n 0, 1) := by decide +kernel
theorem dX12_end_15 : decode cX12_end 15 = .ok (.iload_n 1, 1) := by decide +kernel
theorem dX12_end_16 : decode cX12_end 16 = .ok (.putfield 81, 3) := by decide +kernel
theorem dX12_end_19 : decode cX12_end 19 = .ok (.iload_n 1, 1) := by decide +kernel
theorem dX12_end_20 : decode cX12_end 20 = .ok (.ireturn, 1) := by decide +kernel
theorem dX12_end_12 : decode cX12_end 12 = .ok (.iconst (-1), 1) := by decide +kernel
theorem dX12_end_13 : decode cX12_end 13 = .ok (.ireturn, 1) := by decide +kernel
set_option maxHeartbeats 4000000 in
set_option maxRecDepth 100000 in
theorem x_X12_four {l : Launch} {G : GG}  {L : List Nat} {f : HF} {ad : Nat → Nat → Nat} {pa : (Nat → Int32) → Prop} {PA : (Nat → Int32) → Prop} {PI : (Nat → Int32) → Prop} {PX : (Nat → Int32) → Prop} {i1 : Int32} {td fa fp at9 ps9 tk nu t0 wr so pd op9 cg iw on9 is9 se : Int32} {wd : Int64} (I : SH (spM PA PI PX pa) nnM G ad L f) (p_ad_0_0 : pt L f (ad 0 0) (.inr (12, [.ref (ad 1 0), .ref (ad 2 0), .ref (ad 3 0), .ref (ad 4 0), .int td, .int fa, .int fp, .int at9, .int ps9, .int tk, .int nu, .long wd, .int t0, .int wr, .int so, .ref (ad 5 0), .ref (ad 6 0), .int pd, .int op9, .int cg, .int iw, .int on9, .ref (ad 7 0), .ref (ad 8 0), .ref (ad 9 0), .int is9, .ref (ad 10 0), .ref (ad 11 0), .ref (ad 12 0), .ref (ad 13 0), .int se, .ref (ad 14 0)]))) (ht : bn 0 296 td) : PMv l yX12_four cX12_four 3 0 0 0 G [.ref (ad 0 0), .int i1] L f (fun L1 f1 => ∃ td2 : Int32, SH (spM PA PI PX pa) nnM G ad L1 f1 ∧ pt L1 f1 (ad 0 0) (.inr (12, [.ref (ad 1 0), .ref (ad 2 0), .ref (ad 3 0), .ref (ad 4 0), .int td2, .int fa, .int fp, .int at9, .int ps9, .int tk, .int nu, .long wd, .int t0, .int wr, .int so, .ref (ad 5 0), .ref (ad 6 0), .int pd, .int op9, .int cg, .int iw, .int on9, .ref (ad 7 0), .ref (ad 8 0), .ref (ad 9 0), .int is9, .ref (ad 10 0), .ref (ad 11 0), .ref (ad 12 0), .ref (ad 13 0), .int se, .ref (ad 14 0)])) ∧ td2.toInt = td.toInt + 4) := by
  refine PMv.of (post := fun L1 f1 => ∃ td2 : Int32, SH (spM PA PI PX pa) nnM G ad L1 f1 ∧ pt L1 f1 (ad 0 0) (.inr (12, [.ref (ad 1 0), .ref (ad 2 0), .ref (ad 3 0), .ref (ad 4 0), .int td2, .int fa, .int fp, .int at9, .int ps9, .int tk, .int nu, .long wd, .int t0, .int wr, .int so, .ref (ad 5 0), .ref (ad 6 0), .int pd, .int op9, .int cg, .int iw, .int on9, .ref (ad 7 0), .ref (ad 8 0), .ref (ad 9 0), .int is9, .ref (ad 10 0), .ref (ad 11 0), .ref (ad 12 0), .ref (ad 13 0), .int se, .ref (ad 14 0)])) ∧ td2.toInt = td.toInt + 4) (own := RX12) (by decide) rfl (Nat.le_of_ble_eq_true rfl) (fun sz p e s m args below meth c A ls hA1 hname S Y hl => ?_)
  have hx := S.hx
  have hb := S.hb
  have hl : lv_has ls 3 [(0, .ref (ad 0 0)), (1, .int i1)] := hl
  obtain ⟨bfe_4, bfe_7, bfe_8, bfe_12, bfe_13, bfe_17, bfe_18, bfe_19, bfe_20, bfe_25⟩ := obM I p_ad_0_0
  refine lv_bipush (v := 24) hx hb dX12_four_0 (by decide) ?_
  refine lv_istore_n (lv' := [(2, .int 24), (0, .ref (ad 0 0)), (1, .int i1)]) hx hb dX12_four_2 rfl hl (by decide) rfl (fun ls hl => ?_)
  refine lv_iload_n hx hb dX12_four_3 rfl (lv_at hl 0 rfl) ?_
  refine lv_if_lt (tgt := 39) hx hb dX12_four_4 (by decide) (fun h => absurd h (by decide)) (fun _ => ?_)
  refine lv_aload_n hx hb dX12_four_7 rfl (lv_at hl 1 rfl) ?_
  refine pg_get S Y ok_X12 3 (by decide) kf12_19 (v := .ref (ad 4 0)) p_ad_0_0 rfl dX12_four_8 ?_
  refine lv_aload_n hx hb dX12_four_11 rfl (lv_at hl 1 rfl) ?_
  refine pg_get S Y ok_X12 4 (by decide) kf12_81 (v := .int td) p_ad_0_0 rfl dX12_four_12 ?_
  refine lv_iload_n hx hb dX12_four_15 rfl (lv_at hl 2 rfl) ?_
  refine lv_iload_n hx hb dX12_four_16 rfl (lv_at hl 0 rfl) ?_
  refine lv_ishr hx hb dX12_four_17 ?_
  refine lv_topi (fun x_84451 ex_84451 => ?_)
  refine lv_sipush (v := 255) hx hb dX12_four_18 (by decide) ?_
  refine lv_iand hx hb dX12_four_21 ?_
  refine lv_topi (fun x_84452 ex_84452 => ?_)
  obtain ⟨g_84453, p_ad_4_0, o_84454⟩ := I.opi (k := 4) (j := 0) (by decide) rfl
  have p_ad_4_0 : pt L f (ad 4 0) (.inl (G.2 0, 300, .inl g_84453)) := p_ad_4_0
  refine pg_iast S Y p_ad_4_0 (vp_bn ht (by decide)) dX12_four_22 (fun f_84456 H locs ef_84456 Y => ?_)
  obtain ⟨g_84455, eg_84455⟩ : ∃ z, z = upd (g_84453) (td : Int32).toNatClampNeg x_84452 := ⟨_, rfl⟩
  rw [← eg_84455] at ef_84456
  have p_ad_0_0 := p_ad_0_0.up ef_84456 (I.ne (k := 0) (j := 0) (k' := 4) (j' := 0) (by decide) (by decide) (Or.inl (by decide)))
  have p_ad_4_0 := p_ad_4_0.me ef_84456
  have o_84457 : True := trivial
  have I := I.up (k := 4) (j := 0) (by decide) ef_84456 (okE_a (g := g_84455) o_84457)
  refine lv_aload_n hx hb dX12_four_23 rfl (lv_at hl 1 rfl) ?_
  refine lv_dup hx hb dX12_four_24 rfl ?_
  refine pg_get S Y ok_X12 4 (by decide) kf12_81 (v := .int td) p_ad_0_0 rfl dX12_four_25 ?_
  refine lv_iconst (v := 1) hx hb dX12_four_28 (by decide) ?_
  refine lv_iadd hx hb dX12_four_29 ?_
  refine lv_topi (fun x_84458 ex_84458 => ?_)
  refine pg_put S Y ok_X12 4 (by decide) kf12_81 rfl (fs' := [.ref (ad 1 0), .ref (ad 2 0), .ref (ad 3 0), .ref (ad 4 0), .int x_84458, .int fa, .int fp, .int at9, .int ps9, .int tk, .int nu, .long wd, .int t0, .int wr, .int so, .ref (ad 5 0), .ref (ad 6 0), .int pd, .int op9, .int cg, .int iw, .int on9, .ref (ad 7 0), .ref (ad 8 0), .ref (ad 9 0), .int is9, .ref (ad 10 0), .ref (ad 11 0), .ref (ad 12 0), .ref (ad 13 0), .int se, .ref (ad 14 0)]) (v := .int x_84458) p_ad_0_0 rfl rfl rfl (Nat.le_of_ble_eq_true rfl) dX12_four_30 (fun f_84459 H locs ef_84459 Y => ?_)
  have p_ad_4_0 := p_ad_4_0.up ef_84459 (I.ne (k := 4) (j := 0) (k' := 0) (j' := 0) (by decide) (by decide) (Or.inl (by decide)))
  have p_ad_0_0 := p_ad_0_0.me ef_84459
  have I := I.up (k := 0) (j := 0) (by decide) ef_84459 (okE_o (okFs_c okV_r (okFs_c okV_r (okFs_c okV_r (okFs_c okV_r (okFs_c (okV_i (bn_w (bn_eq ex_84458 (bn_add ht (show bn 1 1 (1 : Int32) from bn_k (by decide)) (by decide))) (by decide))) (okFs_c (okV_i (bn_any _)) (okFs_c (okV_i (bn_any _)) (okFs_c (okV_i bfe_7) (okFs_c (okV_i bfe_8) (okFs_c (okV_i (bn_any _)) (okFs_c (okV_i (bn_any _)) (okFs_c okV_l (okFs_c (okV_i bfe_12) (okFs_c (okV_i bfe_13) (okFs_c (okV_i (bn_any _)) (okFs_c okV_r (okFs_c okV_r (okFs_c (okV_i bfe_17) (okFs_c (okV_i bfe_18) (okFs_c (okV_i bfe_19) (okFs_c (okV_i bfe_20) (okFs_c (okV_i (bn_any _)) (okFs_c okV_r (okFs_c okV_r (okFs_c okV_r (okFs_c (okV_i bfe_25) (okFs_c okV_r (okFs_c okV_r (okFs_c okV_r (okFs_c okV_r (okFs_c (okV_i (bn_any _)) (okFs_c okV_r okFs_n)))))))))))))))))))))))))))))))))
  refine lv_iinc (v := 16) (lv' := [(2, .int 16), (0, .ref (ad 0 0)), (1, .int i1)]) hx hb dX12_four_33 hl (k := 0) rfl (by decide) (by decide) rfl (fun ls hl => ?_)
  refine lv_goto (tgt := 3) hx hb dX12_four_36 (by decide) ?_
  refine lv_iload_n hx hb dX12_four_3 rfl (lv_at hl 0 rfl) ?_
  refine lv_if_lt (tgt := 39) hx hb dX12_four_4 (by decide) (fun h => absurd h (by decide)) (fun _ => ?_)
  refine lv_aload_n hx hb dX12_four_7 rfl (lv_at hl 1 rfl) ?_
  refine pg_get S Y ok_X12 3 (by decide) kf12_19 (v := .ref (ad 4 0)) p_ad_0_0 rfl dX12_four_8 ?_
  refine lv_aload_n hx hb dX12_four_11 rfl (lv_at hl 1 rfl) ?_
  refine pg_get S Y ok_X12 4 (by decide) kf12_81 (v := .int x_84458) p_ad_0_0 rfl dX12_four_12 ?_
  refine lv_iload_n hx hb dX12_four_15 rfl (lv_at hl 2 rfl) ?_
  refine lv_iload_n hx hb dX12_four_16 rfl (lv_at hl 0 rfl) ?_
  refine lv_ishr hx hb dX12_four_17 ?_
  refine lv_topi (fun x_84460 ex_84460 => ?_)
  refine lv_sipush (v := 255) hx hb dX12_four_18 (by decide) ?_
  refine lv_iand hx hb dX12_four_21 ?_
  refine lv_topi (fun x_84461 ex_84461 => ?_)
  refine pg_iast S Y p_ad_4_0 (vp_bn (bn_eq ex_84458 (bn_add ht (show bn 1 1 (1 : Int32) from bn_k (by decide)) (by decide))) (by decide)) dX12_four_22 (fun f_84463 H locs ef_84463 Y => ?_)
  obtain ⟨g_84462, eg_84462⟩ : ∃ z, z = upd (g_84455) (x_84458 : Int32).toNatClampNeg x_84461 := ⟨_, rfl⟩
  rw [← eg_84462] at ef_84463
  have p_ad_0_0 := p_ad_0_0.up ef_84463 (I.ne (k := 0) (j := 0) (k' := 4) (j' := 0) (by decide) (by decide) (Or.inl (by decide)))
  have p_ad_4_0 := p_ad_4_0.me ef_84463
  have o_84464 : True := trivial
  have I := I.up (k := 4) (j := 0) (by decide) ef_84463 (okE_a (g := g_84462) o_84464)
  refine lv_aload_n hx hb dX12_four_23 rfl (lv_at hl 1 rfl) ?_
  refine lv_dup hx hb dX12_four_24 rfl ?_
  refine pg_get S Y ok_X12 4 (by decide) kf12_81 (v := .int x_84458) p_ad_0_0 rfl dX12_four_25 ?_
  refine lv_iconst (v := 1) hx hb dX12_four_28 (by decide) ?_
  refine lv_iadd hx hb dX12_four_29 ?_
  refine lv_topi (fun x_84465 ex_84465 => ?_)
  refine pg_put S Y ok_X12 4 (by decide) kf12_81 rfl (fs' := [.ref (ad 1 0), .ref (ad 2 0), .ref (ad 3 0), .ref (ad 4 0), .int x_84465, .int fa, .int fp, .int at9, .int ps9, .int tk, .int nu, .long wd, .int t0, .int wr, .int so, .ref (ad 5 0), .ref (ad 6 0), .int pd, .int op9, .int cg, .int iw, .int on9, .ref (ad 7 0), .ref (ad 8 0), .ref (ad 9 0), .int is9, .ref (ad 10 0), .ref (ad 11 0), .ref (ad 12 0), .ref (ad 13 0), .int se, .ref (ad 14 0)]) (v := .int x_84465) p_ad_0_0 rfl rfl rfl (Nat.le_of_ble_eq_true rfl) dX12_four_30 (fun f_84466 H locs ef_84466 Y => ?_)
  have p_ad_4_0 := p_ad_4_0.up ef_84466 (I.ne (k := 4) (j := 0) (k' := 0) (j' := 0) (by decide) (by decide) (Or.inl (by decide)))
  have p_ad_0_0 := p_ad_0_0.me ef_84466
  have I := I.up (k := 0) (j := 0) (by decide) ef_84466 (okE_o (okFs_c okV_r (okFs_c okV_r (okFs_c okV_r (okFs_c okV_r (okFs_c (okV_i (bn_w (bn_eq ex_84465 (bn_add (bn_eq ex_84458 (bn_add ht (show bn 1 1 (1 : Int32) from bn_k (by decide)) (by decide))) (show bn 1 1 (1 : Int32) from bn_k (by decide)) (by decide))) (by decide))) (okFs_c (okV_i (bn_any _)) (okFs_c (okV_i (bn_any _)) (okFs_c (okV_i bfe_7) (okFs_c (okV_i bfe_8) (okFs_c (okV_i (bn_any _)) (okFs_c (okV_i (bn_any _)) (okFs_c okV_l (okFs_c (okV_i bfe_12) (okFs_c (okV_i bfe_13) (okFs_c (okV_i (bn_any _)) (okFs_c okV_r (okFs_c okV_r (okFs_c (okV_i bfe_17) (okFs_c (okV_i bfe_18) (okFs_c (okV_i bfe_19) (okFs_c (okV_i bfe_20) (okFs_c (okV_i (bn_any _)) (okFs_c okV_r (okFs_c okV_r (okFs_c okV_r (okFs_c (okV_i bfe_25) (okFs_c okV_r (okFs_c okV_r (okFs_c okV_r (okFs_c okV_r (okFs_c (okV_i (bn_any _)) (okFs_c okV_r okFs_n)))))))))))))))))))))))))))))))))
  refine lv_iinc (v := 8) (lv' := [(2, .int 8), (0, .ref (ad 0 0)), (1, .int i1)]) hx hb dX12_four_33 hl (k := 0) rfl (by decide) (by decide) rfl (fun ls hl => ?_)
  refine lv_goto (tgt := 3) hx hb dX12_four_36 (by decide) ?_
  refine lv_iload_n hx hb dX12_four_3 rfl (lv_at hl 0 rfl) ?_
  refine lv_if_lt (tgt := 39) hx hb dX12_four_4 (by decide) (fun h => absurd h (by decide)) (fun _ => ?_)
  refine lv_aload_n hx hb dX12_four_7 rfl (lv_at hl 1 rfl) ?_
  refine pg_get S Y ok_X12 3 (by decide) kf12_19 (v := .ref (ad 4 0)) p_ad_0_0 rfl dX12_four_8 ?_
  refine lv_aload_n hx hb dX12_four_11 rfl (lv_at hl 1 rfl) ?_
  refine pg_get S Y ok_X12 4 (by decide) kf12_81 (v := .int x_84465) p_ad_0_0 rfl dX12_four_12 ?_
  refine lv_iload_n hx hb dX12_four_15 rfl (lv_at hl 2 rfl) ?_
  refine lv_iload_n hx hb dX12_four_16 rfl (lv_at hl 0 rfl) ?_
  refine lv_ishr hx hb dX12_four_17 ?_
  refine lv_topi (fun x_84467 ex_84467 => ?_)
  refine lv_sipush (v := 255) hx hb dX12_four_18 (by decide) ?_
  refine lv_iand hx hb dX12_four_21 ?_
  refine lv_topi (fun x_84468 ex_84468 => ?_)
  refine pg_iast S Y p_ad_4_0 (vp_bn (bn_eq ex_84465 (bn_add (bn_eq ex_84458 (bn_add ht (show bn 1 1 (1 : Int32) from bn_k (by decide)) (by decide))) (show bn 1 1 (1 : Int32) from bn_k (by decide)) (by decide))) (by decide)) dX12_four_22 (fun f_84470 H locs ef_84470 Y => ?_)
  obtain ⟨g_84469, eg_84469⟩ : ∃ z, z = upd (g_84462) (x_84465 : Int32).toNatClampNeg x_84468 := ⟨_, rfl⟩
  rw [← eg_84469] at ef_84470
  have p_ad_0_0 := p_ad_0_0.up ef_84470 (I.ne (k := 0) (j := 0) (k' := 4) (j' := 0) (by decide) (by decide) (Or.inl (by decide)))
  have p_ad_4_0 := p_ad_4_0.me ef_84470
  have o_84471 : True := trivial
  have I := I.up (k := 4) (j := 0) (by decide) ef_84470 (okE_a (g := g_84469) o_84471)
  refine lv_aload_n hx hb dX12_four_23 rfl (lv_at hl 1 rfl) ?_
  refine lv_dup hx hb dX12_four_24 rfl ?_
  refine pg_get S Y ok_X12 4 (by decide) kf12_81 (v := .int x_84465) p_ad_0_0 rfl dX12_four_25 ?_
  refine lv_iconst (v := 1) hx hb dX12_four_28 (by decide) ?_
  refine lv_iadd hx hb dX12_four_29 ?_
  refine lv_topi (fun x_84472 ex_84472 => ?_)
  refine pg_put S Y ok_X12 4 (by decide) kf12_81 rfl (fs' := [.ref (ad 1 0), .ref (ad 2 0), .ref (ad 3 0), .ref (ad 4 0), .int x_84472, .int fa, .int fp, .int at9, .int ps9, .int tk, .int nu, .long wd, .int t0, .int wr, .int so, .ref (ad 5 0), .ref (ad 6 0), .int pd, .int op9, .int cg, .int iw, .int on9, .ref (ad 7 0), .ref (ad 8 0), .ref (ad 9 0), .int is9, .ref (ad 10 0), .ref (ad 11 0), .ref (ad 12 0), .ref (ad 13 0), .int se, .ref (ad 14 0)]) (v := .int x_84472) p_ad_0_0 rfl rfl rfl (Nat.le_of_ble_eq_true rfl) dX12_four_30 (fun f_84473 H locs ef_84473 Y => ?_)
  have p_ad_4_0 := p_ad_4_0.up ef_84473 (I.ne (k := 4) (j := 0) (k' := 0) (j' := 0) (by decide) (by decide) (Or.inl (by decide)))
  have p_ad_0_0 := p_ad_0_0.me ef_84473
  have I := I.up (k := 0) (j := 0) (by decide) ef_84473 (okE_o (okFs_c okV_r (okFs_c okV_r (okFs_c okV_r (okFs_c okV_r (okFs_c (okV_i (bn_w (bn_eq ex_84472 (bn_add (bn_eq ex_84465 (bn_add (bn_eq ex_84458 (bn_add ht (show bn 1 1 (1 : Int32) from bn_k (by decide)) (by decide))) (show bn 1 1 (1 : Int32) from bn_k (by decide)) (by decide))) (show bn 1 1 (1 : Int32) from bn_k (by decide)) (by decide))) (by decide))) (okFs_c (okV_i (bn_any _)) (okFs_c (okV_i (bn_any _)) (okFs_c (okV_i bfe_7) (okFs_c (okV_i bfe_8) (okFs_c (okV_i (bn_any _)) (okFs_c (okV_i (bn_any _)) (okFs_c okV_l (okFs_c (okV_i bfe_12) (okFs_c (okV_i bfe_13) (okFs_c (okV_i (bn_any _)) (okFs_c okV_r (okFs_c okV_r (okFs_c (okV_i bfe_17) (okFs_c (okV_i bfe_18) (okFs_c (okV_i bfe_19) (okFs_c (okV_i bfe_20) (okFs_c (okV_i (bn_any _)) (okFs_c okV_r (okFs_c okV_r (okFs_c okV_r (okFs_c (okV_i bfe_25) (okFs_c okV_r (okFs_c okV_r (okFs_c okV_r (okFs_c okV_r (okFs_c (okV_i (bn_any _)) (okFs_c okV_r okFs_n)))))))))))))))))))))))))))))))))
  refine lv_iinc (v := 0) (lv' := [(2, .int 0), (0, .ref (ad 0 0)), (1, .int i1)]) hx hb dX12_four_33 hl (k := 0) rfl (by decide) (by decide) rfl (fun ls hl => ?_)
  refine lv_goto (tgt := 3) hx hb dX12_four_36 (by decide) ?_
  refine lv_iload_n hx hb dX12_four_3 rfl (lv_at hl 0 rfl) ?_
  refine lv_if_lt (tgt := 39) hx hb dX12_four_4 (by decide) (fun h => absurd h (by decide)) (fun _ => ?_)
  refine lv_aload_n hx hb dX12_four_7 rfl (lv_at hl 1 rfl) ?_
  refine pg_get S Y ok_X12 3 (by decide) kf12_19 (v := .ref (ad 4 0)) p_ad_0_0 rfl dX12_four_8 ?_
  refine lv_aload_n hx hb dX12_four_11 rfl (lv_at hl 1 rfl) ?_
  refine pg_get S Y ok_X12 4 (by decide) kf12_81 (v := .int x_84472) p_ad_0_0 rfl dX12_four_12 ?_
  refine lv_iload_n hx hb dX12_four_15 rfl (lv_at hl 2 rfl) ?_
  refine lv_iload_n hx hb dX12_four_16 rfl (lv_at hl 0 rfl) ?_
  refine lv_ishr hx hb dX12_four_17 ?_
  refine lv_topi (fun x_84474 ex_84474 => ?_)
  refine lv_sipush (v := 255) hx hb dX12_four_18 (by decide) ?_
  refine lv_iand hx hb dX12_four_21 ?_
  refine lv_topi (fun x_84475 ex_84475 => ?_)
  refine pg_iast S Y p_ad_4_0 (vp_bn (bn_eq ex_84472 (bn_add (bn_eq ex_84465 (bn_add (bn_eq ex_84458 (bn_add ht (show bn 1 1 (1 : Int32) from bn_k (by decide)) (by decide))) (show bn 1 1 (1 : Int32) from bn_k (by decide)) (by decide))) (show bn 1 1 (1 : Int32) from bn_k (by decide)) (by decide))) (by decide)) dX12_four_22 (fun f_84477 H locs ef_84477 Y => ?_)
  obtain ⟨g_84476, eg_84476⟩ : ∃ z, z = upd (g_84469) (x_84472 : Int32).toNatClampNeg x_84475 := ⟨_, rfl⟩
  rw [← eg_84476] at ef_84477
  have p_ad_0_0 := p_ad_0_0.up ef_84477 (I.ne (k := 0) (j := 0) (k' := 4) (j' := 0) (by decide) (by decide) (Or.inl (by decide)))
  have p_ad_4_0 := p_ad_4_0.me ef_84477
  have o_84478 : True := trivial
  have I := I.up (k := 4) (j := 0) (by decide) ef_84477 (okE_a (g := g_84476) o_84478)
  refine lv_aload_n hx hb dX12_four_23 rfl (lv_at hl 1 rfl) ?_
  refine lv_dup hx hb dX12_four_24 rfl ?_
  refine pg_get S Y ok_X12 4 (by decide) kf12_81 (v := .int x_84472) p_ad_0_0 rfl dX12_four_25 ?_
  refine lv_iconst (v := 1) hx hb dX12_four_28 (by decide) ?_
  refine lv_iadd hx hb dX12_four_29 ?_
  refine lv_topi (fun x_84479 ex_84479 => ?_)
  have B_84480 : bn 4 300 x_84479 := bn_w (bn_eq ex_84479 (bn_add (bn_eq ex_84472 (bn_add (bn_eq ex_84465 (bn_add (bn_eq ex_84458 (bn_add ht (show bn 1 1 (1 : Int32) from bn_k (by decide)) (by decide))) (show bn 1 1 (1 : Int32) from bn_k (by decide)) (by decide))) (show bn 1 1 (1 : Int32) from bn_k (by decide)) (by decide))) (show bn 1 1 (1 : Int32) from bn_k (by decide)) (by decide))) (by decide)
  refine pg_put S Y ok_X12 4 (by decide) kf12_81 rfl (fs' := [.ref (ad 1 0), .ref (ad 2 0), .ref (ad 3 0), .ref (ad 4 0), .int x_84479, .int fa, .int fp, .int at9, .int ps9, .int tk, .int nu, .long wd, .int t0, .int wr, .int so, .ref (ad 5 0), .ref (ad 6 0), .int pd, .int op9, .int cg, .int iw, .int on9, .ref (ad 7 0), .ref (ad 8 0), .ref (ad 9 0), .int is9, .ref (ad 10 0), .ref (ad 11 0), .ref (ad 12 0), .ref (ad 13 0), .int se, .ref (ad 14 0)]) (v := .int x_84479) p_ad_0_0 rfl rfl rfl (Nat.le_of_ble_eq_true rfl) dX12_four_30 (fun f_84481 H locs ef_84481 Y => ?_)
  have p_ad_4_0 := p_ad_4_0.up ef_84481 (I.ne (k := 4) (j := 0) (k' := 0) (j' := 0) (by decide) (by decide) (Or.inl (by decide)))
  have p_ad_0_0 := p_ad_0_0.me ef_84481
  have I := I.up (k := 0) (j := 0) (by decide) ef_84481 (okE_o (okFs_c okV_r (okFs_c okV_r (okFs_c okV_r (okFs_c okV_r (okFs_c (okV_i (bn_w B_84480 (by decide))) (okFs_c (okV_i (bn_any _)) (okFs_c (okV_i (bn_any _)) (okFs_c (okV_i bfe_7) (okFs_c (okV_i bfe_8) (okFs_c (okV_i (bn_any _)) (okFs_c (okV_i (bn_any _)) (okFs_c okV_l (okFs_c (okV_i bfe_12) (okFs_c (okV_i bfe_13) (okFs_c (okV_i (bn_any _)) (okFs_c okV_r (okFs_c okV_r (okFs_c (okV_i bfe_17) (okFs_c (okV_i bfe_18) (okFs_c (okV_i bfe_19) (okFs_c (okV_i bfe_20) (okFs_c (okV_i (bn_any _)) (okFs_c okV_r (okFs_c okV_r (okFs_c okV_r (okFs_c (okV_i bfe_25) (okFs_c okV_r (okFs_c okV_r (okFs_c okV_r (okFs_c okV_r (okFs_c (okV_i (bn_any _)) (okFs_c okV_r okFs_n)))))))))))))))))))))))))))))))))
  refine lv_iinc (v := (-8)) (lv' := [(2, .int (-8)), (0, .ref (ad 0 0)), (1, .int i1)]) hx hb dX12_four_33 hl (k := 0) rfl (by decide) (by decide) rfl (fun ls hl => ?_)
  refine lv_goto (tgt := 3) hx hb dX12_four_36 (by decide) ?_
  refine lv_iload_n hx hb dX12_four_3 rfl (lv_at hl 0 rfl) ?_
  refine lv_if_lt (tgt := 39) hx hb dX12_four_4 (by decide) (fun _ => ?_) (fun h => absurd (by decide) h)
  exact prV (post := fun L1 f1 => ∃ td2 : Int32, SH (spM PA PI PX pa) nnM G ad L1 f1 ∧ pt L1 f1 (ad 0 0) (.inr (12, [.ref (ad 1 0), .ref (ad 2 0), .ref (ad 3 0), .ref (ad 4 0), .int td2, .int fa, .int fp, .int at9, .int ps9, .int tk, .int nu, .long wd, .int t0, .int wr, .int so, .ref (ad 5 0), .ref (ad 6 0), .int pd, .int op9, .int cg, .int iw, .int on9, .ref (ad 7 0), .ref (ad 8 0), .ref (ad 9 0), .int is9, .ref (ad 10 0), .ref (ad 11 0), .ref (ad 12 0), .ref (ad 13 0), .int se, .ref (ad 14 0)])) ∧ td2.toInt = td.toInt + 4) S Y (by decide) (by decide) hA1 ⟨x_84479, I, p_ad_0_0, (by have z9 := (la_add ex_84479 (la_add ex_84472 (la_add ex_84465 (la_add ex_84458 (rfl : td.toInt = td.toInt) (show (1 : Int32).toInt = 1 from rfl) ht (show bn 1 1 (1 : Int32) from bn_k (by decide)) (by decide)) (show (1 : Int32).toInt = 1 from rfl) (bn_eq ex_84458 (bn_add ht (show bn 1 1 (1 : Int32) from bn_k (by decide)) (by decide))) (show bn 1 1 (1 : Int32) from bn_k (by decide)) (by decide)) (show (1 : Int32).toInt = 1 from rfl) (bn_eq ex_84465 (bn_add (bn_eq ex_84458 (bn_add ht (show bn 1 1 (1 : Int32) from bn_k (by decide)) (by decide))) (show bn 1 1 (1 : Int32) from bn_k (by decide)) (by decide))) (show bn 1 1 (1 : Int32) from bn_k (by decide)) (by decide)) (show (1 : Int32).toInt = 1 from rfl) (bn_eq ex_84472 (bn_add (bn_eq ex_84465 (bn_add (bn_eq ex_84458 (bn_add ht (show bn 1 1 (1 : Int32) from bn_k (by decide)) (by decide))) (show bn 1 1 (1 : Int32) from bn_k (by decide)) (by decide))) (show bn 1 1 (1 : Int32) from bn_k (by decide)) (by decide))) (show bn 1 1 (1 : Int32) from bn_k (by decide)) (by decide)); omega)⟩ dX12_four_39
set_option maxHeartbeats 4000000 in
set_option maxRecDepth 100000 in
theorem x_X12_feed {l : Launch} {G : GG}  {L : List Nat} {f : HF} {ad : Nat → Nat → Nat} {w : Int × Int} {pi : (Nat → Int32) → Prop} {g0 : Nat → Int32} {i1 i2 i3 i4 i5 : Int32} (I : SH (spM (IA 0 0 14 9999 w) pi (EQ g0) LDa) nnM G ad L f) (hB : BBp 0 0 14 9999 w) (hX : TX g0) : PMi l yX12_feed cX12_feed 6 .int 1 0 0 G [.ref (ad 0 0), .int i1, .int i2, .int i3, .int i4, .int i5] L f (fun r L1 f1 => SH (spM (IA 0 0 14 9999 w) pi (EQ g0) LDa) nnM G ad L1 f1) := by
  refine PMi.of (post := fun r L1 f1 => SH (spM (IA 0 0 14 9999 w) pi (EQ g0) LDa) nnM G ad L1 f1) (own := RX12) (by decide) rfl (Nat.le_of_ble_eq_true rfl) (fun sz p e s m args below meth c A ls hA1 hname S Y hl => ?_)
  have hx := S.hx
  have hb := S.hb
  have hl : lv_has ls 6 [(0, .ref (ad 0 0)), (1, .int i1), (2, .int i2), (3, .int i3), (4, .int i4), (5, .int i5)] := hl
  refine lv_aload_n hx hb dX12_feed_0 rfl (lv_at hl 0 rfl) ?_
  obtain ⟨v_84632, v_84634, v_84636, v_84638, v_84640, v_84642, v_84644, v_84646, v_84647, v_84649, v_84651, v_84653, v_84655, v_84657, v_84659, v_84661, v_84663, v_84665, p_ad_0_0, b_84633, b_84635, b_84637, b_84639, b_84641, b_84643, b_84645, b_84648, b_84650, b_84652, b_84654, b_84656, b_84658, b_84660, b_84662, b_84664, b_84666⟩ := opnM_0 (j := 0) I (by decide)
  have p_ad_0_0 : pt L f (ad 0 0) (.inr (12, [.ref (ad 1 0), .ref (ad 2 0), .ref (ad 3 0), .ref (ad 4 0), .int v_84632, .int v_84634, .int v_84636, .int v_84638, .int v_84640, .int v_84642, .int v_84644, .long v_84646, .int v_84647, .int v_84649, .int v_84651, .ref (ad 5 0), .ref (ad 6 0), .int v_84653, .int v_84655, .int v_84657, .int v_84659, .int v_84661, .ref (ad 7 0), .ref (ad 8 0), .ref (ad 9 0), .int v_84663, .ref (ad 10 0), .ref (ad 11 0), .ref (ad 12 0), .ref (ad 13 0), .int v_84665, .ref (ad 14 0)])) := p_ad_0_0
  refine pg_get S Y ok_X12 4 (by decide) kf12_81 (v := .int v_84632) p_ad_0_0 rfl dX12_feed_1 ?_
  refine lv_bipush (v := 20) hx hb dX12_feed_4 (by decide) ?_
  refine lv_iadd hx hb dX12_feed_6 ?_
  refine lv_topi (fun x_84667 ex_84667 => ?_)
  refine lv_sipush (v := 300) hx hb dX12_feed_7 (by decide) ?_
  refine lv_icmp_le (tgt := 15) hx hb dX12_feed_10 (by decide) (fun c_84668 => ?_) (fun c_84668 => ?_)
  · have B_84669 : bn 20 300 x_84667 := bn_w (bn_lel c_84668 (bn_eq ex_84667 (bn_add b_84633 (show bn 20 20 (20 : Int32) from bn_k (by decide)) (by decide))) (show bn 300 300 (300 : Int32) from bn_k (by decide))) (by decide)
    have B_84671 : bn 0 280 v_84632 := ⟨(b_84633).1, by have z9 := (la_add ex_84667 (rfl : v_84632.toInt = v_84632.toInt) (show (20 : Int32).toInt = 20 from rfl) b_84633 (show bn 20 20 (20 : Int32) from bn_k (by decide)) (by decide)); have z8 := (B_84669).2; omega⟩
    refine lv_aload_n hx hb dX12_feed_15 rfl (lv_at hl 0 rfl) ?_
    refine lv_iload_n hx hb dX12_feed_16 rfl (lv_at hl 1 rfl) ?_
    refine cVv (As := [.int i1]) (rest := []) S Y (x_X12_four (l := l) I p_ad_0_0 (bn_w B_84671 (by decide))) cw_X12_four km12_84 p_ad_0_0 ok_X12.1 rfl rfl ⟨Nat.le_of_ble_eq_true rfl, Nat.le_of_ble_eq_true rfl⟩ hl.1 rfl (Nat.le_of_ble_eq_true rfl) ⟨Nat.le_of_ble_eq_true rfl, Nat.le_of_ble_eq_true rfl⟩ dX12_feed_17 (fun L_84672 f_84673 H locs hr_84674 Y => ?_)
    obtain ⟨v_84675, I, p_ad_0_0, e4_84676⟩ := hr_84674
    obtain ⟨bfc84676_4, bfc84676_7, bfc84676_8, bfc84676_12, bfc84676_13, bfc84676_17, bfc84676_18, bfc84676_19, bfc84676_20, bfc84676_25⟩ := obM I p_ad_0_0
    have B_84678 : bn 4 284 v_84675 := bn_w (show bn 4 284 v_84675 from ⟨by have z8 := e4_84676; have z9 := (B_84671).1; omega, by have z8 := e4_84676; have z9 := (B_84671).2; omega⟩) (by decide)
    refine lv_aload_n hx hb dX12_feed_20 rfl (lv_at hl 0 rfl) ?_
    refine lv_iload_n hx hb dX12_feed_21 rfl (lv_at hl 2 rfl) ?_
    refine cVv (As := [.int i2]) (rest := []) S Y (x_X12_four (l := l) I p_ad_0_0 (bn_w B_84678 (by decide))) cw_X12_four km12_84 p_ad_0_0 ok_X12.1 rfl rfl ⟨Nat.le_of_ble_eq_true rfl, Nat.le_of_ble_eq_true rfl⟩ hl.1 rfl (Nat.le_of_ble_eq_true rfl) ⟨Nat.le_of_ble_eq_true rfl, Nat.le_of_ble_eq_true rfl⟩ dX12_feed_22 (fun L_84679 f_84680 H locs hr_84681 Y => ?_)
    obtain ⟨v_84682, I, p_ad_0_0, e4_84683⟩ := hr_84681
    obtain ⟨bfc84683_4, bfc84683_7, bfc84683_8, bfc84683_12, bfc84683_13, bfc84683_17, bfc84683_18, bfc84683_19, bfc84683_20, bfc84683_25⟩ := obM I p_ad_0_0
    have B_84685 : bn 8 288 v_84682 := bn_w (show bn 8 288 v_84682 from ⟨by have z8 := e4_84683; have z9 := (B_84678).1; omega, by have z8 := e4_84683; have z9 := (B_84678).2; omega⟩) (by decide)
    refine lv_aload_n hx hb dX12_feed_25 rfl (lv_at hl 0 rfl) ?_
    refine lv_iload_n hx hb dX12_feed_26 rfl (lv_at hl 3 rfl) ?_
    refine cVv (As := [.int i3]) (rest := []) S Y (x_X12_four (l := l) I p_ad_0_0 (bn_w B_84685 (by decide))) cw_X12_four km12_84 p_ad_0_0 ok_X12.1 rfl rfl ⟨Nat.le_of_ble_eq_true rfl, Nat.le_of_ble_eq_true rfl⟩ hl.1 rfl (Nat.le_of_ble_eq_true rfl) ⟨Nat.le_of_ble_eq_true rfl, Nat.le_of_ble_eq_true rfl⟩ dX12_feed_27 (fun L_84686 f_84687 H locs hr_84688 Y => ?_)
    obtain ⟨v_84689, I, p_ad_0_0, e4_84690⟩ := hr_84688
    obtain ⟨bfc84690_4, bfc84690_7, bfc84690_8, bfc84690_12, bfc84690_13, bfc84690_17, bfc84690_18, bfc84690_19, bfc84690_20, bfc84690_25⟩ := obM I p_ad_0_0
    have B_84692 : bn 12 292 v_84689 := bn_w (show bn 12 292 v_84689 from ⟨by have z8 := e4_84690; have z9 := (B_84685).1; omega, by have z8 := e4_84690; have z9 := (B_84685).2; omega⟩) (by decide)
    refine lv_aload_n hx hb dX12_feed_30 rfl (lv_at hl 0 rfl) ?_
    refine lv_iload hx hb dX12_feed_31 (lv_at hl 4 rfl) ?_
    refine cVv (As := [.int i4]) (rest := []) S Y (x_X12_four (l := l) I p_ad_0_0 (bn_w B_84692 (by decide))) cw_X12_four km12_84 p_ad_0_0 ok_X12.1 rfl rfl ⟨Nat.le_of_ble_eq_true rfl, Nat.le_of_ble_eq_true rfl⟩ hl.1 rfl (Nat.le_of_ble_eq_true rfl) ⟨Nat.le_of_ble_eq_true rfl, Nat.le_of_ble_eq_true rfl⟩ dX12_feed_33 (fun L_84693 f_84694 H locs hr_84695 Y => ?_)
    obtain ⟨v_84696, I, p_ad_0_0, e4_84697⟩ := hr_84695
    obtain ⟨bfc84697_4, bfc84697_7, bfc84697_8, bfc84697_12, bfc84697_13, bfc84697_17, bfc84697_18, bfc84697_19, bfc84697_20, bfc84697_25⟩ := obM I p_ad_0_0
    have B_84699 : bn 16 296 v_84696 := bn_w (show bn 16 296 v_84696 from ⟨by have z8 := e4_84697; have z9 := (B_84692).1; omega, by have z8 := e4_84697; have z9 := (B_84692).2; omega⟩) (by decide)
    refine lv_aload_n hx hb dX12_feed_36 rfl (lv_at hl 0 rfl) ?_
    refine lv_iload hx hb dX12_feed_37 (lv_at hl 5 rfl) ?_
    refine cVv (As := [.int i5]) (rest := []) S Y (x_X12_four (l := l) I p_ad_0_0 (bn_w B_84699 (by decide))) cw_X12_four km12_84 p_ad_0_0 ok_X12.1 rfl rfl ⟨Nat.le_of_ble_eq_true rfl, Nat.le_of_ble_eq_true rfl⟩ hl.1 rfl (Nat.le_of_ble_eq_true rfl) ⟨Nat.le_of_ble_eq_true rfl, Nat.le_of_ble_eq_true rfl⟩ dX12_feed_39 (fun L_84700 f_84701 H locs hr_84702 Y => ?_)
    obtain ⟨v_84703, I, p_ad_0_0, e4_84704⟩ := hr_84702
    obtain ⟨bfc84704_4, bfc84704_7, bfc84704_8, bfc84704_12, bfc84704_13, bfc84704_17, bfc84704_18, bfc84704_19, bfc84704_20, bfc84704_25⟩ := obM I p_ad_0_0
    have B_84706 : bn 20 300 v_84703 := bn_w (show bn 20 300 v_84703 from ⟨by have z8 := e4_84704; have z9 := (B_84699).1; omega, by have z8 := e4_84704; have z9 := (B_84699).2; omega⟩) (by decide)
    refine lv_aload_n hx hb dX12_feed_42 rfl (lv_at hl 0 rfl) ?_
    refine pg_get S Y ok_X12 4 (by decide) kf12_81 (v := .int v_84703) p_ad_0_0 rfl dX12_feed_43 ?_
    exact prI (post := fun r L1 f1 => SH (spM (IA 0 0 14 9999 w) pi (EQ g0) LDa) nnM G ad L1 f1) S Y rfl (by decide) (by decide) hA1 I dX12_feed_46
  · have B_84670 : bn 301 320 x_84667 := bn_w (bn_gtl c_84668 (bn_eq ex_84667 (bn_add b_84633 (show bn 20 20 (20 : Int32) from bn_k (by decide)) (by decide))) (show bn 300 300 (300 : Int32) from bn_k (by decide))) (by decide)
    refine lv_iconst (v := (-1)) hx hb dX12_feed_13 (by decide) ?_
    exact prI (post := fun r L1 f1 => SH (spM (IA 0 0 14 9999 w) pi (EQ g0) LDa) nnM G ad L1 f1) S Y rfl (by decide) (by decide) hA1 I dX12_feed_14
set_option maxHeartbeats 4000000 in
set_option maxRecDepth 100000 in
theorem x_X12_end {l : Launch} {G : GG}  {L : List Nat} {f : HF} {ad : Nat → Nat → Nat} {w : Int × Int} {pi : (Nat → Int32) → Prop} {g0 : Nat → Int32} {i1 : Int32} (I : SH (spM (IA 0 0 14 9999 w) pi (EQ g0) LDa) nnM G ad L f) (hB : BBp 0 0 14 9999 w) (hX : TX g0) : PMi l yX12_end cX12_end 2 .int 1 0 0 G [.ref (ad 0 0), .int i1] L f (fun r L1 f1 => SH (spM (IA 0 0 14 9999 w) pi (EQ g0) LDa) nnM G ad L1 f1) := by
  refine PMi.of (post := fun r L1 f1 => SH (spM (IA 0 0 14 9999 w) pi (EQ g0) LDa) nnM G ad L1 f1) (own := RX12) (by decide) rfl (Nat.le_of_ble_eq_true rfl) (fun sz p e s m args below meth c A ls hA1 hname S Y hl => ?_)
  have hx := S.hx
  have hb := S.hb
  have hl : lv_has ls 2 [(0, .ref (ad 0 0)), (1, .int i1)] := hl
  refine lv_iload_n hx hb dX12_end_0 rfl (lv_at hl 1 rfl) ?_
  refine lv_iconst (v := 0) hx hb dX12_end_1 (by decide) ?_
  refine lv_aload_n hx hb dX12_end_2 rfl (lv_at hl 0 rfl) ?_
  obtain ⟨v_84789, v_84791, v_84793, v_84795, v_84797, v_84799, v_84801, v_84803, v_84804, v_84806, v_84808, v_84810, v_84812, v_84814, v_84816, v_84818, v_84820, v_84822, p_ad_0_0, b_84790, b_84792, b_84794, b_84796, b_84798, b_84800, b_84802, b_84805, b_84807, b_84809, b_84811, b_84813, b_84815, b_84817, b_84819, b_84821, b_84823⟩ := opnM_0 (j := 0) I (by decide)
  have p_ad_0_0 : pt L f (ad 0 0) (.inr (12, [.ref (ad 1 0), .ref (ad 2 0), .ref (ad 3 0), .ref (ad 4 0), .int v_84789, .int v_84791, .int v_84793, .int v_84795, .int v_84797, .int v_84799, .int v_84801, .long v_84803, .int v_84804, .int v_84806, .int v_84808, .ref (ad 5 0), .ref (ad 6 0), .int v_84810, .int v_84812, .int v_84814, .int v_84816, .int v_84818, .ref (ad 7 0), .ref (ad 8 0), .ref (ad 9 0), .int v_84820, .ref (ad 10 0), .ref (ad 11 0), .ref (ad 12 0), .ref (ad 13 0), .int v_84822, .ref (ad 14 0)])) := p_ad_0_0
  refine pg_get S Y ok_X12 4 (by decide) kf12_81 (v := .int v_84789) p_ad_0_0 rfl dX12_end_3 ?_
  refine cSp (As := [.int i1, .int 0, .int v_84789]) (rest := []) S Y (x_X12_isIn (l := l) ) cw_X12_isIn km12_69 rfl ⟨Nat.le_of_ble_eq_true rfl, Nat.le_of_ble_eq_true rfl⟩ hl.1 rfl (Nat.le_of_ble_eq_true rfl) ⟨Nat.le_of_ble_eq_true rfl, Nat.le_of_ble_eq_true rfl⟩ dX12_end_6 (fun r_84824 H locs er_84824 Y => ?_)
  refine lv_if_ne (tgt := 14) hx hb dX12_end_9 (by decide) (fun c_84825 => ?_) (fun c_84825 => ?_)
  · have B_84826 : bn 0 300 i1 := bn_w (bn_i (bn_any i1) (bn_btw (er_84824.2 c_84825).1 (er_84824.2 c_84825).2 (show bn 0 0 (0 : Int32) from bn_k (by decide)) b_84790)) (by decide)
    have B_84827 : bn 1 1 r_84824 := bn_w (bn_nel c_84825 er_84824.1 (show bn 0 0 (0 : Int32) from bn_k (by decide))) (by decide)
    refine lv_aload_n hx hb dX12_end_14 rfl (lv_at hl 0 rfl) ?_
    refine lv_iload_n hx hb dX12_end_15 rfl (lv_at hl 1 rfl) ?_
    refine pg_put S Y ok_X12 4 (by decide) kf12_81 rfl (fs' := [.ref (ad 1 0), .ref (ad 2 0), .ref (ad 3 0), .ref (ad 4 0), .int i1, .int v_84791, .int v_84793, .int v_84795, .int v_84797, .int v_84799, .int v_84801, .long v_84803, .int v_84804, .int v_84806, .int v_84808, .ref (ad 5 0), .ref (ad 6 0), .int v_84810, .int v_84812, .int v_84814, .int v_84816, .int v_84818, .ref (ad 7 0), .ref (ad 8 0), .ref (ad 9 0), .int v_84820, .ref (ad 10 0), .ref (ad 11 0), .ref (ad 12 0), .ref (ad 13 0), .int v_84822, .ref (ad 14 0)]) (v := .int i1) p_ad_0_0 rfl rfl rfl (Nat.le_of_ble_eq_true rfl) dX12_end_16 (fun f_84829 H locs ef_84829 Y => ?_)
    have p_ad_0_0 := p_ad_0_0.me ef_84829
    have I := I.up (k := 0) (j := 0) (by decide) ef_84829 (okE_o (okFs_c okV_r (okFs_c okV_r (okFs_c okV_r (okFs_c okV_r (okFs_c (okV_i (bn_w B_84826 (by decide))) (okFs_c (okV_i b_84792) (okFs_c (okV_i b_84794) (okFs_c (okV_i b_84796) (okFs_c (okV_i b_84798) (okFs_c (okV_i b_84800) (okFs_c (okV_i b_84802) (okFs_c okV_l (okFs_c (okV_i b_84805) (okFs_c (okV_i b_84807) (okFs_c (okV_i b_84809) (okFs_c okV_r (okFs_c okV_r (okFs_c (okV_i b_84811) (okFs_c (okV_i b_84813) (okFs_c (okV_i b_84815) (okFs_c (okV_i b_84817) (okFs_c (okV_i b_84819) (okFs_c okV_r (okFs_c okV_r (okFs_c okV_r (okFs_c (okV_i b_84821) (okFs_c okV_r (okFs_c okV_r (okFs_c okV_r (okFs_c okV_r (okFs_c (okV_i b_84823) (okFs_c okV_r okFs_n)))))))))))))))))))))))))))))))))
    refine lv_iload_n hx hb dX12_end_19 rfl (lv_at hl 1 rfl) ?_
    exact prI (post := fun r L1 f1 => SH (spM (IA 0 0 14 9999 w) pi (EQ g0) LDa) nnM G ad L1 f1) S Y rfl (by decide) (by decide) hA1 I dX12_end_20
  · have B_84828 : bn 0 0 r_84824 := bn_w (bn_eq c_84825 (show bn 0 0 (0 : Int32) from bn_k (by decide))) (by decide)
    refine lv_iconst (v := (-1)) hx hb dX12_end_12 (by decide) ?_
    exact prI (post := fun r L1 f1 => SH (spM (IA 0 0 14 9999 w) pi (EQ g0) LDa) nnM G ad L1 f1) S Y rfl (by decide) (by decide) hA1 I dX12_end_13
