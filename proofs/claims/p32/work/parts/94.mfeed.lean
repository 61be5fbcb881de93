theorem dX12_four_0 : decode cX12_four 0 = .ok (.bipush 24, 2) := by decide +kernel
theorem dX12_four_2 : decode cX12_four 2 = .ok (.istore_n 2, 1) := by decide +kernel
theorem dX12_four_3 : decode cX12_four 3 = .ok (.iload_n 2, 1) := by decide +kernel
theorem dX12_four_4 : decode cX12_four 4 = .ok (.ifCond .lt 35, 3) := by decide +kernel
theorem dX12_four_7 : decode cX12_four 7 = .ok (.aload_n 0, 1) := by decide +kernel
theorem dX12_four_8 : decode cX12_four 8 = .ok (.getfield 19, 3) := by decide +kernel
theorem dX12_four_11 : decode cX12_four 11 = .ok (.aload_n 0, 1) := by decide +kernel
theorem dX12_four_12 : decode cX12_four 12 = .ok (.getfield 81, 3) := by decide +kernel
theorem dX12_four_15 : decode cX12_four 15 = .ok (.iload_n 1, 1) := by decide +kernel
theorem dX12_four_16 : decode cX12_four 16 = .ok (.iload_n 2, 1) := by decide +kernel
theorem dX12_four_17 : decode cX12_four 17 = .ok (.ishr, 1) := by decide +kernel
theorem dX12_four_18 : decode cX12_four 18 = .ok (.sipush 255, 3) := by decide +kernel
theorem dX12_four_21 : decode cX12_four 21 = .ok (.iand, 1) := by decide +kernel
theorem dX12_four_22 : decode cX12_four 22 = .ok (.iastore, 1) := by decide +kernel
theorem dX12_four_23 : decode cX12_four 23 = .ok (.aload_n 0, 1) := by decide +kernel
theorem dX12_four_24 : decode cX12_four 24 = .ok (.dup, 1) := by decide +kernel
theorem dX12_four_25 : decode cX12_four 25 = .ok (.getfield 81, 3) := by decide +kernel
theorem dX12_four_28 : decode cX12_four 28 = .ok (.iconst 1, 1) := by decide +kernel
theorem dX12_four_29 : decode cX12_four 29 = .ok (.iadd, 1) := by decide +kernel
theorem dX12_four_30 : decode cX12_four 30 = .ok (.putfield 81, 3) := by decide +kernel
theorem dX12_four_33 : decode cX12_four 33 = .ok (.iinc 2 (-8), 3) := by decide +kernel
theorem dX12_four_36 : decode cX12_four 36 = .ok (.goto (-33), 3) := by decide +kernel
theorem dX12_four_39 : decode cX12_four 39 = .ok (.return_, 1) := by decide +kernel
theorem dX12_feed_0 : decode cX12_feed 0 = .ok (.aload_n 0, 1) := by decide +kernel
theorem dX12_feed_1 : decode cX12_feed 1 = .ok (.getfield 81, 3) := by decide +kernel
theorem dX12_feed_4 : decode cX12_feed 4 = .ok (.bipush 20, 2) := by decide +kernel
theorem dX12_feed_6 : decode cX12_feed 6 = .ok (.iadd, 1) := by decide +kernel
theorem dX12_feed_7 : decode cX12_feed 7 = .ok (.sipush 300, 3) := by decide +kernel
theorem dX12_feed_10 : decode cX12_feed 10 = .ok (.if_icmp .le 5, 3) := by decide +kernel
theorem dX12_feed_15 : decode cX12_feed 15 = .ok (.aload_n 0, 1) := by decide +kernel
theorem dX12_feed_16 : decode cX12_feed 16 = .ok (.iload_n 1, 1) := by decide +kernel
theorem dX12_feed_17 : decode cX12_feed 17 = .ok (.invokevirtual 84, 3) := by decide +kernel
theorem cw_X12_four : CWv yX12_four cX12_four 3 none 1 := ⟨⟨⟨List.mem_of_getElem? (i := 137) (by decide +kernel), by decide +kernel⟩, ⟨List.mem_of_getElem? (i := 1611) (by decide +kernel), by decide +kernel⟩, by decide +kernel⟩, ⟨List.mem_of_getElem? (i := 1610) (by decide +kernel), by decide +kernel⟩, ⟨List.mem_of_getElem? (i := 48) (by decide +kernel), by decide +kernel⟩⟩
theorem km12_84 : inW (Cond.methodLink RX12 84 yX12_four) := ⟨List.mem_of_getElem? (i := 1608) (by decide +kernel), by decide +kernel⟩
theorem dX12_feed_20 : decode cX12_feed 20 = .ok (.aload_n 0, 1) := by decide +kernel
theorem dX12_feed_21 : decode cX12_feed 21 = .ok (.iload_n 2, 1) := by decide +kernel
theorem dX12_feed_22 : decode cX12_feed 22 = .ok (.invokevirtual 84, 3) := by decide +kernel
theorem dX12_feed_25 : decode cX12_feed 25 = .ok (.aload_n 0, 1) := by decide +kernel
theorem dX12_feed_26 : decode cX12_feed 26 = .ok (.iload_n 3, 1) := by decide +kernel
theorem dX12_feed_27 : decode cX12_feed 27 = .ok (.invokevirtual 84, 3) := by decide +kernel
theorem dX12_feed_30 : decode cX12_feed 30 = .ok (.aload_n 0, 1) := by decide +kernel
theorem dX12_feed_31 : decode cX12_feed 31 = .ok (.iload 4, 2) := by decide +kernel
theorem dX12_feed_33 : decode cX12_feed 33 = .ok (.invokevirtual 84, 3) := by decide +kernel
theorem dX12_feed_36 : decode cX12_feed 36 = .ok (.aload_n 0, 1) := by decide +kernel
theorem dX12_feed_37 : decode cX12_feed 37 = .ok (.iload 5, 2) := by decide +kernel
theorem dX12_feed_39 : decode cX12_feed 39 = .ok (.invokevirtual 84, 3) := by decide +kernel
theorem dX12_feed_42 : decode cX12_feed 42 = .ok (.aload_n 0, 1) := by decide +kernel
theorem dX12_feed_43 : decode cX12_feed 43 = .ok (.getfield 81, 3) := by decide +kernel
theorem dX12_feed_46 : decode cX12_feed 46 = .ok (.ireturn, 1) := by decide +kernel
theorem dX12_feed_13 : decode cX12_feed 13 = .ok (.iconst (-1), 1) := by decide +kernel
theorem dX12_feed_14 : decode cX12_feed 14 = .ok (.ireturn, 1) := by decide +kernel
theorem dX12_end_0 : decode cX12_end 0 = .ok (.iload_n 1, 1) := by decide +kernel
theorem dX12_end_1 : decode cX12_end 1 = .ok (.iconst 0, 1) := by decide +kernel
theorem dX12_end_2 : decode cX12_end 2 = .ok (.aload_n 0, 1) := by decide +kernel
theorem dX12_end_3 : decode cX12_end 3 = .ok (.getfield 81, 3) := by decide +kernel
theorem dX12_end_6 : decode cX12_end 6 = .ok (.invokestatic 69, 3) := by decide +kernel
theorem dX12_end_9 : decode cX12_end 9 = .ok (.ifCond .ne 5, 3) := by decide +kernel
theorem dX12_end_14 : decode cX12_end 14 = .ok (.aload_n 0, 1) := by decide +kernel
theorem dX12_end_15 : decode cX12_end 15 = .ok (.iload_n 1, 1) := by decide +kernel
theorem dX12_end_16 : decode cX12_end 16 = .ok (.putfield 81, 3) := by decide +kernel
theorem dX12_end_19 : decode cX12_end 19 = .ok (.iload_n 1, 1) := by decide +kernel
theorem dX12_end_20 : decode cX12_end 20 = .ok (.ireturn, 1) := by decide +kernel
theorem dX12_end_12 : decode cX12_end 12 = .ok (.iconst (-1), 1) := by decide +kernel
theorem dX12_end_13 : decode cX12_end 13 = .ok (.ireturn, 1) := by decide +kernel
set_option maxHeartbeats 4000000 in
set_option maxRecDepth 100000 in
theorem x_X12_four {l : Launch} {G : GG}  {L : List Nat} {f : HF} {ad : Nat → Nat → Nat} {pa : (Nat → Int32) → Prop} {PA : (Nat → Int32) → Prop} {PI : (Nat → Int32) → Prop} {PX : (Nat → Int32) → Prop} {i1 : Int32} {td fa fp at9 ps9 tk nu t0 wr so pd op9 cg iw on9 is9 se : Int32} {wd : Int64} (I : SH (spM PA PI PX pa) nnM G ad L f) (p_ad_0_0 : pt L f (ad 0 0) (.inr (12, [.ref (ad 1 0), .ref (ad 2 0), .ref (ad 3 0), .ref (ad 4 0), .int td, .int fa, .int fp, .int at9, .int ps9, .int tk, .int nu, .long wd, .int t0, .int wr, .int so, .ref (ad 5 0), .ref (ad 6 0), .int pd, .int op9, .int cg, .int iw, .int on9, .ref (ad 7 0), .ref (ad 8 0), .ref (ad 9 0), .int is9, .ref (ad 10 0), .ref (ad 11 0), .ref (ad 12 0), .ref (ad 13 0), .int se, .ref (ad 14 0)]))) (ht : bn 0 296 td) : PMv l yX12_four cX12_four 3 0 0 0 G [.ref (ad 0 0), .int i1] L f (fun L1 f1 => ∃ td2 : Int32, SH (spM PA PI PX pa) nnM G ad L1 f1 ∧ pt L1 f1 (ad 0 0) (.inr (12, [.ref (ad 1 0), .ref (ad 2 0), .ref (ad 3 0), .ref (ad 4 0), .int td2, .int fa, .int fp, .int at9, .int ps9, .int tk, .int nu, .long wd, .int t0, .int wr, .int so, .ref (ad 5 0), .ref (ad 6 0), .int pd, .int op9, .int cg, .int iw, .int on9, .ref (ad 7 0), .ref (ad 8 0), .ref (ad 9 0), .int is9, .ref (ad 10 0), .ref (ad 11 0), .ref (ad 12 0), .ref (ad 13 0), .int se, .ref (ad 14 0)])) ∧ td2.toInt = td.toInt + 4) := by
  refine PMv.of (post := fun L1 f1 => ∃ td2 : Int32, SH (spM PA PI PX pa) nnM G ad L1 f1 ∧ pt L1 f1 (ad 0 0) (.inr (12, [.ref (ad 1 0), .ref (ad 2 0), .ref (ad 3 0), .ref (ad 4 0), .int td2, .int fa, .int fp, .int at9, .int ps9, .int tk, .int nu, .long wd, .int t0, .int wr, .int so, .ref (ad 5 0), .ref (ad 6 0), .int pd, .int op9, .int cg, .int iw, .int on9, .ref (ad 7 0), .ref (ad 8 0), .ref (ad 9 0), .int is9, .ref (ad 10 0), .ref (ad 11 0), .ref (ad 12 0), .ref (ad 13 0), .int se, .ref (ad 14 0)])) ∧ td2.toInt = td.toInt + 4) (own := RX12) (by decide) rfl (Nat.le_of_ble_eq_true rfl) (fun sz p e s m args below meth c A ls hA1 hname S Y hl => ?_)
  have hx := S.hx
  have hb := S.hb
  have hl : lv_has ls 3 [(0, .ref (ad 0 0)), (1, .int i1)] := hl
  obtain ⟨bfe_4, bfe_7, bfe_8, bfe_12, bfe_13, bfe_17, bfe_18, bfe_19, bfe_20, bfe_25⟩ := obM I p_ad_0_0
  refine lv_bipush (v := 24) hx hb dX12_four_0 (by decide) ?_
  refine lv_istore_n (lv' := [(2, .int 24), (0, .ref (ad 0 0)), (1, .int i1)]) hx hb dX12_four_2 rfl hl (by decide) rfl (fun ls hl => ?_)
  refine lv_iload_n hx hb dX12_four_3 rfl (lv_at hl 0 rfl) ?_
  refine lv_if_lt (tgt := 39) hx hb dX12_four_4 (by decide) (fun h => absurd h (by decide)) (fun _ => ?_)
  refine lv_aload_n hx hb dX12_four_7 rfl (lv_at hl 1 rfl) ?_
  refine pg_get S Y ok_X12 3 (by decide) kf12_19 (v := .ref (ad 4 0)) p_ad_0_0 rfl dX12_four_8 ?_
  refine lv_aload_n hx hb dX12_four_11 rfl (lv_at hl 1 rfl) ?_
  refine pg_get S Y ok_X12 4 (by decide) kf12_81 (v := .int td) p_ad_0_0 rfl dX12_four_12 ?_
  refine lv_iload_n hx hb dX12_four_15 rfl (lv_at hl 2 rfl) ?_
  refine lv_iload_n hx hb dX12_four_16 rfl (lv_at hl 0 rfl) ?_
  refine lv_ishr hx hb dX12_four_17 ?_
  refine lv_topi (fun x_84460 ex_84460 => ?_)
  refine lv_sipush (v := 255) hx hb dX12_four_18 (by decide) ?_
  refine lv_iand hx hb dX12_four_21 ?_
  refine lv_topi (fun x_84461 ex_84461 => ?_)
  obtain ⟨g_84462, p_ad_4_0, o_84463⟩ := I.opi (k := 4) (j := 0) (by decide) rfl
  have p_ad_4_0 : pt L f (ad 4 0) (.inl (G.2 0, 300, .inl g_84462)) := p_ad_4_0
  refine pg_iast S Y p_ad_4_0 (vp_bn ht (by decide)) dX12_four_22 (fun f_84465 H locs ef_84465 Y => ?_)
  obtain ⟨g_84464, eg_84464⟩ : ∃ z, z = upd (g_84462) (td : Int32).toNatClampNeg x_84461 := ⟨_, rfl⟩
  rw [← eg_84464] at ef_84465
  have p_ad_0_0 := p_ad_0_0.up ef_84465 (I.ne (k := 0) (j := 0) (k' := 4) (j' := 0) (by decide) (by decide) (Or.inl (by decide)))
  have p_ad_4_0 := p_ad_4_0.me ef_84465
  have o_84466 : True := trivial
  have I := I.up (k := 4) (j := 0) (by decide) ef_84465 (okE_a (g := g_84464) o_84466)
  refine lv_aload_n hx hb dX12_four_23 rfl (lv_at hl 1 rfl) ?_
  refine lv_dup hx hb dX12_four_24 rfl ?_
  refine pg_get S Y ok_X12 4 (by decide) kf12_81 (v := .int td) p_ad_0_0 rfl dX12_four_25 ?_
  refine lv_iconst (v := 1) hx hb dX12_four_28 (by decide) ?_
  refine lv_iadd hx hb dX12_four_29 ?_
  refine lv_topi (fun x_84467 ex_84467 => ?_)
  refine pg_put S Y ok_X12 4 (by decide) kf12_81 rfl (fs' := [.ref (ad 1 0), .ref (ad 2 0), .ref (ad 3 0), .ref (ad 4 0), .int x_84467, .int fa, .int fp, .int at9, .int ps9, .int tk, .int nu, .long wd, .int t0, .int wr, .int so, .ref (ad 5 0), .ref (ad 6 0), .int pd, .int op9, .int cg, .int iw, .int on9, .ref (ad 7 0), .ref (ad 8 0), .ref (ad 9 0), .int is9, .ref (ad 10 0), .ref (ad 11 0), .ref (ad 12 0), .ref (ad 13 0), .int se, .ref (ad 14 0)]) (v := .int x_84467) p_ad_0_0 rfl rfl rfl (Nat.le_of_ble_eq_true rfl) dX12_four_30 (fun f_84468 H locs ef_84468 Y => ?_)
  have p_ad_4_0 := p_ad_4_0.up ef_84468 (I.ne (k := 4) (j := 0) (k' := 0) (j' := 0) (by decide) (by decide) (Or.inl (by decide)))
  have p_ad_0_0 := p_ad_0_0.me ef_84468
  have I := I.up (k := 0) (j := 0) (by decide) ef_84468 (okE_o (okFs_c okV_r (okFs_c okV_r (okFs_c okV_r (okFs_c okV_r (okFs_c (okV_i (bn_w (bn_eq ex_84467 (bn_add ht (show bn 1 1 (1 : Int32) from bn_k (by decide)) (by decide))) (by decide))) (okFs_c (okV_i (bn_any _)) (okFs_c (okV_i (bn_any _)) (okFs_c (okV_i bfe_7) (okFs_c (okV_i bfe_8) (okFs_c (okV_i (bn_any _)) (okFs_c (okV_i (bn_any _)) (okFs_c okV_l (okFs_c (okV_i bfe_12) (okFs_c (okV_i bfe_13) (okFs_c (okV_i (bn_any _)) (okFs_c okV_r (okFs_c okV_r (okFs_c (okV_i bfe_17) (okFs_c (okV_i bfe_18) (okFs_c (okV_i bfe_19) (okFs_c (okV_i bfe_20) (okFs_c (okV_i (bn_any _)) (okFs_c okV_r (okFs_c okV_r (okFs_c okV_r (okFs_c (okV_i bfe_25) (okFs_c okV_r (okFs_c okV_r (okFs_c okV_r (okFs_c okV_r (okFs_c (okV_i (bn_any _)) (okFs_c okV_r okFs_n)))))))))))))))))))))))))))))))))
  refine lv_iinc (v := 16) (lv' := [(2, .int 16), (0, .ref (ad 0 0)), (1, .int i1)]) hx hb dX12_four_33 hl (k := 0) rfl (by decide) (by decide) rfl (fun ls hl => ?_)
  refine lv_goto (tgt := 3) hx hb dX12_four_36 (by decide) ?_
  refine lv_iload_n hx hb dX12_four_3 rfl (lv_at hl 0 rfl) ?_
  refine lv_if_lt (tgt := 39) hx hb dX12_four_4 (by decide) (fun h => absurd h (by decide)) (fun _ => ?_)
  refine lv_aload_n hx hb dX12_four_7 rfl (lv_at hl 1 rfl) ?_
  refine pg_get S Y ok_X12 3 (by decide) kf12_19 (v := .ref (ad 4 0)) p_ad_0_0 rfl dX12_four_8 ?_
  refine lv_aload_n hx hb dX12_four_11 rfl (lv_at hl 1 rfl) ?_
  refine pg_get S Y ok_X12 4 (by decide) kf12_81 (v := .int x_84467) p_ad_0_0 rfl dX12_four_12 ?_
  refine lv_iload_n hx hb dX12_four_15 rfl (lv_at hl 2 rfl) ?_
  refine lv_iload_n hx hb dX12_four_16 rfl (lv_at hl 0 rfl) ?_
  refine lv_ishr hx hb dX12_four_17 ?_
  refine lv_topi (fun x_84469 ex_84469 => ?_)
  refine lv_sipush (v := 255) hx hb dX12_four_18 (by decide) ?_
  refine lv_iand hx hb dX12_four_21 ?_
  refine lv_topi (fun x_84470 ex_84470 => ?_)
  refine pg_iast S Y p_ad_4_0 (vp_bn (bn_eq ex_84467 (bn_add ht (show bn 1 1 (1 : Int32) from bn_k (by decide)) (by decide))) (by decide)) dX12_four_22 (fun f_84472 H locs ef_84472 Y => ?_)
  obtain ⟨g_84471, eg_84471⟩ : ∃ z, z = upd (g_84464) (x_84467 : Int32).toNatClampNeg x_84470 := ⟨_, rfl⟩
  rw [← eg_84471] at ef_84472
  have p_ad_0_0 := p_ad_0_0.up ef_84472 (I.ne (k := 0) (j := 0) (k' := 4) (j' := 0) (by decide) (by decide) (Or.inl (by decide)))
  have p_ad_4_0 := p_ad_4_0.me ef_84472
  have o_84473 : True := trivial
  have I := I.up (k := 4) (j := 0) (by decide) ef_84472 (okE_a (g := g_84471) o_84473)
  refine lv_aload_n hx hb dX12_four_23 rfl (lv_at hl 1 rfl) ?_
  refine lv_dup hx hb dX12_four_24 rfl ?_
  refine pg_get S Y ok_X12 4 (by decide) kf12_81 (v := .int x_84467) p_ad_0_0 rfl dX12_four_25 ?_
  refine lv_iconst (v := 1) hx hb dX12_four_28 (by decide) ?_
  refine lv_iadd hx hb dX12_four_29 ?_
  refine lv_topi (fun x_84474 ex_84474 => ?_)
  refine pg_put S Y ok_X12 4 (by decide) kf12_81 rfl (fs' := [.ref (ad 1 0), .ref (ad 2 0), .ref (ad 3 0), .ref (ad 4 0), .int x_84474, .int fa, .int fp, .int at9, .int ps9, .int tk, .int nu, .long wd, .int t0, .int wr, .int so, .ref (ad 5 0), .ref (ad 6 0), .int pd, .int op9, .int cg, .int iw, .int on9, .ref (ad 7 0), .ref (ad 8 0), .ref (ad 9 0), .int is9, .ref (ad 10 0), .ref (ad 11 0), .ref (ad 12 0), .ref (ad 13 0), .int se, .ref (ad 14 0)]) (v := .int x_84474) p_ad_0_0 rfl rfl rfl (Nat.le_of_ble_eq_true rfl) dX12_four_30 (fun f_84475 H locs ef_84475 Y => ?_)
  have p_ad_4_0 := p_ad_4_0.up ef_84475 (I.ne (k := 4) (j := 0) (k' := 0) (j' := 0) (by decide) (by decide) (Or.inl (by decide)))
  have p_ad_0_0 := p_ad_0_0.me ef_84475
  have I := I.up (k := 0) (j := 0) (by decide) ef_84475 (okE_o (okFs_c okV_r (okFs_c okV_r (okFs_c okV_r (okFs_c okV_r (okFs_c (okV_i (bn_w (bn_eq ex_84474 (bn_add (bn_eq ex_84467 (bn_add ht (show bn 1 1 (1 : Int32) from bn_k (by decide)) (by decide))) (show bn 1 1 (1 : Int32) from bn_k (by decide)) (by decide))) (by decide))) (okFs_c (okV_i (bn_any _)) (okFs_c (okV_i (bn_any _)) (okFs_c (okV_i bfe_7) (okFs_c (okV_i bfe_8) (okFs_c (okV_i (bn_any _)) (okFs_c (okV_i (bn_any _)) (okFs_c okV_l (okFs_c (okV_i bfe_12) (okFs_c (okV_i bfe_13) (okFs_c (okV_i (bn_any _)) (okFs_c okV_r (okFs_c okV_r (okFs_c (okV_i bfe_17) (okFs_c (okV_i bfe_18) (okFs_c (okV_i bfe_19) (okFs_c (okV_i bfe_20) (okFs_c (okV_i (bn_any _)) (okFs_c okV_r (okFs_c okV_r (okFs_c okV_r (okFs_c (okV_i bfe_25) (okFs_c okV_r (okFs_c okV_r (okFs_c okV_r (okFs_c okV_r (okFs_c (okV_i (bn_any _)) (okFs_c okV_r okFs_n)))))))))))))))))))))))))))))))))
  refine lv_iinc (v := 8) (lv' := [(2, .int 8), (0, .ref (ad 0 0)), (1, .int i1)]) hx hb dX12_four_33 hl (k := 0) rfl (by decide) (by decide) rfl (fun ls hl => ?_)
  refine lv_goto (tgt := 3) hx hb dX12_four_36 (by decide) ?_
  refine lv_iload_n hx hb dX12_four_3 rfl (lv_at hl 0 rfl) ?_
  refine lv_if_lt (tgt := 39) hx hb dX12_four_4 (by decide) (fun h => absurd h (by decide)) (fun _ => ?_)
  refine lv_aload_n hx hb dX12_four_7 rfl (lv_at hl 1 rfl) ?_
  refine pg_get S Y ok_X12 3 (by decide) kf12_19 (v := .ref (ad 4 0)) p_ad_0_0 rfl dX12_four_8 ?_
  refine lv_aload_n hx hb dX12_four_11 rfl (lv_at hl 1 rfl) ?_
  refine pg_get S Y ok_X12 4 (by decide) kf12_81 (v := .int x_84474) p_ad_0_0 rfl dX12_four_12 ?_
  refine lv_iload_n hx hb dX12_four_15 rfl (lv_at hl 2 rfl) ?_
  refine lv_iload_n hx hb dX12_four_16 rfl (lv_at hl 0 rfl) ?_
  refine lv_ishr hx hb dX12_four_17 ?_
  refine lv_topi (fun x_84476 ex_84476 => ?_)
  refine lv_sipush (v := 255) hx hb dX12_four_18 (by decide) ?_
  refine lv_iand hx hb dX12_four_21 ?_
  refine lv_topi (fun x_84477 ex_84477 => ?_)
  refine pg_iast S Y p_ad_4_0 (vp_bn (bn_eq ex_84474 (bn_add (bn_eq ex_84467 (bn_add ht (show bn 1 1 (1 : Int32) from bn_k (by decide)) (by decide))) (show bn 1 1 (1 : Int32) from bn_k (by decide)) (by decide))) (by decide)) dX12_four_22 (fun f_84479 H locs ef_84479 Y => ?_)
  obtain ⟨g_84478, eg_84478⟩ : ∃ z, z = upd (g_84471) (x_84474 : Int32).toNatClampNeg x_84477 := ⟨_, rfl⟩
  rw [← eg_84478] at ef_84479
  have p_ad_0_0 := p_ad_0_0.up ef_84479 (I.ne (k := 0) (j := 0) (k' := 4) (j' := 0) (by decide) (by decide) (Or.inl (by decide)))
  have p_ad_4_0 := p_ad_4_0.me ef_84479
  have o_84480 : True := trivial
  have I := I.up (k := 4) (j := 0) (by decide) ef_84479 (okE_a (g := g_84478) o_84480)
  refine lv_aload_n hx hb dX12_four_23 rfl (lv_at hl 1 rfl) ?_
  refine lv_dup hx hb dX12_four_24 rfl ?_
  refine pg_get S Y ok_X12 4 (by decide) kf12_81 (v := .int x_84474) p_ad_0_0 rfl dX12_four_25 ?_
  refine lv_iconst (v := 1) hx hb dX12_four_28 (by decide) ?_
  refine lv_iadd hx hb dX12_four_29 ?_
  refine lv_topi (fun x_84481 ex_84481 => ?_)
  refine pg_put S Y ok_X12 4 (by decide) kf12_81 rfl (fs' := [.ref (ad 1 0), .ref (ad 2 0), .ref (ad 3 0), .ref (ad 4 0), .int x_84481, .int fa, .int fp, .int at9, .int ps9, .int tk, .int nu, .long wd, .int t0, .int wr, .int so, .ref (ad 5 0), .ref (ad 6 0), .int pd, .int op9, .int cg, .int iw, .int on9, .ref (ad 7 0), .ref (ad 8 0), .ref (ad 9 0), .int is9, .ref (ad 10 0), .ref (ad 11 0), .ref (ad 12 0), .ref (ad 13 0), .int se, .ref (ad 14 0)]) (v := .int x_84481) p_ad_0_0 rfl rfl rfl (Nat.le_of_ble_eq_true rfl) dX12_four_30 (fun f_84482 H locs ef_84482 Y => ?_)
  have p_ad_4_0 := p_ad_4_0.up ef_84482 (I.ne (k := 4) (j := 0) (k' := 0) (j' := 0) (by decide) (by decide) (Or.inl (by decide)))
  have p_ad_0_0 := p_ad_0_0.me ef_84482
  have I := I.up (k := 0) (j := 0) (by decide) ef_84482 (okE_o (okFs_c okV_r (okFs_c okV_r (okFs_c okV_r (okFs_c okV_r (okFs_c (okV_i (bn_w (bn_eq ex_84481 (bn_add (bn_eq ex_84474 (bn_add (bn_eq ex_84467 (bn_add ht (show bn 1 1 (1 : Int32) from bn_k (by decide)) (by decide))) (show bn 1 1 (1 : Int32) from bn_k (by decide)) (by decide))) (show bn 1 1 (1 : Int32) from bn_k (by decide)) (by decide))) (by decide))) (okFs_c (okV_i (bn_any _)) (okFs_c (okV_i (bn_any _)) (okFs_c (okV_i bfe_7) (okFs_c (okV_i bfe_8) (okFs_c (okV_i (bn_any _)) (okFs_c (okV_i (bn_any _)) (okFs_c okV_l (okFs_c (okV_i bfe_12) (okFs_c (okV_i bfe_13) (okFs_c (okV_i (bn_any _)) (okFs_c okV_r (okFs_c okV_r (okFs_c (okV_i bfe_17) (okFs_c (okV_i bfe_18) (okFs_c (okV_i bfe_19) (okFs_c (okV_i bfe_20) (okFs_c (okV_i (bn_any _)) (okFs_c okV_r (okFs_c okV_r (okFs_c okV_r (okFs_c (okV_i bfe_25) (okFs_c okV_r (okFs_c okV_r (okFs_c okV_r (okFs_c okV_r (okFs_c (okV_i (bn_any _)) (okFs_c okV_r okFs_n)))))))))))))))))))))))))))))))))
  refine lv_iinc (v := 0) (lv' := [(2, .int 0), (0, .ref (ad 0 0)), (1, .int i1)]) hx hb dX12_four_33 hl (k := 0) rfl (by decide) (by decide) rfl (fun ls hl => ?_)
  refine lv_goto (tgt := 3) hx hb dX12_four_36 (by decide) ?_
  refine lv_iload_n hx hb dX12_four_3 rfl (lv_at hl 0 rfl) ?_
  refine lv_if_lt (tgt := 39) hx hb dX12_four_4 (by decide) (fun h => absurd h (by decide)) (fun _ => ?_)
  refine lv_aload_n hx hb dX12_four_7 rfl (lv_at hl 1 rfl) ?_
  refine pg_get S Y ok_X12 3 (by decide) kf12_19 (v := .ref (ad 4 0)) p_ad_0_0 rfl dX12_four_8 ?_
  refine lv_aload_n hx hb dX12_four_11 rfl (lv_at hl 1 rfl) ?_
  refine pg_get S Y ok_X12 4 (by decide) kf12_81 (v := .int x_84481) p_ad_0_0 rfl dX12_four_12 ?_
  refine lv_iload_n hx hb dX12_four_15 rfl (lv_at hl 2 rfl) ?_
  refine lv_iload_n hx hb dX12_four_16 rfl (lv_at hl 0 rfl) ?_
  refine lv_ishr hx hb dX12_four_17 ?_
  refine lv_topi (fun x_84483 ex_84483 => ?_)
  refine lv_sipush (v := 255) hx hb dX12_four_18 (by decide) ?_
  refine lv_iand hx hb dX12_four_21 ?_
  refine lv_topi (fun x_84484 ex_84484 => ?_)
  refine pg_iast S Y p_ad_4_0 (vp_bn (bn_eq ex_84481 (bn_add (bn_eq ex_84474 (bn_add (bn_eq ex_84467 (bn_add ht (show bn 1 1 (1 : Int32) from bn_k (by decide)) (by decide))) (show bn 1 1 (1 : Int32) from bn_k (by decide)) (by decide))) (show bn 1 1 (1 : Int32) from bn_k (by decide)) (by decide))) (by decide)) dX12_four_22 (fun f_84486 H locs ef_84486 Y => ?_)
  obtain ⟨g_84485, eg_84485⟩ : ∃ z, z = upd (g_84478) (x_84481 : Int32).toNatClampNeg x_84484 := ⟨_, rfl⟩
  rw [← eg_84485] at ef_84486
  have p_ad_0_0 := p_ad_0_0.up ef_84486 (I.ne (k := 0) (j := 0) (k' := 4) (j' := 0) (by decide) (by decide) (Or.inl (by decide)))
  have p_ad_4_0 := p_ad_4_0.me ef_84486
  have o_84487 : True := trivial
  have I := I.up (k := 4) (j := 0) (by decide) ef_84486 (okE_a (g := g_84485) o_84487)
  refine lv_aload_n hx hb dX12_four_23 rfl (lv_at hl 1 rfl) ?_
  refine lv_dup hx hb dX12_four_24 rfl ?_
  refine pg_get S Y ok_X12 4 (by decide) kf12_81 (v := .int x_84481) p_ad_0_0 rfl dX12_four_25 ?_
  refine lv_iconst (v := 1) hx hb dX12_four_28 (by decide) ?_
  refine lv_iadd hx hb dX12_four_29 ?_
  refine lv_topi (fun x_84488 ex_84488 => ?_)
  have B_84489 : bn 4 300 x_84488 := bn_w (bn_eq ex_84488 (bn_add (bn_eq ex_84481 (bn_add (bn_eq ex_84474 (bn_add (bn_eq ex_84467 (bn_add ht (show bn 1 1 (1 : Int32) from bn_k (by decide)) (by decide))) (show bn 1 1 (1 : Int32) from bn_k (by decide)) (by decide))) (show bn 1 1 (1 : Int32) from bn_k (by decide)) (by decide))) (show bn 1 1 (1 : Int32) from bn_k (by decide)) (by decide))) (by decide)
  refine pg_put S Y ok_X12 4 (by decide) kf12_81 rfl (fs' := [.ref (ad 1 0), .ref (ad 2 0), .ref (ad 3 0), .ref (ad 4 0), .int x_84488, .int fa, .int fp, .int at9, .int ps9, .int tk, .int nu, .long wd, .int t0, .int wr, .int so, .ref (ad 5 0), .ref (ad 6 0), .int pd, .int op9, .int cg, .int iw, .int on9, .ref (ad 7 0), .ref (ad 8 0), .ref (ad 9 0), .int is9, .ref (ad 10 0), .ref (ad 11 0), .ref (ad 12 0), .ref (ad 13 0), .int se, .ref (ad 14 0)]) (v := .int x_84488) p_ad_0_0 rfl rfl rfl (Nat.le_of_ble_eq_true rfl) dX12_four_30 (fun f_84490 H locs ef_84490 Y => ?_)
  have p_ad_4_0 := p_ad_4_0.up ef_84490 (I.ne (k := 4) (j := 0) (k' := 0) (j' := 0) (by decide) (by decide) (Or.inl (by decide)))
  have p_ad_0_0 := p_ad_0_0.me ef_84490
  have I := I.up (k := 0) (j := 0) (by decide) ef_84490 (okE_o (okFs_c okV_r (okFs_c okV_r (okFs_c okV_r (okFs_c okV_r (okFs_c (okV_i (bn_w B_84489 (by decide))) (okFs_c (okV_i (bn_any _)) (okFs_c (okV_i (bn_any _)) (okFs_c (okV_i bfe_7) (okFs_c (okV_i bfe_8) (okFs_c (okV_i (bn_any _)) (okFs_c (okV_i (bn_any _)) (okFs_c okV_l (okFs_c (okV_i bfe_12) (okFs_c (okV_i bfe_13) (okFs_c (okV_i (bn_any _)) (okFs_c okV_r (okFs_c okV_r (okFs_c (okV_i bfe_17) (okFs_c (okV_i bfe_18) (okFs_c (okV_i bfe_19) (okFs_c (okV_i bfe_20) (okFs_c (okV_i (bn_any _)) (okFs_c okV_r (okFs_c okV_r (okFs_c okV_r (okFs_c (okV_i bfe_25) (okFs_c okV_r (okFs_c okV_r (okFs_c okV_r (okFs_c okV_r (okFs_c (okV_i (bn_any _)) (okFs_c okV_r okFs_n)))))))))))))))))))))))))))))))))
  refine lv_iinc (v := (-8)) (lv' := [(2, .int (-8)), (0, .ref (ad 0 0)), (1, .int i1)]) hx hb dX12_four_33 hl (k := 0) rfl (by decide) (by decide) rfl (fun ls hl => ?_)
  refine lv_goto (tgt := 3) hx hb dX12_four_36 (by decide) ?_
  refine lv_iload_n hx hb dX12_four_3 rfl (lv_at hl 0 rfl) ?_
  refine lv_if_lt (tgt := 39) hx hb dX12_four_4 (by decide) (fun _ => ?_) (fun h => absurd (by decide) h)
  exact prV (post := fun L1 f1 => ∃ td2 : Int32, SH (spM PA PI PX pa) nnM G ad L1 f1 ∧ pt L1 f1 (ad 0 0) (.inr (12, [.ref (ad 1 0), .ref (ad 2 0), .ref (ad 3 0), .ref (ad 4 0), .int td2, .int fa, .int fp, .int at9, .int ps9, .int tk, .int nu, .long wd, .int t0, .int wr, .int so, .ref (ad 5 0), .ref (ad 6 0), .int pd, .int op9, .int cg, .int iw, .int on9, .ref (ad 7 0), .ref (ad 8 0), .ref (ad 9 0), .int is9, .ref (ad 10 0), .ref (ad 11 0), .ref (ad 12 0), .ref (ad 13 0), .int se, .ref (ad 14 0)])) ∧ td2.toInt = td.toInt + 4) S Y (by decide) (by decide) hA1 ⟨x_84488, I, p_ad_0_0, (by have z9 := (la_add ex_84488 (la_add ex_84481 (la_add ex_84474 (la_add ex_84467 (rfl : td.toInt = td.toInt) (show (1 : Int32).toInt = 1 from rfl) ht (show bn 1 1 (1 : Int32) from bn_k (by decide)) (by decide)) (show (1 : Int32).toInt = 1 from rfl) (bn_eq ex_84467 (bn_add ht (show bn 1 1 (1 : Int32) from bn_k (by decide)) (by decide))) (show bn 1 1 (1 : Int32) from bn_k (by decide)) (by decide)) (show (1 : Int32).toInt = 1 from rfl) (bn_eq ex_84474 (bn_add (bn_eq ex_84467 (bn_add ht (show bn 1 1 (1 : Int32) from bn_k (by decide)) (by decide))) (show bn 1 1 (1 : Int32) from bn_k (by decide)) (by decide))) (show bn 1 1 (1 : Int32) from bn_k (by decide)) (by decide)) (show (1 : Int32).toInt = 1 from rfl) (bn_eq ex_84481 (bn_add (bn_eq ex_84474 (bn_add (bn_eq ex_84467 (bn_add ht (show bn 1 1 (1 : Int32) from bn_k (by decide)) (by decide))) (show bn 1 1 (1 : Int32) from bn_k (by decide)) (by decide))) (show bn 1 1 (1 : Int32) from bn_k (by decide)) (by decide))) (show bn 1 1 (1 : Int32) from bn_k (by decide)) (by decide)); omega)⟩ dX12_four_39
set_option maxHeartbeats 4000000 in
set_option maxRecDepth 100000 in
theorem x_X12_feed {l : Launch} {G : GG}  {L : List Nat} {f : HF} {ad : Nat → Nat → Nat} {w : Int × Int} {pi : (Nat → Int32) → Prop} {g0 : Nat → Int32} {i1 i2 i3 i4 i5 : Int32} (I : SH (spM (IA 0 0 14 9999 w) pi (EQ g0) LDa) nnM G ad L f) (hB : BBp 0 0 14 9999 w) (hX : TX g0) : PMi l yX12_feed cX12_feed 6 .int 1 0 0 G [.ref (ad 0 0), .int i1, .int i2, .int i3, .int i4, .int i5] L f (fun r L1 f1 => SH (spM (IA 0 0 14 9999 w) pi (EQ g0) LDa) nnM G ad L1 f1) := by
  refine PMi.of (post := fun r L1 f1 => SH (spM (IA 0 0 14 9999 w) pi (EQ g0) LDa) nnM G ad L1 f1) (own := RX12) (by decide) rfl (Nat.le_of_ble_eq_true rfl) (fun sz p e s m args below meth c A ls hA1 hname S Y hl => ?_)
  have hx := S.hx
  have hb := S.hb
  have hl : lv_has ls 6 [(0, .ref (ad 0 0)), (1, .int i1), (2, .int i2), (3, .int i3), (4, .int i4), (5, .int i5)] := hl
  refine lv_aload_n hx hb dX12_feed_0 rfl (lv_at hl 0 rfl) ?_
  obtain ⟨v_84641, v_84643, v_84645, v_84647, v_84649, v_84651, v_84653, v_84655, v_84656, v_84658, v_84660, v_84662, v_84664, v_84666, v_84668, v_84670, v_84672, v_84674, p_ad_0_0, b_84642, b_84644, b_84646, b_84648, b_84650, b_84652, b_84654, b_84657, b_84659, b_84661, b_84663, b_84665, b_84667, b_84669, b_84671, b_84673, b_84675⟩ := opnM_0 (j := 0) I (by decide)
  have p_ad_0_0 : pt L f (ad 0 0) (.inr (12, [.ref (ad 1 0), .ref (ad 2 0), .ref (ad 3 0), .ref (ad 4 0), .int v_84641, .int v_84643, .int v_84645, .int v_84647, .int v_84649, .int v_84651, .int v_84653, .long v_84655, .int v_84656, .int v_84658, .int v_84660, .ref (ad 5 0), .ref (ad 6 0), .int v_84662, .int v_84664, .int v_84666, .int v_84668, .int v_84670, .ref (ad 7 0), .ref (ad 8 0), .ref (ad 9 0), .int v_84672, .ref (ad 10 0), .ref (ad 11 0), .ref (ad 12 0), .ref (ad 13 0), .int v_84674, .ref (ad 14 0)])) := p_ad_0_0
  refine pg_get S Y ok_X12 4 (by decide) kf12_81 (v := .int v_84641) p_ad_0_0 rfl dX12_feed_1 ?_
  refine lv_bipush (v := 20) hx hb dX12_feed_4 (by decide) ?_
  refine lv_iadd hx hb dX12_feed_6 ?_
  refine lv_topi (fun x_84676 ex_84676 => ?_)
  refine lv_sipush (v := 300) hx hb dX12_feed_7 (by decide) ?_
  refine lv_icmp_le (tgt := 15) hx hb dX12_feed_10 (by decide) (fun c_84677 => ?_) (fun c_84677 => ?_)
  · have B_84678 : bn 20 300 x_84676 := bn_w (bn_lel c_84677 (bn_eq ex_84676 (bn_add b_84642 (show bn 20 20 (20 : Int32) from bn_k (by decide)) (by decide))) (show bn 300 300 (300 : Int32) from bn_k (by decide))) (by decide)
    have B_84680 : bn 0 280 v_84641 := ⟨(b_84642).1, by have z9 := (la_add ex_84676 (rfl : v_84641.toInt = v_84641.toInt) (show (20 : Int32).toInt = 20 from rfl) b_84642 (show bn 20 20 (20 : Int32) from bn_k (by decide)) (by decide)); have z8 := (B_84678).2; omega⟩
    refine lv_aload_n hx hb dX12_feed_15 rfl (lv_at hl 0 rfl) ?_
    refine lv_iload_n hx hb dX12_feed_16 rfl (lv_at hl 1 rfl) ?_
    refine cVv (As := [.int i1]) (rest := []) S Y (x_X12_four (l := l) I p_ad_0_0 (bn_w B_84680 (by decide))) cw_X12_four km12_84 p_ad_0_0 ok_X12.1 rfl rfl ⟨Nat.le_of_ble_eq_true rfl, Nat.le_of_ble_eq_true rfl⟩ hl.1 rfl (Nat.le_of_ble_eq_true rfl) ⟨Nat.le_of_ble_eq_true rfl, Nat.le_of_ble_eq_true rfl⟩ dX12_feed_17 (fun L_84681 f_84682 H locs hr_84683 Y => ?_)
    obtain ⟨v_84684, I, p_ad_0_0, e4_84685⟩ := hr_84683
    obtain ⟨bfc84685_4, bfc84685_7, bfc84685_8, bfc84685_12, bfc84685_13, bfc84685_17, bfc84685_18, bfc84685_19, bfc84685_20, bfc84685_25⟩ := obM I p_ad_0_0
    have B_84687 : bn 4 284 v_84684 := bn_w (show bn 4 284 v_84684 from ⟨by have z8 := e4_84685; have z9 := (B_84680).1; omega, by have z8 := e4_84685; have z9 := (B_84680).2; omega⟩) (by decide)
    refine lv_aload_n hx hb dX12_feed_20 rfl (lv_at hl 0 rfl) ?_
    refine lv_iload_n hx hb dX12_feed_21 rfl (lv_at hl 2 rfl) ?_
    refine cVv (As := [.int i2]) (rest := []) S Y (x_X12_four (l := l) I p_ad_0_0 (bn_w B_84687 (by decide))) cw_X12_four km12_84 p_ad_0_0 ok_X12.1 rfl rfl ⟨Nat.le_of_ble_eq_true rfl, Nat.le_of_ble_eq_true rfl⟩ hl.1 rfl (Nat.le_of_ble_eq_true rfl) ⟨Nat.le_of_ble_eq_true rfl, Nat.le_of_ble_eq_true rfl⟩ dX12_feed_22 (fun L_84688 f_84689 H locs hr_84690 Y => ?_)
    obtain ⟨v_84691, I, p_ad_0_0, e4_84692⟩ := hr_84690
    obtain ⟨bfc84692_4, bfc84692_7, bfc84692_8, bfc84692_12, bfc84692_13, bfc84692_17, bfc84692_18, bfc84692_19, bfc84692_20, bfc84692_25⟩ := obM I p_ad_0_0
    have B_84694 : bn 8 288 v_84691 := bn_w (show bn 8 288 v_84691 from ⟨by have z8 := e4_84692; have z9 := (B_84687).1; omega, by have z8 := e4_84692; have z9 := (B_84687).2; omega⟩) (by decide)
    refine lv_aload_n hx hb dX12_feed_25 rfl (lv_at hl 0 rfl) ?_
    refine lv_iload_n hx hb dX12_feed_26 rfl (lv_at hl 3 rfl) ?_
    refine cVv (As := [.int i3]) (rest := []) S Y (x_X12_four (l := l) I p_ad_0_0 (bn_w B_84694 (by decide))) cw_X12_four km12_84 p_ad_0_0 ok_X12.1 rfl rfl ⟨Nat.le_of_ble_eq_true rfl, Nat.le_of_ble_eq_true rfl⟩ hl.1 rfl (Nat.le_of_ble_eq_true rfl) ⟨Nat.le_of_ble_eq_true rfl, Nat.le_of_ble_eq_true rfl⟩ dX12_feed_27 (fun L_84695 f_84696 H locs hr_84697 Y => ?_)
    obtain ⟨v_84698, I, p_ad_0_0, e4_84699⟩ := hr_84697
    obtain ⟨bfc84699_4, bfc84699_7, bfc84699_8, bfc84699_12, bfc84699_13, bfc84699_17, bfc84699_18, bfc84699_19, bfc84699_20, bfc84699_25⟩ := obM I p_ad_0_0
    have B_84701 : bn 12 292 v_84698 := bn_w (show bn 12 292 v_84698 from ⟨by have z8 := e4_84699; have z9 := (B_84694).1; omega, by have z8 := e4_84699; have z9 := (B_84694).2; omega⟩) (by decide)
    refine lv_aload_n hx hb dX12_feed_30 rfl (lv_at hl 0 rfl) ?_
    refine lv_iload hx hb dX12_feed_31 (lv_at hl 4 rfl) ?_
    refine cVv (As := [.int i4]) (rest := []) S Y (x_X12_four (l := l) I p_ad_0_0 (bn_w B_84701 (by decide))) cw_X12_four km12_84 p_ad_0_0 ok_X12.1 rfl rfl ⟨Nat.le_of_ble_eq_true rfl, Nat.le_of_ble_eq_true rfl⟩ hl.1 rfl (Nat.le_of_ble_eq_true rfl) ⟨Nat.le_of_ble_eq_true rfl, Nat.le_of_ble_eq_true rfl⟩ dX12_feed_33 (fun L_84702 f_84703 H locs hr_84704 Y => ?_)
    obtain ⟨v_84705, I, p_ad_0_0, e4_84706⟩ := hr_84704
    obtain ⟨bfc84706_4, bfc84706_7, bfc84706_8, bfc84706_12, bfc84706_13, bfc84706_17, bfc84706_18, bfc84706_19, bfc84706_20, bfc84706_25⟩ := obM I p_ad_0_0
    have B_84708 : bn 16 296 v_84705 := bn_w (show bn 16 296 v_84705 from ⟨by have z8 := e4_84706; have z9 := (B_84701).1; omega, by have z8 := e4_84706; have z9 := (B_84701).2; omega⟩) (by decide)
    refine lv_aload_n hx hb dX12_feed_36 rfl (lv_at hl 0 rfl) ?_
    refine lv_iload hx hb dX12_feed_37 (lv_at hl 5 rfl) ?_
    refine cVv (As := [.int i5]) (rest := []) S Y (x_X12_four (l := l) I p_ad_0_0 (bn_w B_84708 (by decide))) cw_X12_four km12_84 p_ad_0_0 ok_X12.1 rfl rfl ⟨Nat.le_of_ble_eq_true rfl, Nat.le_of_ble_eq_true rfl⟩ hl.1 rfl (Nat.le_of_ble_eq_true rfl) ⟨Nat.le_of_ble_eq_true rfl, Nat.le_of_ble_eq_true rfl⟩ dX12_feed_39 (fun L_84709 f_84710 H locs hr_84711 Y => ?_)
    obtain ⟨v_84712, I, p_ad_0_0, e4_84713⟩ := hr_84711
    obtain ⟨bfc84713_4, bfc84713_7, bfc84713_8, bfc84713_12, bfc84713_13, bfc84713_17, bfc84713_18, bfc84713_19, bfc84713_20, bfc84713_25⟩ := obM I p_ad_0_0
    have B_84715 : bn 20 300 v_84712 := bn_w (show bn 20 300 v_84712 from ⟨by have z8 := e4_84713; have z9 := (B_84708).1; omega, by have z8 := e4_84713; have z9 := (B_84708).2; omega⟩) (by decide)
    refine lv_aload_n hx hb dX12_feed_42 rfl (lv_at hl 0 rfl) ?_
    refine pg_get S Y ok_X12 4 (by decide) kf12_81 (v := .int v_84712) p_ad_0_0 rfl dX12_feed_43 ?_
    exact prI (post := fun r L1 f1 => SH (spM (IA 0 0 14 9999 w) pi (EQ g0) LDa) nnM G ad L1 f1) S Y rfl (by decide) (by decide) hA1 I dX12_feed_46
  · have B_84679 : bn 301 320 x_84676 := bn_w (bn_gtl c_84677 (bn_eq ex_84676 (bn_add b_84642 (show bn 20 20 (20 : Int32) from bn_k (by decide)) (by decide))) (show bn 300 300 (300 : Int32) from bn_k (by decide))) (by decide)
    refine lv_iconst (v := (-1)) hx hb dX12_feed_13 (by decide) ?_
    exact prI (post := fun r L1 f1 => SH (spM (IA 0 0 14 9999 w) pi (EQ g0) LDa) nnM G ad L1 f1) S Y rfl (by decide) (by decide) hA1 I dX12_feed_14
set_option maxHeartbeats 4000000 in
set_option maxRecDepth 100000 in
theorem x_X12_end {l : Launch} {G : GG}  {L : List Nat} {f : HF} {ad : Nat → Nat → Nat} {w : Int × Int} {pi : (Nat → Int32) → Prop} {g0 : Nat → Int32} {i1 : Int32} (I : SH (spM (IA 0 0 14 9999 w) pi (EQ g0) LDa) nnM G ad L f) (hB : BBp 0 0 14 9999 w) (hX : TX g0) : PMi l yX12_end cX12_end 2 .int 1 0 0 G [.ref (ad 0 0), .int i1] L f (fun r L1 f1 => SH (spM (IA 0 0 14 9999 w) pi (EQ g0) LDa) nnM G ad L1 f1) := by
  refine PMi.of (post := fun r L1 f1 => SH (spM (IA 0 0 14 9999 w) pi (EQ g0) LDa) nnM G ad L1 f1) (own := RX12) (by decide) rfl (Nat.le_of_ble_eq_true rfl) (fun sz p e s m args below meth c A ls hA1 hname S Y hl => ?_)
  have hx := S.hx
  have hb := S.hb
  have hl : lv_has ls 2 [(0, .ref (ad 0 0)), (1, .int i1)] := hl
  refine lv_iload_n hx hb dX12_end_0 rfl (lv_at hl 1 rfl) ?_
  refine lv_iconst (v := 0) hx hb dX12_end_1 (by decide) ?_
  refine lv_aload_n hx hb dX12_end_2 rfl (lv_at hl 0 rfl) ?_
  obtain ⟨v_84798, v_84800, v_84802, v_84804, v_84806, v_84808, v_84810, v_84812, v_84813, v_84815, v_84817, v_84819, v_84821, v_84823, v_84825, v_84827, v_84829, v_84831, p_ad_0_0, b_84799, b_84801, b_84803, b_84805, b_84807, b_84809, b_84811, b_84814, b_84816, b_84818, b_84820, b_84822, b_84824, b_84826, b_84828, b_84830, b_84832⟩ := opnM_0 (j := 0) I (by decide)
  have p_ad_0_0 : pt L f (ad 0 0) (.inr (12, [.ref (ad 1 0), .ref (ad 2 0), .ref (ad 3 0), .ref (ad 4 0), .int v_84798, .int v_84800, .int v_84802, .int v_84804, .int v_84806, .int v_84808, .int v_84810, .long v_84812, .int v_84813, .int v_84815, .int v_84817, .ref (ad 5 0), .ref (ad 6 0), .int v_84819, .int v_84821, .int v_84823, .int v_84825, .int v_84827, .ref (ad 7 0), .ref (ad 8 0), .ref (ad 9 0), .int v_84829, .ref (ad 10 0), .ref (ad 11 0), .ref (ad 12 0), .ref (ad 13 0), .int v_84831, .ref (ad 14 0)])) := p_ad_0_0
  refine pg_get S Y ok_X12 4 (by decide) kf12_81 (v := .int v_84798) p_ad_0_0 rfl dX12_end_3 ?_
  refine cSp (As := [.int i1, .int 0, .int v_84798]) (rest := []) S Y (x_X12_isIn (l := l) ) cw_X12_isIn km12_69 rfl ⟨Nat.le_of_ble_eq_true rfl, Nat.le_of_ble_eq_true rfl⟩ hl.1 rfl (Nat.le_of_ble_eq_true rfl) ⟨Nat.le_of_ble_eq_true rfl, Nat.le_of_ble_eq_true rfl⟩ dX12_end_6 (fun r_84833 H locs er_84833 Y => ?_)
  refine lv_if_ne (tgt := 14) hx hb dX12_end_9 (by decide) (fun c_84834 => ?_) (fun c_84834 => ?_)
  · have B_84835 : bn 0 300 i1 := bn_w (bn_i (bn_any i1) (bn_btw (er_84833.2 c_84834).1 (er_84833.2 c_84834).2 (show bn 0 0 (0 : Int32) from bn_k (by decide)) b_84799)) (by decide)
    have B_84836 : bn 1 1 r_84833 := bn_w (bn_nel c_84834 er_84833.1 (show bn 0 0 (0 : Int32) from bn_k (by decide))) (by decide)
    refine lv_aload_n hx hb dX12_end_14 rfl (lv_at hl 0 rfl) ?_
    refine lv_iload_n hx hb dX12_end_15 rfl (lv_at hl 1 rfl) ?_
    refine pg_put S Y ok_X12 4 (by decide) kf12_81 rfl (fs' := [.ref (ad 1 0), .ref (ad 2 0), .ref (ad 3 0), .ref (ad 4 0), .int i1, .int v_84800, .int v_84802, .int v_84804, .int v_84806, .int v_84808, .int v_84810, .long v_84812, .int v_84813, .int v_84815, .int v_84817, .ref (ad 5 0), .ref (ad 6 0), .int v_84819, .int v_84821, .int v_84823, .int v_84825, .int v_84827, .ref (ad 7 0), .ref (ad 8 0), .ref (ad 9 0), .int v_84829, .ref (ad 10 0), .ref (ad 11 0), .ref (ad 12 0), .ref (ad 13 0), .int v_84831, .ref (ad 14 0)]) (v := .int i1) p_ad_0_0 rfl rfl rfl (Nat.le_of_ble_eq_true rfl) dX12_end_16 (fun f_84838 H locs ef_84838 Y => ?_)
    have p_ad_0_0 := p_ad_0_0.me ef_84838
    have I := I.up (k := 0) (j := 0) (by decide) ef_84838 (okE_o (okFs_c okV_r (okFs_c okV_r (okFs_c okV_r (okFs_c okV_r (okFs_c (okV_i (bn_w B_84835 (by decide))) (okFs_c (okV_i b_84801) (okFs_c (okV_i b_84803) (okFs_c (okV_i b_84805) (okFs_c (okV_i b_84807) (okFs_c (okV_i b_84809) (okFs_c (okV_i b_84811) (okFs_c okV_l (okFs_c (okV_i b_84814) (okFs_c (okV_i b_84816) (okFs_c (okV_i b_84818) (okFs_c okV_r (okFs_c okV_r (okFs_c (okV_i b_84820) (okFs_c (okV_i b_84822) (okFs_c (okV_i b_84824) (okFs_c (okV_i b_84826) (okFs_c (okV_i b_84828) (okFs_c okV_r (okFs_c okV_r (okFs_c okV_r (okFs_c (okV_i b_84830) (okFs_c okV_r (okFs_c okV_r (okFs_c okV_r (okFs_c okV_r (okFs_c (okV_i b_84832) (okFs_c okV_r okFs_n)))))))))))))))))))))))))))))))))
    refine lv_iload_n hx hb dX12_end_19 rfl (lv_at hl 1 rfl) ?_
    exact prI (post := fun r L1 f1 => SH (spM (IA 0 0 14 9999 w) pi (EQ g0) LDa) nnM G ad L1 f1) S Y rfl (by decide) (by decide) hA1 I dX12_end_20
  · have B_84837 : bn 0 0 r_84833 := bn_w (bn_eq c_84834 (show bn 0 0 (0 : Int32) from bn_k (by decide))) (by decide)
    refine lv_iconst (v := (-1)) hx hb dX12_end_12 (by decide) ?_
    exact prI (post := fun r L1 f1 => SH (spM (IA 0 0 14 9999 w) pi (EQ g0) LDa) nnM G ad L1 f1) S Y rfl (by decide) (by decide) hA1 I dX12_end_13
