theorem dX12_emit_0 : decode cX12_emit 0 = .ok (.aload_n 0, 1) := by decide +kernel
theorem dX12_emit_1 : decode cX12_emit 1 = .ok (.getfield 16, 3) := by decide +kernel
theorem dX12_emit_4 : decode cX12_emit 4 = .ok (.aload_n 0, 1) := by decide +kernel
theorem dX12_emit_5 : decode cX12_emit 5 = .ok (.getfield 136, 3) := by decide +kernel
theorem kf12_136 : inW (Cond.fieldLink RX12 136 "KneeOathsModel" "text0" "I") := ⟨List.mem_of_getElem? (i := 1510) (by decide +kernel), by decide +kernel⟩
theorem dX12_emit_8 : decode cX12_emit 8 = .ok (.bipush 121, 2) := by decide +kernel
theorem dX12_emit_10 : decode cX12_emit 10 = .ok (.iadd, 1) := by decide +kernel
theorem dX12_emit_11 : decode cX12_emit 11 = .ok (.iconst 2, 1) := by decide +kernel
theorem dX12_emit_12 : decode cX12_emit 12 = .ok (.aload_n 0, 1) := by decide +kernel
theorem dX12_emit_13 : decode cX12_emit 13 = .ok (.getfield 139, 3) := by decide +kernel
theorem kf12_139 : inW (Cond.fieldLink RX12 139 "KneeOathsModel" "written" "I") := ⟨List.mem_of_getElem? (i := 1511) (by decide +kernel), by decide +kernel⟩
theorem dX12_emit_16 : decode cX12_emit 16 = .ok (.imul, 1) := by decide +kernel
theorem dX12_emit_17 : decode cX12_emit 17 = .ok (.iadd, 1) := by decide +kernel
theorem dX12_emit_18 : decode cX12_emit 18 = .ok (.iload_n 1, 1) := by decide +kernel
theorem dX12_emit_19 : decode cX12_emit 19 = .ok (.iastore, 1) := by decide +kernel
theorem dX12_emit_20 : decode cX12_emit 20 = .ok (.aload_n 0, 1) := by decide +kernel
theorem dX12_emit_21 : decode cX12_emit 21 = .ok (.getfield 16, 3) := by decide +kernel
theorem dX12_emit_24 : decode cX12_emit 24 = .ok (.aload_n 0, 1) := by decide +kernel
theorem dX12_emit_25 : decode cX12_emit 25 = .ok (.getfield 136, 3) := by decide +kernel
theorem dX12_emit_28 : decode cX12_emit 28 = .ok (.bipush 121, 2) := by decide +kernel
theorem dX12_emit_30 : decode cX12_emit 30 = .ok (.iadd, 1) := by decide +kernel
theorem dX12_emit_31 : decode cX12_emit 31 = .ok (.iconst 2, 1) := by decide +kernel
theorem dX12_emit_32 : decode cX12_emit 32 = .ok (.aload_n 0, 1) := by decide +kernel
theorem dX12_emit_33 : decode cX12_emit 33 = .ok (.getfield 139, 3) := by decide +kernel
theorem dX12_emit_36 : decode cX12_emit 36 = .ok (.imul, 1) := by decide +kernel
theorem dX12_emit_37 : decode cX12_emit 37 = .ok (.iadd, 1) := by decide +kernel
theorem dX12_emit_38 : decode cX12_emit 38 = .ok (.iconst 1, 1) := by decide +kernel
theorem dX12_emit_39 : decode cX12_emit 39 = .ok (.iadd, 1) := by decide +kernel
theorem dX12_emit_40 : decode cX12_emit 40 = .ok (.iload_n 2, 1) := by decide +kernel
theorem dX12_emit_41 : decode cX12_emit 41 = .ok (.iastore, 1) := by decide +kernel
theorem dX12_emit_42 : decode cX12_emit 42 = .ok (.aload_n 0, 1) := by decide +kernel
theorem dX12_emit_43 : decode cX12_emit 43 = .ok (.dup, 1) := by decide +kernel
theorem dX12_emit_44 : decode cX12_emit 44 = .ok (.getfield 139, 3) := by decide +kernel
theorem dX12_emit_47 : decode cX12_emit 47 = .ok (.iconst 1, 1) := by decide +kernel
theorem dX12_emit_48 : decode cX12_emit 48 = .ok (.iadd, 1) := by decide +kernel
theorem dX12_emit_49 : decode cX12_emit 49 = .ok (.putfield 139, 3) := by decide +kernel
theorem dX12_emit_52 : decode cX12_emit 52 = .ok (.return_, 1) := by decide +kernel
theorem dX12_settle_0 : decode cX12_settle 0 = .ok (.aload_n 0, 1) := by decide +kernel
theorem dX12_settle_1 : decode cX12_settle 1 = .ok (.getfield 142, 3) := by decide +kernel
theorem dX12_settle_4 : decode cX12_settle 4 = .ok (.ifCond .le 103, 3) := by decide +kernel
theorem dX12_settle_107 : decode cX12_settle 107 = .ok (.return_, 1) := by decide +kernel
theorem dX12_settle_7 : decode cX12_settle 7 = .ok (.aload_n 0, 1) := by decide +kernel
theorem dX12_settle_8 : decode cX12_settle 8 = .ok (.getfield 29, 3) := by decide +kernel
theorem dX12_settle_11 : decode cX12_settle 11 = .ok (.aload_n 0, 1) := by decide +kernel
theorem dX12_settle_12 : decode cX12_settle 12 = .ok (.getfield 142, 3) := by decide +kernel
theorem dX12_settle_15 : decode cX12_settle 15 = .ok (.iconst 1, 1) := by decide +kernel
theorem dX12_settle_16 : decode cX12_settle 16 = .ok (.isub, 1) := by decide +kernel
theorem dX12_settle_17 : decode cX12_settle 17 = .ok (.iaload, 1) := by decide +kernel
theorem dX12_settle_18 : decode cX12_settle 18 = .ok (.invokestatic 145, 3) := by decide +kernel
theorem dX12_settle_21 : decode cX12_settle 21 = .ok (.iload_n 1, 1) := by decide +kernel
theorem dX12_settle_22 : decode cX12_settle 22 = .ok (.if_icmp .lt 85, 3) := by decide +kernel
theorem dX12_settle_25 : decode cX12_settle 25 = .ok (.aload_n 0, 1) := by decide +kernel
theorem dX12_settle_26 : decode cX12_settle 26 = .ok (.dup, 1) := by decide +kernel
theorem dX12_settle_27 : decode cX12_settle 27 = .ok (.getfield 142, 3) := by decide +kernel
theorem dX12_settle_30 : decode cX12_settle 30 = .ok (.iconst 1, 1) := by decide +kernel
theorem dX12_settle_31 : decode cX12_settle 31 = .ok (.isub, 1) := by decide +kernel
theorem dX12_settle_32 : decode cX12_settle 32 = .ok (.putfield 142, 3) := by decide +kernel
theorem dX12_settle_35 : decode cX12_settle 35 = .ok (.aload_n 0, 1) := by decide +kernel
theorem dX12_settle_36 : decode cX12_settle 36 = .ok (.getfield 29, 3) := by decide +kernel
theorem dX12_settle_39 : decode cX12_settle 39 = .ok (.aload_n 0, 1) := by decide +kernel
theorem dX12_settle_40 : decode cX12_settle 40 = .ok (.getfield 142, 3) := by decide +kernel
theorem dX12_settle_43 : decode cX12_settle 43 = .ok (.iaload, 1) := by decide +kernel
theorem dX12_settle_44 : decode cX12_settle 44 = .ok (.bipush 16, 2) := by decide +kernel
theorem dX12_settle_46 : decode cX12_settle 46 = .ok (.if_icmp .eq 17, 3) := by decide +kernel
theorem dX12_settle_63 : decode cX12_settle 63 = .ok (.aload_n 0, 1) := by decide +kernel
theorem dX12_settle_64 : decode cX12_settle 64 = .ok (.getfield 29, 3) := by decide +kernel
theorem dX12_settle_67 : decode cX12_settle 67 = .ok (.aload_n 0, 1) := by decide +kernel
theorem dX12_settle_68 : decode cX12_settle 68 = .ok (.getfield 142, 3) := by decide +kernel
theorem dX12_settle_71 : decode cX12_settle 71 = .ok (.iaload, 1) := by decide +kernel
theorem dX12_settle_72 : decode cX12_settle 72 = .ok (.invokestatic 145, 3) := by decide +kernel
theorem dX12_settle_75 : decode cX12_settle 75 = .ok (.bipush 7, 2) := by decide +kernel
theorem dX12_settle_77 : decode cX12_settle 77 = .ok (.if_icmp .eq 17, 3) := by decide +kernel
theorem dX12_settle_94 : decode cX12_settle 94 = .ok (.aload_n 0, 1) := by decide +kernel
theorem dX12_settle_95 : decode cX12_settle 95 = .ok (.dup, 1) := by decide +kernel
theorem dX12_settle_96 : decode cX12_settle 96 = .ok (.getfield 152, 3) := by decide +kernel
theorem kf12_152 : inW (Cond.fieldLink RX12 152 "KneeOathsModel" "opens" "I") := ⟨List.mem_of_getElem? (i := 1516) (by decide +kernel), by decide +kernel⟩
theorem dX12_settle_99 : decode cX12_settle 99 = .ok (.iconst 1, 1) := by decide +kernel
theorem dX12_settle_100 : decode cX12_settle 100 = .ok (.isub, 1) := by decide +kernel
theorem dX12_settle_101 : decode cX12_settle 101 = .ok (.putfield 152, 3) := by decide +kernel
theorem dX12_settle_104 : decode cX12_settle 104 = .ok (.goto (-104), 3) := by decide +kernel
theorem dX12_settle_80 : decode cX12_settle 80 = .ok (.aload_n 0, 1) := by decide +kernel
theorem dX12_settle_81 : decode cX12_settle 81 = .ok (.getfield 29, 3) := by decide +kernel
theorem dX12_settle_84 : decode cX12_settle 84 = .ok (.aload_n 0, 1) := by decide +kernel
theorem dX12_settle_85 : decode cX12_settle 85 = .ok (.getfield 142, 3) := by decide +kernel
theorem dX12_settle_88 : decode cX12_settle 88 = .ok (.iaload, 1) := by decide +kernel
theorem dX12_settle_89 : decode cX12_settle 89 = .ok (.bipush 20, 2) := by decide +kernel
theorem dX12_settle_91 : decode cX12_settle 91 = .ok (.if_icmp .ne (-91), 3) := by decide +kernel
theorem dX12_settle_49 : decode cX12_settle 49 = .ok (.aload_n 0, 1) := by decide +kernel
theorem dX12_settle_50 : decode cX12_settle 50 = .ok (.aload_n 0, 1) := by decide +kernel
theorem dX12_settle_51 : decode cX12_settle 51 = .ok (.getfield 29, 3) := by decide +kernel
theorem dX12_settle_54 : decode cX12_settle 54 = .ok (.aload_n 0, 1) := by decide +kernel
theorem dX12_settle_55 : decode cX12_settle 55 = .ok (.getfield 142, 3) := by decide +kernel
theorem dX12_settle_58 : decode cX12_settle 58 = .ok (.iaload, 1) := by decide +kernel
theorem dX12_settle_59 : decode cX12_settle 59 = .ok (.iconst 0, 1) := by decide +kernel
theorem dX12_settle_60 : decode cX12_settle 60 = .ok (.invokevirtual 148, 3) := by decide +kernel
theorem cw_X12_emit : CWv yX12_emit cX12_emit 3 none 2 := ⟨⟨⟨List.mem_of_getElem? (i := 137) (by decide +kernel), by decide +kernel⟩, ⟨List.mem_of_getElem? (i := 1740) (by decide +kernel), by decide +kernel⟩, by decide +kernel⟩, ⟨List.mem_of_getElem? (i := 1739) (by decide +kernel), by decide +kernel⟩, ⟨List.mem_of_getElem? (i := 71) (by decide +kernel), by decide +kernel⟩⟩
theorem km12_148 : inW (Cond.methodLink RX12 148 yX12_emit) := ⟨List.mem_of_getElem? (i := 1737) (by decide +kernel), by decide +kernel⟩
set_option maxHeartbeats 4000000 in
set_option maxRecDepth 100000 in
theorem x_X12_emit {l : Launch} {G : GG}  {L : List Nat} {f : HF} {ad : Nat → Nat → Nat} {pa : (Nat → Int32) → Prop} {PA : (Nat → Int32) → Prop} {PI : PIT} {PX : (Nat → Int32) → Prop} {i1 i2 : Int32} {td fa fp at9 ps9 tk nu t0 wr so pd op9 cg iw on9 is9 se : Int32} {wd : Int64} {gt gp gc : Nat → Int32} (I : SH (spM PA PI PX pa) nnM G ad L f) (p_ad_0_0 : pt L f (ad 0 0) (.inr (12, [.ref (ad 1 0), .ref (ad 2 0), .ref (ad 3 0), .ref (ad 4 0), .int td, .int fa, .int fp, .int at9, .int ps9, .int tk, .int nu, .long wd, .int t0, .int wr, .int so, .ref (ad 5 0), .ref (ad 6 0), .int pd, .int op9, .int cg, .int iw, .int on9, .ref (ad 7 0), .ref (ad 8 0), .ref (ad 9 0), .int is9, .ref (ad 10 0), .ref (ad 11 0), .ref (ad 12 0), .ref (ad 13 0), .int se, .ref (ad 14 0)]))) (p_ad_4_0 : pt L f (ad 4 0) (.inl (G.2 0, 300, .inl gt))) (p_ad_5_0 : pt L f (ad 5 0) (.inl (G.2 0, 160, .inl gp))) (p_ad_6_0 : pt L f (ad 6 0) (.inl (G.2 0, 9, .inl gc))) (hw : bn 0 299 wr) : PMv l yX12_emit cX12_emit 3 0 0 0 G [.ref (ad 0 0), .int i1, .int i2] L f (fun L1 f1 => ∃ wr2 : Int32, SH (spM PA PI (EM (EM PX (t0.toInt.toNat + 121 + 2 * wr.toInt.toNat) i1) ((t0.toInt.toNat + 121 + 2 * wr.toInt.toNat) + 1) i2) pa) nnM G ad L1 f1 ∧ pt L1 f1 (ad 0 0) (.inr (12, [.ref (ad 1 0), .ref (ad 2 0), .ref (ad 3 0), .ref (ad 4 0), .int td, .int fa, .int fp, .int at9, .int ps9, .int tk, .int nu, .long wd, .int t0, .int wr2, .int so, .ref (ad 5 0), .ref (ad 6 0), .int pd, .int op9, .int cg, .int iw, .int on9, .ref (ad 7 0), .ref (ad 8 0), .ref (ad 9 0), .int is9, .ref (ad 10 0), .ref (ad 11 0), .ref (ad 12 0), .ref (ad 13 0), .int se, .ref (ad 14 0)])) ∧ pt L1 f1 (ad 4 0) (.inl (G.2 0, 300, .inl gt)) ∧ pt L1 f1 (ad 5 0) (.inl (G.2 0, 160, .inl gp)) ∧ pt L1 f1 (ad 6 0) (.inl (G.2 0, 9, .inl gc)) ∧ wr2.toInt = wr.toInt + 1) := by
  refine PMv.of (post := fun L1 f1 => ∃ wr2 : Int32, SH (spM PA PI (EM (EM PX (t0.toInt.toNat + 121 + 2 * wr.toInt.toNat) i1) ((t0.toInt.toNat + 121 + 2 * wr.toInt.toNat) + 1) i2) pa) nnM G ad L1 f1 ∧ pt L1 f1 (ad 0 0) (.inr (12, [.ref (ad 1 0), .ref (ad 2 0), .ref (ad 3 0), .ref (ad 4 0), .int td, .int fa, .int fp, .int at9, .int ps9, .int tk, .int nu, .long wd, .int t0, .int wr2, .int so, .ref (ad 5 0), .ref (ad 6 0), .int pd, .int op9, .int cg, .int iw, .int on9, .ref (ad 7 0), .ref (ad 8 0), .ref (ad 9 0), .int is9, .ref (ad 10 0), .ref (ad 11 0), .ref (ad 12 0), .ref (ad 13 0), .int se, .ref (ad 14 0)])) ∧ pt L1 f1 (ad 4 0) (.inl (G.2 0, 300, .inl gt)) ∧ pt L1 f1 (ad 5 0) (.inl (G.2 0, 160, .inl gp)) ∧ pt L1 f1 (ad 6 0) (.inl (G.2 0, 9, .inl gc)) ∧ wr2.toInt = wr.toInt + 1) (own := RX12) (by decide) rfl (Nat.le_of_ble_eq_true rfl) (fun sz p e s m args below meth c A ls hA1 hname S Y hl => ?_)
  have hx := S.hx
  have hb := S.hb
  have hl : lv_has ls 3 [(0, .ref (ad 0 0)), (1, .int i1), (2, .int i2)] := hl
  obtain ⟨bfe_4, bfe_5, bfe_6, bfe_7, bfe_8, bfe_12, bfe_13, bfe_17, bfe_18, bfe_19, bfe_20, bfe_25⟩ := obM I p_ad_0_0
  refine lv_aload_n hx hb dX12_emit_0 rfl (lv_at hl 0 rfl) ?_
  refine pg_get S Y ok_X12 2 (by decide) kf12_16 (v := .ref (ad 3 0)) p_ad_0_0 rfl dX12_emit_1 ?_
  refine lv_aload_n hx hb dX12_emit_4 rfl (lv_at hl 0 rfl) ?_
  refine pg_get S Y ok_X12 12 (by decide) kf12_136 (v := .int t0) p_ad_0_0 rfl dX12_emit_5 ?_
  refine lv_bipush (v := 121) hx hb dX12_emit_8 (by decide) ?_
  refine lv_iadd hx hb dX12_emit_10 ?_
  refine lv_topi (fun x_85664 ex_85664 => ?_)
  refine lv_iconst (v := 2) hx hb dX12_emit_11 (by decide) ?_
  refine lv_aload_n hx hb dX12_emit_12 rfl (lv_at hl 0 rfl) ?_
  refine pg_get S Y ok_X12 13 (by decide) kf12_139 (v := .int wr) p_ad_0_0 rfl dX12_emit_13 ?_
  refine lv_imul hx hb dX12_emit_16 ?_
  refine lv_topi (fun x_85665 ex_85665 => ?_)
  refine lv_iadd hx hb dX12_emit_17 ?_
  refine lv_topi (fun x_85666 ex_85666 => ?_)
  refine lv_iload_n hx hb dX12_emit_18 rfl (lv_at hl 1 rfl) ?_
  obtain ⟨g_85667, p_ad_3_0, o_85668⟩ := I.opi (k := 3) (j := 0) (by decide) rfl
  have p_ad_3_0 : pt L f (ad 3 0) (.inl (G.2 0, 2916, .inl g_85667)) := p_ad_3_0
  refine pg_iast S Y p_ad_3_0 (vp_bn (bn_eq ex_85666 (bn_add (bn_eq ex_85664 (bn_add bfe_12 (show bn 121 121 (121 : Int32) from bn_k (by decide)) (by decide))) (bn_eq ex_85665 (bn_mul (show bn 2 2 (2 : Int32) from bn_k (by decide)) hw (by decide))) (by decide))) (by decide)) dX12_emit_19 (fun f_85670 H locs ef_85670 Y => ?_)
  obtain ⟨g_85669, eg_85669⟩ : ∃ z, z = upd (g_85667) (x_85666 : Int32).toNatClampNeg i1 := ⟨_, rfl⟩
  rw [← eg_85669] at ef_85670
  have p_ad_0_0 := p_ad_0_0.up ef_85670 (I.ne (k := 0) (j := 0) (k' := 3) (j' := 0) (by decide) (by decide) (Or.inl (by decide)))
  have p_ad_4_0 := p_ad_4_0.up ef_85670 (I.ne (k := 4) (j := 0) (k' := 3) (j' := 0) (by decide) (by decide) (Or.inl (by decide)))
  have p_ad_5_0 := p_ad_5_0.up ef_85670 (I.ne (k := 5) (j := 0) (k' := 3) (j' := 0) (by decide) (by decide) (Or.inl (by decide)))
  have p_ad_6_0 := p_ad_6_0.up ef_85670 (I.ne (k := 6) (j := 0) (k' := 3) (j' := 0) (by decide) (by decide) (Or.inl (by decide)))
  have p_ad_3_0 := p_ad_3_0.me ef_85670
  have o_85675 : (EM PX (t0.toInt.toNat + 121 + 2 * wr.toInt.toNat) i1) g_85669 := (by rw [eg_85669, show (x_85666 : Int32).toNatClampNeg = (t0.toInt.toNat + 121 + 2 * wr.toInt.toNat) from (by have z9 := (la_add ex_85666 (la_add ex_85664 (rfl : t0.toInt = t0.toInt) (show (121 : Int32).toInt = 121 from rfl) bfe_12 (show bn 121 121 (121 : Int32) from bn_k (by decide)) (by decide)) (la_mul ex_85665 (show (2 : Int32).toInt = 2 from rfl) (rfl : wr.toInt = wr.toInt) (show bn 2 2 (2 : Int32) from bn_k (by decide)) hw (by decide)) (bn_eq ex_85664 (bn_add bfe_12 (show bn 121 121 (121 : Int32) from bn_k (by decide)) (by decide))) (bn_eq ex_85665 (bn_mul (show bn 2 2 (2 : Int32) from bn_k (by decide)) hw (by decide))) (by decide)); have z_85671 := (bfe_12).1; have z_85672 := (bfe_12).2; have z_85673 := (hw).1; have z_85674 := (hw).2; simp only [tnc]; omega)]; exact ⟨_, o_85668, rfl⟩)
  have I := I.upS (sp' := spM PA PI (EM PX (t0.toInt.toNat + 121 + 2 * wr.toInt.toNat) i1) pa) (k := 3) (j := 0) (by decide) ef_85670 (okE_a (g := g_85669) o_85675) pXC
  refine lv_aload_n hx hb dX12_emit_20 rfl (lv_at hl 0 rfl) ?_
  refine pg_get S Y ok_X12 2 (by decide) kf12_16 (v := .ref (ad 3 0)) p_ad_0_0 rfl dX12_emit_21 ?_
  refine lv_aload_n hx hb dX12_emit_24 rfl (lv_at hl 0 rfl) ?_
  refine pg_get S Y ok_X12 12 (by decide) kf12_136 (v := .int t0) p_ad_0_0 rfl dX12_emit_25 ?_
  refine lv_bipush (v := 121) hx hb dX12_emit_28 (by decide) ?_
  refine lv_iadd hx hb dX12_emit_30 ?_
  refine lv_topi (fun x_85676 ex_85676 => ?_)
  refine lv_iconst (v := 2) hx hb dX12_emit_31 (by decide) ?_
  refine lv_aload_n hx hb dX12_emit_32 rfl (lv_at hl 0 rfl) ?_
  refine pg_get S Y ok_X12 13 (by decide) kf12_139 (v := .int wr) p_ad_0_0 rfl dX12_emit_33 ?_
  refine lv_imul hx hb dX12_emit_36 ?_
  refine lv_topi (fun x_85677 ex_85677 => ?_)
  refine lv_iadd hx hb dX12_emit_37 ?_
  refine lv_topi (fun x_85678 ex_85678 => ?_)
  refine lv_iconst (v := 1) hx hb dX12_emit_38 (by decide) ?_
  refine lv_iadd hx hb dX12_emit_39 ?_
  refine lv_topi (fun x_85679 ex_85679 => ?_)
  have B_85680 : bn 122 2907 x_85679 := bn_w (bn_eq ex_85679 (bn_add (bn_eq ex_85678 (bn_add (bn_eq ex_85676 (bn_add bfe_12 (show bn 121 121 (121 : Int32) from bn_k (by decide)) (by decide))) (bn_eq ex_85677 (bn_mul (show bn 2 2 (2 : Int32) from bn_k (by decide)) hw (by decide))) (by decide))) (show bn 1 1 (1 : Int32) from bn_k (by decide)) (by decide))) (by decide)
  refine lv_iload_n hx hb dX12_emit_40 rfl (lv_at hl 2 rfl) ?_
  refine pg_iast S Y p_ad_3_0 (vp_bn B_85680 (by decide)) dX12_emit_41 (fun f_85682 H locs ef_85682 Y => ?_)
  obtain ⟨g_85681, eg_85681⟩ : ∃ z, z = upd (g_85669) (x_85679 : Int32).toNatClampNeg i2 := ⟨_, rfl⟩
  rw [← eg_85681] at ef_85682
  have p_ad_0_0 := p_ad_0_0.up ef_85682 (I.ne (k := 0) (j := 0) (k' := 3) (j' := 0) (by decide) (by decide) (Or.inl (by decide)))
  have p_ad_4_0 := p_ad_4_0.up ef_85682 (I.ne (k := 4) (j := 0) (k' := 3) (j' := 0) (by decide) (by decide) (Or.inl (by decide)))
  have p_ad_5_0 := p_ad_5_0.up ef_85682 (I.ne (k := 5) (j := 0) (k' := 3) (j' := 0) (by decide) (by decide) (Or.inl (by decide)))
  have p_ad_6_0 := p_ad_6_0.up ef_85682 (I.ne (k := 6) (j := 0) (k' := 3) (j' := 0) (by decide) (by decide) (Or.inl (by decide)))
  have p_ad_3_0 := p_ad_3_0.me ef_85682
  have o_85687 : (EM (EM PX (t0.toInt.toNat + 121 + 2 * wr.toInt.toNat) i1) ((t0.toInt.toNat + 121 + 2 * wr.toInt.toNat) + 1) i2) g_85681 := (by rw [eg_85681, show (x_85679 : Int32).toNatClampNeg = ((t0.toInt.toNat + 121 + 2 * wr.toInt.toNat) + 1) from (by have z9 := (la_add ex_85679 (la_add ex_85678 (la_add ex_85676 (rfl : t0.toInt = t0.toInt) (show (121 : Int32).toInt = 121 from rfl) bfe_12 (show bn 121 121 (121 : Int32) from bn_k (by decide)) (by decide)) (la_mul ex_85677 (show (2 : Int32).toInt = 2 from rfl) (rfl : wr.toInt = wr.toInt) (show bn 2 2 (2 : Int32) from bn_k (by decide)) hw (by decide)) (bn_eq ex_85676 (bn_add bfe_12 (show bn 121 121 (121 : Int32) from bn_k (by decide)) (by decide))) (bn_eq ex_85677 (bn_mul (show bn 2 2 (2 : Int32) from bn_k (by decide)) hw (by decide))) (by decide)) (show (1 : Int32).toInt = 1 from rfl) (bn_eq ex_85678 (bn_add (bn_eq ex_85676 (bn_add bfe_12 (show bn 121 121 (121 : Int32) from bn_k (by decide)) (by decide))) (bn_eq ex_85677 (bn_mul (show bn 2 2 (2 : Int32) from bn_k (by decide)) hw (by decide))) (by decide))) (show bn 1 1 (1 : Int32) from bn_k (by decide)) (by decide)); have z_85683 := (bfe_12).1; have z_85684 := (bfe_12).2; have z_85685 := (hw).1; have z_85686 := (hw).2; simp only [tnc]; omega)]; exact ⟨_, o_85675, rfl⟩)
  have I := I.upS (sp' := spM PA PI (EM (EM PX (t0.toInt.toNat + 121 + 2 * wr.toInt.toNat) i1) ((t0.toInt.toNat + 121 + 2 * wr.toInt.toNat) + 1) i2) pa) (k := 3) (j := 0) (by decide) ef_85682 (okE_a (g := g_85681) o_85687) pXC
  refine lv_aload_n hx hb dX12_emit_42 rfl (lv_at hl 0 rfl) ?_
  refine lv_dup hx hb dX12_emit_43 rfl ?_
  refine pg_get S Y ok_X12 13 (by decide) kf12_139 (v := .int wr) p_ad_0_0 rfl dX12_emit_44 ?_
  refine lv_iconst (v := 1) hx hb dX12_emit_47 (by decide) ?_
  refine lv_iadd hx hb dX12_emit_48 ?_
  refine lv_topi (fun x_85688 ex_85688 => ?_)
  refine pg_put S Y ok_X12 13 (by decide) kf12_139 rfl (fs' := [.ref (ad 1 0), .ref (ad 2 0), .ref (ad 3 0), .ref (ad 4 0), .int td, .int fa, .int fp, .int at9, .int ps9, .int tk, .int nu, .long wd, .int t0, .int x_85688, .int so, .ref (ad 5 0), .ref (ad 6 0), .int pd, .int op9, .int cg, .int iw, .int on9, .ref (ad 7 0), .ref (ad 8 0), .ref (ad 9 0), .int is9, .ref (ad 10 0), .ref (ad 11 0), .ref (ad 12 0), .ref (ad 13 0), .int se, .ref (ad 14 0)]) (v := .int x_85688) p_ad_0_0 rfl rfl rfl (Nat.le_of_ble_eq_true rfl) dX12_emit_49 (fun f_85689 H locs ef_85689 Y => ?_)
  have p_ad_4_0 := p_ad_4_0.up ef_85689 (I.ne (k := 4) (j := 0) (k' := 0) (j' := 0) (by decide) (by decide) (Or.inl (by decide)))
  have p_ad_5_0 := p_ad_5_0.up ef_85689 (I.ne (k := 5) (j := 0) (k' := 0) (j' := 0) (by decide) (by decide) (Or.inl (by decide)))
  have p_ad_6_0 := p_ad_6_0.up ef_85689 (I.ne (k := 6) (j := 0) (k' := 0) (j' := 0) (by decide) (by decide) (Or.inl (by decide)))
  have p_ad_3_0 := p_ad_3_0.up ef_85689 (I.ne (k := 3) (j := 0) (k' := 0) (j' := 0) (by decide) (by decide) (Or.inl (by decide)))
  have p_ad_0_0 := p_ad_0_0.me ef_85689
  have I := I.up (k := 0) (j := 0) (by decide) ef_85689 (okE_o (okFs_c okV_r (okFs_c okV_r (okFs_c okV_r (okFs_c okV_r (okFs_c (okV_p bfe_4) (okFs_c (okV_p bfe_5) (okFs_c (okV_p bfe_6) (okFs_c (okV_i bfe_7) (okFs_c (okV_i bfe_8) (okFs_c (okV_i (bn_any _)) (okFs_c (okV_i (bn_any _)) (okFs_c okV_l (okFs_c (okV_i bfe_12) (okFs_c (okV_i (bn_w (bn_eq ex_85688 (bn_add hw (show bn 1 1 (1 : Int32) from bn_k (by decide)) (by decide))) (by decide))) (okFs_c (okV_i (bn_any _)) (okFs_c okV_r (okFs_c okV_r (okFs_c (okV_i bfe_17) (okFs_c (okV_i bfe_18) (okFs_c (okV_i bfe_19) (okFs_c (okV_i bfe_20) (okFs_c (okV_i (bn_any _)) (okFs_c okV_r (okFs_c okV_r (okFs_c okV_r (okFs_c (okV_i bfe_25) (okFs_c okV_r (okFs_c okV_r (okFs_c okV_r (okFs_c okV_r (okFs_c (okV_i (bn_any _)) (okFs_c okV_r okFs_n)))))))))))))))))))))))))))))))))
  exact prV (post := fun L1 f1 => ∃ wr2 : Int32, SH (spM PA PI (EM (EM PX (t0.toInt.toNat + 121 + 2 * wr.toInt.toNat) i1) ((t0.toInt.toNat + 121 + 2 * wr.toInt.toNat) + 1) i2) pa) nnM G ad L1 f1 ∧ pt L1 f1 (ad 0 0) (.inr (12, [.ref (ad 1 0), .ref (ad 2 0), .ref (ad 3 0), .ref (ad 4 0), .int td, .int fa, .int fp, .int at9, .int ps9, .int tk, .int nu, .long wd, .int t0, .int wr2, .int so, .ref (ad 5 0), .ref (ad 6 0), .int pd, .int op9, .int cg, .int iw, .int on9, .ref (ad 7 0), .ref (ad 8 0), .ref (ad 9 0), .int is9, .ref (ad 10 0), .ref (ad 11 0), .ref (ad 12 0), .ref (ad 13 0), .int se, .ref (ad 14 0)])) ∧ pt L1 f1 (ad 4 0) (.inl (G.2 0, 300, .inl gt)) ∧ pt L1 f1 (ad 5 0) (.inl (G.2 0, 160, .inl gp)) ∧ pt L1 f1 (ad 6 0) (.inl (G.2 0, 9, .inl gc)) ∧ wr2.toInt = wr.toInt + 1) S Y (by decide) (by decide) hA1 ⟨x_85688, I, p_ad_0_0, p_ad_4_0, p_ad_5_0, p_ad_6_0, (by have z9 := (la_add ex_85688 (rfl : wr.toInt = wr.toInt) (show (1 : Int32).toInt = 1 from rfl) hw (show bn 1 1 (1 : Int32) from bn_k (by decide)) (by decide)); omega)⟩ dX12_emit_52
section DRX
variable {gp : Nat → Int32} {pd x y : Int32} {l : Nat} {R : List Int}
theorem pls_1 (ex : x.toInt = pd.toInt - 1) (h1 : 1 ≤ pd.toInt) : pls (fun j => (gp j).toInt) pd.toInt.toNat = topv gp pd :: pls (fun j => (gp j).toInt) x.toInt.toNat := by
  rw [show pd.toInt.toNat = x.toInt.toNat + 1 by omega]
  show (gp x.toInt.toNat).toInt :: _ = _
  unfold topv
  rw [show (pd.toInt - 1).toNat = x.toInt.toNat by omega]
theorem dR_pop (ex : x.toInt = y.toInt - 1) (h1 : 1 ≤ y.toInt) (hle : l ≤ rk (topv gp y)) (h : dR l (pls (fun j => (gp j).toInt) y.toInt.toNat) = R) : dR l (pls (fun j => (gp j).toInt) x.toInt.toNat) = R := by
  rw [pls_1 ex h1, dR_y hle] at h; exact h
theorem dR_xt (hx : xtp gp y l) (h : dR l (pls (fun j => (gp j).toInt) y.toInt.toNat) = R) : pls (fun j => (gp j).toInt) y.toInt.toNat = R := by
  rcases hx with z | z
  · rw [z] at h ⊢; exact h
  · rcases Nat.eq_zero_or_pos y.toInt.toNat with w | w
    · rw [w] at h ⊢; exact h
    · rw [show y.toInt.toNat = (y.toInt.toNat - 1) + 1 by omega] at h ⊢
      have e : dR l (pls (fun j => (gp j).toInt) (y.toInt.toNat - 1 + 1)) = pls (fun j => (gp j).toInt) (y.toInt.toNat - 1 + 1) := dR_n (by show ¬ l ≤ rk (gp (y.toInt.toNat - 1)).toInt; omega)
      rw [e] at h; exact h
end DRX
set_option maxHeartbeats 4000000 in
set_option maxRecDepth 100000 in
theorem x_X12_settle {l : Launch} {G : GG}  {L : List Nat} {f : HF} {ad : Nat → Nat → Nat} {pa : (Nat → Int32) → Prop} {PA : (Nat → Int32) → Prop} {PI : PIT} {i1 : Int32} {td fa fp at9 ps9 tk nu t0 wr so pd op9 cg iw on9 is9 se : Int32} {wd : Int64} {gt gp gc : Nat → Int32} {gB : Nat → Int32} {fr : Nat} {opn : Int} {cur0 cmp0 : Bool} (I : SH (spM PA PI (XS gB fr gp gc i1.toInt.toNat opn cur0 cmp0 t0 wr pd op9 cg) pa) nnM G ad L f) (p_ad_0_0 : pt L f (ad 0 0) (.inr (12, [.ref (ad 1 0), .ref (ad 2 0), .ref (ad 3 0), .ref (ad 4 0), .int td, .int fa, .int fp, .int at9, .int ps9, .int tk, .int nu, .long wd, .int t0, .int wr, .int so, .ref (ad 5 0), .ref (ad 6 0), .int pd, .int op9, .int cg, .int iw, .int on9, .ref (ad 7 0), .ref (ad 8 0), .ref (ad 9 0), .int is9, .ref (ad 10 0), .ref (ad 11 0), .ref (ad 12 0), .ref (ad 13 0), .int se, .ref (ad 14 0)]))) (p_ad_4_0 : pt L f (ad 4 0) (.inl (G.2 0, 300, .inl gt))) (p_ad_5_0 : pt L f (ad 5 0) (.inl (G.2 0, 160, .inl gp))) (p_ad_6_0 : pt L f (ad 6 0) (.inl (G.2 0, 9, .inl gc))) (b_i1 : bn 1 7 i1) (hroom : wr.toInt + pd.toInt ≤ 300) : PMv l yX12_settle cX12_settle 2 1 0 0 G [.ref (ad 0 0), .int i1] L f (fun L1 f1 => ∃ wr2 : Int32, ∃ pd2 : Int32, ∃ op92 : Int32, SH (spM PA PI (XS gB fr gp gc i1.toInt.toNat opn cur0 cmp0 t0 wr2 pd2 op92 cg) pa) nnM G ad L1 f1 ∧ pt L1 f1 (ad 0 0) (.inr (12, [.ref (ad 1 0), .ref (ad 2 0), .ref (ad 3 0), .ref (ad 4 0), .int td, .int fa, .int fp, .int at9, .int ps9, .int tk, .int nu, .long wd, .int t0, .int wr2, .int so, .ref (ad 5 0), .ref (ad 6 0), .int pd2, .int op92, .int cg, .int iw, .int on9, .ref (ad 7 0), .ref (ad 8 0), .ref (ad 9 0), .int is9, .ref (ad 10 0), .ref (ad 11 0), .ref (ad 12 0), .ref (ad 13 0), .int se, .ref (ad 14 0)])) ∧ pt L1 f1 (ad 4 0) (.inl (G.2 0, 300, .inl gt)) ∧ pt L1 f1 (ad 5 0) (.inl (G.2 0, 160, .inl gp)) ∧ pt L1 f1 (ad 6 0) (.inl (G.2 0, 9, .inl gc)) ∧ wr2.toInt + pd2.toInt ≤ wr.toInt + pd.toInt ∧ xtp gp pd2 i1.toInt.toNat ∧ pd2.toInt ≤ pd.toInt ∧ (pls (fun j => (gp j).toInt) pd2.toInt.toNat) = dR i1.toInt.toNat (pls (fun j => (gp j).toInt) pd.toInt.toNat)) := by
  refine PMv.of (post := fun L1 f1 => ∃ wr2 : Int32, ∃ pd2 : Int32, ∃ op92 : Int32, SH (spM PA PI (XS gB fr gp gc i1.toInt.toNat opn cur0 cmp0 t0 wr2 pd2 op92 cg) pa) nnM G ad L1 f1 ∧ pt L1 f1 (ad 0 0) (.inr (12, [.ref (ad 1 0), .ref (ad 2 0), .ref (ad 3 0), .ref (ad 4 0), .int td, .int fa, .int fp, .int at9, .int ps9, .int tk, .int nu, .long wd, .int t0, .int wr2, .int so, .ref (ad 5 0), .ref (ad 6 0), .int pd2, .int op92, .int cg, .int iw, .int on9, .ref (ad 7 0), .ref (ad 8 0), .ref (ad 9 0), .int is9, .ref (ad 10 0), .ref (ad 11 0), .ref (ad 12 0), .ref (ad 13 0), .int se, .ref (ad 14 0)])) ∧ pt L1 f1 (ad 4 0) (.inl (G.2 0, 300, .inl gt)) ∧ pt L1 f1 (ad 5 0) (.inl (G.2 0, 160, .inl gp)) ∧ pt L1 f1 (ad 6 0) (.inl (G.2 0, 9, .inl gc)) ∧ wr2.toInt + pd2.toInt ≤ wr.toInt + pd.toInt ∧ xtp gp pd2 i1.toInt.toNat ∧ pd2.toInt ≤ pd.toInt ∧ (pls (fun j => (gp j).toInt) pd2.toInt.toNat) = dR i1.toInt.toNat (pls (fun j => (gp j).toInt) pd.toInt.toNat)) (own := RX12) (by decide) rfl (Nat.le_of_ble_eq_true rfl) (fun sz p e s m args below meth c A ls hA1 hname S Y hl => ?_)
  have hx := S.hx
  have hb := S.hb
  have hl : lv_has ls 2 [(0, .ref (ad 0 0)), (1, .int i1)] := hl
  have hl1 : 1 ≤ i1.toInt.toNat := by have z9 := b_i1.1; omega
  obtain ⟨bfe_4, bfe_5, bfe_6, bfe_7, bfe_8, bfe_12, bfe_13, bfe_17, bfe_18, bfe_19, bfe_20, bfe_25⟩ := obM I p_ad_0_0
  have J_0 : ∀ (n0 : Nat) (y0_f13 y0_f17 y0_f18 : Int32) (L_0 : List Nat) (f_0 : HF) (H : Heap) (locs : List Loc) (ls : Array Slot), (SH (spM PA PI (XS gB fr gp gc i1.toInt.toNat opn cur0 cmp0 t0 y0_f13 y0_f17 y0_f18 cg) pa) nnM G ad L_0 f_0) → (bn 0 300 y0_f13) → (bn 0 160 y0_f17) → (bn 0 8 y0_f18) → (y0_f13.toInt + y0_f17.toInt ≤ wr.toInt + pd.toInt ∧ y0_f17.toInt ≤ pd.toInt ∧ dR i1.toInt.toNat (pls (fun j => (gp j).toInt) y0_f17.toInt.toNat) = dR i1.toInt.toNat (pls (fun j => (gp j).toInt) pd.toInt.toNat)) → (pt L_0 f_0 (ad 0 0) (.inr (12, [.ref (ad 1 0), .ref (ad 2 0), .ref (ad 3 0), .ref (ad 4 0), .int td, .int fa, .int fp, .int at9, .int ps9, .int tk, .int nu, .long wd, .int t0, .int y0_f13, .int so, .ref (ad 5 0), .ref (ad 6 0), .int y0_f17, .int y0_f18, .int cg, .int iw, .int on9, .ref (ad 7 0), .ref (ad 8 0), .ref (ad 9 0), .int is9, .ref (ad 10 0), .ref (ad 11 0), .ref (ad 12 0), .ref (ad 13 0), .int se, .ref (ad 14 0)]))) → (pt L_0 f_0 (ad 4 0) (.inl (G.2 0, 300, .inl gt))) → (pt L_0 f_0 (ad 5 0) (.inl (G.2 0, 160, .inl gp))) → (pt L_0 f_0 (ad 6 0) (.inl (G.2 0, 9, .inl gc))) → (y0_f17.toInt.toNat = n0) → (DY G A s [] L_0 f_0 H locs) → (lv_has ls 2 [(0, .ref (ad 0 0)), (1, .int i1)]) → W p l e (rmD 1 0 0) s m args below meth c H locs (0) (0) (MQ below (va_Qv (fun (u : List Nat × HF) => (fun L1 f1 => ∃ wr2 : Int32, ∃ pd2 : Int32, ∃ op92 : Int32, SH (spM PA PI (XS gB fr gp gc i1.toInt.toNat opn cur0 cmp0 t0 wr2 pd2 op92 cg) pa) nnM G ad L1 f1 ∧ pt L1 f1 (ad 0 0) (.inr (12, [.ref (ad 1 0), .ref (ad 2 0), .ref (ad 3 0), .ref (ad 4 0), .int td, .int fa, .int fp, .int at9, .int ps9, .int tk, .int nu, .long wd, .int t0, .int wr2, .int so, .ref (ad 5 0), .ref (ad 6 0), .int pd2, .int op92, .int cg, .int iw, .int on9, .ref (ad 7 0), .ref (ad 8 0), .ref (ad 9 0), .int is9, .ref (ad 10 0), .ref (ad 11 0), .ref (ad 12 0), .ref (ad 13 0), .int se, .ref (ad 14 0)])) ∧ pt L1 f1 (ad 4 0) (.inl (G.2 0, 300, .inl gt)) ∧ pt L1 f1 (ad 5 0) (.inl (G.2 0, 160, .inl gp)) ∧ pt L1 f1 (ad 6 0) (.inl (G.2 0, 9, .inl gc)) ∧ wr2.toInt + pd2.toInt ≤ wr.toInt + pd.toInt ∧ xtp gp pd2 i1.toInt.toNat ∧ pd2.toInt ≤ pd.toInt ∧ (pls (fun j => (gp j).toInt) pd2.toInt.toNat) = dR i1.toInt.toNat (pls (fun j => (gp j).toInt) pd.toInt.toNat)) u.1 u.2) (fun u t => pOut G (va_A (va_pl L f) sz) u.1 u.2 t) (va_A (va_pl L f) sz)) args s 0 0 A) (F0 m 0 ls []) := by
    intro n0
    induction n0 using Nat.strongRecOn with
    | _ n0 ih0 =>
      intro y0_f13 y0_f17 y0_f18 L_0 f_0 H locs ls I b_y0_f13 b_y0_f17 b_y0_f18 hS p_ad_0_0 p_ad_4_0 p_ad_5_0 p_ad_6_0 hm0 Y hl
      obtain ⟨bf0_4, bf0_5, bf0_6, bf0_7, bf0_8, bf0_12, bf0_13, bf0_17, bf0_18, bf0_19, bf0_20, bf0_25⟩ := obM I p_ad_0_0
      refine lv_aload_n hx hb dX12_settle_0 rfl (lv_at hl 0 rfl) ?_
      refine pg_get S Y ok_X12 17 (by decide) kf12_142 (v := .int y0_f17) p_ad_0_0 rfl dX12_settle_1 ?_
      refine lv_if_le (tgt := 107) hx hb dX12_settle_4 (by decide) (fun c_85800 => ?_) (fun c_85800 => ?_)
      · have B_85801 : bn 0 0 y0_f17 := bn_w (bn_lel c_85800 bf0_17 (show bn 0 0 (0 : Int32) from bn_k (by decide))) (by decide)
        exact prV (post := fun L1 f1 => ∃ wr2 : Int32, ∃ pd2 : Int32, ∃ op92 : Int32, SH (spM PA PI (XS gB fr gp gc i1.toInt.toNat opn cur0 cmp0 t0 wr2 pd2 op92 cg) pa) nnM G ad L1 f1 ∧ pt L1 f1 (ad 0 0) (.inr (12, [.ref (ad 1 0), .ref (ad 2 0), .ref (ad 3 0), .ref (ad 4 0), .int td, .int fa, .int fp, .int at9, .int ps9, .int tk, .int nu, .long wd, .int t0, .int wr2, .int so, .ref (ad 5 0), .ref (ad 6 0), .int pd2, .int op92, .int cg, .int iw, .int on9, .ref (ad 7 0), .ref (ad 8 0), .ref (ad 9 0), .int is9, .ref (ad 10 0), .ref (ad 11 0), .ref (ad 12 0), .ref (ad 13 0), .int se, .ref (ad 14 0)])) ∧ pt L1 f1 (ad 4 0) (.inl (G.2 0, 300, .inl gt)) ∧ pt L1 f1 (ad 5 0) (.inl (G.2 0, 160, .inl gp)) ∧ pt L1 f1 (ad 6 0) (.inl (G.2 0, 9, .inl gc)) ∧ wr2.toInt + pd2.toInt ≤ wr.toInt + pd.toInt ∧ xtp gp pd2 i1.toInt.toNat ∧ pd2.toInt ≤ pd.toInt ∧ (pls (fun j => (gp j).toInt) pd2.toInt.toNat) = dR i1.toInt.toNat (pls (fun j => (gp j).toInt) pd.toInt.toNat)) S Y (by decide) (by decide) hA1 ⟨y0_f13, y0_f17, y0_f18, I, p_ad_0_0, p_ad_4_0, p_ad_5_0, p_ad_6_0, hS.1, (Or.inl (by have z9 := (B_85801).1; have z8 := (B_85801).2; omega)), hS.2.1, (dR_xt (Or.inl (by have z9 := (B_85801).1; have z8 := (B_85801).2; omega)) hS.2.2)⟩ dX12_settle_107
      · have B_85802 : bn 1 160 y0_f17 := bn_w (bn_gtl c_85800 bf0_17 (show bn 0 0 (0 : Int32) from bn_k (by decide))) (by decide)
        refine lv_aload_n hx hb dX12_settle_7 rfl (lv_at hl 0 rfl) ?_
        refine pg_get S Y ok_X12 15 (by decide) kf12_29 (v := .ref (ad 5 0)) p_ad_0_0 rfl dX12_settle_8 ?_
        refine lv_aload_n hx hb dX12_settle_11 rfl (lv_at hl 0 rfl) ?_
        refine pg_get S Y ok_X12 17 (by decide) kf12_142 (v := .int y0_f17) p_ad_0_0 rfl dX12_settle_12 ?_
        refine lv_iconst (v := 1) hx hb dX12_settle_15 (by decide) ?_
        refine lv_isub hx hb dX12_settle_16 ?_
        refine lv_topi (fun x_85803 ex_85803 => ?_)
        obtain ⟨v_85804, ev_85804⟩ : ∃ z, z = gp (x_85803 : Int32).toNatClampNeg := ⟨_, rfl⟩
        refine pg_iald S Y (v := v_85804) p_ad_5_0 (vp_bn (bn_eq ex_85803 (bn_sub B_85802 (show bn 1 1 (1 : Int32) from bn_k (by decide)) (by decide))) (by decide)) ev_85804.symm dX12_settle_17 ?_
        have tv_85804 : v_85804.toInt = topv gp y0_f17 := topv_e ev_85804 (by have z9 := (la_sub ex_85803 (rfl : y0_f17.toInt = y0_f17.toInt) (show (1 : Int32).toInt = 1 from rfl) B_85802 (show bn 1 1 (1 : Int32) from bn_k (by decide)) (by decide)); omega)
        refine cSp (As := [.int v_85804]) (rest := []) S Y (x_X12_rank (l := l) ) cw_X12_rank km12_145 rfl ⟨Nat.le_of_ble_eq_true rfl, Nat.le_of_ble_eq_true rfl⟩ hl.1 rfl (Nat.le_of_ble_eq_true rfl) ⟨Nat.le_of_ble_eq_true rfl, Nat.le_of_ble_eq_true rfl⟩ dX12_settle_18 (fun r_85805 H locs er_85805 Y => ?_)
        have B_85806 : bn 0 7 r_85805 := bn_w (rk_bn er_85805) (by decide)
        refine lv_iload_n hx hb dX12_settle_21 rfl (lv_at hl 1 rfl) ?_
        refine lv_icmp_lt (tgt := 107) hx hb dX12_settle_22 (by decide) (fun c_85807 => ?_) (fun c_85807 => ?_)
        · have B_85808 : bn 0 6 r_85805 := bn_w (bn_ltl c_85807 B_85806 b_i1) (by decide)
          exact prV (post := fun L1 f1 => ∃ wr2 : Int32, ∃ pd2 : Int32, ∃ op92 : Int32, SH (spM PA PI (XS gB fr gp gc i1.toInt.toNat opn cur0 cmp0 t0 wr2 pd2 op92 cg) pa) nnM G ad L1 f1 ∧ pt L1 f1 (ad 0 0) (.inr (12, [.ref (ad 1 0), .ref (ad 2 0), .ref (ad 3 0), .ref (ad 4 0), .int td, .int fa, .int fp, .int at9, .int ps9, .int tk, .int nu, .long wd, .int t0, .int wr2, .int so, .ref (ad 5 0), .ref (ad 6 0), .int pd2, .int op92, .int cg, .int iw, .int on9, .ref (ad 7 0), .ref (ad 8 0), .ref (ad 9 0), .int is9, .ref (ad 10 0), .ref (ad 11 0), .ref (ad 12 0), .ref (ad 13 0), .int se, .ref (ad 14 0)])) ∧ pt L1 f1 (ad 4 0) (.inl (G.2 0, 300, .inl gt)) ∧ pt L1 f1 (ad 5 0) (.inl (G.2 0, 160, .inl gp)) ∧ pt L1 f1 (ad 6 0) (.inl (G.2 0, 9, .inl gc)) ∧ wr2.toInt + pd2.toInt ≤ wr.toInt + pd.toInt ∧ xtp gp pd2 i1.toInt.toNat ∧ pd2.toInt ≤ pd.toInt ∧ (pls (fun j => (gp j).toInt) pd2.toInt.toNat) = dR i1.toInt.toNat (pls (fun j => (gp j).toInt) pd.toInt.toNat)) S Y (by decide) (by decide) hA1 ⟨y0_f13, y0_f17, y0_f18, I, p_ad_0_0, p_ad_4_0, p_ad_5_0, p_ad_6_0, hS.1, (Or.inr (by have z9 := er_85805; have z8 := c_85807; rw [Int32.lt_iff_toInt_lt] at z8; have z7 := tv_85804; unfold topv at z7; rw [show (y0_f17.toInt - 1).toNat = y0_f17.toInt.toNat - 1 by have z6 := (B_85802).1; omega] at z7; rw [← z7]; omega)), hS.2.1, (dR_xt (Or.inr (by have z9 := er_85805; have z8 := c_85807; rw [Int32.lt_iff_toInt_lt] at z8; have z7 := tv_85804; unfold topv at z7; rw [show (y0_f17.toInt - 1).toNat = y0_f17.toInt.toNat - 1 by have z6 := (B_85802).1; omega] at z7; rw [← z7]; omega)) hS.2.2)⟩ dX12_settle_107
        · have B_85809 : bn 1 7 r_85805 := bn_w (bn_gel c_85807 B_85806 b_i1) (by decide)
          obtain ⟨g_85810, p_ad_3_0, o_85811⟩ := I.opi (k := 3) (j := 0) (by decide) rfl
          have p_ad_3_0 : pt L_0 f_0 (ad 3 0) (.inl (G.2 0, 2916, .inl g_85810)) := p_ad_3_0
          have hle : i1.toInt.toNat ≤ rk (topv gp y0_f17) := by have z9 := er_85805; have z8 := c_85807; rw [Int32.lt_iff_toInt_lt] at z8; rw [← tv_85804]; omega
          have hX0 := o_85811
          have hpd : 1 ≤ y0_f17.toInt := (B_85802).1
          have B_85812 : bn 0 299 y0_f13 := ⟨(bf0_13).1, by have z9 := hS; have z8 := hroom; omega⟩
          refine lv_aload_n hx hb dX12_settle_25 rfl (lv_at hl 0 rfl) ?_
          refine lv_dup hx hb dX12_settle_26 rfl ?_
          refine pg_get S Y ok_X12 17 (by decide) kf12_142 (v := .int y0_f17) p_ad_0_0 rfl dX12_settle_27 ?_
          refine lv_iconst (v := 1) hx hb dX12_settle_30 (by decide) ?_
          refine lv_isub hx hb dX12_settle_31 ?_
          refine lv_topi (fun x_85813 ex_85813 => ?_)
          refine pg_put S Y ok_X12 17 (by decide) kf12_142 rfl (fs' := [.ref (ad 1 0), .ref (ad 2 0), .ref (ad 3 0), .ref (ad 4 0), .int td, .int fa, .int fp, .int at9, .int ps9, .int tk, .int nu, .long wd, .int t0, .int y0_f13, .int so, .ref (ad 5 0), .ref (ad 6 0), .int x_85813, .int y0_f18, .int cg, .int iw, .int on9, .ref (ad 7 0), .ref (ad 8 0), .ref (ad 9 0), .int is9, .ref (ad 10 0), .ref (ad 11 0), .ref (ad 12 0), .ref (ad 13 0), .int se, .ref (ad 14 0)]) (v := .int x_85813) p_ad_0_0 rfl rfl rfl (Nat.le_of_ble_eq_true rfl) dX12_settle_32 (fun f_85814 H locs ef_85814 Y => ?_)
          have p_ad_4_0 := p_ad_4_0.up ef_85814 (I.ne (k := 4) (j := 0) (k' := 0) (j' := 0) (by decide) (by decide) (Or.inl (by decide)))
          have p_ad_5_0 := p_ad_5_0.up ef_85814 (I.ne (k := 5) (j := 0) (k' := 0) (j' := 0) (by decide) (by decide) (Or.inl (by decide)))
          have p_ad_6_0 := p_ad_6_0.up ef_85814 (I.ne (k := 6) (j := 0) (k' := 0) (j' := 0) (by decide) (by decide) (Or.inl (by decide)))
          have p_ad_3_0 := p_ad_3_0.up ef_85814 (I.ne (k := 3) (j := 0) (k' := 0) (j' := 0) (by decide) (by decide) (Or.inl (by decide)))
          have p_ad_0_0 := p_ad_0_0.me ef_85814
          have I := I.up (k := 0) (j := 0) (by decide) ef_85814 (okE_o (okFs_c okV_r (okFs_c okV_r (okFs_c okV_r (okFs_c okV_r (okFs_c (okV_p bf0_4) (okFs_c (okV_p bf0_5) (okFs_c (okV_p bf0_6) (okFs_c (okV_i bf0_7) (okFs_c (okV_i bf0_8) (okFs_c (okV_i (bn_any _)) (okFs_c (okV_i (bn_any _)) (okFs_c okV_l (okFs_c (okV_i bf0_12) (okFs_c (okV_i bf0_13) (okFs_c (okV_i (bn_any _)) (okFs_c okV_r (okFs_c okV_r (okFs_c (okV_i (bn_w (bn_eq ex_85813 (bn_sub B_85802 (show bn 1 1 (1 : Int32) from bn_k (by decide)) (by decide))) (by decide))) (okFs_c (okV_i bf0_18) (okFs_c (okV_i bf0_19) (okFs_c (okV_i bf0_20) (okFs_c (okV_i (bn_any _)) (okFs_c okV_r (okFs_c okV_r (okFs_c okV_r (okFs_c (okV_i bf0_25) (okFs_c okV_r (okFs_c okV_r (okFs_c okV_r (okFs_c okV_r (okFs_c (okV_i (bn_any _)) (okFs_c okV_r okFs_n)))))))))))))))))))))))))))))))))
          refine lv_aload_n hx hb dX12_settle_35 rfl (lv_at hl 0 rfl) ?_
          refine pg_get S Y ok_X12 15 (by decide) kf12_29 (v := .ref (ad 5 0)) p_ad_0_0 rfl dX12_settle_36 ?_
          refine lv_aload_n hx hb dX12_settle_39 rfl (lv_at hl 0 rfl) ?_
          refine pg_get S Y ok_X12 17 (by decide) kf12_142 (v := .int x_85813) p_ad_0_0 rfl dX12_settle_40 ?_
          obtain ⟨v_85815, ev_85815⟩ : ∃ z, z = gp (x_85813 : Int32).toNatClampNeg := ⟨_, rfl⟩
          refine pg_iald S Y (v := v_85815) p_ad_5_0 (vp_bn (bn_eq ex_85813 (bn_sub B_85802 (show bn 1 1 (1 : Int32) from bn_k (by decide)) (by decide))) (by decide)) ev_85815.symm dX12_settle_43 ?_
          have tv_85815 : v_85815.toInt = topv gp y0_f17 := topv_e ev_85815 (by have z9 := (la_sub ex_85813 (rfl : y0_f17.toInt = y0_f17.toInt) (show (1 : Int32).toInt = 1 from rfl) B_85802 (show bn 1 1 (1 : Int32) from bn_k (by decide)) (by decide)); omega)
          refine lv_bipush (v := 16) hx hb dX12_settle_44 (by decide) ?_
          refine lv_icmp_eq (tgt := 63) hx hb dX12_settle_46 (by decide) (fun c_85816 => ?_) (fun c_85816 => ?_)
          · have B_85817 : bn 16 16 v_85815 := bn_w (bn_eq c_85816 (show bn 16 16 (16 : Int32) from bn_k (by decide))) (by decide)
            refine lv_aload_n hx hb dX12_settle_63 rfl (lv_at hl 0 rfl) ?_
            refine pg_get S Y ok_X12 15 (by decide) kf12_29 (v := .ref (ad 5 0)) p_ad_0_0 rfl dX12_settle_64 ?_
            refine lv_aload_n hx hb dX12_settle_67 rfl (lv_at hl 0 rfl) ?_
            refine pg_get S Y ok_X12 17 (by decide) kf12_142 (v := .int x_85813) p_ad_0_0 rfl dX12_settle_68 ?_
            obtain ⟨v_85818, ev_85818⟩ : ∃ z, z = gp (x_85813 : Int32).toNatClampNeg := ⟨_, rfl⟩
            refine pg_iald S Y (v := v_85818) p_ad_5_0 (vp_bn (bn_eq ex_85813 (bn_sub B_85802 (show bn 1 1 (1 : Int32) from bn_k (by decide)) (by decide))) (by decide)) ev_85818.symm dX12_settle_71 ?_
            have tv_85818 : v_85818.toInt = topv gp y0_f17 := topv_e ev_85818 (by have z9 := (la_sub ex_85813 (rfl : y0_f17.toInt = y0_f17.toInt) (show (1 : Int32).toInt = 1 from rfl) B_85802 (show bn 1 1 (1 : Int32) from bn_k (by decide)) (by decide)); omega)
            refine cSp (As := [.int v_85818]) (rest := []) S Y (x_X12_rank (l := l) ) cw_X12_rank km12_145 rfl ⟨Nat.le_of_ble_eq_true rfl, Nat.le_of_ble_eq_true rfl⟩ hl.1 rfl (Nat.le_of_ble_eq_true rfl) ⟨Nat.le_of_ble_eq_true rfl, Nat.le_of_ble_eq_true rfl⟩ dX12_settle_72 (fun r_85819 H locs er_85819 Y => ?_)
            have B_85820 : bn 0 7 r_85819 := bn_w (rk_bn er_85819) (by decide)
            refine lv_bipush (v := 7) hx hb dX12_settle_75 (by decide) ?_
            refine lv_icmp_eq (tgt := 94) hx hb dX12_settle_77 (by decide) (fun c_85821 => ?_) (fun c_85821 => ?_)
            · have B_85822 : bn 7 7 r_85819 := bn_w (bn_eq c_85821 (show bn 7 7 (7 : Int32) from bn_k (by decide))) (by decide)
              have B_85824 : bn 1 8 y0_f18 := ⟨XS_op hX0 hpd hl1 hle (show rk (topv gp y0_f17) = 7 ∨ topv gp y0_f17 = 20 from (Or.inl (by have z9 := er_85819; have z8 := (show r_85819.toInt = 7 from by rw [c_85821]; rfl); rw [← tv_85818]; omega))), (bf0_18).2⟩
              refine lv_aload_n hx hb dX12_settle_94 rfl (lv_at hl 0 rfl) ?_
              refine lv_dup hx hb dX12_settle_95 rfl ?_
              refine pg_get S Y ok_X12 18 (by decide) kf12_152 (v := .int y0_f18) p_ad_0_0 rfl dX12_settle_96 ?_
              refine lv_iconst (v := 1) hx hb dX12_settle_99 (by decide) ?_
              refine lv_isub hx hb dX12_settle_100 ?_
              refine lv_topi (fun x_85825 ex_85825 => ?_)
              refine pg_put S Y ok_X12 18 (by decide) kf12_152 rfl (fs' := [.ref (ad 1 0), .ref (ad 2 0), .ref (ad 3 0), .ref (ad 4 0), .int td, .int fa, .int fp, .int at9, .int ps9, .int tk, .int nu, .long wd, .int t0, .int y0_f13, .int so, .ref (ad 5 0), .ref (ad 6 0), .int x_85813, .int x_85825, .int cg, .int iw, .int on9, .ref (ad 7 0), .ref (ad 8 0), .ref (ad 9 0), .int is9, .ref (ad 10 0), .ref (ad 11 0), .ref (ad 12 0), .ref (ad 13 0), .int se, .ref (ad 14 0)]) (v := .int x_85825) p_ad_0_0 rfl rfl rfl (Nat.le_of_ble_eq_true rfl) dX12_settle_101 (fun f_85826 H locs ef_85826 Y => ?_)
              have p_ad_4_0 := p_ad_4_0.up ef_85826 (I.ne (k := 4) (j := 0) (k' := 0) (j' := 0) (by decide) (by decide) (Or.inl (by decide)))
              have p_ad_5_0 := p_ad_5_0.up ef_85826 (I.ne (k := 5) (j := 0) (k' := 0) (j' := 0) (by decide) (by decide) (Or.inl (by decide)))
              have p_ad_6_0 := p_ad_6_0.up ef_85826 (I.ne (k := 6) (j := 0) (k' := 0) (j' := 0) (by decide) (by decide) (Or.inl (by decide)))
              have p_ad_3_0 := p_ad_3_0.up ef_85826 (I.ne (k := 3) (j := 0) (k' := 0) (j' := 0) (by decide) (by decide) (Or.inl (by decide)))
              have p_ad_0_0 := p_ad_0_0.me ef_85826
              have I := I.up (k := 0) (j := 0) (by decide) ef_85826 (okE_o (okFs_c okV_r (okFs_c okV_r (okFs_c okV_r (okFs_c okV_r (okFs_c (okV_p bf0_4) (okFs_c (okV_p bf0_5) (okFs_c (okV_p bf0_6) (okFs_c (okV_i bf0_7) (okFs_c (okV_i bf0_8) (okFs_c (okV_i (bn_any _)) (okFs_c (okV_i (bn_any _)) (okFs_c okV_l (okFs_c (okV_i bf0_12) (okFs_c (okV_i bf0_13) (okFs_c (okV_i (bn_any _)) (okFs_c okV_r (okFs_c okV_r (okFs_c (okV_i (bn_w (bn_eq ex_85813 (bn_sub B_85802 (show bn 1 1 (1 : Int32) from bn_k (by decide)) (by decide))) (by decide))) (okFs_c (okV_i (bn_w (bn_eq ex_85825 (bn_sub B_85824 (show bn 1 1 (1 : Int32) from bn_k (by decide)) (by decide))) (by decide))) (okFs_c (okV_i bf0_19) (okFs_c (okV_i bf0_20) (okFs_c (okV_i (bn_any _)) (okFs_c okV_r (okFs_c okV_r (okFs_c okV_r (okFs_c (okV_i bf0_25) (okFs_c okV_r (okFs_c okV_r (okFs_c okV_r (okFs_c okV_r (okFs_c (okV_i (bn_any _)) (okFs_c okV_r okFs_n)))))))))))))))))))))))))))))))))
              refine lv_goto (tgt := 0) hx hb dX12_settle_104 (by decide) ?_
              have o_85827 : (XS gB fr gp gc i1.toInt.toNat opn cur0 cmp0 t0 y0_f13 x_85813 x_85825 cg) g_85810 := (absurd (show rk (topv gp y0_f17) = 7 ∨ topv gp y0_f17 = 20 from (Or.inl (by have z9 := er_85819; have z8 := (show r_85819.toInt = 7 from by rw [c_85821]; rfl); rw [← tv_85818]; omega))) (by have z9 : topv gp y0_f17 = 16 := tv_85815.symm.trans (show v_85815.toInt = 16 from by rw [c_85816]; rfl); rw [z9]; decide))
              have I := I.castS (sp' := spM PA PI (XS gB fr gp gc i1.toInt.toNat opn cur0 cmp0 t0 y0_f13 x_85813 x_85825 cg) pa) (k := 3) (j := 0) (by decide) p_ad_3_0 (okE_a (g := g_85810) o_85827) pXC
              exact ih0 _ (by rw [← hm0]; exact (show x_85813.toInt.toNat < y0_f17.toInt.toNat from by have z9 := (la_sub ex_85813 (rfl : y0_f17.toInt = y0_f17.toInt) (show (1 : Int32).toInt = 1 from rfl) B_85802 (show bn 1 1 (1 : Int32) from bn_k (by decide)) (by decide)); have z8 := hpd; omega)) y0_f13 x_85813 x_85825 _ _  _ _ _ I (bn_w B_85812 (by decide)) (bn_w (bn_eq ex_85813 (bn_sub B_85802 (show bn 1 1 (1 : Int32) from bn_k (by decide)) (by decide))) (by decide)) (bn_w (bn_eq ex_85825 (bn_sub B_85824 (show bn 1 1 (1 : Int32) from bn_k (by decide)) (by decide))) (by decide)) ⟨by have z9 := (la_sub ex_85813 (rfl : y0_f17.toInt = y0_f17.toInt) (show (1 : Int32).toInt = 1 from rfl) B_85802 (show bn 1 1 (1 : Int32) from bn_k (by decide)) (by decide)); have z8 := hS.1; omega, by have z9 := (la_sub ex_85813 (rfl : y0_f17.toInt = y0_f17.toInt) (show (1 : Int32).toInt = 1 from rfl) B_85802 (show bn 1 1 (1 : Int32) from bn_k (by decide)) (by decide)); have z8 := hS.2.1; omega, dR_pop (by have z9 := (la_sub ex_85813 (rfl : y0_f17.toInt = y0_f17.toInt) (show (1 : Int32).toInt = 1 from rfl) B_85802 (show bn 1 1 (1 : Int32) from bn_k (by decide)) (by decide)); omega) hpd hle hS.2.2⟩ p_ad_0_0 p_ad_4_0 p_ad_5_0 p_ad_6_0 rfl Y (lv_sub hl [0, 1] rfl)
            · have B_85823 : bn 0 6 r_85819 := bn_w (bn_neu c_85821 B_85820 (show bn 7 7 (7 : Int32) from bn_k (by decide))) (by decide)
              refine lv_aload_n hx hb dX12_settle_80 rfl (lv_at hl 0 rfl) ?_
              refine pg_get S Y ok_X12 15 (by decide) kf12_29 (v := .ref (ad 5 0)) p_ad_0_0 rfl dX12_settle_81 ?_
              refine lv_aload_n hx hb dX12_settle_84 rfl (lv_at hl 0 rfl) ?_
              refine pg_get S Y ok_X12 17 (by decide) kf12_142 (v := .int x_85813) p_ad_0_0 rfl dX12_settle_85 ?_
              obtain ⟨v_85828, ev_85828⟩ : ∃ z, z = gp (x_85813 : Int32).toNatClampNeg := ⟨_, rfl⟩
              refine pg_iald S Y (v := v_85828) p_ad_5_0 (vp_bn (bn_eq ex_85813 (bn_sub B_85802 (show bn 1 1 (1 : Int32) from bn_k (by decide)) (by decide))) (by decide)) ev_85828.symm dX12_settle_88 ?_
              have tv_85828 : v_85828.toInt = topv gp y0_f17 := topv_e ev_85828 (by have z9 := (la_sub ex_85813 (rfl : y0_f17.toInt = y0_f17.toInt) (show (1 : Int32).toInt = 1 from rfl) B_85802 (show bn 1 1 (1 : Int32) from bn_k (by decide)) (by decide)); omega)
              refine lv_bipush (v := 20) hx hb dX12_settle_89 (by decide) ?_
              refine lv_icmp_ne (tgt := 0) hx hb dX12_settle_91 (by decide) (fun c_85829 => ?_) (fun c_85829 => ?_)
              · have o_85831 : (XS gB fr gp gc i1.toInt.toNat opn cur0 cmp0 t0 y0_f13 x_85813 y0_f18 cg) g_85810 := (XS_16 o_85811 (by have z9 := (la_sub ex_85813 (rfl : y0_f17.toInt = y0_f17.toInt) (show (1 : Int32).toInt = 1 from rfl) B_85802 (show bn 1 1 (1 : Int32) from bn_k (by decide)) (by decide)); omega) (by have z9 := (la_sub ex_85813 (rfl : y0_f17.toInt = y0_f17.toInt) (show (1 : Int32).toInt = 1 from rfl) B_85802 (show bn 1 1 (1 : Int32) from bn_k (by decide)) (by decide)); have z8 := hpd; omega) (tv_85815.symm.trans (show v_85815.toInt = 16 from by rw [c_85816]; rfl)))
                have I := I.castS (sp' := spM PA PI (XS gB fr gp gc i1.toInt.toNat opn cur0 cmp0 t0 y0_f13 x_85813 y0_f18 cg) pa) (k := 3) (j := 0) (by decide) p_ad_3_0 (okE_a (g := g_85810) o_85831) pXC
                exact ih0 _ (by rw [← hm0]; exact (show x_85813.toInt.toNat < y0_f17.toInt.toNat from by have z9 := (la_sub ex_85813 (rfl : y0_f17.toInt = y0_f17.toInt) (show (1 : Int32).toInt = 1 from rfl) B_85802 (show bn 1 1 (1 : Int32) from bn_k (by decide)) (by decide)); have z8 := hpd; omega)) y0_f13 x_85813 y0_f18 _ _  _ _ _ I (bn_w B_85812 (by decide)) (bn_w (bn_eq ex_85813 (bn_sub B_85802 (show bn 1 1 (1 : Int32) from bn_k (by decide)) (by decide))) (by decide)) (bn_w bf0_18 (by decide)) ⟨by have z9 := (la_sub ex_85813 (rfl : y0_f17.toInt = y0_f17.toInt) (show (1 : Int32).toInt = 1 from rfl) B_85802 (show bn 1 1 (1 : Int32) from bn_k (by decide)) (by decide)); have z8 := hS.1; omega, by have z9 := (la_sub ex_85813 (rfl : y0_f17.toInt = y0_f17.toInt) (show (1 : Int32).toInt = 1 from rfl) B_85802 (show bn 1 1 (1 : Int32) from bn_k (by decide)) (by decide)); have z8 := hS.2.1; omega, dR_pop (by have z9 := (la_sub ex_85813 (rfl : y0_f17.toInt = y0_f17.toInt) (show (1 : Int32).toInt = 1 from rfl) B_85802 (show bn 1 1 (1 : Int32) from bn_k (by decide)) (by decide)); omega) hpd hle hS.2.2⟩ p_ad_0_0 p_ad_4_0 p_ad_5_0 p_ad_6_0 rfl Y (lv_sub hl [0, 1] rfl)
              · have B_85830 : bn 20 20 v_85828 := bn_w (bn_eq c_85829 (show bn 20 20 (20 : Int32) from bn_k (by decide))) (by decide)
                have B_85832 : bn 1 8 y0_f18 := ⟨XS_op hX0 hpd hl1 hle (show rk (topv gp y0_f17) = 7 ∨ topv gp y0_f17 = 20 from (Or.inr (tv_85828.symm.trans (show v_85828.toInt = 20 from by rw [c_85829]; rfl)))), (bf0_18).2⟩
                refine lv_aload_n hx hb dX12_settle_94 rfl (lv_at hl 0 rfl) ?_
                refine lv_dup hx hb dX12_settle_95 rfl ?_
                refine pg_get S Y ok_X12 18 (by decide) kf12_152 (v := .int y0_f18) p_ad_0_0 rfl dX12_settle_96 ?_
                refine lv_iconst (v := 1) hx hb dX12_settle_99 (by decide) ?_
                refine lv_isub hx hb dX12_settle_100 ?_
                refine lv_topi (fun x_85833 ex_85833 => ?_)
                refine pg_put S Y ok_X12 18 (by decide) kf12_152 rfl (fs' := [.ref (ad 1 0), .ref (ad 2 0), .ref (ad 3 0), .ref (ad 4 0), .int td, .int fa, .int fp, .int at9, .int ps9, .int tk, .int nu, .long wd, .int t0, .int y0_f13, .int so, .ref (ad 5 0), .ref (ad 6 0), .int x_85813, .int x_85833, .int cg, .int iw, .int on9, .ref (ad 7 0), .ref (ad 8 0), .ref (ad 9 0), .int is9, .ref (ad 10 0), .ref (ad 11 0), .ref (ad 12 0), .ref (ad 13 0), .int se, .ref (ad 14 0)]) (v := .int x_85833) p_ad_0_0 rfl rfl rfl (Nat.le_of_ble_eq_true rfl) dX12_settle_101 (fun f_85834 H locs ef_85834 Y => ?_)
                have p_ad_4_0 := p_ad_4_0.up ef_85834 (I.ne (k := 4) (j := 0) (k' := 0) (j' := 0) (by decide) (by decide) (Or.inl (by decide)))
                have p_ad_5_0 := p_ad_5_0.up ef_85834 (I.ne (k := 5) (j := 0) (k' := 0) (j' := 0) (by decide) (by decide) (Or.inl (by decide)))
                have p_ad_6_0 := p_ad_6_0.up ef_85834 (I.ne (k := 6) (j := 0) (k' := 0) (j' := 0) (by decide) (by decide) (Or.inl (by decide)))
                have p_ad_3_0 := p_ad_3_0.up ef_85834 (I.ne (k := 3) (j := 0) (k' := 0) (j' := 0) (by decide) (by decide) (Or.inl (by decide)))
                have p_ad_0_0 := p_ad_0_0.me ef_85834
                have I := I.up (k := 0) (j := 0) (by decide) ef_85834 (okE_o (okFs_c okV_r (okFs_c okV_r (okFs_c okV_r (okFs_c okV_r (okFs_c (okV_p bf0_4) (okFs_c (okV_p bf0_5) (okFs_c (okV_p bf0_6) (okFs_c (okV_i bf0_7) (okFs_c (okV_i bf0_8) (okFs_c (okV_i (bn_any _)) (okFs_c (okV_i (bn_any _)) (okFs_c okV_l (okFs_c (okV_i bf0_12) (okFs_c (okV_i bf0_13) (okFs_c (okV_i (bn_any _)) (okFs_c okV_r (okFs_c okV_r (okFs_c (okV_i (bn_w (bn_eq ex_85813 (bn_sub B_85802 (show bn 1 1 (1 : Int32) from bn_k (by decide)) (by decide))) (by decide))) (okFs_c (okV_i (bn_w (bn_eq ex_85833 (bn_sub B_85832 (show bn 1 1 (1 : Int32) from bn_k (by decide)) (by decide))) (by decide))) (okFs_c (okV_i bf0_19) (okFs_c (okV_i bf0_20) (okFs_c (okV_i (bn_any _)) (okFs_c okV_r (okFs_c okV_r (okFs_c okV_r (okFs_c (okV_i bf0_25) (okFs_c okV_r (okFs_c okV_r (okFs_c okV_r (okFs_c okV_r (okFs_c (okV_i (bn_any _)) (okFs_c okV_r okFs_n)))))))))))))))))))))))))))))))))
                refine lv_goto (tgt := 0) hx hb dX12_settle_104 (by decide) ?_
                have o_85835 : (XS gB fr gp gc i1.toInt.toNat opn cur0 cmp0 t0 y0_f13 x_85813 x_85833 cg) g_85810 := (absurd (show rk (topv gp y0_f17) = 7 ∨ topv gp y0_f17 = 20 from (Or.inr (tv_85828.symm.trans (show v_85828.toInt = 20 from by rw [c_85829]; rfl)))) (by have z9 : topv gp y0_f17 = 16 := tv_85815.symm.trans (show v_85815.toInt = 16 from by rw [c_85816]; rfl); rw [z9]; decide))
                have I := I.castS (sp' := spM PA PI (XS gB fr gp gc i1.toInt.toNat opn cur0 cmp0 t0 y0_f13 x_85813 x_85833 cg) pa) (k := 3) (j := 0) (by decide) p_ad_3_0 (okE_a (g := g_85810) o_85835) pXC
                exact ih0 _ (by rw [← hm0]; exact (show x_85813.toInt.toNat < y0_f17.toInt.toNat from by have z9 := (la_sub ex_85813 (rfl : y0_f17.toInt = y0_f17.toInt) (show (1 : Int32).toInt = 1 from rfl) B_85802 (show bn 1 1 (1 : Int32) from bn_k (by decide)) (by decide)); have z8 := hpd; omega)) y0_f13 x_85813 x_85833 _ _  _ _ _ I (bn_w B_85812 (by decide)) (bn_w (bn_eq ex_85813 (bn_sub B_85802 (show bn 1 1 (1 : Int32) from bn_k (by decide)) (by decide))) (by decide)) (bn_w (bn_eq ex_85833 (bn_sub B_85832 (show bn 1 1 (1 : Int32) from bn_k (by decide)) (by decide))) (by decide)) ⟨by have z9 := (la_sub ex_85813 (rfl : y0_f17.toInt = y0_f17.toInt) (show (1 : Int32).toInt = 1 from rfl) B_85802 (show bn 1 1 (1 : Int32) from bn_k (by decide)) (by decide)); have z8 := hS.1; omega, by have z9 := (la_sub ex_85813 (rfl : y0_f17.toInt = y0_f17.toInt) (show (1 : Int32).toInt = 1 from rfl) B_85802 (show bn 1 1 (1 : Int32) from bn_k (by decide)) (by decide)); have z8 := hS.2.1; omega, dR_pop (by have z9 := (la_sub ex_85813 (rfl : y0_f17.toInt = y0_f17.toInt) (show (1 : Int32).toInt = 1 from rfl) B_85802 (show bn 1 1 (1 : Int32) from bn_k (by decide)) (by decide)); omega) hpd hle hS.2.2⟩ p_ad_0_0 p_ad_4_0 p_ad_5_0 p_ad_6_0 rfl Y (lv_sub hl [0, 1] rfl)
          · refine lv_aload_n hx hb dX12_settle_49 rfl (lv_at hl 0 rfl) ?_
            refine lv_aload_n hx hb dX12_settle_50 rfl (lv_at hl 0 rfl) ?_
            refine pg_get S Y ok_X12 15 (by decide) kf12_29 (v := .ref (ad 5 0)) p_ad_0_0 rfl dX12_settle_51 ?_
            refine lv_aload_n hx hb dX12_settle_54 rfl (lv_at hl 0 rfl) ?_
            refine pg_get S Y ok_X12 17 (by decide) kf12_142 (v := .int x_85813) p_ad_0_0 rfl dX12_settle_55 ?_
            obtain ⟨v_85836, ev_85836⟩ : ∃ z, z = gp (x_85813 : Int32).toNatClampNeg := ⟨_, rfl⟩
            refine pg_iald S Y (v := v_85836) p_ad_5_0 (vp_bn (bn_eq ex_85813 (bn_sub B_85802 (show bn 1 1 (1 : Int32) from bn_k (by decide)) (by decide))) (by decide)) ev_85836.symm dX12_settle_58 ?_
            have tv_85836 : v_85836.toInt = topv gp y0_f17 := topv_e ev_85836 (by have z9 := (la_sub ex_85813 (rfl : y0_f17.toInt = y0_f17.toInt) (show (1 : Int32).toInt = 1 from rfl) B_85802 (show bn 1 1 (1 : Int32) from bn_k (by decide)) (by decide)); omega)
            refine lv_iconst (v := 0) hx hb dX12_settle_59 (by decide) ?_
            refine cVv (As := [.int v_85836, .int 0]) (rest := []) S Y (x_X12_emit (l := l) I p_ad_0_0 p_ad_4_0 p_ad_5_0 p_ad_6_0 (bn_w B_85812 (by decide))) cw_X12_emit km12_148 p_ad_0_0 ok_X12.1 rfl rfl ⟨Nat.le_of_ble_eq_true rfl, Nat.le_of_ble_eq_true rfl⟩ hl.1 rfl (Nat.le_of_ble_eq_true rfl) ⟨Nat.le_of_ble_eq_true rfl, Nat.le_of_ble_eq_true rfl⟩ dX12_settle_60 (fun L_85837 f_85838 H locs hr_85839 Y => ?_)
            obtain ⟨v_85840, I, p_ad_0_0, p_ad_4_0, p_ad_5_0, p_ad_6_0, e13_85841⟩ := hr_85839
            obtain ⟨bfc85841_4, bfc85841_5, bfc85841_6, bfc85841_7, bfc85841_8, bfc85841_12, bfc85841_13, bfc85841_17, bfc85841_18, bfc85841_19, bfc85841_20, bfc85841_25⟩ := obM I p_ad_0_0
            refine lv_aload_n hx hb dX12_settle_63 rfl (lv_at hl 0 rfl) ?_
            refine pg_get S Y ok_X12 15 (by decide) kf12_29 (v := .ref (ad 5 0)) p_ad_0_0 rfl dX12_settle_64 ?_
            refine lv_aload_n hx hb dX12_settle_67 rfl (lv_at hl 0 rfl) ?_
            refine pg_get S Y ok_X12 17 (by decide) kf12_142 (v := .int x_85813) p_ad_0_0 rfl dX12_settle_68 ?_
            obtain ⟨v_85843, ev_85843⟩ : ∃ z, z = gp (x_85813 : Int32).toNatClampNeg := ⟨_, rfl⟩
            refine pg_iald S Y (v := v_85843) p_ad_5_0 (vp_bn (bn_eq ex_85813 (bn_sub B_85802 (show bn 1 1 (1 : Int32) from bn_k (by decide)) (by decide))) (by decide)) ev_85843.symm dX12_settle_71 ?_
            have tv_85843 : v_85843.toInt = topv gp y0_f17 := topv_e ev_85843 (by have z9 := (la_sub ex_85813 (rfl : y0_f17.toInt = y0_f17.toInt) (show (1 : Int32).toInt = 1 from rfl) B_85802 (show bn 1 1 (1 : Int32) from bn_k (by decide)) (by decide)); omega)
            refine cSp (As := [.int v_85843]) (rest := []) S Y (x_X12_rank (l := l) ) cw_X12_rank km12_145 rfl ⟨Nat.le_of_ble_eq_true rfl, Nat.le_of_ble_eq_true rfl⟩ hl.1 rfl (Nat.le_of_ble_eq_true rfl) ⟨Nat.le_of_ble_eq_true rfl, Nat.le_of_ble_eq_true rfl⟩ dX12_settle_72 (fun r_85844 H locs er_85844 Y => ?_)
            have B_85845 : bn 0 7 r_85844 := bn_w (rk_bn er_85844) (by decide)
            refine lv_bipush (v := 7) hx hb dX12_settle_75 (by decide) ?_
            refine lv_icmp_eq (tgt := 94) hx hb dX12_settle_77 (by decide) (fun c_85846 => ?_) (fun c_85846 => ?_)
            · have B_85847 : bn 7 7 r_85844 := bn_w (bn_eq c_85846 (show bn 7 7 (7 : Int32) from bn_k (by decide))) (by decide)
              have B_85849 : bn 1 8 y0_f18 := ⟨XS_op hX0 hpd hl1 hle (show rk (topv gp y0_f17) = 7 ∨ topv gp y0_f17 = 20 from (Or.inl (by have z9 := er_85844; have z8 := (show r_85844.toInt = 7 from by rw [c_85846]; rfl); rw [← tv_85843]; omega))), (bf0_18).2⟩
              refine lv_aload_n hx hb dX12_settle_94 rfl (lv_at hl 0 rfl) ?_
              refine lv_dup hx hb dX12_settle_95 rfl ?_
              refine pg_get S Y ok_X12 18 (by decide) kf12_152 (v := .int y0_f18) p_ad_0_0 rfl dX12_settle_96 ?_
              refine lv_iconst (v := 1) hx hb dX12_settle_99 (by decide) ?_
              refine lv_isub hx hb dX12_settle_100 ?_
              refine lv_topi (fun x_85850 ex_85850 => ?_)
              refine pg_put S Y ok_X12 18 (by decide) kf12_152 rfl (fs' := [.ref (ad 1 0), .ref (ad 2 0), .ref (ad 3 0), .ref (ad 4 0), .int td, .int fa, .int fp, .int at9, .int ps9, .int tk, .int nu, .long wd, .int t0, .int v_85840, .int so, .ref (ad 5 0), .ref (ad 6 0), .int x_85813, .int x_85850, .int cg, .int iw, .int on9, .ref (ad 7 0), .ref (ad 8 0), .ref (ad 9 0), .int is9, .ref (ad 10 0), .ref (ad 11 0), .ref (ad 12 0), .ref (ad 13 0), .int se, .ref (ad 14 0)]) (v := .int x_85850) p_ad_0_0 rfl rfl rfl (Nat.le_of_ble_eq_true rfl) dX12_settle_101 (fun f_85851 H locs ef_85851 Y => ?_)
              have p_ad_4_0 := p_ad_4_0.up ef_85851 (I.ne (k := 4) (j := 0) (k' := 0) (j' := 0) (by decide) (by decide) (Or.inl (by decide)))
              have p_ad_5_0 := p_ad_5_0.up ef_85851 (I.ne (k := 5) (j := 0) (k' := 0) (j' := 0) (by decide) (by decide) (Or.inl (by decide)))
              have p_ad_6_0 := p_ad_6_0.up ef_85851 (I.ne (k := 6) (j := 0) (k' := 0) (j' := 0) (by decide) (by decide) (Or.inl (by decide)))
              have p_ad_0_0 := p_ad_0_0.me ef_85851
              have I := I.up (k := 0) (j := 0) (by decide) ef_85851 (okE_o (okFs_c okV_r (okFs_c okV_r (okFs_c okV_r (okFs_c okV_r (okFs_c (okV_p bfc85841_4) (okFs_c (okV_p bfc85841_5) (okFs_c (okV_p bfc85841_6) (okFs_c (okV_i bfc85841_7) (okFs_c (okV_i bfc85841_8) (okFs_c (okV_i (bn_any _)) (okFs_c (okV_i (bn_any _)) (okFs_c okV_l (okFs_c (okV_i bfc85841_12) (okFs_c (okV_i bfc85841_13) (okFs_c (okV_i (bn_any _)) (okFs_c okV_r (okFs_c okV_r (okFs_c (okV_i bfc85841_17) (okFs_c (okV_i (bn_w (bn_eq ex_85850 (bn_sub B_85849 (show bn 1 1 (1 : Int32) from bn_k (by decide)) (by decide))) (by decide))) (okFs_c (okV_i bfc85841_19) (okFs_c (okV_i bfc85841_20) (okFs_c (okV_i (bn_any _)) (okFs_c okV_r (okFs_c okV_r (okFs_c okV_r (okFs_c (okV_i bfc85841_25) (okFs_c okV_r (okFs_c okV_r (okFs_c okV_r (okFs_c okV_r (okFs_c (okV_i (bn_any _)) (okFs_c okV_r okFs_n)))))))))))))))))))))))))))))))))
              refine lv_goto (tgt := 0) hx hb dX12_settle_104 (by decide) ?_
              obtain ⟨g_85852, p_ad_3_0, o_85853⟩ := I.opi (k := 3) (j := 0) (by decide) rfl
              have p_ad_3_0 : pt L_85837 f_85851 (ad 3 0) (.inl (G.2 0, 2916, .inl g_85852)) := p_ad_3_0
              have o_85854 : (XS gB fr gp gc i1.toInt.toNat opn cur0 cmp0 t0 v_85840 x_85813 x_85850 cg) g_85852 := (XS_pop o_85853 rfl e13_85841 B_85812 (by have z9 := (la_sub ex_85813 (rfl : y0_f17.toInt = y0_f17.toInt) (show (1 : Int32).toInt = 1 from rfl) B_85802 (show bn 1 1 (1 : Int32) from bn_k (by decide)) (by decide)); omega) (by have z9 := (la_sub ex_85813 (rfl : y0_f17.toInt = y0_f17.toInt) (show (1 : Int32).toInt = 1 from rfl) B_85802 (show bn 1 1 (1 : Int32) from bn_k (by decide)) (by decide)); have z8 := hpd; omega) tv_85836 (fun h => (show ¬ v_85815.toInt = 16 from fun z => c_85816 (Int32.toInt_inj.mp (z.trans rfl))) (tv_85815.trans h)) hl1 hle (Or.inl ⟨(show rk (topv gp y0_f17) = 7 ∨ topv gp y0_f17 = 20 from (Or.inl (by have z9 := er_85844; have z8 := (show r_85844.toInt = 7 from by rw [c_85846]; rfl); rw [← tv_85843]; omega))), by have z9 := (la_sub ex_85850 (rfl : y0_f18.toInt = y0_f18.toInt) (show (1 : Int32).toInt = 1 from rfl) B_85849 (show bn 1 1 (1 : Int32) from bn_k (by decide)) (by decide)); omega⟩))
              have I := I.castS (sp' := spM PA PI (XS gB fr gp gc i1.toInt.toNat opn cur0 cmp0 t0 v_85840 x_85813 x_85850 cg) pa) (k := 3) (j := 0) (by decide) p_ad_3_0 (okE_a (g := g_85852) o_85854) pXC
              exact ih0 _ (by rw [← hm0]; exact (show x_85813.toInt.toNat < y0_f17.toInt.toNat from by have z9 := (la_sub ex_85813 (rfl : y0_f17.toInt = y0_f17.toInt) (show (1 : Int32).toInt = 1 from rfl) B_85802 (show bn 1 1 (1 : Int32) from bn_k (by decide)) (by decide)); have z8 := hpd; omega)) v_85840 x_85813 x_85850 _ _  _ _ _ I (bn_w bfc85841_13 (by decide)) (bn_w (bn_eq ex_85813 (bn_sub B_85802 (show bn 1 1 (1 : Int32) from bn_k (by decide)) (by decide))) (by decide)) (bn_w (bn_eq ex_85850 (bn_sub B_85849 (show bn 1 1 (1 : Int32) from bn_k (by decide)) (by decide))) (by decide)) ⟨by have z9 := (la_sub ex_85813 (rfl : y0_f17.toInt = y0_f17.toInt) (show (1 : Int32).toInt = 1 from rfl) B_85802 (show bn 1 1 (1 : Int32) from bn_k (by decide)) (by decide)); have z8 := hS.1; have z7 := e13_85841; omega, by have z9 := (la_sub ex_85813 (rfl : y0_f17.toInt = y0_f17.toInt) (show (1 : Int32).toInt = 1 from rfl) B_85802 (show bn 1 1 (1 : Int32) from bn_k (by decide)) (by decide)); have z8 := hS.2.1; omega, dR_pop (by have z9 := (la_sub ex_85813 (rfl : y0_f17.toInt = y0_f17.toInt) (show (1 : Int32).toInt = 1 from rfl) B_85802 (show bn 1 1 (1 : Int32) from bn_k (by decide)) (by decide)); omega) hpd hle hS.2.2⟩ p_ad_0_0 p_ad_4_0 p_ad_5_0 p_ad_6_0 rfl Y (lv_sub hl [0, 1] rfl)
            · have B_85848 : bn 0 6 r_85844 := bn_w (bn_neu c_85846 B_85845 (show bn 7 7 (7 : Int32) from bn_k (by decide))) (by decide)
              refine lv_aload_n hx hb dX12_settle_80 rfl (lv_at hl 0 rfl) ?_
              refine pg_get S Y ok_X12 15 (by decide) kf12_29 (v := .ref (ad 5 0)) p_ad_0_0 rfl dX12_settle_81 ?_
              refine lv_aload_n hx hb dX12_settle_84 rfl (lv_at hl 0 rfl) ?_
              refine pg_get S Y ok_X12 17 (by decide) kf12_142 (v := .int x_85813) p_ad_0_0 rfl dX12_settle_85 ?_
              obtain ⟨v_85855, ev_85855⟩ : ∃ z, z = gp (x_85813 : Int32).toNatClampNeg := ⟨_, rfl⟩
              refine pg_iald S Y (v := v_85855) p_ad_5_0 (vp_bn (bn_eq ex_85813 (bn_sub B_85802 (show bn 1 1 (1 : Int32) from bn_k (by decide)) (by decide))) (by decide)) ev_85855.symm dX12_settle_88 ?_
              have tv_85855 : v_85855.toInt = topv gp y0_f17 := topv_e ev_85855 (by have z9 := (la_sub ex_85813 (rfl : y0_f17.toInt = y0_f17.toInt) (show (1 : Int32).toInt = 1 from rfl) B_85802 (show bn 1 1 (1 : Int32) from bn_k (by decide)) (by decide)); omega)
              refine lv_bipush (v := 20) hx hb dX12_settle_89 (by decide) ?_
              refine lv_icmp_ne (tgt := 0) hx hb dX12_settle_91 (by decide) (fun c_85856 => ?_) (fun c_85856 => ?_)
              · obtain ⟨g_85858, p_ad_3_0, o_85859⟩ := I.opi (k := 3) (j := 0) (by decide) rfl
                have p_ad_3_0 : pt L_85837 f_85838 (ad 3 0) (.inl (G.2 0, 2916, .inl g_85858)) := p_ad_3_0
                have o_85860 : (XS gB fr gp gc i1.toInt.toNat opn cur0 cmp0 t0 v_85840 x_85813 y0_f18 cg) g_85858 := (XS_pop o_85859 rfl e13_85841 B_85812 (by have z9 := (la_sub ex_85813 (rfl : y0_f17.toInt = y0_f17.toInt) (show (1 : Int32).toInt = 1 from rfl) B_85802 (show bn 1 1 (1 : Int32) from bn_k (by decide)) (by decide)); omega) (by have z9 := (la_sub ex_85813 (rfl : y0_f17.toInt = y0_f17.toInt) (show (1 : Int32).toInt = 1 from rfl) B_85802 (show bn 1 1 (1 : Int32) from bn_k (by decide)) (by decide)); have z8 := hpd; omega) tv_85836 (fun h => (show ¬ v_85815.toInt = 16 from fun z => c_85816 (Int32.toInt_inj.mp (z.trans rfl))) (tv_85815.trans h)) hl1 hle (Or.inr ⟨(show ¬ (rk (topv gp y0_f17) = 7 ∨ topv gp y0_f17 = 20) from (fun h => h.elim (fun h => by have z9 := er_85844; have z8 := (show ¬ r_85844.toInt = 7 from fun z => c_85846 (Int32.toInt_inj.mp (z.trans rfl))); rw [← tv_85843] at h; omega) (fun h => (show ¬ v_85855.toInt = 20 from fun z => c_85856 (Int32.toInt_inj.mp (z.trans rfl))) (tv_85855.trans h)))), rfl⟩))
                have I := I.castS (sp' := spM PA PI (XS gB fr gp gc i1.toInt.toNat opn cur0 cmp0 t0 v_85840 x_85813 y0_f18 cg) pa) (k := 3) (j := 0) (by decide) p_ad_3_0 (okE_a (g := g_85858) o_85860) pXC
                exact ih0 _ (by rw [← hm0]; exact (show x_85813.toInt.toNat < y0_f17.toInt.toNat from by have z9 := (la_sub ex_85813 (rfl : y0_f17.toInt = y0_f17.toInt) (show (1 : Int32).toInt = 1 from rfl) B_85802 (show bn 1 1 (1 : Int32) from bn_k (by decide)) (by decide)); have z8 := hpd; omega)) v_85840 x_85813 y0_f18 _ _  _ _ _ I (bn_w bfc85841_13 (by decide)) (bn_w (bn_eq ex_85813 (bn_sub B_85802 (show bn 1 1 (1 : Int32) from bn_k (by decide)) (by decide))) (by decide)) (bn_w bfc85841_18 (by decide)) ⟨by have z9 := (la_sub ex_85813 (rfl : y0_f17.toInt = y0_f17.toInt) (show (1 : Int32).toInt = 1 from rfl) B_85802 (show bn 1 1 (1 : Int32) from bn_k (by decide)) (by decide)); have z8 := hS.1; have z7 := e13_85841; omega, by have z9 := (la_sub ex_85813 (rfl : y0_f17.toInt = y0_f17.toInt) (show (1 : Int32).toInt = 1 from rfl) B_85802 (show bn 1 1 (1 : Int32) from bn_k (by decide)) (by decide)); have z8 := hS.2.1; omega, dR_pop (by have z9 := (la_sub ex_85813 (rfl : y0_f17.toInt = y0_f17.toInt) (show (1 : Int32).toInt = 1 from rfl) B_85802 (show bn 1 1 (1 : Int32) from bn_k (by decide)) (by decide)); omega) hpd hle hS.2.2⟩ p_ad_0_0 p_ad_4_0 p_ad_5_0 p_ad_6_0 rfl Y (lv_sub hl [0, 1] rfl)
              · have B_85857 : bn 20 20 v_85855 := bn_w (bn_eq c_85856 (show bn 20 20 (20 : Int32) from bn_k (by decide))) (by decide)
                have B_85861 : bn 1 8 y0_f18 := ⟨XS_op hX0 hpd hl1 hle (show rk (topv gp y0_f17) = 7 ∨ topv gp y0_f17 = 20 from (Or.inr (tv_85855.symm.trans (show v_85855.toInt = 20 from by rw [c_85856]; rfl)))), (bf0_18).2⟩
                refine lv_aload_n hx hb dX12_settle_94 rfl (lv_at hl 0 rfl) ?_
                refine lv_dup hx hb dX12_settle_95 rfl ?_
                refine pg_get S Y ok_X12 18 (by decide) kf12_152 (v := .int y0_f18) p_ad_0_0 rfl dX12_settle_96 ?_
                refine lv_iconst (v := 1) hx hb dX12_settle_99 (by decide) ?_
                refine lv_isub hx hb dX12_settle_100 ?_
                refine lv_topi (fun x_85862 ex_85862 => ?_)
                refine pg_put S Y ok_X12 18 (by decide) kf12_152 rfl (fs' := [.ref (ad 1 0), .ref (ad 2 0), .ref (ad 3 0), .ref (ad 4 0), .int td, .int fa, .int fp, .int at9, .int ps9, .int tk, .int nu, .long wd, .int t0, .int v_85840, .int so, .ref (ad 5 0), .ref (ad 6 0), .int x_85813, .int x_85862, .int cg, .int iw, .int on9, .ref (ad 7 0), .ref (ad 8 0), .ref (ad 9 0), .int is9, .ref (ad 10 0), .ref (ad 11 0), .ref (ad 12 0), .ref (ad 13 0), .int se, .ref (ad 14 0)]) (v := .int x_85862) p_ad_0_0 rfl rfl rfl (Nat.le_of_ble_eq_true rfl) dX12_settle_101 (fun f_85863 H locs ef_85863 Y => ?_)
                have p_ad_4_0 := p_ad_4_0.up ef_85863 (I.ne (k := 4) (j := 0) (k' := 0) (j' := 0) (by decide) (by decide) (Or.inl (by decide)))
                have p_ad_5_0 := p_ad_5_0.up ef_85863 (I.ne (k := 5) (j := 0) (k' := 0) (j' := 0) (by decide) (by decide) (Or.inl (by decide)))
                have p_ad_6_0 := p_ad_6_0.up ef_85863 (I.ne (k := 6) (j := 0) (k' := 0) (j' := 0) (by decide) (by decide) (Or.inl (by decide)))
                have p_ad_0_0 := p_ad_0_0.me ef_85863
                have I := I.up (k := 0) (j := 0) (by decide) ef_85863 (okE_o (okFs_c okV_r (okFs_c okV_r (okFs_c okV_r (okFs_c okV_r (okFs_c (okV_p bfc85841_4) (okFs_c (okV_p bfc85841_5) (okFs_c (okV_p bfc85841_6) (okFs_c (okV_i bfc85841_7) (okFs_c (okV_i bfc85841_8) (okFs_c (okV_i (bn_any _)) (okFs_c (okV_i (bn_any _)) (okFs_c okV_l (okFs_c (okV_i bfc85841_12) (okFs_c (okV_i bfc85841_13) (okFs_c (okV_i (bn_any _)) (okFs_c okV_r (okFs_c okV_r (okFs_c (okV_i bfc85841_17) (okFs_c (okV_i (bn_w (bn_eq ex_85862 (bn_sub B_85861 (show bn 1 1 (1 : Int32) from bn_k (by decide)) (by decide))) (by decide))) (okFs_c (okV_i bfc85841_19) (okFs_c (okV_i bfc85841_20) (okFs_c (okV_i (bn_any _)) (okFs_c okV_r (okFs_c okV_r (okFs_c okV_r (okFs_c (okV_i bfc85841_25) (okFs_c okV_r (okFs_c okV_r (okFs_c okV_r (okFs_c okV_r (okFs_c (okV_i (bn_any _)) (okFs_c okV_r okFs_n)))))))))))))))))))))))))))))))))
                refine lv_goto (tgt := 0) hx hb dX12_settle_104 (by decide) ?_
                obtain ⟨g_85864, p_ad_3_0, o_85865⟩ := I.opi (k := 3) (j := 0) (by decide) rfl
                have p_ad_3_0 : pt L_85837 f_85863 (ad 3 0) (.inl (G.2 0, 2916, .inl g_85864)) := p_ad_3_0
                have o_85866 : (XS gB fr gp gc i1.toInt.toNat opn cur0 cmp0 t0 v_85840 x_85813 x_85862 cg) g_85864 := (XS_pop o_85865 rfl e13_85841 B_85812 (by have z9 := (la_sub ex_85813 (rfl : y0_f17.toInt = y0_f17.toInt) (show (1 : Int32).toInt = 1 from rfl) B_85802 (show bn 1 1 (1 : Int32) from bn_k (by decide)) (by decide)); omega) (by have z9 := (la_sub ex_85813 (rfl : y0_f17.toInt = y0_f17.toInt) (show (1 : Int32).toInt = 1 from rfl) B_85802 (show bn 1 1 (1 : Int32) from bn_k (by decide)) (by decide)); have z8 := hpd; omega) tv_85836 (fun h => (show ¬ v_85815.toInt = 16 from fun z => c_85816 (Int32.toInt_inj.mp (z.trans rfl))) (tv_85815.trans h)) hl1 hle (Or.inl ⟨(show rk (topv gp y0_f17) = 7 ∨ topv gp y0_f17 = 20 from (Or.inr (tv_85855.symm.trans (show v_85855.toInt = 20 from by rw [c_85856]; rfl)))), by have z9 := (la_sub ex_85862 (rfl : y0_f18.toInt = y0_f18.toInt) (show (1 : Int32).toInt = 1 from rfl) B_85861 (show bn 1 1 (1 : Int32) from bn_k (by decide)) (by decide)); omega⟩))
                have I := I.castS (sp' := spM PA PI (XS gB fr gp gc i1.toInt.toNat opn cur0 cmp0 t0 v_85840 x_85813 x_85862 cg) pa) (k := 3) (j := 0) (by decide) p_ad_3_0 (okE_a (g := g_85864) o_85866) pXC
                exact ih0 _ (by rw [← hm0]; exact (show x_85813.toInt.toNat < y0_f17.toInt.toNat from by have z9 := (la_sub ex_85813 (rfl : y0_f17.toInt = y0_f17.toInt) (show (1 : Int32).toInt = 1 from rfl) B_85802 (show bn 1 1 (1 : Int32) from bn_k (by decide)) (by decide)); have z8 := hpd; omega)) v_85840 x_85813 x_85862 _ _  _ _ _ I (bn_w bfc85841_13 (by decide)) (bn_w (bn_eq ex_85813 (bn_sub B_85802 (show bn 1 1 (1 : Int32) from bn_k (by decide)) (by decide))) (by decide)) (bn_w (bn_eq ex_85862 (bn_sub B_85861 (show bn 1 1 (1 : Int32) from bn_k (by decide)) (by decide))) (by decide)) ⟨by have z9 := (la_sub ex_85813 (rfl : y0_f17.toInt = y0_f17.toInt) (show (1 : Int32).toInt = 1 from rfl) B_85802 (show bn 1 1 (1 : Int32) from bn_k (by decide)) (by decide)); have z8 := hS.1; have z7 := e13_85841; omega, by have z9 := (la_sub ex_85813 (rfl : y0_f17.toInt = y0_f17.toInt) (show (1 : Int32).toInt = 1 from rfl) B_85802 (show bn 1 1 (1 : Int32) from bn_k (by decide)) (by decide)); have z8 := hS.2.1; omega, dR_pop (by have z9 := (la_sub ex_85813 (rfl : y0_f17.toInt = y0_f17.toInt) (show (1 : Int32).toInt = 1 from rfl) B_85802 (show bn 1 1 (1 : Int32) from bn_k (by decide)) (by decide)); omega) hpd hle hS.2.2⟩ p_ad_0_0 p_ad_4_0 p_ad_5_0 p_ad_6_0 rfl Y (lv_sub hl [0, 1] rfl)
  exact J_0 _ wr pd op9 _ _  _ _ _ I (bn_w bfe_13 (by decide)) (bn_w bfe_17 (by decide)) (bn_w bfe_18 (by decide)) ⟨Int.le_refl _, Int.le_refl _, rfl⟩ p_ad_0_0 p_ad_4_0 p_ad_5_0 p_ad_6_0 rfl Y (lv_sub hl [0, 1] rfl)
