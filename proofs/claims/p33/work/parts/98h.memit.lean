theorem dX12_emit_0 : decode cX12_emit 0 = .ok (.aload_n 0, 1) := by decide +kernel
theorem dX12_emit_1 : decode cX12_emit 1 = .ok (.getfield 16, 3) := by decide +kernel
theorem dX12_emit_4 : decode cX12_emit 4 = .ok (.aload_n 0, 1) := by decide +kernel
theorem dX12_emit_5 : decode cX12_emit 5 = .ok (.getfield 136, 3) := by decide +kernel
theorem kf12_136 : inW (Cond.fieldLink RX12 136 "KneeOathsModel" "text0" "I") := ⟨List.mem_of_getElem? (i := 1510) (by decide +kernel), by decide +kernel⟩
theorem dX12_emit_8 : decode cX12_emit 8 = .ok (.bipush 121, 2) := by decide +kernel
theorem dX12_emit_10 : decode cX12_emit 10 = .ok (.iadd, 1) := by decide +kernel
theorem dX12_emit_11 : decode cX12_emit 11 = .ok (.iconst 2, 1) := by decide +kernel
theorem dX12_emit_12 : decode cX12_emit 12 = .ok (.aload_n 0, 1) := by decide +kernel
theorem dX12_emit_13 : decode cX12_emit 13 = .ok (.getfield 139, 3) := by decide +kernel
theorem kf12_139 : inW (Cond.fieldLink RX12 139 "KneeOathsModel" "written" "I") := ⟨List.mem_of_getElem? (i := 1511) (by decide +kernel), by decide +kernel⟩
theorem dX12_emit_16 : decode cX12_emit 16 = .ok (.imul, 1) := by decide +kernel
theorem dX12_emit_17 : decode cX12_emit 17 = .ok (.iadd, 1) := by decide +kernel
theorem dX12_emit_18 : decode cX12_emit 18 = .ok (.iload_n 1, 1) := by decide +kernel
theorem dX12_emit_19 : decode cX12_emit 19 = .ok (.iastore, 1) := by decide +kernel
theorem dX12_emit_20 : decode cX12_emit 20 = .ok (.aload_n 0, 1) := by decide +kernel
theorem dX12_emit_21 : decode cX12_emit 21 = .ok (.getfield 16, 3) := by decide +kernel
theorem dX12_emit_24 : decode cX12_emit 24 = .ok (.aload_n 0, 1) := by decide +kernel
theorem dX12_emit_25 : decode cX12_emit 25 = .ok (.getfield 136, 3) := by decide +kernel
theorem dX12_emit_28 : decode cX12_emit 28 = .ok (.bipush 121, 2) := by decide +kernel
theorem dX12_emit_30 : decode cX12_emit 30 = .ok (.iadd, 1) := by decide +kernel
theorem dX12_emit_31 : decode cX12_emit 31 = .ok (.iconst 2, 1) := by decide +kernel
theorem dX12_emit_32 : decode cX12_emit 32 = .ok (.aload_n 0, 1) := by decide +kernel
theorem dX12_emit_33 : decode cX12_emit 33 = .ok (.getfield 139, 3) := by decide +kernel
theorem dX12_emit_36 : decode cX12_emit 36 = .ok (.imul, 1) := by decide +kernel
theorem dX12_emit_37 : decode cX12_emit 37 = .ok (.iadd, 1) := by decide +kernel
theorem dX12_emit_38 : decode cX12_emit 38 = .ok (.iconst 1, 1) := by decide +kernel
theorem dX12_emit_39 : decode cX12_emit 39 = .ok (.iadd, 1) := by decide +kernel
theorem dX12_emit_40 : decode cX12_emit 40 = .ok (.iload_n 2, 1) := by decide +kernel
theorem dX12_emit_41 : decode cX12_emit 41 = .ok (.iastore, 1) := by decide +kernel
theorem dX12_emit_42 : decode cX12_emit 42 = .ok (.aload_n 0, 1) := by decide +kernel
theorem dX12_emit_43 : decode cX12_emit 43 = .ok (.dup, 1) := by decide +kernel
theorem dX12_emit_44 : decode cX12_emit 44 = .ok (.getfield 139, 3) := by decide +kernel
theorem dX12_emit_47 : decode cX12_emit 47 = .ok (.iconst 1, 1) := by decide +kernel
theorem dX12_emit_48 : decode cX12_emit 48 = .ok (.iadd, 1) := by decide +kernel
theorem dX12_emit_49 : decode cX12_emit 49 = .ok (.putfield 139, 3) := by decide +kernel
theorem dX12_emit_52 : decode cX12_emit 52 = .ok (.return_, 1) := by decide +kernel
theorem dX12_settle_0 : decode cX12_settle 0 = .ok (.aload_n 0, 1) := by decide +kernel
theorem dX12_settle_1 : decode cX12_settle 1 = .ok (.getfield 142, 3) := by decide +kernel
theorem dX12_settle_4 : decode cX12_settle 4 = .ok (.ifCond .le 103, 3) := by decide +kernel
theorem dX12_settle_107 : decode cX12_settle 107 = .ok (.return_, 1) := by decide +kernel
theorem dX12_settle_7 : decode cX12_settle 7 = .ok (.aload_n 0, 1) := by decide +kernel
theorem dX12_settle_8 : decode cX12_settle 8 = .ok (.getfield 29, 3) := by decide +kernel
theorem dX12_settle_11 : decode cX12_settle 11 = .ok (.aload_n 0, 1) := by decide +kernel
theorem dX12_settle_12 : decode cX12_settle 12 = .ok (.getfield 142, 3) := by decide +kernel
theorem dX12_settle_15 : decode cX12_settle 15 = .ok (.iconst 1, 1) := by decide +kernel
theorem dX12_settle_16 : decode cX12_settle 16 = .ok (.isub, 1) := by decide +kernel
theorem dX12_settle_17 : decode cX12_settle 17 = .ok (.iaload, 1) := by decide +kernel
theorem dX12_settle_18 : decode cX12_settle 18 = .ok (.invokestatic 145, 3) := by decide +kernel
theorem dX12_settle_21 : decode cX12_settle 21 = .ok (.iload_n 1, 1) := by decide +kernel
theorem dX12_settle_22 : decode cX12_settle 22 = .ok (.if_icmp .lt 85, 3) := by decide +kernel
theorem dX12_settle_25 : decode cX12_settle 25 = .ok (.aload_n 0, 1) := by decide +kernel
theorem dX12_settle_26 : decode cX12_settle 26 = .ok (.dup, 1) := by decide +kernel
theorem dX12_settle_27 : decode cX12_settle 27 = .ok (.getfield 142, 3) := by decide +kernel
theorem dX12_settle_30 : decode cX12_settle 30 = .ok (.iconst 1, 1) := by decide +kernel
theorem dX12_settle_31 : decode cX12_settle 31 = .ok (.isub, 1) := by decide +kernel
theorem dX12_settle_32 : decode cX12_settle 32 = .ok (.putfield 142, 3) := by decide +kernel
theorem dX12_settle_35 : decode cX12_settle 35 = .ok (.aload_n 0, 1) := by decide +kernel
theorem dX12_settle_36 : decode cX12_settle 36 = .ok (.getfield 29, 3) := by decide +kernel
theorem dX12_settle_39 : decode cX12_settle 39 = .ok (.aload_n 0, 1) := by decide +kernel
theorem dX12_settle_40 : decode cX12_settle 40 = .ok (.getfield 142, 3) := by decide +kernel
theorem dX12_settle_43 : decode cX12_settle 43 = .ok (.iaload, 1) := by decide +kernel
theorem dX12_settle_44 : decode cX12_settle 44 = .ok (.bipush 16, 2) := by decide +kernel
theorem dX12_settle_46 : decode cX12_settle 46 = .ok (.if_icmp .eq 17, 3) := by decide +kernel
theorem dX12_settle_63 : decode cX12_settle 63 = .ok (.aload_n 0, 1) := by decide +kernel
theorem dX12_settle_64 : decode cX12_settle 64 = .ok (.getfield 29, 3) := by decide +kernel
theorem dX12_settle_67 : decode cX12_settle 67 = .ok (.aload_n 0, 1) := by decide +kernel
theorem dX12_settle_68 : decode cX12_settle 68 = .ok (.getfield 142, 3) := by decide +kernel
theorem dX12_settle_71 : decode cX12_settle 71 = .ok (.iaload, 1) := by decide +kernel
theorem dX12_settle_72 : decode cX12_settle 72 = .ok (.invokestatic 145, 3) := by decide +kernel
theorem dX12_settle_75 : decode cX12_settle 75 = .ok (.bipush 7, 2) := by decide +kernel
theorem dX12_settle_77 : decode cX12_settle 77 = .ok (.if_icmp .eq 17, 3) := by decide +kernel
theorem dX12_settle_94 : decode cX12_settle 94 = .ok (.aload_n 0, 1) := by decide +kernel
theorem dX12_settle_95 : decode cX12_settle 95 = .ok (.dup, 1) := by decide +kernel
theorem dX12_settle_96 : decode cX12_settle 96 = .ok (.getfield 152, 3) := by decide +kernel
theorem kf12_152 : inW (Cond.fieldLink RX12 152 "KneeOathsModel" "opens" "I") := ⟨List.mem_of_getElem? (i := 1516) (by decide +kernel), by decide +kernel⟩
theorem dX12_settle_99 : decode cX12_settle 99 = .ok (.iconst 1, 1) := by decide +kernel
theorem dX12_settle_100 : decode cX12_settle 100 = .ok (.isub, 1) := by decide +kernel
theorem dX12_settle_101 : decode cX12_settle 101 = .ok (.putfield 152, 3) := by decide +kernel
theorem dX12_settle_104 : decode cX12_settle 104 = .ok (.goto (-104), 3) := by decide +kernel
theorem dX12_settle_80 : decode cX12_settle 80 = .ok (.aload_n 0, 1) := by decide +kernel
theorem dX12_settle_81 : decode cX12_settle 81 = .ok (.getfield 29, 3) := by decide +kernel
theorem dX12_settle_84 : decode cX12_settle 84 = .ok (.aload_n 0, 1) := by decide +kernel
theorem dX12_settle_85 : decode cX12_settle 85 = .ok (.getfield 142, 3) := by decide +kernel
theorem dX12_settle_88 : decode cX12_settle 88 = .ok (.iaload, 1) := by decide +kernel
theorem dX12_settle_89 : decode cX12_settle 89 = .ok (.bipush 20, 2) := by decide +kernel
theorem dX12_settle_91 : decode cX12_settle 91 = .ok (.if_icmp .ne (-91), 3) := by decide +kernel
theorem dX12_settle_49 : decode cX12_settle 49 = .ok (.aload_n 0, 1) := by decide +kernel
theorem dX12_settle_50 : decode cX12_settle 50 = .ok (.aload_n 0, 1) := by decide +kernel
theorem dX12_settle_51 : decode cX12_settle 51 = .ok (.getfield 29, 3) := by decide +kernel
theorem dX12_settle_54 : decode cX12_settle 54 = .ok (.aload_n 0, 1) := by decide +kernel
theorem dX12_settle_55 : decode cX12_settle 55 = .ok (.getfield 142, 3) := by decide +kernel
theorem dX12_settle_58 : decode cX12_settle 58 = .ok (.iaload, 1) := by decide +kernel
theorem dX12_settle_59 : decode cX12_settle 59 = .ok (.iconst 0, 1) := by decide +kernel
theorem dX12_settle_60 : decode cX12_settle 60 = .ok (.invokevirtual 148, 3) := by decide +kernel
theorem cw_X12_emit : CWv yX12_emit cX12_emit 3 none 2 := ⟨⟨⟨List.mem_of_getElem? (i := 137) (by decide +kernel), by decide +kernel⟩, ⟨List.mem_of_getElem? (i := 1740) (by decide +kernel), by decide +kernel⟩, by decide +kernel⟩, ⟨List.mem_of_getElem? (i := 1739) (by decide +kernel), by decide +kernel⟩, ⟨List.mem_of_getElem? (i := 71) (by decide +kernel), by decide +kernel⟩⟩
theorem km12_148 : inW (Cond.methodLink RX12 148 yX12_emit) := ⟨List.mem_of_getElem? (i := 1737) (by decide +kernel), by decide +kernel⟩
set_option maxHeartbeats 4000000 in
set_option maxRecDepth 100000 in
theorem x_X12_emit {l : Launch} {G : GG}  {L : List Nat} {f : HF} {ad : Nat → Nat → Nat} {pa : (Nat → Int32) → Prop} {PA : (Nat → Int32) → Prop} {PI : (Nat → Int32) → Prop} {PX : (Nat → Int32) → Prop} {i1 i2 : Int32} {td fa fp at9 ps9 tk nu t0 wr so pd op9 cg iw on9 is9 se : Int32} {wd : Int64} {gp gc : Nat → Int32} (I : SH (spM PA PI PX pa) nnM G ad L f) (p_ad_0_0 : pt L f (ad 0 0) (.inr (12, [.ref (ad 1 0), .ref (ad 2 0), .ref (ad 3 0), .ref (ad 4 0), .int td, .int fa, .int fp, .int at9, .int ps9, .int tk, .int nu, .long wd, .int t0, .int wr, .int so, .ref (ad 5 0), .ref (ad 6 0), .int pd, .int op9, .int cg, .int iw, .int on9, .ref (ad 7 0), .ref (ad 8 0), .ref (ad 9 0), .int is9, .ref (ad 10 0), .ref (ad 11 0), .ref (ad 12 0), .ref (ad 13 0), .int se, .ref (ad 14 0)]))) (p_ad_5_0 : pt L f (ad 5 0) (.inl (G.2 0, 160, .inl gp))) (p_ad_6_0 : pt L f (ad 6 0) (.inl (G.2 0, 9, .inl gc))) (hw : bn 0 299 wr) : PMv l yX12_emit cX12_emit 3 0 0 0 G [.ref (ad 0 0), .int i1, .int i2] L f (fun L1 f1 => ∃ wr2 : Int32, SH (spM PA PI (EM (EM PX (t0.toInt.toNat + 121 + 2 * wr.toInt.toNat) i1) ((t0.toInt.toNat + 121 + 2 * wr.toInt.toNat) + 1) i2) pa) nnM G ad L1 f1 ∧ pt L1 f1 (ad 0 0) (.inr (12, [.ref (ad 1 0), .ref (ad 2 0), .ref (ad 3 0), .ref (ad 4 0), .int td, .int fa, .int fp, .int at9, .int ps9, .int tk, .int nu, .long wd, .int t0, .int wr2, .int so, .ref (ad 5 0), .ref (ad 6 0), .int pd, .int op9, .int cg, .int iw, .int on9, .ref (ad 7 0), .ref (ad 8 0), .ref (ad 9 0), .int is9, .ref (ad 10 0), .ref (ad 11 0), .ref (ad 12 0), .ref (ad 13 0), .int se, .ref (ad 14 0)])) ∧ pt L1 f1 (ad 5 0) (.inl (G.2 0, 160, .inl gp)) ∧ pt L1 f1 (ad 6 0) (.inl (G.2 0, 9, .inl gc)) ∧ wr2.toInt = wr.toInt + 1) := by
  refine PMv.of (post := fun L1 f1 => ∃ wr2 : Int32, SH (spM PA PI (EM (EM PX (t0.toInt.toNat + 121 + 2 * wr.toInt.toNat) i1) ((t0.toInt.toNat + 121 + 2 * wr.toInt.toNat) + 1) i2) pa) nnM G ad L1 f1 ∧ pt L1 f1 (ad 0 0) (.inr (12, [.ref (ad 1 0), .ref (ad 2 0), .ref (ad 3 0), .ref (ad 4 0), .int td, .int fa, .int fp, .int at9, .int ps9, .int tk, .int nu, .long wd, .int t0, .int wr2, .int so, .ref (ad 5 0), .ref (ad 6 0), .int pd, .int op9, .int cg, .int iw, .int on9, .ref (ad 7 0), .ref (ad 8 0), .ref (ad 9 0), .int is9, .ref (ad 10 0), .ref (ad 11 0), .ref (ad 12 0), .ref (ad 13 0), .int se, .ref (ad 14 0)])) ∧ pt L1 f1 (ad 5 0) (.inl (G.2 0, 160, .inl gp)) ∧ pt L1 f1 (ad 6 0) (.inl (G.2 0, 9, .inl gc)) ∧ wr2.toInt = wr.toInt + 1) (own := RX12) (by decide) rfl (Nat.le_of_ble_eq_true rfl) (fun sz p e s m args below meth c A ls hA1 hname S Y hl => ?_)
  have hx := S.hx
  have hb := S.hb
  have hl : lv_has ls 3 [(0, .ref (ad 0 0)), (1, .int i1), (2, .int i2)] := hl
  obtain ⟨bfe_4, bfe_7, bfe_8, bfe_12, bfe_13, bfe_17, bfe_18, bfe_19, bfe_20, bfe_25⟩ := obM I p_ad_0_0
  refine lv_aload_n hx hb dX12_emit_0 rfl (lv_at hl 0 rfl) ?_
  refine pg_get S Y ok_X12 2 (by decide) kf12_16 (v := .ref (ad 3 0)) p_ad_0_0 rfl dX12_emit_1 ?_
  refine lv_aload_n hx hb dX12_emit_4 rfl (lv_at hl 0 rfl) ?_
  refine pg_get S Y ok_X12 12 (by decide) kf12_136 (v := .int t0) p_ad_0_0 rfl dX12_emit_5 ?_
  refine lv_bipush (v := 121) hx hb dX12_emit_8 (by decide) ?_
  refine lv_iadd hx hb dX12_emit_10 ?_
  refine lv_topi (fun x_85341 ex_85341 => ?_)
  refine lv_iconst (v := 2) hx hb dX12_emit_11 (by decide) ?_
  refine lv_aload_n hx hb dX12_emit_12 rfl (lv_at hl 0 rfl) ?_
  refine pg_get S Y ok_X12 13 (by decide) kf12_139 (v := .int wr) p_ad_0_0 rfl dX12_emit_13 ?_
  refine lv_imul hx hb dX12_emit_16 ?_
  refine lv_topi (fun x_85342 ex_85342 => ?_)
  refine lv_iadd hx hb dX12_emit_17 ?_
  refine lv_topi (fun x_85343 ex_85343 => ?_)
  refine lv_iload_n hx hb dX12_emit_18 rfl (lv_at hl 1 rfl) ?_
  obtain ⟨g_85344, p_ad_3_0, o_85345⟩ := I.opi (k := 3) (j := 0) (by decide) rfl
  have p_ad_3_0 : pt L f (ad 3 0) (.inl (G.2 0, 2916, .inl g_85344)) := p_ad_3_0
  refine pg_iast S Y p_ad_3_0 (vp_bn (bn_eq ex_85343 (bn_add (bn_eq ex_85341 (bn_add bfe_12 (show bn 121 121 (121 : Int32) from bn_k (by decide)) (by decide))) (bn_eq ex_85342 (bn_mul (show bn 2 2 (2 : Int32) from bn_k (by decide)) hw (by decide))) (by decide))) (by decide)) dX12_emit_19 (fun f_85347 H locs ef_85347 Y => ?_)
  obtain ⟨g_85346, eg_85346⟩ : ∃ z, z = upd (g_85344) (x_85343 : Int32).toNatClampNeg i1 := ⟨_, rfl⟩
  rw [← eg_85346] at ef_85347
  have p_ad_0_0 := p_ad_0_0.up ef_85347 (I.ne (k := 0) (j := 0) (k' := 3) (j' := 0) (by decide) (by decide) (Or.inl (by decide)))
  have p_ad_5_0 := p_ad_5_0.up ef_85347 (I.ne (k := 5) (j := 0) (k' := 3) (j' := 0) (by decide) (by decide) (Or.inl (by decide)))
  have p_ad_6_0 := p_ad_6_0.up ef_85347 (I.ne (k := 6) (j := 0) (k' := 3) (j' := 0) (by decide) (by decide) (Or.inl (by decide)))
  have p_ad_3_0 := p_ad_3_0.me ef_85347
  have o_85352 : (EM PX (t0.toInt.toNat + 121 + 2 * wr.toInt.toNat) i1) g_85346 := (by rw [eg_85346, show (x_85343 : Int32).toNatClampNeg = (t0.toInt.toNat + 121 + 2 * wr.toInt.toNat) from (by have z9 := (la_add ex_85343 (la_add ex_85341 (rfl : t0.toInt = t0.toInt) (show (121 : Int32).toInt = 121 from rfl) bfe_12 (show bn 121 121 (121 : Int32) from bn_k (by decide)) (by decide)) (la_mul ex_85342 (show (2 : Int32).toInt = 2 from rfl) (rfl : wr.toInt = wr.toInt) (show bn 2 2 (2 : Int32) from bn_k (by decide)) hw (by decide)) (bn_eq ex_85341 (bn_add bfe_12 (show bn 121 121 (121 : Int32) from bn_k (by decide)) (by decide))) (bn_eq ex_85342 (bn_mul (show bn 2 2 (2 : Int32) from bn_k (by decide)) hw (by decide))) (by decide)); have z_85348 := (bfe_12).1; have z_85349 := (bfe_12).2; have z_85350 := (hw).1; have z_85351 := (hw).2; simp only [tnc]; omega)]; exact ⟨_, o_85345, rfl⟩)
  have I := I.upS (sp' := spM PA PI (EM PX (t0.toInt.toNat + 121 + 2 * wr.toInt.toNat) i1) pa) (k := 3) (j := 0) (by decide) ef_85347 (okE_a (g := g_85346) o_85352) pXC
  refine lv_aload_n hx hb dX12_emit_20 rfl (lv_at hl 0 rfl) ?_
  refine pg_get S Y ok_X12 2 (by decide) kf12_16 (v := .ref (ad 3 0)) p_ad_0_0 rfl dX12_emit_21 ?_
  refine lv_aload_n hx hb dX12_emit_24 rfl (lv_at hl 0 rfl) ?_
  refine pg_get S Y ok_X12 12 (by decide) kf12_136 (v := .int t0) p_ad_0_0 rfl dX12_emit_25 ?_
  refine lv_bipush (v := 121) hx hb dX12_emit_28 (by decide) ?_
  refine lv_iadd hx hb dX12_emit_30 ?_
  refine lv_topi (fun x_85353 ex_85353 => ?_)
  refine lv_iconst (v := 2) hx hb dX12_emit_31 (by decide) ?_
  refine lv_aload_n hx hb dX12_emit_32 rfl (lv_at hl 0 rfl) ?_
  refine pg_get S Y ok_X12 13 (by decide) kf12_139 (v := .int wr) p_ad_0_0 rfl dX12_emit_33 ?_
  refine lv_imul hx hb dX12_emit_36 ?_
  refine lv_topi (fun x_85354 ex_85354 => ?_)
  refine lv_iadd hx hb dX12_emit_37 ?_
  refine lv_topi (fun x_85355 ex_85355 => ?_)
  refine lv_iconst (v := 1) hx hb dX12_emit_38 (by decide) ?_
  refine lv_iadd hx hb dX12_emit_39 ?_
  refine lv_topi (fun x_85356 ex_85356 => ?_)
  have B_85357 : bn 122 2907 x_85356 := bn_w (bn_eq ex_85356 (bn_add (bn_eq ex_85355 (bn_add (bn_eq ex_85353 (bn_add bfe_12 (show bn 121 121 (121 : Int32) from bn_k (by decide)) (by decide))) (bn_eq ex_85354 (bn_mul (show bn 2 2 (2 : Int32) from bn_k (by decide)) hw (by decide))) (by decide))) (show bn 1 1 (1 : Int32) from bn_k (by decide)) (by decide))) (by decide)
  refine lv_iload_n hx hb dX12_emit_40 rfl (lv_at hl 2 rfl) ?_
  refine pg_iast S Y p_ad_3_0 (vp_bn B_85357 (by decide)) dX12_emit_41 (fun f_85359 H locs ef_85359 Y => ?_)
  obtain ⟨g_85358, eg_85358⟩ : ∃ z, z = upd (g_85346) (x_85356 : Int32).toNatClampNeg i2 := ⟨_, rfl⟩
  rw [← eg_85358] at ef_85359
  have p_ad_0_0 := p_ad_0_0.up ef_85359 (I.ne (k := 0) (j := 0) (k' := 3) (j' := 0) (by decide) (by decide) (Or.inl (by decide)))
  have p_ad_5_0 := p_ad_5_0.up ef_85359 (I.ne (k := 5) (j := 0) (k' := 3) (j' := 0) (by decide) (by decide) (Or.inl (by decide)))
  have p_ad_6_0 := p_ad_6_0.up ef_85359 (I.ne (k := 6) (j := 0) (k' := 3) (j' := 0) (by decide) (by decide) (Or.inl (by decide)))
  have p_ad_3_0 := p_ad_3_0.me ef_85359
  have o_85364 : (EM (EM PX (t0.toInt.toNat + 121 + 2 * wr.toInt.toNat) i1) ((t0.toInt.toNat + 121 + 2 * wr.toInt.toNat) + 1) i2) g_85358 := (by rw [eg_85358, show (x_85356 : Int32).toNatClampNeg = ((t0.toInt.toNat + 121 + 2 * wr.toInt.toNat) + 1) from (by have z9 := (la_add ex_85356 (la_add ex_85355 (la_add ex_85353 (rfl : t0.toInt = t0.toInt) (show (121 : Int32).toInt = 121 from rfl) bfe_12 (show bn 121 121 (121 : Int32) from bn_k (by decide)) (by decide)) (la_mul ex_85354 (show (2 : Int32).toInt = 2 from rfl) (rfl : wr.toInt = wr.toInt) (show bn 2 2 (2 : Int32) from bn_k (by decide)) hw (by decide)) (bn_eq ex_85353 (bn_add bfe_12 (show bn 121 121 (121 : Int32) from bn_k (by decide)) (by decide))) (bn_eq ex_85354 (bn_mul (show bn 2 2 (2 : Int32) from bn_k (by decide)) hw (by decide))) (by decide)) (show (1 : Int32).toInt = 1 from rfl) (bn_eq ex_85355 (bn_add (bn_eq ex_85353 (bn_add bfe_12 (show bn 121 121 (121 : Int32) from bn_k (by decide)) (by decide))) (bn_eq ex_85354 (bn_mul (show bn 2 2 (2 : Int32) from bn_k (by decide)) hw (by decide))) (by decide))) (show bn 1 1 (1 : Int32) from bn_k (by decide)) (by decide)); have z_85360 := (bfe_12).1; have z_85361 := (bfe_12).2; have z_85362 := (hw).1; have z_85363 := (hw).2; simp only [tnc]; omega)]; exact ⟨_, o_85352, rfl⟩)
  have I := I.upS (sp' := spM PA PI (EM (EM PX (t0.toInt.toNat + 121 + 2 * wr.toInt.toNat) i1) ((t0.toInt.toNat + 121 + 2 * wr.toInt.toNat) + 1) i2) pa) (k := 3) (j := 0) (by decide) ef_85359 (okE_a (g := g_85358) o_85364) pXC
  refine lv_aload_n hx hb dX12_emit_42 rfl (lv_at hl 0 rfl) ?_
  refine lv_dup hx hb dX12_emit_43 rfl ?_
  refine pg_get S Y ok_X12 13 (by decide) kf12_139 (v := .int wr) p_ad_0_0 rfl dX12_emit_44 ?_
  refine lv_iconst (v := 1) hx hb dX12_emit_47 (by decide) ?_
  refine lv_iadd hx hb dX12_emit_48 ?_
  refine lv_topi (fun x_85365 ex_85365 => ?_)
  refine pg_put S Y ok_X12 13 (by decide) kf12_139 rfl (fs' := [.ref (ad 1 0), .ref (ad 2 0), .ref (ad 3 0), .ref (ad 4 0), .int td, .int fa, .int fp, .int at9, .int ps9, .int tk, .int nu, .long wd, .int t0, .int x_85365, .int so, .ref (ad 5 0), .ref (ad 6 0), .int pd, .int op9, .int cg, .int iw, .int on9, .ref (ad 7 0), .ref (ad 8 0), .ref (ad 9 0), .int is9, .ref (ad 10 0), .ref (ad 11 0), .ref (ad 12 0), .ref (ad 13 0), .int se, .ref (ad 14 0)]) (v := .int x_85365) p_ad_0_0 rfl rfl rfl (Nat.le_of_ble_eq_true rfl) dX12_emit_49 (fun f_85366 H locs ef_85366 Y => ?_)
  have p_ad_5_0 := p_ad_5_0.up ef_85366 (I.ne (k := 5) (j := 0) (k' := 0) (j' := 0) (by decide) (by decide) (Or.inl (by decide)))
  have p_ad_6_0 := p_ad_6_0.up ef_85366 (I.ne (k := 6) (j := 0) (k' := 0) (j' := 0) (by decide) (by decide) (Or.inl (by decide)))
  have p_ad_3_0 := p_ad_3_0.up ef_85366 (I.ne (k := 3) (j := 0) (k' := 0) (j' := 0) (by decide) (by decide) (Or.inl (by decide)))
  have p_ad_0_0 := p_ad_0_0.me ef_85366
  have I := I.up (k := 0) (j := 0) (by decide) ef_85366 (okE_o (okFs_c okV_r (okFs_c okV_r (okFs_c okV_r (okFs_c okV_r (okFs_c (okV_i bfe_4) (okFs_c (okV_i (bn_any _)) (okFs_c (okV_i (bn_any _)) (okFs_c (okV_i bfe_7) (okFs_c (okV_i bfe_8) (okFs_c (okV_i (bn_any _)) (okFs_c (okV_i (bn_any _)) (okFs_c okV_l (okFs_c (okV_i bfe_12) (okFs_c (okV_i (bn_w (bn_eq ex_85365 (bn_add hw (show bn 1 1 (1 : Int32) from bn_k (by decide)) (by decide))) (by decide))) (okFs_c (okV_i (bn_any _)) (okFs_c okV_r (okFs_c okV_r (okFs_c (okV_i bfe_17) (okFs_c (okV_i bfe_18) (okFs_c (okV_i bfe_19) (okFs_c (okV_i bfe_20) (okFs_c (okV_i (bn_any _)) (okFs_c okV_r (okFs_c okV_r (okFs_c okV_r (okFs_c (okV_i bfe_25) (okFs_c okV_r (okFs_c okV_r (okFs_c okV_r (okFs_c okV_r (okFs_c (okV_i (bn_any _)) (okFs_c okV_r okFs_n)))))))))))))))))))))))))))))))))
  exact prV (post := fun L1 f1 => ∃ wr2 : Int32, SH (spM PA PI (EM (EM PX (t0.toInt.toNat + 121 + 2 * wr.toInt.toNat) i1) ((t0.toInt.toNat + 121 + 2 * wr.toInt.toNat) + 1) i2) pa) nnM G ad L1 f1 ∧ pt L1 f1 (ad 0 0) (.inr (12, [.ref (ad 1 0), .ref (ad 2 0), .ref (ad 3 0), .ref (ad 4 0), .int td, .int fa, .int fp, .int at9, .int ps9, .int tk, .int nu, .long wd, .int t0, .int wr2, .int so, .ref (ad 5 0), .ref (ad 6 0), .int pd, .int op9, .int cg, .int iw, .int on9, .ref (ad 7 0), .ref (ad 8 0), .ref (ad 9 0), .int is9, .ref (ad 10 0), .ref (ad 11 0), .ref (ad 12 0), .ref (ad 13 0), .int se, .ref (ad 14 0)])) ∧ pt L1 f1 (ad 5 0) (.inl (G.2 0, 160, .inl gp)) ∧ pt L1 f1 (ad 6 0) (.inl (G.2 0, 9, .inl gc)) ∧ wr2.toInt = wr.toInt + 1) S Y (by decide) (by decide) hA1 ⟨x_85365, I, p_ad_0_0, p_ad_5_0, p_ad_6_0, (by have z9 := (la_add ex_85365 (rfl : wr.toInt = wr.toInt) (show (1 : Int32).toInt = 1 from rfl) hw (show bn 1 1 (1 : Int32) from bn_k (by decide)) (by decide)); omega)⟩ dX12_emit_52
set_option maxHeartbeats 4000000 in
set_option maxRecDepth 100000 in
theorem x_X12_settle {l : Launch} {G : GG}  {L : List Nat} {f : HF} {ad : Nat → Nat → Nat} {pa : (Nat → Int32) → Prop} {PA : (Nat → Int32) → Prop} {PI : (Nat → Int32) → Prop} {i1 : Int32} {td fa fp at9 ps9 tk nu t0 wr so pd op9 cg iw on9 is9 se : Int32} {wd : Int64} {gp gc : Nat → Int32} {gB : Nat → Int32} {fr : Nat} {opn : Int} {cur0 cmp0 : Bool} (I : SH (spM PA PI (XS gB fr gp gc i1.toInt.toNat opn cur0 cmp0 t0 wr pd op9 cg) pa) nnM G ad L f) (p_ad_0_0 : pt L f (ad 0 0) (.inr (12, [.ref (ad 1 0), .ref (ad 2 0), .ref (ad 3 0), .ref (ad 4 0), .int td, .int fa, .int fp, .int at9, .int ps9, .int tk, .int nu, .long wd, .int t0, .int wr, .int so, .ref (ad 5 0), .ref (ad 6 0), .int pd, .int op9, .int cg, .int iw, .int on9, .ref (ad 7 0), .ref (ad 8 0), .ref (ad 9 0), .int is9, .ref (ad 10 0), .ref (ad 11 0), .ref (ad 12 0), .ref (ad 13 0), .int se, .ref (ad 14 0)]))) (p_ad_5_0 : pt L f (ad 5 0) (.inl (G.2 0, 160, .inl gp))) (p_ad_6_0 : pt L f (ad 6 0) (.inl (G.2 0, 9, .inl gc))) (b_i1 : bn 1 7 i1) (hroom : wr.toInt + pd.toInt ≤ 300) : PMv l yX12_settle cX12_settle 2 1 0 0 G [.ref (ad 0 0), .int i1] L f (fun L1 f1 => ∃ wr2 : Int32, ∃ pd2 : Int32, ∃ op92 : Int32, SH (spM PA PI (XS gB fr gp gc i1.toInt.toNat opn cur0 cmp0 t0 wr2 pd2 op92 cg) pa) nnM G ad L1 f1 ∧ pt L1 f1 (ad 0 0) (.inr (12, [.ref (ad 1 0), .ref (ad 2 0), .ref (ad 3 0), .ref (ad 4 0), .int td, .int fa, .int fp, .int at9, .int ps9, .int tk, .int nu, .long wd, .int t0, .int wr2, .int so, .ref (ad 5 0), .ref (ad 6 0), .int pd2, .int op92, .int cg, .int iw, .int on9, .ref (ad 7 0), .ref (ad 8 0), .ref (ad 9 0), .int is9, .ref (ad 10 0), .ref (ad 11 0), .ref (ad 12 0), .ref (ad 13 0), .int se, .ref (ad 14 0)])) ∧ pt L1 f1 (ad 5 0) (.inl (G.2 0, 160, .inl gp)) ∧ pt L1 f1 (ad 6 0) (.inl (G.2 0, 9, .inl gc)) ∧ wr2.toInt + pd2.toInt ≤ wr.toInt + pd.toInt ∧ xtp gp pd2 i1.toInt.toNat ∧ pd2.toInt ≤ pd.toInt) := by
  refine PMv.of (post := fun L1 f1 => ∃ wr2 : Int32, ∃ pd2 : Int32, ∃ op92 : Int32, SH (spM PA PI (XS gB fr gp gc i1.toInt.toNat opn cur0 cmp0 t0 wr2 pd2 op92 cg) pa) nnM G ad L1 f1 ∧ pt L1 f1 (ad 0 0) (.inr (12, [.ref (ad 1 0), .ref (ad 2 0), .ref (ad 3 0), .ref (ad 4 0), .int td, .int fa, .int fp, .int at9, .int ps9, .int tk, .int nu, .long wd, .int t0, .int wr2, .int so, .ref (ad 5 0), .ref (ad 6 0), .int pd2, .int op92, .int cg, .int iw, .int on9, .ref (ad 7 0), .ref (ad 8 0), .ref (ad 9 0), .int is9, .ref (ad 10 0), .ref (ad 11 0), .ref (ad 12 0), .ref (ad 13 0), .int se, .ref (ad 14 0)])) ∧ pt L1 f1 (ad 5 0) (.inl (G.2 0, 160, .inl gp)) ∧ pt L1 f1 (ad 6 0) (.inl (G.2 0, 9, .inl gc)) ∧ wr2.toInt + pd2.toInt ≤ wr.toInt + pd.toInt ∧ xtp gp pd2 i1.toInt.toNat ∧ pd2.toInt ≤ pd.toInt) (own := RX12) (by decide) rfl (Nat.le_of_ble_eq_true rfl) (fun sz p e s m args below meth c A ls hA1 hname S Y hl => ?_)
  have hx := S.hx
  have hb := S.hb
  have hl : lv_has ls 2 [(0, .ref (ad 0 0)), (1, .int i1)] := hl
  have hl1 : 1 ≤ i1.toInt.toNat := by have z9 := b_i1.1; omega
  obtain ⟨bfe_4, bfe_7, bfe_8, bfe_12, bfe_13, bfe_17, bfe_18, bfe_19, bfe_20, bfe_25⟩ := obM I p_ad_0_0
  have J_0 : ∀ (n0 : Nat) (y0_f13 y0_f17 y0_f18 : Int32) (L_0 : List Nat) (f_0 : HF) (H : Heap) (locs : List Loc) (ls : Array Slot), (SH (spM PA PI (XS gB fr gp gc i1.toInt.toNat opn cur0 cmp0 t0 y0_f13 y0_f17 y0_f18 cg) pa) nnM G ad L_0 f_0) → (bn 0 300 y0_f13) → (bn 0 160 y0_f17) → (bn 0 8 y0_f18) → (y0_f13.toInt + y0_f17.toInt ≤ wr.toInt + pd.toInt ∧ y0_f17.toInt ≤ pd.toInt) → (pt L_0 f_0 (ad 0 0) (.inr (12, [.ref (ad 1 0), .ref (ad 2 0), .ref (ad 3 0), .ref (ad 4 0), .int td, .int fa, .int fp, .int at9, .int ps9, .int tk, .int nu, .long wd, .int t0, .int y0_f13, .int so, .ref (ad 5 0), .ref (ad 6 0), .int y0_f17, .int y0_f18, .int cg, .int iw, .int on9, .ref (ad 7 0), .ref (ad 8 0), .ref (ad 9 0), .int is9, .ref (ad 10 0), .ref (ad 11 0), .ref (ad 12 0), .ref (ad 13 0), .int se, .ref (ad 14 0)]))) → (pt L_0 f_0 (ad 5 0) (.inl (G.2 0, 160, .inl gp))) → (pt L_0 f_0 (ad 6 0) (.inl (G.2 0, 9, .inl gc))) → (y0_f17.toInt.toNat = n0) → (DY G A s [] L_0 f_0 H locs) → (lv_has ls 2 [(0, .ref (ad 0 0)), (1, .int i1)]) → W p l e (rmD 1 0 0) s m args below meth c H locs (0) (0) (MQ below (va_Qv (fun (u : List Nat × HF) => (fun L1 f1 => ∃ wr2 : Int32, ∃ pd2 : Int32, ∃ op92 : Int32, SH (spM PA PI (XS gB fr gp gc i1.toInt.toNat opn cur0 cmp0 t0 wr2 pd2 op92 cg) pa) nnM G ad L1 f1 ∧ pt L1 f1 (ad 0 0) (.inr (12, [.ref (ad 1 0), .ref (ad 2 0), .ref (ad 3 0), .ref (ad 4 0), .int td, .int fa, .int fp, .int at9, .int ps9, .int tk, .int nu, .long wd, .int t0, .int wr2, .int so, .ref (ad 5 0), .ref (ad 6 0), .int pd2, .int op92, .int cg, .int iw, .int on9, .ref (ad 7 0), .ref (ad 8 0), .ref (ad 9 0), .int is9, .ref (ad 10 0), .ref (ad 11 0), .ref (ad 12 0), .ref (ad 13 0), .int se, .ref (ad 14 0)])) ∧ pt L1 f1 (ad 5 0) (.inl (G.2 0, 160, .inl gp)) ∧ pt L1 f1 (ad 6 0) (.inl (G.2 0, 9, .inl gc)) ∧ wr2.toInt + pd2.toInt ≤ wr.toInt + pd.toInt ∧ xtp gp pd2 i1.toInt.toNat ∧ pd2.toInt ≤ pd.toInt) u.1 u.2) (fun u t => pOut G (va_A (va_pl L f) sz) u.1 u.2 t) (va_A (va_pl L f) sz)) args s 0 0 A) (F0 m 0 ls []) := by
    intro n0
    induction n0 using Nat.strongRecOn with
    | _ n0 ih0 =>
      intro y0_f13 y0_f17 y0_f18 L_0 f_0 H locs ls I b_y0_f13 b_y0_f17 b_y0_f18 hS p_ad_0_0 p_ad_5_0 p_ad_6_0 hm0 Y hl
      obtain ⟨bf0_4, bf0_7, bf0_8, bf0_12, bf0_13, bf0_17, bf0_18, bf0_19, bf0_20, bf0_25⟩ := obM I p_ad_0_0
      refine lv_aload_n hx hb dX12_settle_0 rfl (lv_at hl 0 rfl) ?_
      refine pg_get S Y ok_X12 17 (by decide) kf12_142 (v := .int y0_f17) p_ad_0_0 rfl dX12_settle_1 ?_
      refine lv_if_le (tgt := 107) hx hb dX12_settle_4 (by decide) (fun c_85477 => ?_) (fun c_85477 => ?_)
      · have B_85478 : bn 0 0 y0_f17 := bn_w (bn_lel c_85477 bf0_17 (show bn 0 0 (0 : Int32) from bn_k (by decide))) (by decide)
        exact prV (post := fun L1 f1 => ∃ wr2 : Int32, ∃ pd2 : Int32, ∃ op92 : Int32, SH (spM PA PI (XS gB fr gp gc i1.toInt.toNat opn cur0 cmp0 t0 wr2 pd2 op92 cg) pa) nnM G ad L1 f1 ∧ pt L1 f1 (ad 0 0) (.inr (12, [.ref (ad 1 0), .ref (ad 2 0), .ref (ad 3 0), .ref (ad 4 0), .int td, .int fa, .int fp, .int at9, .int ps9, .int tk, .int nu, .long wd, .int t0, .int wr2, .int so, .ref (ad 5 0), .ref (ad 6 0), .int pd2, .int op92, .int cg, .int iw, .int on9, .ref (ad 7 0), .ref (ad 8 0), .ref (ad 9 0), .int is9, .ref (ad 10 0), .ref (ad 11 0), .ref (ad 12 0), .ref (ad 13 0), .int se, .ref (ad 14 0)])) ∧ pt L1 f1 (ad 5 0) (.inl (G.2 0, 160, .inl gp)) ∧ pt L1 f1 (ad 6 0) (.inl (G.2 0, 9, .inl gc)) ∧ wr2.toInt + pd2.toInt ≤ wr.toInt + pd.toInt ∧ xtp gp pd2 i1.toInt.toNat ∧ pd2.toInt ≤ pd.toInt) S Y (by decide) (by decide) hA1 ⟨y0_f13, y0_f17, y0_f18, I, p_ad_0_0, p_ad_5_0, p_ad_6_0, hS.1, (Or.inl (by have z9 := (B_85478).1; have z8 := (B_85478).2; omega)), hS.2⟩ dX12_settle_107
      · have B_85479 : bn 1 160 y0_f17 := bn_w (bn_gtl c_85477 bf0_17 (show bn 0 0 (0 : Int32) from bn_k (by decide))) (by decide)
        refine lv_aload_n hx hb dX12_settle_7 rfl (lv_at hl 0 rfl) ?_
        refine pg_get S Y ok_X12 15 (by decide) kf12_29 (v := .ref (ad 5 0)) p_ad_0_0 rfl dX12_settle_8 ?_
        refine lv_aload_n hx hb dX12_settle_11 rfl (lv_at hl 0 rfl) ?_
        refine pg_get S Y ok_X12 17 (by decide) kf12_142 (v := .int y0_f17) p_ad_0_0 rfl dX12_settle_12 ?_
        refine lv_iconst (v := 1) hx hb dX12_settle_15 (by decide) ?_
        refine lv_isub hx hb dX12_settle_16 ?_
        refine lv_topi (fun x_85480 ex_85480 => ?_)
        obtain ⟨v_85481, ev_85481⟩ : ∃ z, z = gp (x_85480 : Int32).toNatClampNeg := ⟨_, rfl⟩
        refine pg_iald S Y (v := v_85481) p_ad_5_0 (vp_bn (bn_eq ex_85480 (bn_sub B_85479 (show bn 1 1 (1 : Int32) from bn_k (by decide)) (by decide))) (by decide)) ev_85481.symm dX12_settle_17 ?_
        have tv_85481 : v_85481.toInt = topv gp y0_f17 := topv_e ev_85481 (by have z9 := (la_sub ex_85480 (rfl : y0_f17.toInt = y0_f17.toInt) (show (1 : Int32).toInt = 1 from rfl) B_85479 (show bn 1 1 (1 : Int32) from bn_k (by decide)) (by decide)); omega)
        refine cSp (As := [.int v_85481]) (rest := []) S Y (x_X12_rank (l := l) ) cw_X12_rank km12_145 rfl ⟨Nat.le_of_ble_eq_true rfl, Nat.le_of_ble_eq_true rfl⟩ hl.1 rfl (Nat.le_of_ble_eq_true rfl) ⟨Nat.le_of_ble_eq_true rfl, Nat.le_of_ble_eq_true rfl⟩ dX12_settle_18 (fun r_85482 H locs er_85482 Y => ?_)
        have B_85483 : bn 0 7 r_85482 := bn_w (rk_bn er_85482) (by decide)
        refine lv_iload_n hx hb dX12_settle_21 rfl (lv_at hl 1 rfl) ?_
        refine lv_icmp_lt (tgt := 107) hx hb dX12_settle_22 (by decide) (fun c_85484 => ?_) (fun c_85484 => ?_)
        · have B_85485 : bn 0 6 r_85482 := bn_w (bn_ltl c_85484 B_85483 b_i1) (by decide)
          exact prV (post := fun L1 f1 => ∃ wr2 : Int32, ∃ pd2 : Int32, ∃ op92 : Int32, SH (spM PA PI (XS gB fr gp gc i1.toInt.toNat opn cur0 cmp0 t0 wr2 pd2 op92 cg) pa) nnM G ad L1 f1 ∧ pt L1 f1 (ad 0 0) (.inr (12, [.ref (ad 1 0), .ref (ad 2 0), .ref (ad 3 0), .ref (ad 4 0), .int td, .int fa, .int fp, .int at9, .int ps9, .int tk, .int nu, .long wd, .int t0, .int wr2, .int so, .ref (ad 5 0), .ref (ad 6 0), .int pd2, .int op92, .int cg, .int iw, .int on9, .ref (ad 7 0), .ref (ad 8 0), .ref (ad 9 0), .int is9, .ref (ad 10 0), .ref (ad 11 0), .ref (ad 12 0), .ref (ad 13 0), .int se, .ref (ad 14 0)])) ∧ pt L1 f1 (ad 5 0) (.inl (G.2 0, 160, .inl gp)) ∧ pt L1 f1 (ad 6 0) (.inl (G.2 0, 9, .inl gc)) ∧ wr2.toInt + pd2.toInt ≤ wr.toInt + pd.toInt ∧ xtp gp pd2 i1.toInt.toNat ∧ pd2.toInt ≤ pd.toInt) S Y (by decide) (by decide) hA1 ⟨y0_f13, y0_f17, y0_f18, I, p_ad_0_0, p_ad_5_0, p_ad_6_0, hS.1, (Or.inr (by have z9 := er_85482; have z8 := c_85484; rw [Int32.lt_iff_toInt_lt] at z8; have z7 := tv_85481; unfold topv at z7; rw [show (y0_f17.toInt - 1).toNat = y0_f17.toInt.toNat - 1 by have z6 := (B_85479).1; omega] at z7; rw [← z7]; omega)), hS.2⟩ dX12_settle_107
        · have B_85486 : bn 1 7 r_85482 := bn_w (bn_gel c_85484 B_85483 b_i1) (by decide)
          obtain ⟨g_85487, p_ad_3_0, o_85488⟩ := I.opi (k := 3) (j := 0) (by decide) rfl
          have p_ad_3_0 : pt L_0 f_0 (ad 3 0) (.inl (G.2 0, 2916, .inl g_85487)) := p_ad_3_0
          have hle : i1.toInt.toNat ≤ rk (topv gp y0_f17) := by have z9 := er_85482; have z8 := c_85484; rw [Int32.lt_iff_toInt_lt] at z8; rw [← tv_85481]; omega
          have hX0 := o_85488
          have hpd : 1 ≤ y0_f17.toInt := (B_85479).1
          have B_85489 : bn 0 299 y0_f13 := ⟨(bf0_13).1, by have z9 := hS; have z8 := hroom; omega⟩
          refine lv_aload_n hx hb dX12_settle_25 rfl (lv_at hl 0 rfl) ?_
          refine lv_dup hx hb dX12_settle_26 rfl ?_
          refine pg_get S Y ok_X12 17 (by decide) kf12_142 (v := .int y0_f17) p_ad_0_0 rfl dX12_settle_27 ?_
          refine lv_iconst (v := 1) hx hb dX12_settle_30 (by decide) ?_
          refine lv_isub hx hb dX12_settle_31 ?_
          refine lv_topi (fun x_85490 ex_85490 => ?_)
          refine pg_put S Y ok_X12 17 (by decide) kf12_142 rfl (fs' := [.ref (ad 1 0), .ref (ad 2 0), .ref (ad 3 0), .ref (ad 4 0), .int td, .int fa, .int fp, .int at9, .int ps9, .int tk, .int nu, .long wd, .int t0, .int y0_f13, .int so, .ref (ad 5 0), .ref (ad 6 0), .int x_85490, .int y0_f18, .int cg, .int iw, .int on9, .ref (ad 7 0), .ref (ad 8 0), .ref (ad 9 0), .int is9, .ref (ad 10 0), .ref (ad 11 0), .ref (ad 12 0), .ref (ad 13 0), .int se, .ref (ad 14 0)]) (v := .int x_85490) p_ad_0_0 rfl rfl rfl (Nat.le_of_ble_eq_true rfl) dX12_settle_32 (fun f_85491 H locs ef_85491 Y => ?_)
          have p_ad_5_0 := p_ad_5_0.up ef_85491 (I.ne (k := 5) (j := 0) (k' := 0) (j' := 0) (by decide) (by decide) (Or.inl (by decide)))
          have p_ad_6_0 := p_ad_6_0.up ef_85491 (I.ne (k := 6) (j := 0) (k' := 0) (j' := 0) (by decide) (by decide) (Or.inl (by decide)))
          have p_ad_3_0 := p_ad_3_0.up ef_85491 (I.ne (k := 3) (j := 0) (k' := 0) (j' := 0) (by decide) (by decide) (Or.inl (by decide)))
          have p_ad_0_0 := p_ad_0_0.me ef_85491
          have I := I.up (k := 0) (j := 0) (by decide) ef_85491 (okE_o (okFs_c okV_r (okFs_c okV_r (okFs_c okV_r (okFs_c okV_r (okFs_c (okV_i bf0_4) (okFs_c (okV_i (bn_any _)) (okFs_c (okV_i (bn_any _)) (okFs_c (okV_i bf0_7) (okFs_c (okV_i bf0_8) (okFs_c (okV_i (bn_any _)) (okFs_c (okV_i (bn_any _)) (okFs_c okV_l (okFs_c (okV_i bf0_12) (okFs_c (okV_i bf0_13) (okFs_c (okV_i (bn_any _)) (okFs_c okV_r (okFs_c okV_r (okFs_c (okV_i (bn_w (bn_eq ex_85490 (bn_sub B_85479 (show bn 1 1 (1 : Int32) from bn_k (by decide)) (by decide))) (by decide))) (okFs_c (okV_i bf0_18) (okFs_c (okV_i bf0_19) (okFs_c (okV_i bf0_20) (okFs_c (okV_i (bn_any _)) (okFs_c okV_r (okFs_c okV_r (okFs_c okV_r (okFs_c (okV_i bf0_25) (okFs_c okV_r (okFs_c okV_r (okFs_c okV_r (okFs_c okV_r (okFs_c (okV_i (bn_any _)) (okFs_c okV_r okFs_n)))))))))))))))))))))))))))))))))
          refine lv_aload_n hx hb dX12_settle_35 rfl (lv_at hl 0 rfl) ?_
          refine pg_get S Y ok_X12 15 (by decide) kf12_29 (v := .ref (ad 5 0)) p_ad_0_0 rfl dX12_settle_36 ?_
          refine lv_aload_n hx hb dX12_settle_39 rfl (lv_at hl 0 rfl) ?_
          refine pg_get S Y ok_X12 17 (by decide) kf12_142 (v := .int x_85490) p_ad_0_0 rfl dX12_settle_40 ?_
          obtain ⟨v_85492, ev_85492⟩ : ∃ z, z = gp (x_85490 : Int32).toNatClampNeg := ⟨_, rfl⟩
          refine pg_iald S Y (v := v_85492) p_ad_5_0 (vp_bn (bn_eq ex_85490 (bn_sub B_85479 (show bn 1 1 (1 : Int32) from bn_k (by decide)) (by decide))) (by decide)) ev_85492.symm dX12_settle_43 ?_
          have tv_85492 : v_85492.toInt = topv gp y0_f17 := topv_e ev_85492 (by have z9 := (la_sub ex_85490 (rfl : y0_f17.toInt = y0_f17.toInt) (show (1 : Int32).toInt = 1 from rfl) B_85479 (show bn 1 1 (1 : Int32) from bn_k (by decide)) (by decide)); omega)
          refine lv_bipush (v := 16) hx hb dX12_settle_44 (by decide) ?_
          refine lv_icmp_eq (tgt := 63) hx hb dX12_settle_46 (by decide) (fun c_85493 => ?_) (fun c_85493 => ?_)
          · have B_85494 : bn 16 16 v_85492 := bn_w (bn_eq c_85493 (show bn 16 16 (16 : Int32) from bn_k (by decide))) (by decide)
            refine lv_aload_n hx hb dX12_settle_63 rfl (lv_at hl 0 rfl) ?_
            refine pg_get S Y ok_X12 15 (by decide) kf12_29 (v := .ref (ad 5 0)) p_ad_0_0 rfl dX12_settle_64 ?_
            refine lv_aload_n hx hb dX12_settle_67 rfl (lv_at hl 0 rfl) ?_
            refine pg_get S Y ok_X12 17 (by decide) kf12_142 (v := .int x_85490) p_ad_0_0 rfl dX12_settle_68 ?_
            obtain ⟨v_85495, ev_85495⟩ : ∃ z, z = gp (x_85490 : Int32).toNatClampNeg := ⟨_, rfl⟩
            refine pg_iald S Y (v := v_85495) p_ad_5_0 (vp_bn (bn_eq ex_85490 (bn_sub B_85479 (show bn 1 1 (1 : Int32) from bn_k (by decide)) (by decide))) (by decide)) ev_85495.symm dX12_settle_71 ?_
            have tv_85495 : v_85495.toInt = topv gp y0_f17 := topv_e ev_85495 (by have z9 := (la_sub ex_85490 (rfl : y0_f17.toInt = y0_f17.toInt) (show (1 : Int32).toInt = 1 from rfl) B_85479 (show bn 1 1 (1 : Int32) from bn_k (by decide)) (by decide)); omega)
            refine cSp (As := [.int v_85495]) (rest := []) S Y (x_X12_rank (l := l) ) cw_X12_rank km12_145 rfl ⟨Nat.le_of_ble_eq_true rfl, Nat.le_of_ble_eq_true rfl⟩ hl.1 rfl (Nat.le_of_ble_eq_true rfl) ⟨Nat.le_of_ble_eq_true rfl, Nat.le_of_ble_eq_true rfl⟩ dX12_settle_72 (fun r_85496 H locs er_85496 Y => ?_)
            have B_85497 : bn 0 7 r_85496 := bn_w (rk_bn er_85496) (by decide)
            refine lv_bipush (v := 7) hx hb dX12_settle_75 (by decide) ?_
            refine lv_icmp_eq (tgt := 94) hx hb dX12_settle_77 (by decide) (fun c_85498 => ?_) (fun c_85498 => ?_)
            · have B_85499 : bn 7 7 r_85496 := bn_w (bn_eq c_85498 (show bn 7 7 (7 : Int32) from bn_k (by decide))) (by decide)
              have B_85501 : bn 1 8 y0_f18 := ⟨XS_op hX0 hpd hl1 hle (show rk (topv gp y0_f17) = 7 ∨ topv gp y0_f17 = 20 from (Or.inl (by have z9 := er_85496; have z8 := (show r_85496.toInt = 7 from by rw [c_85498]; rfl); rw [← tv_85495]; omega))), (bf0_18).2⟩
              refine lv_aload_n hx hb dX12_settle_94 rfl (lv_at hl 0 rfl) ?_
              refine lv_dup hx hb dX12_settle_95 rfl ?_
              refine pg_get S Y ok_X12 18 (by decide) kf12_152 (v := .int y0_f18) p_ad_0_0 rfl dX12_settle_96 ?_
              refine lv_iconst (v := 1) hx hb dX12_settle_99 (by decide) ?_
              refine lv_isub hx hb dX12_settle_100 ?_
              refine lv_topi (fun x_85502 ex_85502 => ?_)
              refine pg_put S Y ok_X12 18 (by decide) kf12_152 rfl (fs' := [.ref (ad 1 0), .ref (ad 2 0), .ref (ad 3 0), .ref (ad 4 0), .int td, .int fa, .int fp, .int at9, .int ps9, .int tk, .int nu, .long wd, .int t0, .int y0_f13, .int so, .ref (ad 5 0), .ref (ad 6 0), .int x_85490, .int x_85502, .int cg, .int iw, .int on9, .ref (ad 7 0), .ref (ad 8 0), .ref (ad 9 0), .int is9, .ref (ad 10 0), .ref (ad 11 0), .ref (ad 12 0), .ref (ad 13 0), .int se, .ref (ad 14 0)]) (v := .int x_85502) p_ad_0_0 rfl rfl rfl (Nat.le_of_ble_eq_true rfl) dX12_settle_101 (fun f_85503 H locs ef_85503 Y => ?_)
              have p_ad_5_0 := p_ad_5_0.up ef_85503 (I.ne (k := 5) (j := 0) (k' := 0) (j' := 0) (by decide) (by decide) (Or.inl (by decide)))
              have p_ad_6_0 := p_ad_6_0.up ef_85503 (I.ne (k := 6) (j := 0) (k' := 0) (j' := 0) (by decide) (by decide) (Or.inl (by decide)))
              have p_ad_3_0 := p_ad_3_0.up ef_85503 (I.ne (k := 3) (j := 0) (k' := 0) (j' := 0) (by decide) (by decide) (Or.inl (by decide)))
              have p_ad_0_0 := p_ad_0_0.me ef_85503
              have I := I.up (k := 0) (j := 0) (by decide) ef_85503 (okE_o (okFs_c okV_r (okFs_c okV_r (okFs_c okV_r (okFs_c okV_r (okFs_c (okV_i bf0_4) (okFs_c (okV_i (bn_any _)) (okFs_c (okV_i (bn_any _)) (okFs_c (okV_i bf0_7) (okFs_c (okV_i bf0_8) (okFs_c (okV_i (bn_any _)) (okFs_c (okV_i (bn_any _)) (okFs_c okV_l (okFs_c (okV_i bf0_12) (okFs_c (okV_i bf0_13) (okFs_c (okV_i (bn_any _)) (okFs_c okV_r (okFs_c okV_r (okFs_c (okV_i (bn_w (bn_eq ex_85490 (bn_sub B_85479 (show bn 1 1 (1 : Int32) from bn_k (by decide)) (by decide))) (by decide))) (okFs_c (okV_i (bn_w (bn_eq ex_85502 (bn_sub B_85501 (show bn 1 1 (1 : Int32) from bn_k (by decide)) (by decide))) (by decide))) (okFs_c (okV_i bf0_19) (okFs_c (okV_i bf0_20) (okFs_c (okV_i (bn_any _)) (okFs_c okV_r (okFs_c okV_r (okFs_c okV_r (okFs_c (okV_i bf0_25) (okFs_c okV_r (okFs_c okV_r (okFs_c okV_r (okFs_c okV_r (okFs_c (okV_i (bn_any _)) (okFs_c okV_r okFs_n)))))))))))))))))))))))))))))))))
              refine lv_goto (tgt := 0) hx hb dX12_settle_104 (by decide) ?_
              have o_85504 : (XS gB fr gp gc i1.toInt.toNat opn cur0 cmp0 t0 y0_f13 x_85490 x_85502 cg) g_85487 := (absurd (show rk (topv gp y0_f17) = 7 ∨ topv gp y0_f17 = 20 from (Or.inl (by have z9 := er_85496; have z8 := (show r_85496.toInt = 7 from by rw [c_85498]; rfl); rw [← tv_85495]; omega))) (by have z9 : topv gp y0_f17 = 16 := tv_85492.symm.trans (show v_85492.toInt = 16 from by rw [c_85493]; rfl); rw [z9]; decide))
              have I := I.castS (sp' := spM PA PI (XS gB fr gp gc i1.toInt.toNat opn cur0 cmp0 t0 y0_f13 x_85490 x_85502 cg) pa) (k := 3) (j := 0) (by decide) p_ad_3_0 (okE_a (g := g_85487) o_85504) pXC
              exact ih0 _ (by rw [← hm0]; exact (show x_85490.toInt.toNat < y0_f17.toInt.toNat from by have z9 := (la_sub ex_85490 (rfl : y0_f17.toInt = y0_f17.toInt) (show (1 : Int32).toInt = 1 from rfl) B_85479 (show bn 1 1 (1 : Int32) from bn_k (by decide)) (by decide)); have z8 := hpd; omega)) y0_f13 x_85490 x_85502 _ _  _ _ _ I (bn_w B_85489 (by decide)) (bn_w (bn_eq ex_85490 (bn_sub B_85479 (show bn 1 1 (1 : Int32) from bn_k (by decide)) (by decide))) (by decide)) (bn_w (bn_eq ex_85502 (bn_sub B_85501 (show bn 1 1 (1 : Int32) from bn_k (by decide)) (by decide))) (by decide)) ⟨by have z9 := (la_sub ex_85490 (rfl : y0_f17.toInt = y0_f17.toInt) (show (1 : Int32).toInt = 1 from rfl) B_85479 (show bn 1 1 (1 : Int32) from bn_k (by decide)) (by decide)); have z8 := hS.1; omega, by have z9 := (la_sub ex_85490 (rfl : y0_f17.toInt = y0_f17.toInt) (show (1 : Int32).toInt = 1 from rfl) B_85479 (show bn 1 1 (1 : Int32) from bn_k (by decide)) (by decide)); have z8 := hS.2; omega⟩ p_ad_0_0 p_ad_5_0 p_ad_6_0 rfl Y (lv_sub hl [0, 1] rfl)
            · have B_85500 : bn 0 6 r_85496 := bn_w (bn_neu c_85498 B_85497 (show bn 7 7 (7 : Int32) from bn_k (by decide))) (by decide)
              refine lv_aload_n hx hb dX12_settle_80 rfl (lv_at hl 0 rfl) ?_
              refine pg_get S Y ok_X12 15 (by decide) kf12_29 (v := .ref (ad 5 0)) p_ad_0_0 rfl dX12_settle_81 ?_
              refine lv_aload_n hx hb dX12_settle_84 rfl (lv_at hl 0 rfl) ?_
              refine pg_get S Y ok_X12 17 (by decide) kf12_142 (v := .int x_85490) p_ad_0_0 rfl dX12_settle_85 ?_
              obtain ⟨v_85505, ev_85505⟩ : ∃ z, z = gp (x_85490 : Int32).toNatClampNeg := ⟨_, rfl⟩
              refine pg_iald S Y (v := v_85505) p_ad_5_0 (vp_bn (bn_eq ex_85490 (bn_sub B_85479 (show bn 1 1 (1 : Int32) from bn_k (by decide)) (by decide))) (by decide)) ev_85505.symm dX12_settle_88 ?_
              have tv_85505 : v_85505.toInt = topv gp y0_f17 := topv_e ev_85505 (by have z9 := (la_sub ex_85490 (rfl : y0_f17.toInt = y0_f17.toInt) (show (1 : Int32).toInt = 1 from rfl) B_85479 (show bn 1 1 (1 : Int32) from bn_k (by decide)) (by decide)); omega)
              refine lv_bipush (v := 20) hx hb dX12_settle_89 (by decide) ?_
              refine lv_icmp_ne (tgt := 0) hx hb dX12_settle_91 (by decide) (fun c_85506 => ?_) (fun c_85506 => ?_)
              · have o_85508 : (XS gB fr gp gc i1.toInt.toNat opn cur0 cmp0 t0 y0_f13 x_85490 y0_f18 cg) g_85487 := (XS_16 o_85488 (by have z9 := (la_sub ex_85490 (rfl : y0_f17.toInt = y0_f17.toInt) (show (1 : Int32).toInt = 1 from rfl) B_85479 (show bn 1 1 (1 : Int32) from bn_k (by decide)) (by decide)); omega) (by have z9 := (la_sub ex_85490 (rfl : y0_f17.toInt = y0_f17.toInt) (show (1 : Int32).toInt = 1 from rfl) B_85479 (show bn 1 1 (1 : Int32) from bn_k (by decide)) (by decide)); have z8 := hpd; omega) (tv_85492.symm.trans (show v_85492.toInt = 16 from by rw [c_85493]; rfl)))
                have I := I.castS (sp' := spM PA PI (XS gB fr gp gc i1.toInt.toNat opn cur0 cmp0 t0 y0_f13 x_85490 y0_f18 cg) pa) (k := 3) (j := 0) (by decide) p_ad_3_0 (okE_a (g := g_85487) o_85508) pXC
                exact ih0 _ (by rw [← hm0]; exact (show x_85490.toInt.toNat < y0_f17.toInt.toNat from by have z9 := (la_sub ex_85490 (rfl : y0_f17.toInt = y0_f17.toInt) (show (1 : Int32).toInt = 1 from rfl) B_85479 (show bn 1 1 (1 : Int32) from bn_k (by decide)) (by decide)); have z8 := hpd; omega)) y0_f13 x_85490 y0_f18 _ _  _ _ _ I (bn_w B_85489 (by decide)) (bn_w (bn_eq ex_85490 (bn_sub B_85479 (show bn 1 1 (1 : Int32) from bn_k (by decide)) (by decide))) (by decide)) (bn_w bf0_18 (by decide)) ⟨by have z9 := (la_sub ex_85490 (rfl : y0_f17.toInt = y0_f17.toInt) (show (1 : Int32).toInt = 1 from rfl) B_85479 (show bn 1 1 (1 : Int32) from bn_k (by decide)) (by decide)); have z8 := hS.1; omega, by have z9 := (la_sub ex_85490 (rfl : y0_f17.toInt = y0_f17.toInt) (show (1 : Int32).toInt = 1 from rfl) B_85479 (show bn 1 1 (1 : Int32) from bn_k (by decide)) (by decide)); have z8 := hS.2; omega⟩ p_ad_0_0 p_ad_5_0 p_ad_6_0 rfl Y (lv_sub hl [0, 1] rfl)
              · have B_85507 : bn 20 20 v_85505 := bn_w (bn_eq c_85506 (show bn 20 20 (20 : Int32) from bn_k (by decide))) (by decide)
                have B_85509 : bn 1 8 y0_f18 := ⟨XS_op hX0 hpd hl1 hle (show rk (topv gp y0_f17) = 7 ∨ topv gp y0_f17 = 20 from (Or.inr (tv_85505.symm.trans (show v_85505.toInt = 20 from by rw [c_85506]; rfl)))), (bf0_18).2⟩
                refine lv_aload_n hx hb dX12_settle_94 rfl (lv_at hl 0 rfl) ?_
                refine lv_dup hx hb dX12_settle_95 rfl ?_
                refine pg_get S Y ok_X12 18 (by decide) kf12_152 (v := .int y0_f18) p_ad_0_0 rfl dX12_settle_96 ?_
                refine lv_iconst (v := 1) hx hb dX12_settle_99 (by decide) ?_
                refine lv_isub hx hb dX12_settle_100 ?_
                refine lv_topi (fun x_85510 ex_85510 => ?_)
                refine pg_put S Y ok_X12 18 (by decide) kf12_152 rfl (fs' := [.ref (ad 1 0), .ref (ad 2 0), .ref (ad 3 0), .ref (ad 4 0), .int td, .int fa, .int fp, .int at9, .int ps9, .int tk, .int nu, .long wd, .int t0, .int y0_f13, .int so, .ref (ad 5 0), .ref (ad 6 0), .int x_85490, .int x_85510, .int cg, .int iw, .int on9, .ref (ad 7 0), .ref (ad 8 0), .ref (ad 9 0), .int is9, .ref (ad 10 0), .ref (ad 11 0), .ref (ad 12 0), .ref (ad 13 0), .int se, .ref (ad 14 0)]) (v := .int x_85510) p_ad_0_0 rfl rfl rfl (Nat.le_of_ble_eq_true rfl) dX12_settle_101 (fun f_85511 H locs ef_85511 Y => ?_)
                have p_ad_5_0 := p_ad_5_0.up ef_85511 (I.ne (k := 5) (j := 0) (k' := 0) (j' := 0) (by decide) (by decide) (Or.inl (by decide)))
                have p_ad_6_0 := p_ad_6_0.up ef_85511 (I.ne (k := 6) (j := 0) (k' := 0) (j' := 0) (by decide) (by decide) (Or.inl (by decide)))
                have p_ad_3_0 := p_ad_3_0.up ef_85511 (I.ne (k := 3) (j := 0) (k' := 0) (j' := 0) (by decide) (by decide) (Or.inl (by decide)))
                have p_ad_0_0 := p_ad_0_0.me ef_85511
                have I := I.up (k := 0) (j := 0) (by decide) ef_85511 (okE_o (okFs_c okV_r (okFs_c okV_r (okFs_c okV_r (okFs_c okV_r (okFs_c (okV_i bf0_4) (okFs_c (okV_i (bn_any _)) (okFs_c (okV_i (bn_any _)) (okFs_c (okV_i bf0_7) (okFs_c (okV_i bf0_8) (okFs_c (okV_i (bn_any _)) (okFs_c (okV_i (bn_any _)) (okFs_c okV_l (okFs_c (okV_i bf0_12) (okFs_c (okV_i bf0_13) (okFs_c (okV_i (bn_any _)) (okFs_c okV_r (okFs_c okV_r (okFs_c (okV_i (bn_w (bn_eq ex_85490 (bn_sub B_85479 (show bn 1 1 (1 : Int32) from bn_k (by decide)) (by decide))) (by decide))) (okFs_c (okV_i (bn_w (bn_eq ex_85510 (bn_sub B_85509 (show bn 1 1 (1 : Int32) from bn_k (by decide)) (by decide))) (by decide))) (okFs_c (okV_i bf0_19) (okFs_c (okV_i bf0_20) (okFs_c (okV_i (bn_any _)) (okFs_c okV_r (okFs_c okV_r (okFs_c okV_r (okFs_c (okV_i bf0_25) (okFs_c okV_r (okFs_c okV_r (okFs_c okV_r (okFs_c okV_r (okFs_c (okV_i (bn_any _)) (okFs_c okV_r okFs_n)))))))))))))))))))))))))))))))))
                refine lv_goto (tgt := 0) hx hb dX12_settle_104 (by decide) ?_
                have o_85512 : (XS gB fr gp gc i1.toInt.toNat opn cur0 cmp0 t0 y0_f13 x_85490 x_85510 cg) g_85487 := (absurd (show rk (topv gp y0_f17) = 7 ∨ topv gp y0_f17 = 20 from (Or.inr (tv_85505.symm.trans (show v_85505.toInt = 20 from by rw [c_85506]; rfl)))) (by have z9 : topv gp y0_f17 = 16 := tv_85492.symm.trans (show v_85492.toInt = 16 from by rw [c_85493]; rfl); rw [z9]; decide))
                have I := I.castS (sp' := spM PA PI (XS gB fr gp gc i1.toInt.toNat opn cur0 cmp0 t0 y0_f13 x_85490 x_85510 cg) pa) (k := 3) (j := 0) (by decide) p_ad_3_0 (okE_a (g := g_85487) o_85512) pXC
                exact ih0 _ (by rw [← hm0]; exact (show x_85490.toInt.toNat < y0_f17.toInt.toNat from by have z9 := (la_sub ex_85490 (rfl : y0_f17.toInt = y0_f17.toInt) (show (1 : Int32).toInt = 1 from rfl) B_85479 (show bn 1 1 (1 : Int32) from bn_k (by decide)) (by decide)); have z8 := hpd; omega)) y0_f13 x_85490 x_85510 _ _  _ _ _ I (bn_w B_85489 (by decide)) (bn_w (bn_eq ex_85490 (bn_sub B_85479 (show bn 1 1 (1 : Int32) from bn_k (by decide)) (by decide))) (by decide)) (bn_w (bn_eq ex_85510 (bn_sub B_85509 (show bn 1 1 (1 : Int32) from bn_k (by decide)) (by decide))) (by decide)) ⟨by have z9 := (la_sub ex_85490 (rfl : y0_f17.toInt = y0_f17.toInt) (show (1 : Int32).toInt = 1 from rfl) B_85479 (show bn 1 1 (1 : Int32) from bn_k (by decide)) (by decide)); have z8 := hS.1; omega, by have z9 := (la_sub ex_85490 (rfl : y0_f17.toInt = y0_f17.toInt) (show (1 : Int32).toInt = 1 from rfl) B_85479 (show bn 1 1 (1 : Int32) from bn_k (by decide)) (by decide)); have z8 := hS.2; omega⟩ p_ad_0_0 p_ad_5_0 p_ad_6_0 rfl Y (lv_sub hl [0, 1] rfl)
          · refine lv_aload_n hx hb dX12_settle_49 rfl (lv_at hl 0 rfl) ?_
            refine lv_aload_n hx hb dX12_settle_50 rfl (lv_at hl 0 rfl) ?_
            refine pg_get S Y ok_X12 15 (by decide) kf12_29 (v := .ref (ad 5 0)) p_ad_0_0 rfl dX12_settle_51 ?_
            refine lv_aload_n hx hb dX12_settle_54 rfl (lv_at hl 0 rfl) ?_
            refine pg_get S Y ok_X12 17 (by decide) kf12_142 (v := .int x_85490) p_ad_0_0 rfl dX12_settle_55 ?_
            obtain ⟨v_85513, ev_85513⟩ : ∃ z, z = gp (x_85490 : Int32).toNatClampNeg := ⟨_, rfl⟩
            refine pg_iald S Y (v := v_85513) p_ad_5_0 (vp_bn (bn_eq ex_85490 (bn_sub B_85479 (show bn 1 1 (1 : Int32) from bn_k (by decide)) (by decide))) (by decide)) ev_85513.symm dX12_settle_58 ?_
            have tv_85513 : v_85513.toInt = topv gp y0_f17 := topv_e ev_85513 (by have z9 := (la_sub ex_85490 (rfl : y0_f17.toInt = y0_f17.toInt) (show (1 : Int32).toInt = 1 from rfl) B_85479 (show bn 1 1 (1 : Int32) from bn_k (by decide)) (by decide)); omega)
            refine lv_iconst (v := 0) hx hb dX12_settle_59 (by decide) ?_
            refine cVv (As := [.int v_85513, .int 0]) (rest := []) S Y (x_X12_emit (l := l) I p_ad_0_0 p_ad_5_0 p_ad_6_0 (bn_w B_85489 (by decide))) cw_X12_emit km12_148 p_ad_0_0 ok_X12.1 rfl rfl ⟨Nat.le_of_ble_eq_true rfl, Nat.le_of_ble_eq_true rfl⟩ hl.1 rfl (Nat.le_of_ble_eq_true rfl) ⟨Nat.le_of_ble_eq_true rfl, Nat.le_of_ble_eq_true rfl⟩ dX12_settle_60 (fun L_85514 f_85515 H locs hr_85516 Y => ?_)
            obtain ⟨v_85517, I, p_ad_0_0, p_ad_5_0, p_ad_6_0, e13_85518⟩ := hr_85516
            obtain ⟨bfc85518_4, bfc85518_7, bfc85518_8, bfc85518_12, bfc85518_13, bfc85518_17, bfc85518_18, bfc85518_19, bfc85518_20, bfc85518_25⟩ := obM I p_ad_0_0
            refine lv_aload_n hx hb dX12_settle_63 rfl (lv_at hl 0 rfl) ?_
            refine pg_get S Y ok_X12 15 (by decide) kf12_29 (v := .ref (ad 5 0)) p_ad_0_0 rfl dX12_settle_64 ?_
            refine lv_aload_n hx hb dX12_settle_67 rfl (lv_at hl 0 rfl) ?_
            refine pg_get S Y ok_X12 17 (by decide) kf12_142 (v := .int x_85490) p_ad_0_0 rfl dX12_settle_68 ?_
            obtain ⟨v_85520, ev_85520⟩ : ∃ z, z = gp (x_85490 : Int32).toNatClampNeg := ⟨_, rfl⟩
            refine pg_iald S Y (v := v_85520) p_ad_5_0 (vp_bn (bn_eq ex_85490 (bn_sub B_85479 (show bn 1 1 (1 : Int32) from bn_k (by decide)) (by decide))) (by decide)) ev_85520.symm dX12_settle_71 ?_
            have tv_85520 : v_85520.toInt = topv gp y0_f17 := topv_e ev_85520 (by have z9 := (la_sub ex_85490 (rfl : y0_f17.toInt = y0_f17.toInt) (show (1 : Int32).toInt = 1 from rfl) B_85479 (show bn 1 1 (1 : Int32) from bn_k (by decide)) (by decide)); omega)
            refine cSp (As := [.int v_85520]) (rest := []) S Y (x_X12_rank (l := l) ) cw_X12_rank km12_145 rfl ⟨Nat.le_of_ble_eq_true rfl, Nat.le_of_ble_eq_true rfl⟩ hl.1 rfl (Nat.le_of_ble_eq_true rfl) ⟨Nat.le_of_ble_eq_true rfl, Nat.le_of_ble_eq_true rfl⟩ dX12_settle_72 (fun r_85521 H locs er_85521 Y => ?_)
            have B_85522 : bn 0 7 r_85521 := bn_w (rk_bn er_85521) (by decide)
            refine lv_bipush (v := 7) hx hb dX12_settle_75 (by decide) ?_
            refine lv_icmp_eq (tgt := 94) hx hb dX12_settle_77 (by decide) (fun c_85523 => ?_) (fun c_85523 => ?_)
            · have B_85524 : bn 7 7 r_85521 := bn_w (bn_eq c_85523 (show bn 7 7 (7 : Int32) from bn_k (by decide))) (by decide)
              have B_85526 : bn 1 8 y0_f18 := ⟨XS_op hX0 hpd hl1 hle (show rk (topv gp y0_f17) = 7 ∨ topv gp y0_f17 = 20 from (Or.inl (by have z9 := er_85521; have z8 := (show r_85521.toInt = 7 from by rw [c_85523]; rfl); rw [← tv_85520]; omega))), (bf0_18).2⟩
              refine lv_aload_n hx hb dX12_settle_94 rfl (lv_at hl 0 rfl) ?_
              refine lv_dup hx hb dX12_settle_95 rfl ?_
              refine pg_get S Y ok_X12 18 (by decide) kf12_152 (v := .int y0_f18) p_ad_0_0 rfl dX12_settle_96 ?_
              refine lv_iconst (v := 1) hx hb dX12_settle_99 (by decide) ?_
              refine lv_isub hx hb dX12_settle_100 ?_
              refine lv_topi (fun x_85527 ex_85527 => ?_)
              refine pg_put S Y ok_X12 18 (by decide) kf12_152 rfl (fs' := [.ref (ad 1 0), .ref (ad 2 0), .ref (ad 3 0), .ref (ad 4 0), .int td, .int fa, .int fp, .int at9, .int ps9, .int tk, .int nu, .long wd, .int t0, .int v_85517, .int so, .ref (ad 5 0), .ref (ad 6 0), .int x_85490, .int x_85527, .int cg, .int iw, .int on9, .ref (ad 7 0), .ref (ad 8 0), .ref (ad 9 0), .int is9, .ref (ad 10 0), .ref (ad 11 0), .ref (ad 12 0), .ref (ad 13 0), .int se, .ref (ad 14 0)]) (v := .int x_85527) p_ad_0_0 rfl rfl rfl (Nat.le_of_ble_eq_true rfl) dX12_settle_101 (fun f_85528 H locs ef_85528 Y => ?_)
              have p_ad_5_0 := p_ad_5_0.up ef_85528 (I.ne (k := 5) (j := 0) (k' := 0) (j' := 0) (by decide) (by decide) (Or.inl (by decide)))
              have p_ad_6_0 := p_ad_6_0.up ef_85528 (I.ne (k := 6) (j := 0) (k' := 0) (j' := 0) (by decide) (by decide) (Or.inl (by decide)))
              have p_ad_0_0 := p_ad_0_0.me ef_85528
              have I := I.up (k := 0) (j := 0) (by decide) ef_85528 (okE_o (okFs_c okV_r (okFs_c okV_r (okFs_c okV_r (okFs_c okV_r (okFs_c (okV_i bfc85518_4) (okFs_c (okV_i (bn_any _)) (okFs_c (okV_i (bn_any _)) (okFs_c (okV_i bfc85518_7) (okFs_c (okV_i bfc85518_8) (okFs_c (okV_i (bn_any _)) (okFs_c (okV_i (bn_any _)) (okFs_c okV_l (okFs_c (okV_i bfc85518_12) (okFs_c (okV_i bfc85518_13) (okFs_c (okV_i (bn_any _)) (okFs_c okV_r (okFs_c okV_r (okFs_c (okV_i bfc85518_17) (okFs_c (okV_i (bn_w (bn_eq ex_85527 (bn_sub B_85526 (show bn 1 1 (1 : Int32) from bn_k (by decide)) (by decide))) (by decide))) (okFs_c (okV_i bfc85518_19) (okFs_c (okV_i bfc85518_20) (okFs_c (okV_i (bn_any _)) (okFs_c okV_r (okFs_c okV_r (okFs_c okV_r (okFs_c (okV_i bfc85518_25) (okFs_c okV_r (okFs_c okV_r (okFs_c okV_r (okFs_c okV_r (okFs_c (okV_i (bn_any _)) (okFs_c okV_r okFs_n)))))))))))))))))))))))))))))))))
              refine lv_goto (tgt := 0) hx hb dX12_settle_104 (by decide) ?_
              obtain ⟨g_85529, p_ad_3_0, o_85530⟩ := I.opi (k := 3) (j := 0) (by decide) rfl
              have p_ad_3_0 : pt L_85514 f_85528 (ad 3 0) (.inl (G.2 0, 2916, .inl g_85529)) := p_ad_3_0
              have o_85531 : (XS gB fr gp gc i1.toInt.toNat opn cur0 cmp0 t0 v_85517 x_85490 x_85527 cg) g_85529 := (XS_pop o_85530 rfl e13_85518 B_85489 (by have z9 := (la_sub ex_85490 (rfl : y0_f17.toInt = y0_f17.toInt) (show (1 : Int32).toInt = 1 from rfl) B_85479 (show bn 1 1 (1 : Int32) from bn_k (by decide)) (by decide)); omega) (by have z9 := (la_sub ex_85490 (rfl : y0_f17.toInt = y0_f17.toInt) (show (1 : Int32).toInt = 1 from rfl) B_85479 (show bn 1 1 (1 : Int32) from bn_k (by decide)) (by decide)); have z8 := hpd; omega) tv_85513 (fun h => (show ¬ v_85492.toInt = 16 from fun z => c_85493 (Int32.toInt_inj.mp (z.trans rfl))) (tv_85492.trans h)) hl1 hle (Or.inl ⟨(show rk (topv gp y0_f17) = 7 ∨ topv gp y0_f17 = 20 from (Or.inl (by have z9 := er_85521; have z8 := (show r_85521.toInt = 7 from by rw [c_85523]; rfl); rw [← tv_85520]; omega))), by have z9 := (la_sub ex_85527 (rfl : y0_f18.toInt = y0_f18.toInt) (show (1 : Int32).toInt = 1 from rfl) B_85526 (show bn 1 1 (1 : Int32) from bn_k (by decide)) (by decide)); omega⟩))
              have I := I.castS (sp' := spM PA PI (XS gB fr gp gc i1.toInt.toNat opn cur0 cmp0 t0 v_85517 x_85490 x_85527 cg) pa) (k := 3) (j := 0) (by decide) p_ad_3_0 (okE_a (g := g_85529) o_85531) pXC
              exact ih0 _ (by rw [← hm0]; exact (show x_85490.toInt.toNat < y0_f17.toInt.toNat from by have z9 := (la_sub ex_85490 (rfl : y0_f17.toInt = y0_f17.toInt) (show (1 : Int32).toInt = 1 from rfl) B_85479 (show bn 1 1 (1 : Int32) from bn_k (by decide)) (by decide)); have z8 := hpd; omega)) v_85517 x_85490 x_85527 _ _  _ _ _ I (bn_w bfc85518_13 (by decide)) (bn_w (bn_eq ex_85490 (bn_sub B_85479 (show bn 1 1 (1 : Int32) from bn_k (by decide)) (by decide))) (by decide)) (bn_w (bn_eq ex_85527 (bn_sub B_85526 (show bn 1 1 (1 : Int32) from bn_k (by decide)) (by decide))) (by decide)) ⟨by have z9 := (la_sub ex_85490 (rfl : y0_f17.toInt = y0_f17.toInt) (show (1 : Int32).toInt = 1 from rfl) B_85479 (show bn 1 1 (1 : Int32) from bn_k (by decide)) (by decide)); have z8 := hS.1; have z7 := e13_85518; omega, by have z9 := (la_sub ex_85490 (rfl : y0_f17.toInt = y0_f17.toInt) (show (1 : Int32).toInt = 1 from rfl) B_85479 (show bn 1 1 (1 : Int32) from bn_k (by decide)) (by decide)); have z8 := hS.2; omega⟩ p_ad_0_0 p_ad_5_0 p_ad_6_0 rfl Y (lv_sub hl [0, 1] rfl)
            · have B_85525 : bn 0 6 r_85521 := bn_w (bn_neu c_85523 B_85522 (show bn 7 7 (7 : Int32) from bn_k (by decide))) (by decide)
              refine lv_aload_n hx hb dX12_settle_80 rfl (lv_at hl 0 rfl) ?_
              refine pg_get S Y ok_X12 15 (by decide) kf12_29 (v := .ref (ad 5 0)) p_ad_0_0 rfl dX12_settle_81 ?_
              refine lv_aload_n hx hb dX12_settle_84 rfl (lv_at hl 0 rfl) ?_
              refine pg_get S Y ok_X12 17 (by decide) kf12_142 (v := .int x_85490) p_ad_0_0 rfl dX12_settle_85 ?_
              obtain ⟨v_85532, ev_85532⟩ : ∃ z, z = gp (x_85490 : Int32).toNatClampNeg := ⟨_, rfl⟩
              refine pg_iald S Y (v := v_85532) p_ad_5_0 (vp_bn (bn_eq ex_85490 (bn_sub B_85479 (show bn 1 1 (1 : Int32) from bn_k (by decide)) (by decide))) (by decide)) ev_85532.symm dX12_settle_88 ?_
              have tv_85532 : v_85532.toInt = topv gp y0_f17 := topv_e ev_85532 (by have z9 := (la_sub ex_85490 (rfl : y0_f17.toInt = y0_f17.toInt) (show (1 : Int32).toInt = 1 from rfl) B_85479 (show bn 1 1 (1 : Int32) from bn_k (by decide)) (by decide)); omega)
              refine lv_bipush (v := 20) hx hb dX12_settle_89 (by decide) ?_
              refine lv_icmp_ne (tgt := 0) hx hb dX12_settle_91 (by decide) (fun c_85533 => ?_) (fun c_85533 => ?_)
              · obtain ⟨g_85535, p_ad_3_0, o_85536⟩ := I.opi (k := 3) (j := 0) (by decide) rfl
                have p_ad_3_0 : pt L_85514 f_85515 (ad 3 0) (.inl (G.2 0, 2916, .inl g_85535)) := p_ad_3_0
                have o_85537 : (XS gB fr gp gc i1.toInt.toNat opn cur0 cmp0 t0 v_85517 x_85490 y0_f18 cg) g_85535 := (XS_pop o_85536 rfl e13_85518 B_85489 (by have z9 := (la_sub ex_85490 (rfl : y0_f17.toInt = y0_f17.toInt) (show (1 : Int32).toInt = 1 from rfl) B_85479 (show bn 1 1 (1 : Int32) from bn_k (by decide)) (by decide)); omega) (by have z9 := (la_sub ex_85490 (rfl : y0_f17.toInt = y0_f17.toInt) (show (1 : Int32).toInt = 1 from rfl) B_85479 (show bn 1 1 (1 : Int32) from bn_k (by decide)) (by decide)); have z8 := hpd; omega) tv_85513 (fun h => (show ¬ v_85492.toInt = 16 from fun z => c_85493 (Int32.toInt_inj.mp (z.trans rfl))) (tv_85492.trans h)) hl1 hle (Or.inr ⟨(show ¬ (rk (topv gp y0_f17) = 7 ∨ topv gp y0_f17 = 20) from (fun h => h.elim (fun h => by have z9 := er_85521; have z8 := (show ¬ r_85521.toInt = 7 from fun z => c_85523 (Int32.toInt_inj.mp (z.trans rfl))); rw [← tv_85520] at h; omega) (fun h => (show ¬ v_85532.toInt = 20 from fun z => c_85533 (Int32.toInt_inj.mp (z.trans rfl))) (tv_85532.trans h)))), rfl⟩))
                have I := I.castS (sp' := spM PA PI (XS gB fr gp gc i1.toInt.toNat opn cur0 cmp0 t0 v_85517 x_85490 y0_f18 cg) pa) (k := 3) (j := 0) (by decide) p_ad_3_0 (okE_a (g := g_85535) o_85537) pXC
                exact ih0 _ (by rw [← hm0]; exact (show x_85490.toInt.toNat < y0_f17.toInt.toNat from by have z9 := (la_sub ex_85490 (rfl : y0_f17.toInt = y0_f17.toInt) (show (1 : Int32).toInt = 1 from rfl) B_85479 (show bn 1 1 (1 : Int32) from bn_k (by decide)) (by decide)); have z8 := hpd; omega)) v_85517 x_85490 y0_f18 _ _  _ _ _ I (bn_w bfc85518_13 (by decide)) (bn_w (bn_eq ex_85490 (bn_sub B_85479 (show bn 1 1 (1 : Int32) from bn_k (by decide)) (by decide))) (by decide)) (bn_w bfc85518_18 (by decide)) ⟨by have z9 := (la_sub ex_85490 (rfl : y0_f17.toInt = y0_f17.toInt) (show (1 : Int32).toInt = 1 from rfl) B_85479 (show bn 1 1 (1 : Int32) from bn_k (by decide)) (by decide)); have z8 := hS.1; have z7 := e13_85518; omega, by have z9 := (la_sub ex_85490 (rfl : y0_f17.toInt = y0_f17.toInt) (show (1 : Int32).toInt = 1 from rfl) B_85479 (show bn 1 1 (1 : Int32) from bn_k (by decide)) (by decide)); have z8 := hS.2; omega⟩ p_ad_0_0 p_ad_5_0 p_ad_6_0 rfl Y (lv_sub hl [0, 1] rfl)
              · have B_85534 : bn 20 20 v_85532 := bn_w (bn_eq c_85533 (show bn 20 20 (20 : Int32) from bn_k (by decide))) (by decide)
                have B_85538 : bn 1 8 y0_f18 := ⟨XS_op hX0 hpd hl1 hle (show rk (topv gp y0_f17) = 7 ∨ topv gp y0_f17 = 20 from (Or.inr (tv_85532.symm.trans (show v_85532.toInt = 20 from by rw [c_85533]; rfl)))), (bf0_18).2⟩
                refine lv_aload_n hx hb dX12_settle_94 rfl (lv_at hl 0 rfl) ?_
                refine lv_dup hx hb dX12_settle_95 rfl ?_
                refine pg_get S Y ok_X12 18 (by decide) kf12_152 (v := .int y0_f18) p_ad_0_0 rfl dX12_settle_96 ?_
                refine lv_iconst (v := 1) hx hb dX12_settle_99 (by decide) ?_
                refine lv_isub hx hb dX12_settle_100 ?_
                refine lv_topi (fun x_85539 ex_85539 => ?_)
                refine pg_put S Y ok_X12 18 (by decide) kf12_152 rfl (fs' := [.ref (ad 1 0), .ref (ad 2 0), .ref (ad 3 0), .ref (ad 4 0), .int td, .int fa, .int fp, .int at9, .int ps9, .int tk, .int nu, .long wd, .int t0, .int v_85517, .int so, .ref (ad 5 0), .ref (ad 6 0), .int x_85490, .int x_85539, .int cg, .int iw, .int on9, .ref (ad 7 0), .ref (ad 8 0), .ref (ad 9 0), .int is9, .ref (ad 10 0), .ref (ad 11 0), .ref (ad 12 0), .ref (ad 13 0), .int se, .ref (ad 14 0)]) (v := .int x_85539) p_ad_0_0 rfl rfl rfl (Nat.le_of_ble_eq_true rfl) dX12_settle_101 (fun f_85540 H locs ef_85540 Y => ?_)
                have p_ad_5_0 := p_ad_5_0.up ef_85540 (I.ne (k := 5) (j := 0) (k' := 0) (j' := 0) (by decide) (by decide) (Or.inl (by decide)))
                have p_ad_6_0 := p_ad_6_0.up ef_85540 (I.ne (k := 6) (j := 0) (k' := 0) (j' := 0) (by decide) (by decide) (Or.inl (by decide)))
                have p_ad_0_0 := p_ad_0_0.me ef_85540
                have I := I.up (k := 0) (j := 0) (by decide) ef_85540 (okE_o (okFs_c okV_r (okFs_c okV_r (okFs_c okV_r (okFs_c okV_r (okFs_c (okV_i bfc85518_4) (okFs_c (okV_i (bn_any _)) (okFs_c (okV_i (bn_any _)) (okFs_c (okV_i bfc85518_7) (okFs_c (okV_i bfc85518_8) (okFs_c (okV_i (bn_any _)) (okFs_c (okV_i (bn_any _)) (okFs_c okV_l (okFs_c (okV_i bfc85518_12) (okFs_c (okV_i bfc85518_13) (okFs_c (okV_i (bn_any _)) (okFs_c okV_r (okFs_c okV_r (okFs_c (okV_i bfc85518_17) (okFs_c (okV_i (bn_w (bn_eq ex_85539 (bn_sub B_85538 (show bn 1 1 (1 : Int32) from bn_k (by decide)) (by decide))) (by decide))) (okFs_c (okV_i bfc85518_19) (okFs_c (okV_i bfc85518_20) (okFs_c (okV_i (bn_any _)) (okFs_c okV_r (okFs_c okV_r (okFs_c okV_r (okFs_c (okV_i bfc85518_25) (okFs_c okV_r (okFs_c okV_r (okFs_c okV_r (okFs_c okV_r (okFs_c (okV_i (bn_any _)) (okFs_c okV_r okFs_n)))))))))))))))))))))))))))))))))
                refine lv_goto (tgt := 0) hx hb dX12_settle_104 (by decide) ?_
                obtain ⟨g_85541, p_ad_3_0, o_85542⟩ := I.opi (k := 3) (j := 0) (by decide) rfl
                have p_ad_3_0 : pt L_85514 f_85540 (ad 3 0) (.inl (G.2 0, 2916, .inl g_85541)) := p_ad_3_0
                have o_85543 : (XS gB fr gp gc i1.toInt.toNat opn cur0 cmp0 t0 v_85517 x_85490 x_85539 cg) g_85541 := (XS_pop o_85542 rfl e13_85518 B_85489 (by have z9 := (la_sub ex_85490 (rfl : y0_f17.toInt = y0_f17.toInt) (show (1 : Int32).toInt = 1 from rfl) B_85479 (show bn 1 1 (1 : Int32) from bn_k (by decide)) (by decide)); omega) (by have z9 := (la_sub ex_85490 (rfl : y0_f17.toInt = y0_f17.toInt) (show (1 : Int32).toInt = 1 from rfl) B_85479 (show bn 1 1 (1 : Int32) from bn_k (by decide)) (by decide)); have z8 := hpd; omega) tv_85513 (fun h => (show ¬ v_85492.toInt = 16 from fun z => c_85493 (Int32.toInt_inj.mp (z.trans rfl))) (tv_85492.trans h)) hl1 hle (Or.inl ⟨(show rk (topv gp y0_f17) = 7 ∨ topv gp y0_f17 = 20 from (Or.inr (tv_85532.symm.trans (show v_85532.toInt = 20 from by rw [c_85533]; rfl)))), by have z9 := (la_sub ex_85539 (rfl : y0_f18.toInt = y0_f18.toInt) (show (1 : Int32).toInt = 1 from rfl) B_85538 (show bn 1 1 (1 : Int32) from bn_k (by decide)) (by decide)); omega⟩))
                have I := I.castS (sp' := spM PA PI (XS gB fr gp gc i1.toInt.toNat opn cur0 cmp0 t0 v_85517 x_85490 x_85539 cg) pa) (k := 3) (j := 0) (by decide) p_ad_3_0 (okE_a (g := g_85541) o_85543) pXC
                exact ih0 _ (by rw [← hm0]; exact (show x_85490.toInt.toNat < y0_f17.toInt.toNat from by have z9 := (la_sub ex_85490 (rfl : y0_f17.toInt = y0_f17.toInt) (show (1 : Int32).toInt = 1 from rfl) B_85479 (show bn 1 1 (1 : Int32) from bn_k (by decide)) (by decide)); have z8 := hpd; omega)) v_85517 x_85490 x_85539 _ _  _ _ _ I (bn_w bfc85518_13 (by decide)) (bn_w (bn_eq ex_85490 (bn_sub B_85479 (show bn 1 1 (1 : Int32) from bn_k (by decide)) (by decide))) (by decide)) (bn_w (bn_eq ex_85539 (bn_sub B_85538 (show bn 1 1 (1 : Int32) from bn_k (by decide)) (by decide))) (by decide)) ⟨by have z9 := (la_sub ex_85490 (rfl : y0_f17.toInt = y0_f17.toInt) (show (1 : Int32).toInt = 1 from rfl) B_85479 (show bn 1 1 (1 : Int32) from bn_k (by decide)) (by decide)); have z8 := hS.1; have z7 := e13_85518; omega, by have z9 := (la_sub ex_85490 (rfl : y0_f17.toInt = y0_f17.toInt) (show (1 : Int32).toInt = 1 from rfl) B_85479 (show bn 1 1 (1 : Int32) from bn_k (by decide)) (by decide)); have z8 := hS.2; omega⟩ p_ad_0_0 p_ad_5_0 p_ad_6_0 rfl Y (lv_sub hl [0, 1] rfl)
  exact J_0 _ wr pd op9 _ _  _ _ _ I (bn_w bfe_13 (by decide)) (bn_w bfe_17 (by decide)) (bn_w bfe_18 (by decide)) ⟨Int.le_refl _, Int.le_refl _⟩ p_ad_0_0 p_ad_5_0 p_ad_6_0 rfl Y (lv_sub hl [0, 1] rfl)
