theorem dX11_word_0 : decode cX11_word 0 = .ok (.iload_n 1, 1) := by decide +kernel
theorem dX11_word_1 : decode cX11_word 1 = .ok (.iconst (-1), 1) := by decide +kernel
theorem dX11_word_2 : decode cX11_word 2 = .ok (.if_icmp .ne 14, 3) := by decide +kernel
theorem dX11_word_16 : decode cX11_word 16 = .ok (.iload_n 1, 1) := by decide +kernel
theorem dX11_word_17 : decode cX11_word 17 = .ok (.iconst 1, 1) := by decide +kernel
theorem dX11_word_18 : decode cX11_word 18 = .ok (.bipush 99, 2) := by decide +kernel
theorem dX11_word_20 : decode cX11_word 20 = .ok (.invokestatic 146, 3) := by decide +kernel
theorem dX11_word_23 : decode cX11_word 23 = .ok (.ifCond .eq 14, 3) := by decide +kernel
theorem dX11_word_37 : decode cX11_word 37 = .ok (.bipush (-2), 2) := by decide +kernel
theorem dX11_word_39 : decode cX11_word 39 = .ok (.ireturn, 1) := by decide +kernel
theorem dX11_word_26 : decode cX11_word 26 = .ok (.iload_n 2, 1) := by decide +kernel
theorem dX11_word_27 : decode cX11_word 27 = .ok (.iconst 0, 1) := by decide +kernel
theorem dX11_word_28 : decode cX11_word 28 = .ok (.sipush 999, 3) := by decide +kernel
theorem dX11_word_31 : decode cX11_word 31 = .ok (.invokestatic 146, 3) := by decide +kernel
theorem dX11_word_34 : decode cX11_word 34 = .ok (.ifCond .ne 6, 3) := by decide +kernel
theorem dX11_word_40 : decode cX11_word 40 = .ok (.aload_n 0, 1) := by decide +kernel
theorem dX11_word_41 : decode cX11_word 41 = .ok (.getfield 13, 3) := by decide +kernel
theorem dX11_word_44 : decode cX11_word 44 = .ok (.getfield 293, 3) := by decide +kernel
theorem dX11_word_47 : decode cX11_word 47 = .ok (.iload_n 1, 1) := by decide +kernel
theorem dX11_word_48 : decode cX11_word 48 = .ok (.iload_n 2, 1) := by decide +kernel
theorem dX11_word_49 : decode cX11_word 49 = .ok (.iconst 0, 1) := by decide +kernel
theorem dX11_word_50 : decode cX11_word 50 = .ok (.invokevirtual 258, 3) := by decide +kernel
theorem dX11_word_53 : decode cX11_word 53 = .ok (.ireturn, 1) := by decide +kernel
theorem dX11_word_5 : decode cX11_word 5 = .ok (.aload_n 0, 1) := by decide +kernel
theorem dX11_word_6 : decode cX11_word 6 = .ok (.getfield 13, 3) := by decide +kernel
theorem dX11_word_9 : decode cX11_word 9 = .ok (.getfield 293, 3) := by decide +kernel
theorem dX11_word_12 : decode cX11_word 12 = .ok (.invokevirtual 253, 3) := by decide +kernel
theorem dX11_word_15 : decode cX11_word 15 = .ok (.ireturn, 1) := by decide +kernel
theorem dX11_image_0 : decode cX11_image 0 = .ok (.aload_n 0, 1) := by decide +kernel
theorem dX11_image_1 : decode cX11_image 1 = .ok (.getfield 19, 3) := by decide +kernel
theorem kf11_19 : inW (Cond.fieldLink RX11 19 "KneeOaths" "kept" "LKneeOaths$World;") := ⟨List.mem_of_getElem? (i := 506) (by decide +kernel), by decide +kernel⟩
theorem dX11_image_4 : decode cX11_image 4 = .ok (.aload_n 0, 1) := by decide +kernel
theorem dX11_image_5 : decode cX11_image 5 = .ok (.getfield 13, 3) := by decide +kernel
theorem dX11_image_8 : decode cX11_image 8 = .ok (.invokevirtual 347, 3) := by decide +kernel
theorem cw_X10_takeOver : CWv yX10_takeOver cX10_takeOver 3 none 1 := ⟨⟨⟨List.mem_of_getElem? (i := 126) (by decide +kernel), by decide +kernel⟩, ⟨List.mem_of_getElem? (i := 1469) (by decide +kernel), by decide +kernel⟩, by decide +kernel⟩, ⟨List.mem_of_getElem? (i := 1467) (by decide +kernel), by decide +kernel⟩, ⟨List.mem_of_getElem? (i := 1468) (by decide +kernel), by decide +kernel⟩⟩
theorem km11_347 : inW (Cond.methodLink RX11 347 yX10_takeOver) := ⟨List.mem_of_getElem? (i := 1466) (by decide +kernel), by decide +kernel⟩
theorem dX11_image_11 : decode cX11_image 11 = .ok (.aload_n 0, 1) := by decide +kernel
theorem dX11_image_12 : decode cX11_image 12 = .ok (.getfield 13, 3) := by decide +kernel
theorem dX11_image_15 : decode cX11_image 15 = .ok (.getfield 131, 3) := by decide +kernel
theorem dX11_image_18 : decode cX11_image 18 = .ok (.getfield 150, 3) := by decide +kernel
theorem dX11_image_21 : decode cX11_image 21 = .ok (.ireturn, 1) := by decide +kernel
theorem dX11_back_0 : decode cX11_back 0 = .ok (.aload_n 0, 1) := by decide +kernel
theorem dX11_back_1 : decode cX11_back 1 = .ok (.getfield 13, 3) := by decide +kernel
theorem dX11_back_4 : decode cX11_back 4 = .ok (.aload_n 0, 1) := by decide +kernel
theorem dX11_back_5 : decode cX11_back 5 = .ok (.getfield 19, 3) := by decide +kernel
theorem dX11_back_8 : decode cX11_back 8 = .ok (.invokevirtual 347, 3) := by decide +kernel
theorem dX11_back_11 : decode cX11_back 11 = .ok (.aload_n 0, 1) := by decide +kernel
theorem dX11_back_12 : decode cX11_back 12 = .ok (.getfield 13, 3) := by decide +kernel
theorem dX11_back_15 : decode cX11_back 15 = .ok (.getfield 131, 3) := by decide +kernel
theorem dX11_back_18 : decode cX11_back 18 = .ok (.getfield 150, 3) := by decide +kernel
theorem dX11_back_21 : decode cX11_back 21 = .ok (.ireturn, 1) := by decide +kernel
def tlp (r : Int32) (n n2 : Int) : Prop := (n < 8 ∧ r.toInt = n + 1 ∧ n2 = n + 1) ∨ (¬ n < 8 ∧ r = -2 ∧ n2 = n)
theorem tx_in {v l x : Int32} {n m : Int} (b : bn n m v) (e : n = m) (bl : bn (lmt 2).1 (lmt 2).2 l) (c : ¬ l ≤ v) (hn : 0 ≤ n) (ex : x = v + 1) : n < 8 ∧ x.toInt = n + 1 := by
  obtain ⟨b1, b2⟩ := b
  have bl : bn 8 8 l := bl
  obtain ⟨l1, l2⟩ := bl
  rw [Int32.le_iff_toInt_le] at c
  have e2 : x.toInt = v.toInt + 1 := by rw [ex]; exact ti_add (by rw [show (1 : Int32).toInt = 1 from rfl]; omega) (by rw [show (1 : Int32).toInt = 1 from rfl]; omega)
  exact ⟨by omega, by omega⟩
theorem tx_out {v l : Int32} {n m : Int} (b : bn n m v) (e : n = m) (bl : bn (lmt 2).1 (lmt 2).2 l) (c : l ≤ v) : ¬ n < 8 := by
  obtain ⟨b1, b2⟩ := b
  have bl : bn 8 8 l := bl
  obtain ⟨l1, l2⟩ := bl
  rw [Int32.le_iff_toInt_le] at c
  omega
theorem WB_st {w : Nat → Int × Int} {j : Nat} {c a : Int} (hW : WBp w c) (h0 : 0 ≤ a) (h1 : a ≤ c) : WBp (stf w j (a, a)) c := by
  intro k
  by_cases z : k = j
  · subst z; rw [stf_s]; exact ⟨h0, h1⟩
  · rw [stf_n z]; exact hW k
set_option maxHeartbeats 4000000 in
set_option maxRecDepth 100000 in
theorem x_X9_forgetX {l : Launch} {G : GG}  {L : List Nat} {f : HF} {ad : Nat → Nat → Nat} {rs : FS} {fc : Int × Int} {tc w : Nat → Int × Int} {q : Nat → (Nat → Int32) → Prop} (I : SH (spC rs fc tc w q) nnC G ad L f) (hW : WBp w 8) (hT : WBp tc 4) (hQ : QIp q) (hx2 : (w 2).1 = (w 2).2) (hq2 : ∀ g, q 2 g) : PMi l yX9_forget cX9_forget 1 .int 0 0 0 G [.ref (ad 20 2)] L f (fun r L1 f1 => ∃ w2 : Nat → Int × Int, (r = 0 ∧ (w2 2).1 = 0) ∧ SH (spC rs fc tc w2 q) nnC G ad L1 f1 ∧ (w2 2).1 = (w2 2).2 ∧ (∀ k, k ≠ 2 → w2 k = w k) ∧ WBp w2 8) := by
  refine PMi.of (post := fun r L1 f1 => ∃ w2 : Nat → Int × Int, (r = 0 ∧ (w2 2).1 = 0) ∧ SH (spC rs fc tc w2 q) nnC G ad L1 f1 ∧ (w2 2).1 = (w2 2).2 ∧ (∀ k, k ≠ 2 → w2 k = w k) ∧ WBp w2 8) (own := RX9) (by decide) rfl (Nat.le_of_ble_eq_true rfl) (fun sz p e s m args below meth c A ls hA1 hname S Y hl => ?_)
  have hx := S.hx
  have hb := S.hb
  have hl : lv_has ls 1 [(0, .ref (ad 20 2))] := hl
  refine lv_aload_n hx hb dX9_forget_0 rfl (lv_at hl 0 rfl) ?_
  refine lv_iconst (v := 0) hx hb dX9_forget_1 (by decide) ?_
  obtain ⟨v_78474, v_78476, p_ad_20_2, b_78475, b_78477⟩ := opnC_20 (j := 2) I (by decide)
  have p_ad_20_2 : pt L f (ad 20 2) (.inr (9, [.ref (ad 21 2), .int v_78474, .int v_78476])) := p_ad_20_2
  refine pg_put S Y ok_X9 2 (by decide) kf9_25 rfl (fs' := [.ref (ad 21 2), .int v_78474, .int 0]) (v := .int 0) p_ad_20_2 rfl rfl rfl (Nat.le_of_ble_eq_true rfl) dX9_forget_2 (fun f_78478 H locs ef_78478 Y => ?_)
  have p_ad_20_2 := p_ad_20_2.me ef_78478
  have I := I.upS (sp' := spC rs fc tc (stf w 2 (0, 0)) q) (k := 20) (j := 2) (by decide) ef_78478 (okE_o (okFs_c okV_r (okFs_c (okV_p b_78475) (okFs_c (okV_p (q := stf w 2 (0, 0) 2) (by rw [stf_s]; exact bn_k (by decide))) okFs_n)))) wC
  refine lv_iconst (v := 0) hx hb dX9_forget_5 (by decide) ?_
  exact prI (post := fun r L1 f1 => ∃ w2 : Nat → Int × Int, (r = 0 ∧ (w2 2).1 = 0) ∧ SH (spC rs fc tc w2 q) nnC G ad L1 f1 ∧ (w2 2).1 = (w2 2).2 ∧ (∀ k, k ≠ 2 → w2 k = w k) ∧ WBp w2 8) S Y rfl (by decide) (by decide) hA1 ⟨(stf w 2 (0, 0)), by rw [stf_s]; exact ⟨rfl, rfl⟩, I, (by rw [stf_s]), fun k h => stf_n h, (WB_st hW (by decide) (by decide))⟩ dX9_forget_6
set_option maxHeartbeats 4000000 in
set_option maxRecDepth 100000 in
theorem x_X9_tellX {l : Launch} {G : GG}  {L : List Nat} {f : HF} {ad : Nat → Nat → Nat} {rs : FS} {fc : Int × Int} {tc w : Nat → Int × Int} {q : Nat → (Nat → Int32) → Prop} {i1 i2 i3 : Int32} (I : SH (spC rs fc tc w q) nnC G ad L f) (hW : WBp w 8) (hT : WBp tc 4) (hQ : QIp q) (hx2 : (w 2).1 = (w 2).2) (hq2 : ∀ g, q 2 g) : PMi l yX9_tell cX9_tell 5 .int 0 0 0 G [.ref (ad 20 2), .int i1, .int i2, .int i3] L f (fun r L1 f1 => ∃ w2 : Nat → Int × Int, (tlp r (w 2).1 (w2 2).1) ∧ SH (spC rs fc tc w2 q) nnC G ad L1 f1 ∧ (w2 2).1 = (w2 2).2 ∧ (∀ k, k ≠ 2 → w2 k = w k) ∧ WBp w2 8) := by
  refine PMi.of (post := fun r L1 f1 => ∃ w2 : Nat → Int × Int, (tlp r (w 2).1 (w2 2).1) ∧ SH (spC rs fc tc w2 q) nnC G ad L1 f1 ∧ (w2 2).1 = (w2 2).2 ∧ (∀ k, k ≠ 2 → w2 k = w k) ∧ WBp w2 8) (own := RX9) (by decide) rfl (Nat.le_of_ble_eq_true rfl) (fun sz p e s m args below meth c A ls hA1 hname S Y hl => ?_)
  have hx := S.hx
  have hb := S.hb
  have hl : lv_has ls 5 [(0, .ref (ad 20 2)), (1, .int i1), (2, .int i2), (3, .int i3)] := hl
  refine lv_aload_n hx hb dX9_tell_0 rfl (lv_at hl 0 rfl) ?_
  obtain ⟨v_78519, v_78521, p_ad_20_2, b_78520, b_78522⟩ := opnC_20 (j := 2) I (by decide)
  have p_ad_20_2 : pt L f (ad 20 2) (.inr (9, [.ref (ad 21 2), .int v_78519, .int v_78521])) := p_ad_20_2
  refine pg_get S Y ok_X9 2 (by decide) kf9_25 (v := .int v_78521) p_ad_20_2 rfl dX9_tell_1 ?_
  refine lv_aload_n hx hb dX9_tell_4 rfl (lv_at hl 0 rfl) ?_
  refine pg_get S Y ok_X9 1 (by decide) kf9_21 (v := .int v_78519) p_ad_20_2 rfl dX9_tell_5 ?_
  refine lv_icmp_lt (tgt := 14) hx hb dX9_tell_8 (by decide) (fun c_78523 => ?_) (fun c_78523 => ?_)
  · have B_78524 : bn 0 7 v_78521 := bn_w (bn_ltl c_78523 (bn_w (a' := 0) (b' := 8) b_78522 (hW 2)) (bn_w (a' := 0) (b' := 8) b_78520 (lmt_b 2))) (by decide)
    have B_78525 : bn 1 8 v_78519 := bn_w (bn_ltr c_78523 (bn_w (a' := 0) (b' := 8) b_78522 (hW 2)) (bn_w (a' := 0) (b' := 8) b_78520 (lmt_b 2))) (by decide)
    refine lv_aload_n hx hb dX9_tell_14 rfl (lv_at hl 0 rfl) ?_
    refine pg_get S Y ok_X9 2 (by decide) kf9_25 (v := .int v_78521) p_ad_20_2 rfl dX9_tell_15 ?_
    refine lv_iconst (v := 3) hx hb dX9_tell_18 (by decide) ?_
    refine lv_imul hx hb dX9_tell_19 ?_
    refine lv_topi (fun x_78526 ex_78526 => ?_)
    refine lv_istore (lv' := [(4, .int x_78526), (0, .ref (ad 20 2)), (1, .int i1), (2, .int i2), (3, .int i3)]) hx hb dX9_tell_20 hl (by decide) rfl (fun ls hl => ?_)
    refine lv_aload_n hx hb dX9_tell_22 rfl (lv_at hl 1 rfl) ?_
    refine pg_get S Y ok_X9 0 (by decide) kf9_9 (v := .ref (ad 21 2)) p_ad_20_2 rfl dX9_tell_23 ?_
    refine lv_iload hx hb dX9_tell_26 (lv_at hl 0 rfl) ?_
    refine lv_iload_n hx hb dX9_tell_28 rfl (lv_at hl 2 rfl) ?_
    obtain ⟨g_78527, p_ad_21_2, o_78528⟩ := I.opi (k := 21) (j := 2) (by decide) rfl
    have p_ad_21_2 : pt L f (ad 21 2) (.inl (G.2 0, 24, .inl g_78527)) := p_ad_21_2
    refine pg_iast S Y p_ad_21_2 (vp_bn (bn_eq ex_78526 (bn_mul B_78524 (show bn 3 3 (3 : Int32) from bn_k (by decide)) (by decide))) (by decide)) dX9_tell_29 (fun f_78530 H locs ef_78530 Y => ?_)
    obtain ⟨g_78529, eg_78529⟩ : ∃ z, z = upd (g_78527) (x_78526 : Int32).toNatClampNeg i1 := ⟨_, rfl⟩
    rw [← eg_78529] at ef_78530
    have p_ad_20_2 := p_ad_20_2.up ef_78530 (I.ne (k := 20) (j := 2) (k' := 21) (j' := 2) (by decide) (by decide) (Or.inl (by decide)))
    have p_ad_21_2 := p_ad_21_2.me ef_78530
    have I := I.up (k := 21) (j := 2) (by decide) ef_78530 (okE_a (g := g_78529) (hq2 g_78529))
    refine lv_aload_n hx hb dX9_tell_30 rfl (lv_at hl 1 rfl) ?_
    refine pg_get S Y ok_X9 0 (by decide) kf9_9 (v := .ref (ad 21 2)) p_ad_20_2 rfl dX9_tell_31 ?_
    refine lv_iload hx hb dX9_tell_34 (lv_at hl 0 rfl) ?_
    refine lv_iconst (v := 1) hx hb dX9_tell_36 (by decide) ?_
    refine lv_iadd hx hb dX9_tell_37 ?_
    refine lv_topi (fun x_78531 ex_78531 => ?_)
    refine lv_iload_n hx hb dX9_tell_38 rfl (lv_at hl 3 rfl) ?_
    refine pg_iast S Y p_ad_21_2 (vp_bn (bn_eq ex_78531 (bn_add (bn_eq ex_78526 (bn_mul B_78524 (show bn 3 3 (3 : Int32) from bn_k (by decide)) (by decide))) (show bn 1 1 (1 : Int32) from bn_k (by decide)) (by decide))) (by decide)) dX9_tell_39 (fun f_78533 H locs ef_78533 Y => ?_)
    obtain ⟨g_78532, eg_78532⟩ : ∃ z, z = upd (g_78529) (x_78531 : Int32).toNatClampNeg i2 := ⟨_, rfl⟩
    rw [← eg_78532] at ef_78533
    have p_ad_20_2 := p_ad_20_2.up ef_78533 (I.ne (k := 20) (j := 2) (k' := 21) (j' := 2) (by decide) (by decide) (Or.inl (by decide)))
    have p_ad_21_2 := p_ad_21_2.me ef_78533
    have I := I.up (k := 21) (j := 2) (by decide) ef_78533 (okE_a (g := g_78532) (hq2 g_78532))
    refine lv_aload_n hx hb dX9_tell_40 rfl (lv_at hl 1 rfl) ?_
    refine pg_get S Y ok_X9 0 (by decide) kf9_9 (v := .ref (ad 21 2)) p_ad_20_2 rfl dX9_tell_41 ?_
    refine lv_iload hx hb dX9_tell_44 (lv_at hl 0 rfl) ?_
    refine lv_iconst (v := 2) hx hb dX9_tell_46 (by decide) ?_
    refine lv_iadd hx hb dX9_tell_47 ?_
    refine lv_topi (fun x_78534 ex_78534 => ?_)
    refine lv_iload_n hx hb dX9_tell_48 rfl (lv_at hl 4 rfl) ?_
    refine pg_iast S Y p_ad_21_2 (vp_bn (bn_eq ex_78534 (bn_add (bn_eq ex_78526 (bn_mul B_78524 (show bn 3 3 (3 : Int32) from bn_k (by decide)) (by decide))) (show bn 2 2 (2 : Int32) from bn_k (by decide)) (by decide))) (by decide)) dX9_tell_49 (fun f_78536 H locs ef_78536 Y => ?_)
    obtain ⟨g_78535, eg_78535⟩ : ∃ z, z = upd (g_78532) (x_78534 : Int32).toNatClampNeg i3 := ⟨_, rfl⟩
    rw [← eg_78535] at ef_78536
    have p_ad_20_2 := p_ad_20_2.up ef_78536 (I.ne (k := 20) (j := 2) (k' := 21) (j' := 2) (by decide) (by decide) (Or.inl (by decide)))
    have p_ad_21_2 := p_ad_21_2.me ef_78536
    have I := I.up (k := 21) (j := 2) (by decide) ef_78536 (okE_a (g := g_78535) (hq2 g_78535))
    refine lv_aload_n hx hb dX9_tell_50 rfl (lv_at hl 1 rfl) ?_
    refine lv_dup hx hb dX9_tell_51 rfl ?_
    refine pg_get S Y ok_X9 2 (by decide) kf9_25 (v := .int v_78521) p_ad_20_2 rfl dX9_tell_52 ?_
    refine lv_iconst (v := 1) hx hb dX9_tell_55 (by decide) ?_
    refine lv_iadd hx hb dX9_tell_56 ?_
    refine lv_topi (fun x_78537 ex_78537 => ?_)
    refine pg_put S Y ok_X9 2 (by decide) kf9_25 rfl (fs' := [.ref (ad 21 2), .int v_78519, .int x_78537]) (v := .int x_78537) p_ad_20_2 rfl rfl rfl (Nat.le_of_ble_eq_true rfl) dX9_tell_57 (fun f_78538 H locs ef_78538 Y => ?_)
    have p_ad_21_2 := p_ad_21_2.up ef_78538 (I.ne (k := 21) (j := 2) (k' := 20) (j' := 2) (by decide) (by decide) (Or.inl (by decide)))
    have p_ad_20_2 := p_ad_20_2.me ef_78538
    have I := I.upS (sp' := spC rs fc tc (stf w 2 ((w 2).1 + 1, (w 2).1 + 1)) q) (k := 20) (j := 2) (by decide) ef_78538 (okE_o (okFs_c okV_r (okFs_c (okV_p b_78520) (okFs_c (okV_p (q := stf w 2 ((w 2).1 + 1, (w 2).1 + 1) 2) (by rw [stf_s]; exact ⟨by have h := (tx_in b_78522 hx2 b_78520 (Int32.not_le.mpr c_78523) (hW 2).1 ex_78537).2; show _ ≤ _; omega, by have h := (tx_in b_78522 hx2 b_78520 (Int32.not_le.mpr c_78523) (hW 2).1 ex_78537).2; show _ ≤ _; omega⟩)) okFs_n)))) wC
    refine lv_aload_n hx hb dX9_tell_60 rfl (lv_at hl 1 rfl) ?_
    refine pg_get S Y ok_X9 2 (by decide) kf9_25 (v := .int x_78537) p_ad_20_2 rfl dX9_tell_61 ?_
    exact prI (post := fun r L1 f1 => ∃ w2 : Nat → Int × Int, (tlp r (w 2).1 (w2 2).1) ∧ SH (spC rs fc tc w2 q) nnC G ad L1 f1 ∧ (w2 2).1 = (w2 2).2 ∧ (∀ k, k ≠ 2 → w2 k = w k) ∧ WBp w2 8) S Y rfl (by decide) (by decide) hA1 ⟨(stf w 2 ((w 2).1 + 1, (w 2).1 + 1)), Or.inl ⟨(tx_in b_78522 hx2 b_78520 (Int32.not_le.mpr c_78523) (hW 2).1 ex_78537).1, (tx_in b_78522 hx2 b_78520 (Int32.not_le.mpr c_78523) (hW 2).1 ex_78537).2, by rw [stf_s]⟩, I, (by rw [stf_s]), fun k h => stf_n h, (WB_st hW (by have h := (tx_in b_78522 hx2 b_78520 (Int32.not_le.mpr c_78523) (hW 2).1 ex_78537).1; have h2 := (hW 2).1; omega) (by have h := (tx_in b_78522 hx2 b_78520 (Int32.not_le.mpr c_78523) (hW 2).1 ex_78537).1; omega))⟩ dX9_tell_64
  · refine lv_bipush (v := (-2)) hx hb dX9_tell_11 (by decide) ?_
    exact prI (post := fun r L1 f1 => ∃ w2 : Nat → Int × Int, (tlp r (w 2).1 (w2 2).1) ∧ SH (spC rs fc tc w2 q) nnC G ad L1 f1 ∧ (w2 2).1 = (w2 2).2 ∧ (∀ k, k ≠ 2 → w2 k = w k) ∧ WBp w2 8) S Y rfl (by decide) (by decide) hA1 ⟨w, Or.inr ⟨tx_out b_78522 hx2 b_78520 (Int32.not_lt.mp c_78523), rfl, rfl⟩, I, hx2, fun k h => rfl, hW⟩ dX9_tell_13
def wdp (i1 i2 r : Int32) (n n2 : Int) : Prop := (i1 = -1 ∧ r = 0 ∧ n2 = 0) ∨ (¬ i1 = -1 ∧ ¬ ((1 ≤ i1.toInt ∧ i1.toInt ≤ 99) ∧ 0 ≤ i2.toInt ∧ i2.toInt ≤ 999) ∧ r = -2 ∧ n2 = n) ∨ (¬ i1 = -1 ∧ ((1 ≤ i1.toInt ∧ i1.toInt ≤ 99) ∧ 0 ≤ i2.toInt ∧ i2.toInt ≤ 999) ∧ tlp r n n2)
theorem wdp_one {i1 i2 r r' : Int32} {n m m' : Int} (h : wdp i1 i2 r n m) (h' : wdp i1 i2 r' n m') : r = r' ∧ m = m' := by
  unfold wdp tlp at h h'
  rcases h with ⟨a, b, c⟩ | ⟨a, b, c, d⟩ | ⟨a, b, c⟩ <;> rcases h' with ⟨a', b', c'⟩ | ⟨a', b', c', d'⟩ | ⟨a', b', c'⟩ <;> first | exact absurd a a' | exact absurd a' a | exact absurd b' b | exact absurd b b' | skip
  · exact ⟨by rw [b, b'], by rw [c, c']⟩
  · exact ⟨by rw [c, c'], by rw [d, d']⟩
  · rcases c with ⟨x, y, z⟩ | ⟨x, y, z⟩ <;> rcases c' with ⟨x', y', z'⟩ | ⟨x', y', z'⟩ <;> first | exact absurd x x' | exact absurd x' x | skip
    · exact ⟨Int32.toInt_inj.mp (by rw [y, y']), by rw [z, z']⟩
    · exact ⟨by rw [y, y'], by rw [z, z']⟩
def win (r v : Int32) (a b : Int) : Prop := (r = 0 ∧ ¬ (a ≤ v.toInt ∧ v.toInt ≤ b)) ∨ (r = 1 ∧ a ≤ v.toInt ∧ v.toInt ≤ b)
theorem win_f {r v : Int32} {a b : Int} (h : win r v a b) (e : r = 0) : ¬ (a ≤ v.toInt ∧ v.toInt ≤ b) := by
  rcases h with ⟨h1, h2⟩ | ⟨h1, h2⟩
  · exact h2
  · rw [h1] at e; exact absurd e (by decide)
theorem win_t {r v : Int32} {a b : Int} (h : win r v a b) (e : ¬ r = 0) : a ≤ v.toInt ∧ v.toInt ≤ b := by
  rcases h with ⟨h1, h2⟩ | ⟨h1, h2⟩
  · exact absurd h1 e
  · exact h2
set_option maxHeartbeats 4000000 in
set_option maxRecDepth 100000 in
theorem x_X11_withinX {l : Launch} {G : GG}  {L : List Nat} {f : HF}  {i1 i2 i3 : Int32}  : PMp l yX11_within cX11_within 3 .boolean 0 0 0 G [.int i1, .int i2, .int i3] L f (fun r => (win r i1 i2.toInt i3.toInt)) := by
  refine PMi.of (post := fun r L1 f1 => ((win r i1 i2.toInt i3.toInt)) ∧ L1 = L ∧ f1 = f) (own := RX11) (by decide) rfl (Nat.le_of_ble_eq_true rfl) (fun sz p e s m args below meth c A ls hA1 hname S Y hl => ?_)
  have hx := S.hx
  have hb := S.hb
  have hl : lv_has ls 3 [(0, .int i1), (1, .int i2), (2, .int i3)] := hl
  refine lv_iload_n hx hb dX11_within_0 rfl (lv_at hl 0 rfl) ?_
  refine lv_iload_n hx hb dX11_within_1 rfl (lv_at hl 1 rfl) ?_
  refine lv_icmp_lt (tgt := 14) hx hb dX11_within_2 (by decide) (fun c_78551 => ?_) (fun c_78551 => ?_)
  · have B_78552 : bn (-2147483648) 2147483646 i1 := bn_w (bn_ltl c_78551 (bn_any i1) (bn_any i2)) (by decide)
    have B_78553 : bn (-2147483647) 2147483647 i2 := bn_w (bn_ltr c_78551 (bn_any i1) (bn_any i2)) (by decide)
    refine lv_iconst (v := 0) hx hb dX11_within_14 (by decide) ?_
    exact prI (post := fun r L1 f1 => ((win r i1 i2.toInt i3.toInt)) ∧ L1 = L ∧ f1 = f) S Y rfl (by decide) (by decide) hA1 ⟨Or.inl ⟨rfl, fun z => by have h := c_78551; rw [Int32.lt_iff_toInt_lt] at h; omega⟩, rfl, rfl⟩ dX11_within_15
  · refine lv_iload_n hx hb dX11_within_5 rfl (lv_at hl 0 rfl) ?_
    refine lv_iload_n hx hb dX11_within_6 rfl (lv_at hl 2 rfl) ?_
    refine lv_icmp_gt (tgt := 14) hx hb dX11_within_7 (by decide) (fun c_78554 => ?_) (fun c_78554 => ?_)
    · have B_78555 : bn (-2147483648) 2147483646 i3 := bn_w (bn_ltl c_78554 (bn_any i3) (bn_any i1)) (by decide)
      have B_78556 : bn (-2147483647) 2147483647 i1 := bn_w (bn_ltr c_78554 (bn_any i3) (bn_any i1)) (by decide)
      refine lv_iconst (v := 0) hx hb dX11_within_14 (by decide) ?_
      exact prI (post := fun r L1 f1 => ((win r i1 i2.toInt i3.toInt)) ∧ L1 = L ∧ f1 = f) S Y rfl (by decide) (by decide) hA1 ⟨Or.inl ⟨rfl, fun z => by have h := c_78554; rw [Int32.lt_iff_toInt_lt] at h; omega⟩, rfl, rfl⟩ dX11_within_15
    · refine lv_iconst (v := 1) hx hb dX11_within_10 (by decide) ?_
      refine lv_goto (tgt := 15) hx hb dX11_within_11 (by decide) ?_
      exact prI (post := fun r L1 f1 => ((win r i1 i2.toInt i3.toInt)) ∧ L1 = L ∧ f1 = f) S Y rfl (by decide) (by decide) hA1 ⟨Or.inr ⟨rfl, by have h := c_78551; rw [Int32.lt_iff_toInt_lt] at h; omega, by have h := c_78554; rw [Int32.lt_iff_toInt_lt] at h; omega⟩, rfl, rfl⟩ dX11_within_15
set_option maxHeartbeats 4000000 in
set_option maxRecDepth 100000 in
theorem x_X11_word {l : Launch} {G : GG}  {L : List Nat} {f : HF} {ad : Nat → Nat → Nat} {tc w : Nat → Int × Int} {q : Nat → (Nat → Int32) → Prop} {i1 i2 : Int32} (I : SH (spC (NR 30 0 4) ((0, 6) : Int × Int) tc w q) nnC G ad L f) (hW : WBp w 8) (hT : WBp tc 4) (hQ : QIp q) (hZ : ZZp w q) (hE : ∀ j, (tc j).1 = (tc j).2) (hx2 : (w 2).1 = (w 2).2) (hq2 : ∀ g, q 2 g) : PMi l yX11_word cX11_word 3 .int 1 0 0 G [.ref (ad 0 0), .int i1, .int i2] L f (fun r L1 f1 => ∃ w2 : Nat → Int × Int, (wdp i1 i2 r (w 2).1 (w2 2).1) ∧ SH (spC (NR 30 0 4) ((0, 6) : Int × Int) tc w2 q) nnC G ad L1 f1 ∧ (w2 2).1 = (w2 2).2 ∧ (∀ k, k ≠ 2 → w2 k = w k) ∧ WBp w2 8) := by
  refine PMi.of (post := fun r L1 f1 => ∃ w2 : Nat → Int × Int, (wdp i1 i2 r (w 2).1 (w2 2).1) ∧ SH (spC (NR 30 0 4) ((0, 6) : Int × Int) tc w2 q) nnC G ad L1 f1 ∧ (w2 2).1 = (w2 2).2 ∧ (∀ k, k ≠ 2 → w2 k = w k) ∧ WBp w2 8) (own := RX11) (by decide) rfl (Nat.le_of_ble_eq_true rfl) (fun sz p e s m args below meth c A ls hA1 hname S Y hl => ?_)
  have hx := S.hx
  have hb := S.hb
  have hl : lv_has ls 3 [(0, .ref (ad 0 0)), (1, .int i1), (2, .int i2)] := hl
  refine lv_iload_n hx hb dX11_word_0 rfl (lv_at hl 1 rfl) ?_
  refine lv_iconst (v := (-1)) hx hb dX11_word_1 (by decide) ?_
  refine lv_icmp_ne (tgt := 16) hx hb dX11_word_2 (by decide) (fun c_78641 => ?_) (fun c_78641 => ?_)
  · refine lv_iload_n hx hb dX11_word_16 rfl (lv_at hl 1 rfl) ?_
    refine lv_iconst (v := 1) hx hb dX11_word_17 (by decide) ?_
    refine lv_bipush (v := 99) hx hb dX11_word_18 (by decide) ?_
    refine cSp (As := [.int i1, .int 1, .int 99]) (rest := []) S Y (x_X11_withinX (l := l) ) cw_X11_within km11_146 rfl ⟨Nat.le_of_ble_eq_true rfl, Nat.le_of_ble_eq_true rfl⟩ hl.1 rfl (Nat.le_of_ble_eq_true rfl) ⟨Nat.le_of_ble_eq_true rfl, Nat.le_of_ble_eq_true rfl⟩ dX11_word_20 (fun r_78643 H locs er_78643 Y => ?_)
    refine lv_if_eq (tgt := 37) hx hb dX11_word_23 (by decide) (fun c_78644 => ?_) (fun c_78644 => ?_)
    · have B_78645 : bn 0 0 r_78643 := bn_w (bn_eq c_78644 (show bn 0 0 (0 : Int32) from bn_k (by decide))) (by decide)
      refine lv_bipush (v := (-2)) hx hb dX11_word_37 (by decide) ?_
      exact prI (post := fun r L1 f1 => ∃ w2 : Nat → Int × Int, (wdp i1 i2 r (w 2).1 (w2 2).1) ∧ SH (spC (NR 30 0 4) ((0, 6) : Int × Int) tc w2 q) nnC G ad L1 f1 ∧ (w2 2).1 = (w2 2).2 ∧ (∀ k, k ≠ 2 → w2 k = w k) ∧ WBp w2 8) S Y rfl (by decide) (by decide) hA1 ⟨w, Or.inr (Or.inl ⟨c_78641, fun z => (win_f er_78643 c_78644) z.1, rfl, rfl⟩), I, hx2, fun k h => rfl, hW⟩ dX11_word_39
    · refine lv_iload_n hx hb dX11_word_26 rfl (lv_at hl 2 rfl) ?_
      refine lv_iconst (v := 0) hx hb dX11_word_27 (by decide) ?_
      refine lv_sipush (v := 999) hx hb dX11_word_28 (by decide) ?_
      refine cSp (As := [.int i2, .int 0, .int 999]) (rest := []) S Y (x_X11_withinX (l := l) ) cw_X11_within km11_146 rfl ⟨Nat.le_of_ble_eq_true rfl, Nat.le_of_ble_eq_true rfl⟩ hl.1 rfl (Nat.le_of_ble_eq_true rfl) ⟨Nat.le_of_ble_eq_true rfl, Nat.le_of_ble_eq_true rfl⟩ dX11_word_31 (fun r_78646 H locs er_78646 Y => ?_)
      refine lv_if_ne (tgt := 40) hx hb dX11_word_34 (by decide) (fun c_78647 => ?_) (fun c_78647 => ?_)
      · refine lv_aload_n hx hb dX11_word_40 rfl (lv_at hl 0 rfl) ?_
        have p_ad_0_0 := opnC_0 (j := 0) I (by decide)
        have p_ad_0_0 : pt L f (ad 0 0) (.inr (11, [.ref (ad 1 0), .ref (ad 1 1), .ref (ad 2 0), .ref (ad 3 0), .ref (ad 4 0), .ref (ad 5 0), .ref (ad 6 0), .ref (ad 7 0), .ref (ad 8 0)])) := p_ad_0_0
        refine pg_get S Y ok_X11 0 (by decide) kf11_13 (v := .ref (ad 1 0)) p_ad_0_0 rfl dX11_word_41 ?_
        obtain ⟨v_78649, v_78651, v_78653, v_78655, v_78657, p_ad_1_0, b_78650, b_78652, b_78654, b_78656, b_78658⟩ := opnC_1 (j := 0) I (by decide)
        have p_ad_1_0 : pt L f (ad 1 0) (.inr (10, [.ref (ad 40 0), .ref (ad 41 0), .ref (ad 42 0), .ref (ad 10 0), .ref (ad 43 0), .ref (ad 20 0), .ref (ad 20 1), .ref (ad 20 2), .ref (ad 20 3), .ref (ad 20 4), .int v_78649, .int v_78651, .int v_78653, .int v_78655, .int v_78657])) := p_ad_1_0
        refine pg_getN S Y ok_X10 7 (by decide) kf11_293 (v := .ref (ad 20 2)) p_ad_1_0 rfl dX11_word_44 ?_
        refine lv_iload_n hx hb dX11_word_47 rfl (lv_at hl 1 rfl) ?_
        refine lv_iload_n hx hb dX11_word_48 rfl (lv_at hl 2 rfl) ?_
        refine lv_iconst (v := 0) hx hb dX11_word_49 (by decide) ?_
        refine cVi (As := [.int i1, .int i2, .int 0]) (rest := []) S Y (x_X9_tellX (l := l) I hW hT hQ hx2 hq2) cw_X9_tell km11_258 (I.opo (k := 20) (j := 2) (by decide) rfl).choose_spec.1 ok_X9.1 rfl rfl ⟨Nat.le_of_ble_eq_true rfl, Nat.le_of_ble_eq_true rfl⟩ hl.1 rfl (Nat.le_of_ble_eq_true rfl) ⟨Nat.le_of_ble_eq_true rfl, Nat.le_of_ble_eq_true rfl⟩ dX11_word_50 (fun r_78661 L_78659 f_78660 H locs hr_78661 Y => ?_)
        obtain ⟨w2_78662, er_78661, I, e1_78663, e2_78664, eW_78665⟩ := hr_78661
        exact prI (post := fun r L1 f1 => ∃ w2 : Nat → Int × Int, (wdp i1 i2 r (w 2).1 (w2 2).1) ∧ SH (spC (NR 30 0 4) ((0, 6) : Int × Int) tc w2 q) nnC G ad L1 f1 ∧ (w2 2).1 = (w2 2).2 ∧ (∀ k, k ≠ 2 → w2 k = w k) ∧ WBp w2 8) S Y rfl (by decide) (by decide) hA1 ⟨w2_78662, Or.inr (Or.inr ⟨c_78641, ⟨(win_t er_78643 c_78644), (win_t er_78646 c_78647)⟩, er_78661⟩), I, e1_78663, e2_78664, eW_78665⟩ dX11_word_53
      · have B_78648 : bn 0 0 r_78646 := bn_w (bn_eq c_78647 (show bn 0 0 (0 : Int32) from bn_k (by decide))) (by decide)
        refine lv_bipush (v := (-2)) hx hb dX11_word_37 (by decide) ?_
        exact prI (post := fun r L1 f1 => ∃ w2 : Nat → Int × Int, (wdp i1 i2 r (w 2).1 (w2 2).1) ∧ SH (spC (NR 30 0 4) ((0, 6) : Int × Int) tc w2 q) nnC G ad L1 f1 ∧ (w2 2).1 = (w2 2).2 ∧ (∀ k, k ≠ 2 → w2 k = w k) ∧ WBp w2 8) S Y rfl (by decide) (by decide) hA1 ⟨w, Or.inr (Or.inl ⟨c_78641, fun z => (win_f er_78646 c_78647) z.2, rfl, rfl⟩), I, hx2, fun k h => rfl, hW⟩ dX11_word_39
  · have B_78642 : bn (-1) (-1) i1 := bn_w (bn_eq c_78641 (show bn (-1) (-1) ((-1) : Int32) from bn_k (by decide))) (by decide)
    refine lv_aload_n hx hb dX11_word_5 rfl (lv_at hl 0 rfl) ?_
    have p_ad_0_0 := opnC_0 (j := 0) I (by decide)
    have p_ad_0_0 : pt L f (ad 0 0) (.inr (11, [.ref (ad 1 0), .ref (ad 1 1), .ref (ad 2 0), .ref (ad 3 0), .ref (ad 4 0), .ref (ad 5 0), .ref (ad 6 0), .ref (ad 7 0), .ref (ad 8 0)])) := p_ad_0_0
    refine pg_get S Y ok_X11 0 (by decide) kf11_13 (v := .ref (ad 1 0)) p_ad_0_0 rfl dX11_word_6 ?_
    obtain ⟨v_78666, v_78668, v_78670, v_78672, v_78674, p_ad_1_0, b_78667, b_78669, b_78671, b_78673, b_78675⟩ := opnC_1 (j := 0) I (by decide)
    have p_ad_1_0 : pt L f (ad 1 0) (.inr (10, [.ref (ad 40 0), .ref (ad 41 0), .ref (ad 42 0), .ref (ad 10 0), .ref (ad 43 0), .ref (ad 20 0), .ref (ad 20 1), .ref (ad 20 2), .ref (ad 20 3), .ref (ad 20 4), .int v_78666, .int v_78668, .int v_78670, .int v_78672, .int v_78674])) := p_ad_1_0
    refine pg_getN S Y ok_X10 7 (by decide) kf11_293 (v := .ref (ad 20 2)) p_ad_1_0 rfl dX11_word_9 ?_
    refine cVi (As := []) (rest := []) S Y (x_X9_forgetX (l := l) I hW hT hQ hx2 hq2) cw_X9_forget km11_253 (I.opo (k := 20) (j := 2) (by decide) rfl).choose_spec.1 ok_X9.1 rfl rfl ⟨Nat.le_of_ble_eq_true rfl, Nat.le_of_ble_eq_true rfl⟩ hl.1 rfl (Nat.le_of_ble_eq_true rfl) ⟨Nat.le_of_ble_eq_true rfl, Nat.le_of_ble_eq_true rfl⟩ dX11_word_12 (fun r_78678 L_78676 f_78677 H locs hr_78678 Y => ?_)
    obtain ⟨w2_78679, er_78678, I, e1_78680, e2_78681, eW_78682⟩ := hr_78678
    exact prI (post := fun r L1 f1 => ∃ w2 : Nat → Int × Int, (wdp i1 i2 r (w 2).1 (w2 2).1) ∧ SH (spC (NR 30 0 4) ((0, 6) : Int × Int) tc w2 q) nnC G ad L1 f1 ∧ (w2 2).1 = (w2 2).2 ∧ (∀ k, k ≠ 2 → w2 k = w k) ∧ WBp w2 8) S Y rfl (by decide) (by decide) hA1 ⟨w2_78679, Or.inl ⟨c_78641, er_78678⟩, I, e1_78680, e2_78681, eW_78682⟩ dX11_word_15
set_option maxHeartbeats 4000000 in
set_option maxRecDepth 100000 in
theorem x_X11_image {l : Launch} {G : GG}  {L : List Nat} {f : HF} {ad : Nat → Nat → Nat} {tc w : Nat → Int × Int} {q : Nat → (Nat → Int32) → Prop} (I : SH (spC (NR 30 0 4) ((0, 6) : Int × Int) tc w q) nnC G ad L f) (hW : WBp w 8) (hT : WBp tc 4) (hQ : QIp q) (hZ : ZZp w q) (hE : ∀ j, (tc j).1 = (tc j).2) : PMi l yX11_image cX11_image 1 .int 3 0 0 G [.ref (ad 0 0)] L f (fun r L1 f1 => ∃ tc2 : Nat → Int × Int, ∃ w2 : Nat → Int × Int, ∃ q2 : Nat → (Nat → Int32) → Prop, SH (spC (NR 30 0 4) ((0, 6) : Int × Int) tc2 w2 q2) nnC G ad L1 f1 ∧ tc2 1 = tc 0 ∧ (∀ k, k ≠ 1 → tc2 k = tc k) ∧ w2 5 = w 0 ∧ w2 6 = w 1 ∧ w2 7 = w 2 ∧ w2 8 = w 3 ∧ w2 9 = w 4 ∧ (∀ k, (k < 5 ∨ 10 ≤ k) → w2 k = w k) ∧ q2 5 = q 0 ∧ q2 6 = q 1 ∧ q2 7 = q 2 ∧ q2 8 = q 3 ∧ q2 9 = q 4 ∧ (∀ k, (k < 5 ∨ 10 ≤ k) → q2 k = q k) ∧ WBp tc2 4 ∧ WBp w2 8 ∧ QIp q2) := by
  refine PMi.of (post := fun r L1 f1 => ∃ tc2 : Nat → Int × Int, ∃ w2 : Nat → Int × Int, ∃ q2 : Nat → (Nat → Int32) → Prop, SH (spC (NR 30 0 4) ((0, 6) : Int × Int) tc2 w2 q2) nnC G ad L1 f1 ∧ tc2 1 = tc 0 ∧ (∀ k, k ≠ 1 → tc2 k = tc k) ∧ w2 5 = w 0 ∧ w2 6 = w 1 ∧ w2 7 = w 2 ∧ w2 8 = w 3 ∧ w2 9 = w 4 ∧ (∀ k, (k < 5 ∨ 10 ≤ k) → w2 k = w k) ∧ q2 5 = q 0 ∧ q2 6 = q 1 ∧ q2 7 = q 2 ∧ q2 8 = q 3 ∧ q2 9 = q 4 ∧ (∀ k, (k < 5 ∨ 10 ≤ k) → q2 k = q k) ∧ WBp tc2 4 ∧ WBp w2 8 ∧ QIp q2) (own := RX11) (by decide) rfl (Nat.le_of_ble_eq_true rfl) (fun sz p e s m args below meth c A ls hA1 hname S Y hl => ?_)
  have hx := S.hx
  have hb := S.hb
  have hl : lv_has ls 1 [(0, .ref (ad 0 0))] := hl
  refine lv_aload_n hx hb dX11_image_0 rfl (lv_at hl 0 rfl) ?_
  have p_ad_0_0 := opnC_0 (j := 0) I (by decide)
  have p_ad_0_0 : pt L f (ad 0 0) (.inr (11, [.ref (ad 1 0), .ref (ad 1 1), .ref (ad 2 0), .ref (ad 3 0), .ref (ad 4 0), .ref (ad 5 0), .ref (ad 6 0), .ref (ad 7 0), .ref (ad 8 0)])) := p_ad_0_0
  refine pg_get S Y ok_X11 1 (by decide) kf11_19 (v := .ref (ad 1 1)) p_ad_0_0 rfl dX11_image_1 ?_
  refine lv_aload_n hx hb dX11_image_4 rfl (lv_at hl 0 rfl) ?_
  refine pg_get S Y ok_X11 0 (by decide) kf11_13 (v := .ref (ad 1 0)) p_ad_0_0 rfl dX11_image_5 ?_
  refine cVv (As := [.ref (ad 1 0)]) (rest := []) S Y (x_X10_takeOver1 (l := l) I hW hT hQ) cw_X10_takeOver km11_347 (I.opo (k := 1) (j := 1) (by decide) rfl).choose_spec.1 ok_X10.1 rfl rfl ⟨Nat.le_of_ble_eq_true rfl, Nat.le_of_ble_eq_true rfl⟩ hl.1 rfl (Nat.le_of_ble_eq_true rfl) ⟨Nat.le_of_ble_eq_true rfl, Nat.le_of_ble_eq_true rfl⟩ dX11_image_8 (fun L_78769 f_78770 H locs hr_78771 Y => ?_)
  obtain ⟨tc2_78772, w2_78773, q2_78774, I, e1_78775, e2_78776, ew0_78777, ew1_78778, ew2_78779, ew3_78780, ew4_78781, ewr_78782, eq0_78783, eq1_78784, eq2_78785, eq3_78786, eq4_78787, eqr_78788, eT_78789, eW_78790, eQ_78791⟩ := hr_78771
  refine lv_aload_n hx hb dX11_image_11 rfl (lv_at hl 0 rfl) ?_
  have p_ad_0_0 := opnC_0 (j := 0) I (by decide)
  have p_ad_0_0 : pt L_78769 f_78770 (ad 0 0) (.inr (11, [.ref (ad 1 0), .ref (ad 1 1), .ref (ad 2 0), .ref (ad 3 0), .ref (ad 4 0), .ref (ad 5 0), .ref (ad 6 0), .ref (ad 7 0), .ref (ad 8 0)])) := p_ad_0_0
  refine pg_get S Y ok_X11 0 (by decide) kf11_13 (v := .ref (ad 1 0)) p_ad_0_0 rfl dX11_image_12 ?_
  obtain ⟨v_78792, v_78794, v_78796, v_78798, v_78800, p_ad_1_0, b_78793, b_78795, b_78797, b_78799, b_78801⟩ := opnC_1 (j := 0) I (by decide)
  have p_ad_1_0 : pt L_78769 f_78770 (ad 1 0) (.inr (10, [.ref (ad 40 0), .ref (ad 41 0), .ref (ad 42 0), .ref (ad 10 0), .ref (ad 43 0), .ref (ad 20 0), .ref (ad 20 1), .ref (ad 20 2), .ref (ad 20 3), .ref (ad 20 4), .int v_78792, .int v_78794, .int v_78796, .int v_78798, .int v_78800])) := p_ad_1_0
  refine pg_getN S Y ok_X10 3 (by decide) kf11_131 (v := .ref (ad 10 0)) p_ad_1_0 rfl dX11_image_15 ?_
  obtain ⟨v_78802, v_78804, v_78806, v_78808, v_78810, p_ad_10_0, b_78803, b_78805, b_78807, b_78809, b_78811⟩ := opnC_10 (j := 0) I (by decide)
  have p_ad_10_0 : pt L_78769 f_78770 (ad 10 0) (.inr (4, [.ref (ad 11 0), .ref (ad 12 0), .int v_78802, .int v_78804, .int v_78806, .int v_78808, .int v_78810])) := p_ad_10_0
  refine pg_getN S Y ok_X4 4 (by decide) kf11_150 (v := .int v_78806) p_ad_10_0 rfl dX11_image_18 ?_
  exact prI (post := fun r L1 f1 => ∃ tc2 : Nat → Int × Int, ∃ w2 : Nat → Int × Int, ∃ q2 : Nat → (Nat → Int32) → Prop, SH (spC (NR 30 0 4) ((0, 6) : Int × Int) tc2 w2 q2) nnC G ad L1 f1 ∧ tc2 1 = tc 0 ∧ (∀ k, k ≠ 1 → tc2 k = tc k) ∧ w2 5 = w 0 ∧ w2 6 = w 1 ∧ w2 7 = w 2 ∧ w2 8 = w 3 ∧ w2 9 = w 4 ∧ (∀ k, (k < 5 ∨ 10 ≤ k) → w2 k = w k) ∧ q2 5 = q 0 ∧ q2 6 = q 1 ∧ q2 7 = q 2 ∧ q2 8 = q 3 ∧ q2 9 = q 4 ∧ (∀ k, (k < 5 ∨ 10 ≤ k) → q2 k = q k) ∧ WBp tc2 4 ∧ WBp w2 8 ∧ QIp q2) S Y rfl (by decide) (by decide) hA1 ⟨tc2_78772, w2_78773, q2_78774, I, e1_78775, e2_78776, ew0_78777, ew1_78778, ew2_78779, ew3_78780, ew4_78781, ewr_78782, eq0_78783, eq1_78784, eq2_78785, eq3_78786, eq4_78787, eqr_78788, eT_78789, eW_78790, eQ_78791⟩ dX11_image_21
set_option maxHeartbeats 4000000 in
set_option maxRecDepth 100000 in
theorem x_X11_back {l : Launch} {G : GG}  {L : List Nat} {f : HF} {ad : Nat → Nat → Nat} {tc w : Nat → Int × Int} {q : Nat → (Nat → Int32) → Prop} (I : SH (spC (NR 30 0 4) ((0, 6) : Int × Int) tc w q) nnC G ad L f) (hW : WBp w 8) (hT : WBp tc 4) (hQ : QIp q) (hZ : ZZp w q) (hE : ∀ j, (tc j).1 = (tc j).2) : PMi l yX11_back cX11_back 1 .int 3 0 0 G [.ref (ad 0 0)] L f (fun r L1 f1 => ∃ tc2 : Nat → Int × Int, ∃ w2 : Nat → Int × Int, ∃ q2 : Nat → (Nat → Int32) → Prop, SH (spC (NR 30 0 4) ((0, 6) : Int × Int) tc2 w2 q2) nnC G ad L1 f1 ∧ tc2 0 = tc 1 ∧ (∀ k, k ≠ 0 → tc2 k = tc k) ∧ w2 0 = w 5 ∧ w2 1 = w 6 ∧ w2 2 = w 7 ∧ w2 3 = w 8 ∧ w2 4 = w 9 ∧ (∀ k, (k < 0 ∨ 5 ≤ k) → w2 k = w k) ∧ q2 0 = q 5 ∧ q2 1 = q 6 ∧ q2 2 = q 7 ∧ q2 3 = q 8 ∧ q2 4 = q 9 ∧ (∀ k, (k < 0 ∨ 5 ≤ k) → q2 k = q k) ∧ WBp tc2 4 ∧ WBp w2 8 ∧ QIp q2) := by
  refine PMi.of (post := fun r L1 f1 => ∃ tc2 : Nat → Int × Int, ∃ w2 : Nat → Int × Int, ∃ q2 : Nat → (Nat → Int32) → Prop, SH (spC (NR 30 0 4) ((0, 6) : Int × Int) tc2 w2 q2) nnC G ad L1 f1 ∧ tc2 0 = tc 1 ∧ (∀ k, k ≠ 0 → tc2 k = tc k) ∧ w2 0 = w 5 ∧ w2 1 = w 6 ∧ w2 2 = w 7 ∧ w2 3 = w 8 ∧ w2 4 = w 9 ∧ (∀ k, (k < 0 ∨ 5 ≤ k) → w2 k = w k) ∧ q2 0 = q 5 ∧ q2 1 = q 6 ∧ q2 2 = q 7 ∧ q2 3 = q 8 ∧ q2 4 = q 9 ∧ (∀ k, (k < 0 ∨ 5 ≤ k) → q2 k = q k) ∧ WBp tc2 4 ∧ WBp w2 8 ∧ QIp q2) (own := RX11) (by decide) rfl (Nat.le_of_ble_eq_true rfl) (fun sz p e s m args below meth c A ls hA1 hname S Y hl => ?_)
  have hx := S.hx
  have hb := S.hb
  have hl : lv_has ls 1 [(0, .ref (ad 0 0))] := hl
  refine lv_aload_n hx hb dX11_back_0 rfl (lv_at hl 0 rfl) ?_
  have p_ad_0_0 := opnC_0 (j := 0) I (by decide)
  have p_ad_0_0 : pt L f (ad 0 0) (.inr (11, [.ref (ad 1 0), .ref (ad 1 1), .ref (ad 2 0), .ref (ad 3 0), .ref (ad 4 0), .ref (ad 5 0), .ref (ad 6 0), .ref (ad 7 0), .ref (ad 8 0)])) := p_ad_0_0
  refine pg_get S Y ok_X11 0 (by decide) kf11_13 (v := .ref (ad 1 0)) p_ad_0_0 rfl dX11_back_1 ?_
  refine lv_aload_n hx hb dX11_back_4 rfl (lv_at hl 0 rfl) ?_
  refine pg_get S Y ok_X11 1 (by decide) kf11_19 (v := .ref (ad 1 1)) p_ad_0_0 rfl dX11_back_5 ?_
  refine cVv (As := [.ref (ad 1 1)]) (rest := []) S Y (x_X10_takeOver0 (l := l) I hW hT hQ) cw_X10_takeOver km11_347 (I.opo (k := 1) (j := 0) (by decide) rfl).choose_spec.1 ok_X10.1 rfl rfl ⟨Nat.le_of_ble_eq_true rfl, Nat.le_of_ble_eq_true rfl⟩ hl.1 rfl (Nat.le_of_ble_eq_true rfl) ⟨Nat.le_of_ble_eq_true rfl, Nat.le_of_ble_eq_true rfl⟩ dX11_back_8 (fun L_78898 f_78899 H locs hr_78900 Y => ?_)
  obtain ⟨tc2_78901, w2_78902, q2_78903, I, e1_78904, e2_78905, ew0_78906, ew1_78907, ew2_78908, ew3_78909, ew4_78910, ewr_78911, eq0_78912, eq1_78913, eq2_78914, eq3_78915, eq4_78916, eqr_78917, eT_78918, eW_78919, eQ_78920⟩ := hr_78900
  refine lv_aload_n hx hb dX11_back_11 rfl (lv_at hl 0 rfl) ?_
  have p_ad_0_0 := opnC_0 (j := 0) I (by decide)
  have p_ad_0_0 : pt L_78898 f_78899 (ad 0 0) (.inr (11, [.ref (ad 1 0), .ref (ad 1 1), .ref (ad 2 0), .ref (ad 3 0), .ref (ad 4 0), .ref (ad 5 0), .ref (ad 6 0), .ref (ad 7 0), .ref (ad 8 0)])) := p_ad_0_0
  refine pg_get S Y ok_X11 0 (by decide) kf11_13 (v := .ref (ad 1 0)) p_ad_0_0 rfl dX11_back_12 ?_
  obtain ⟨v_78921, v_78923, v_78925, v_78927, v_78929, p_ad_1_0, b_78922, b_78924, b_78926, b_78928, b_78930⟩ := opnC_1 (j := 0) I (by decide)
  have p_ad_1_0 : pt L_78898 f_78899 (ad 1 0) (.inr (10, [.ref (ad 40 0), .ref (ad 41 0), .ref (ad 42 0), .ref (ad 10 0), .ref (ad 43 0), .ref (ad 20 0), .ref (ad 20 1), .ref (ad 20 2), .ref (ad 20 3), .ref (ad 20 4), .int v_78921, .int v_78923, .int v_78925, .int v_78927, .int v_78929])) := p_ad_1_0
  refine pg_getN S Y ok_X10 3 (by decide) kf11_131 (v := .ref (ad 10 0)) p_ad_1_0 rfl dX11_back_15 ?_
  obtain ⟨v_78931, v_78933, v_78935, v_78937, v_78939, p_ad_10_0, b_78932, b_78934, b_78936, b_78938, b_78940⟩ := opnC_10 (j := 0) I (by decide)
  have p_ad_10_0 : pt L_78898 f_78899 (ad 10 0) (.inr (4, [.ref (ad 11 0), .ref (ad 12 0), .int v_78931, .int v_78933, .int v_78935, .int v_78937, .int v_78939])) := p_ad_10_0
  refine pg_getN S Y ok_X4 4 (by decide) kf11_150 (v := .int v_78935) p_ad_10_0 rfl dX11_back_18 ?_
  exact prI (post := fun r L1 f1 => ∃ tc2 : Nat → Int × Int, ∃ w2 : Nat → Int × Int, ∃ q2 : Nat → (Nat → Int32) → Prop, SH (spC (NR 30 0 4) ((0, 6) : Int × Int) tc2 w2 q2) nnC G ad L1 f1 ∧ tc2 0 = tc 1 ∧ (∀ k, k ≠ 0 → tc2 k = tc k) ∧ w2 0 = w 5 ∧ w2 1 = w 6 ∧ w2 2 = w 7 ∧ w2 3 = w 8 ∧ w2 4 = w 9 ∧ (∀ k, (k < 0 ∨ 5 ≤ k) → w2 k = w k) ∧ q2 0 = q 5 ∧ q2 1 = q 6 ∧ q2 2 = q 7 ∧ q2 3 = q 8 ∧ q2 4 = q 9 ∧ (∀ k, (k < 0 ∨ 5 ≤ k) → q2 k = q k) ∧ WBp tc2 4 ∧ WBp w2 8 ∧ QIp q2) S Y rfl (by decide) (by decide) hA1 ⟨tc2_78901, w2_78902, q2_78903, I, e1_78904, e2_78905, ew0_78906, ew1_78907, ew2_78908, ew3_78909, ew4_78910, ewr_78911, eq0_78912, eq1_78913, eq2_78914, eq3_78915, eq4_78916, eqr_78917, eT_78918, eW_78919, eQ_78920⟩ dX11_back_21
