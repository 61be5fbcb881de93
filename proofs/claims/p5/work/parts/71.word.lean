theorem dX11_word_0 : decode cX11_word 0 = .ok (.iload_n 1, 1) := by decide +kernel
theorem dX11_word_1 : decode cX11_word 1 = .ok (.iconst (-1), 1) := by decide +kernel
theorem dX11_word_2 : decode cX11_word 2 = .ok (.if_icmp .ne 14, 3) := by decide +kernel
theorem dX11_word_16 : decode cX11_word 16 = .ok (.iload_n 1, 1) := by decide +kernel
theorem dX11_word_17 : decode cX11_word 17 = .ok (.iconst 1, 1) := by decide +kernel
theorem dX11_word_18 : decode cX11_word 18 = .ok (.bipush 99, 2) := by decide +kernel
theorem dX11_word_20 : decode cX11_word 20 = .ok (.invokestatic 146, 3) := by decide +kernel
theorem dX11_word_23 : decode cX11_word 23 = .ok (.ifCond .eq 14, 3) := by decide +kernel
theorem dX11_word_37 : decode cX11_word 37 = .ok (.bipush (-2), 2) := by decide +kernel
theorem dX11_word_39 : decode cX11_word 39 = .ok (.ireturn, 1) := by decide +kernel
theorem dX11_word_26 : decode cX11_word 26 = .ok (.iload_n 2, 1) := by decide +kernel
theorem dX11_word_27 : decode cX11_word 27 = .ok (.iconst 0, 1) := by decide +kernel
theorem dX11_word_28 : decode cX11_word 28 = .ok (.sipush 999, 3) := by decide +kernel
theorem dX11_word_31 : decode cX11_word 31 = .ok (.invokestatic 146, 3) := by decide +kernel
theorem dX11_word_34 : decode cX11_word 34 = .ok (.ifCond .ne 6, 3) := by decide +kernel
theorem dX11_word_40 : decode cX11_word 40 = .ok (.aload_n 0, 1) := by decide +kernel
theorem dX11_word_41 : decode cX11_word 41 = .ok (.getfield 13, 3) := by decide +kernel
theorem dX11_word_44 : decode cX11_word 44 = .ok (.getfield 293, 3) := by decide +kernel
theorem dX11_word_47 : decode cX11_word 47 = .ok (.iload_n 1, 1) := by decide +kernel
theorem dX11_word_48 : decode cX11_word 48 = .ok (.iload_n 2, 1) := by decide +kernel
theorem dX11_word_49 : decode cX11_word 49 = .ok (.iconst 0, 1) := by decide +kernel
theorem dX11_word_50 : decode cX11_word 50 = .ok (.invokevirtual 258, 3) := by decide +kernel
theorem dX11_word_53 : decode cX11_word 53 = .ok (.ireturn, 1) := by decide +kernel
theorem dX11_word_5 : decode cX11_word 5 = .ok (.aload_n 0, 1) := by decide +kernel
theorem dX11_word_6 : decode cX11_word 6 = .ok (.getfield 13, 3) := by decide +kernel
theorem dX11_word_9 : decode cX11_word 9 = .ok (.getfield 293, 3) := by decide +kernel
theorem dX11_word_12 : decode cX11_word 12 = .ok (.invokevirtual 253, 3) := by decide +kernel
theorem dX11_word_15 : decode cX11_word 15 = .ok (.ireturn, 1) := by decide +kernel
theorem dX11_image_0 : decode cX11_image 0 = .ok (.aload_n 0, 1) := by decide +kernel
theorem dX11_image_1 : decode cX11_image 1 = .ok (.getfield 19, 3) := by decide +kernel
theorem kf11_19 : inW (Cond.fieldLink RX11 19 "KneeOaths" "kept" "LKneeOaths$World;") := ⟨List.mem_of_getElem? (i := 506) (by decide +kernel), by decide +kernel⟩
theorem dX11_image_4 : decode cX11_image 4 = .ok (.aload_n 0, 1) := by decide +kernel
theorem dX11_image_5 : decode cX11_image 5 = .ok (.getfield 13, 3) := by decide +kernel
theorem dX11_image_8 : decode cX11_image 8 = .ok (.invokevirtual 347, 3) := by decide +kernel
theorem cw_X10_takeOver : CWv yX10_takeOver cX10_takeOver 3 none 1 := ⟨⟨⟨List.mem_of_getElem? (i := 126) (by decide +kernel), by decide +kernel⟩, ⟨List.mem_of_getElem? (i := 1469) (by decide +kernel), by decide +kernel⟩, by decide +kernel⟩, ⟨List.mem_of_getElem? (i := 1467) (by decide +kernel), by decide +kernel⟩, ⟨List.mem_of_getElem? (i := 1468) (by decide +kernel), by decide +kernel⟩⟩
theorem km11_347 : inW (Cond.methodLink RX11 347 yX10_takeOver) := ⟨List.mem_of_getElem? (i := 1466) (by decide +kernel), by decide +kernel⟩
theorem dX11_image_11 : decode cX11_image 11 = .ok (.aload_n 0, 1) := by decide +kernel
theorem dX11_image_12 : decode cX11_image 12 = .ok (.getfield 13, 3) := by decide +kernel
theorem dX11_image_15 : decode cX11_image 15 = .ok (.getfield 131, 3) := by decide +kernel
theorem dX11_image_18 : decode cX11_image 18 = .ok (.getfield 150, 3) := by decide +kernel
theorem dX11_image_21 : decode cX11_image 21 = .ok (.ireturn, 1) := by decide +kernel
theorem dX11_back_0 : decode cX11_back 0 = .ok (.aload_n 0, 1) := by decide +kernel
theorem dX11_back_1 : decode cX11_back 1 = .ok (.getfield 13, 3) := by decide +kernel
theorem dX11_back_4 : decode cX11_back 4 = .ok (.aload_n 0, 1) := by decide +kernel
theorem dX11_back_5 : decode cX11_back 5 = .ok (.getfield 19, 3) := by decide +kernel
theorem dX11_back_8 : decode cX11_back 8 = .ok (.invokevirtual 347, 3) := by decide +kernel
theorem dX11_back_11 : decode cX11_back 11 = .ok (.aload_n 0, 1) := by decide +kernel
theorem dX11_back_12 : decode cX11_back 12 = .ok (.getfield 13, 3) := by decide +kernel
theorem dX11_back_15 : decode cX11_back 15 = .ok (.getfield 131, 3) := by decide +kernel
theorem dX11_back_18 : decode cX11_back 18 = .ok (.getfield 150, 3) := by decide +kernel
theorem dX11_back_21 : decode cX11_back 21 = .ok (.ireturn, 1) := by decide +kernel
def tlp (r : Int32) (n n2 : Int) : Prop := (n < 8 ∧ r.toInt = n + 1 ∧ n2 = n + 1) ∨ (¬ n < 8 ∧ r = -2 ∧ n2 = n)
theorem tx_in {v l x : Int32} {n m : Int} (b : bn n m v) (e : n = m) (bl : bn (lmt 2).1 (lmt 2).2 l) (c : ¬ l ≤ v) (hn : 0 ≤ n) (ex : x = v + 1) : n < 8 ∧ x.toInt = n + 1 := by
  obtain ⟨b1, b2⟩ := b
  have bl : bn 8 8 l := bl
  obtain ⟨l1, l2⟩ := bl
  rw [Int32.le_iff_toInt_le] at c
  have e2 : x.toInt = v.toInt + 1 := by rw [ex]; exact ti_add (by rw [show (1 : Int32).toInt = 1 from rfl]; omega) (by rw [show (1 : Int32).toInt = 1 from rfl]; omega)
  exact ⟨by omega, by omega⟩
theorem tx_out {v l : Int32} {n m : Int} (b : bn n m v) (e : n = m) (bl : bn (lmt 2).1 (lmt 2).2 l) (c : l ≤ v) : ¬ n < 8 := by
  obtain ⟨b1, b2⟩ := b
  have bl : bn 8 8 l := bl
  obtain ⟨l1, l2⟩ := bl
  rw [Int32.le_iff_toInt_le] at c
  omega
theorem WB_st {w : Nat → Int × Int} {j : Nat} {c a : Int} (hW : WBp w c) (h0 : 0 ≤ a) (h1 : a ≤ c) : WBp (stf w j (a, a)) c := by
  intro k
  by_cases z : k = j
  · subst z; rw [stf_s]; exact ⟨h0, h1⟩
  · rw [stf_n z]; exact hW k
set_option maxHeartbeats 4000000 in
set_option maxRecDepth 100000 in
theorem x_X9_forgetX {l : Launch} {G : GG}  {L : List Nat} {f : HF} {ad : Nat → Nat → Nat} {rs : RS} {fc : Int × Int} {tc w : Nat → Int × Int} {q : Nat → (Nat → Int32) → Prop} (I : SH (spC rs fc tc w q) nnC G ad L f) (hW : WBp w 8) (hT : WBp tc 4) (hQ : QIp q) (hx2 : (w 2).1 = (w 2).2) (hq2 : ∀ g, q 2 g) : PMi l yX9_forget cX9_forget 1 .int 0 0 0 G [.ref (ad 20 2)] L f (fun r L1 f1 => ∃ w2 : Nat → Int × Int, (r = 0 ∧ (w2 2).1 = 0) ∧ SH (spC rs fc tc w2 q) nnC G ad L1 f1 ∧ (w2 2).1 = (w2 2).2 ∧ (∀ k, k ≠ 2 → w2 k = w k) ∧ WBp w2 8) := by
  refine PMi.of (post := fun r L1 f1 => ∃ w2 : Nat → Int × Int, (r = 0 ∧ (w2 2).1 = 0) ∧ SH (spC rs fc tc w2 q) nnC G ad L1 f1 ∧ (w2 2).1 = (w2 2).2 ∧ (∀ k, k ≠ 2 → w2 k = w k) ∧ WBp w2 8) (own := RX9) (by decide) rfl (Nat.le_of_ble_eq_true rfl) (fun sz p e s m args below meth c A ls hA1 hname S Y hl => ?_)
  have hx := S.hx
  have hb := S.hb
  have hl : lv_has ls 1 [(0, .ref (ad 20 2))] := hl
  refine lv_aload_n hx hb dX9_forget_0 rfl (lv_at hl 0 rfl) ?_
  refine lv_iconst (v := 0) hx hb dX9_forget_1 (by decide) ?_
  obtain ⟨v_91898, v_91900, p_ad_20_2, b_91899, b_91901⟩ := opnC_20 (j := 2) I (by decide)
  have p_ad_20_2 : pt L f (ad 20 2) (.inr (9, [.ref (ad 21 2), .int v_91898, .int v_91900])) := p_ad_20_2
  refine pg_put S Y ok_X9 2 (by decide) kf9_25 rfl (fs' := [.ref (ad 21 2), .int v_91898, .int 0]) (v := .int 0) p_ad_20_2 rfl rfl rfl (Nat.le_of_ble_eq_true rfl) dX9_forget_2 (fun f_91902 H locs ef_91902 Y => ?_)
  have p_ad_20_2 := p_ad_20_2.me ef_91902
  have I := I.upS (sp' := spC rs fc tc (stf w 2 (0, 0)) q) (k := 20) (j := 2) (by decide) ef_91902 (okE_o (okFs_c okV_r (okFs_c (okV_p b_91899) (okFs_c (okV_p (q := stf w 2 (0, 0) 2) (by rw [stf_s]; exact bn_k (by decide))) okFs_n)))) wC
  refine lv_iconst (v := 0) hx hb dX9_forget_5 (by decide) ?_
  exact prI (post := fun r L1 f1 => ∃ w2 : Nat → Int × Int, (r = 0 ∧ (w2 2).1 = 0) ∧ SH (spC rs fc tc w2 q) nnC G ad L1 f1 ∧ (w2 2).1 = (w2 2).2 ∧ (∀ k, k ≠ 2 → w2 k = w k) ∧ WBp w2 8) S Y rfl (by decide) (by decide) hA1 ⟨(stf w 2 (0, 0)), by rw [stf_s]; exact ⟨rfl, rfl⟩, I, (by rw [stf_s]), fun k h => stf_n h, (WB_st hW (by decide) (by decide))⟩ dX9_forget_6
set_option maxHeartbeats 4000000 in
set_option maxRecDepth 100000 in
theorem x_X9_tellX {l : Launch} {G : GG}  {L : List Nat} {f : HF} {ad : Nat → Nat → Nat} {rs : RS} {fc : Int × Int} {tc w : Nat → Int × Int} {q : Nat → (Nat → Int32) → Prop} {i1 i2 i3 : Int32} (I : SH (spC rs fc tc w q) nnC G ad L f) (hW : WBp w 8) (hT : WBp tc 4) (hQ : QIp q) (hx2 : (w 2).1 = (w 2).2) (hq2 : ∀ g, q 2 g) : PMi l yX9_tell cX9_tell 5 .int 0 0 0 G [.ref (ad 20 2), .int i1, .int i2, .int i3] L f (fun r L1 f1 => ∃ w2 : Nat → Int × Int, (tlp r (w 2).1 (w2 2).1) ∧ SH (spC rs fc tc w2 q) nnC G ad L1 f1 ∧ (w2 2).1 = (w2 2).2 ∧ (∀ k, k ≠ 2 → w2 k = w k) ∧ WBp w2 8) := by
  refine PMi.of (post := fun r L1 f1 => ∃ w2 : Nat → Int × Int, (tlp r (w 2).1 (w2 2).1) ∧ SH (spC rs fc tc w2 q) nnC G ad L1 f1 ∧ (w2 2).1 = (w2 2).2 ∧ (∀ k, k ≠ 2 → w2 k = w k) ∧ WBp w2 8) (own := RX9) (by decide) rfl (Nat.le_of_ble_eq_true rfl) (fun sz p e s m args below meth c A ls hA1 hname S Y hl => ?_)
  have hx := S.hx
  have hb := S.hb
  have hl : lv_has ls 5 [(0, .ref (ad 20 2)), (1, .int i1), (2, .int i2), (3, .int i3)] := hl
  refine lv_aload_n hx hb dX9_tell_0 rfl (lv_at hl 0 rfl) ?_
  obtain ⟨v_91943, v_91945, p_ad_20_2, b_91944, b_91946⟩ := opnC_20 (j := 2) I (by decide)
  have p_ad_20_2 : pt L f (ad 20 2) (.inr (9, [.ref (ad 21 2), .int v_91943, .int v_91945])) := p_ad_20_2
  refine pg_get S Y ok_X9 2 (by decide) kf9_25 (v := .int v_91945) p_ad_20_2 rfl dX9_tell_1 ?_
  refine lv_aload_n hx hb dX9_tell_4 rfl (lv_at hl 0 rfl) ?_
  refine pg_get S Y ok_X9 1 (by decide) kf9_21 (v := .int v_91943) p_ad_20_2 rfl dX9_tell_5 ?_
  refine lv_icmp_lt (tgt := 14) hx hb dX9_tell_8 (by decide) (fun c_91947 => ?_) (fun c_91947 => ?_)
  · have B_91948 : bn 0 7 v_91945 := bn_w (bn_ltl c_91947 (bn_w (a' := 0) (b' := 8) b_91946 (hW 2)) (bn_w (a' := 0) (b' := 8) b_91944 (lmt_b 2))) (by decide)
    have B_91949 : bn 1 8 v_91943 := bn_w (bn_ltr c_91947 (bn_w (a' := 0) (b' := 8) b_91946 (hW 2)) (bn_w (a' := 0) (b' := 8) b_91944 (lmt_b 2))) (by decide)
    refine lv_aload_n hx hb dX9_tell_14 rfl (lv_at hl 0 rfl) ?_
    refine pg_get S Y ok_X9 2 (by decide) kf9_25 (v := .int v_91945) p_ad_20_2 rfl dX9_tell_15 ?_
    refine lv_iconst (v := 3) hx hb dX9_tell_18 (by decide) ?_
    refine lv_imul hx hb dX9_tell_19 ?_
    refine lv_topi (fun x_91950 ex_91950 => ?_)
    refine lv_istore (lv' := [(4, .int x_91950), (0, .ref (ad 20 2)), (1, .int i1), (2, .int i2), (3, .int i3)]) hx hb dX9_tell_20 hl (by decide) rfl (fun ls hl => ?_)
    refine lv_aload_n hx hb dX9_tell_22 rfl (lv_at hl 1 rfl) ?_
    refine pg_get S Y ok_X9 0 (by decide) kf9_9 (v := .ref (ad 21 2)) p_ad_20_2 rfl dX9_tell_23 ?_
    refine lv_iload hx hb dX9_tell_26 (lv_at hl 0 rfl) ?_
    refine lv_iload_n hx hb dX9_tell_28 rfl (lv_at hl 2 rfl) ?_
    obtain ⟨g_91951, p_ad_21_2, o_91952⟩ := I.opi (k := 21) (j := 2) (by decide) rfl
    have p_ad_21_2 : pt L f (ad 21 2) (.inl (G.2 0, 24, .inl g_91951)) := p_ad_21_2
    refine pg_iast S Y p_ad_21_2 (vp_bn (bn_eq ex_91950 (bn_mul B_91948 (show bn 3 3 (3 : Int32) from bn_k (by decide)) (by decide))) (by decide)) dX9_tell_29 (fun f_91954 H locs ef_91954 Y => ?_)
    obtain ⟨g_91953, eg_91953⟩ : ∃ z, z = upd (g_91951) (x_91950 : Int32).toNatClampNeg i1 := ⟨_, rfl⟩
    rw [← eg_91953] at ef_91954
    have p_ad_20_2 := p_ad_20_2.up ef_91954 (I.ne (k := 20) (j := 2) (k' := 21) (j' := 2) (by decide) (by decide) (Or.inl (by decide)))
    have p_ad_21_2 := p_ad_21_2.me ef_91954
    have I := I.up (k := 21) (j := 2) (by decide) ef_91954 (okE_a (g := g_91953) (hq2 g_91953))
    refine lv_aload_n hx hb dX9_tell_30 rfl (lv_at hl 1 rfl) ?_
    refine pg_get S Y ok_X9 0 (by decide) kf9_9 (v := .ref (ad 21 2)) p_ad_20_2 rfl dX9_tell_31 ?_
    refine lv_iload hx hb dX9_tell_34 (lv_at hl 0 rfl) ?_
    refine lv_iconst (v := 1) hx hb dX9_tell_36 (by decide) ?_
    refine lv_iadd hx hb dX9_tell_37 ?_
    refine lv_topi (fun x_91955 ex_91955 => ?_)
    refine lv_iload_n hx hb dX9_tell_38 rfl (lv_at hl 3 rfl) ?_
    refine pg_iast S Y p_ad_21_2 (vp_bn (bn_eq ex_91955 (bn_add (bn_eq ex_91950 (bn_mul B_91948 (show bn 3 3 (3 : Int32) from bn_k (by decide)) (by decide))) (show bn 1 1 (1 : Int32) from bn_k (by decide)) (by decide))) (by decide)) dX9_tell_39 (fun f_91957 H locs ef_91957 Y => ?_)
    obtain ⟨g_91956, eg_91956⟩ : ∃ z, z = upd (g_91953) (x_91955 : Int32).toNatClampNeg i2 := ⟨_, rfl⟩
    rw [← eg_91956] at ef_91957
    have p_ad_20_2 := p_ad_20_2.up ef_91957 (I.ne (k := 20) (j := 2) (k' := 21) (j' := 2) (by decide) (by decide) (Or.inl (by decide)))
    have p_ad_21_2 := p_ad_21_2.me ef_91957
    have I := I.up (k := 21) (j := 2) (by decide) ef_91957 (okE_a (g := g_91956) (hq2 g_91956))
    refine lv_aload_n hx hb dX9_tell_40 rfl (lv_at hl 1 rfl) ?_
    refine pg_get S Y ok_X9 0 (by decide) kf9_9 (v := .ref (ad 21 2)) p_ad_20_2 rfl dX9_tell_41 ?_
    refine lv_iload hx hb dX9_tell_44 (lv_at hl 0 rfl) ?_
    refine lv_iconst (v := 2) hx hb dX9_tell_46 (by decide) ?_
    refine lv_iadd hx hb dX9_tell_47 ?_
    refine lv_topi (fun x_91958 ex_91958 => ?_)
    refine lv_iload_n hx hb dX9_tell_48 rfl (lv_at hl 4 rfl) ?_
    refine pg_iast S Y p_ad_21_2 (vp_bn (bn_eq ex_91958 (bn_add (bn_eq ex_91950 (bn_mul B_91948 (show bn 3 3 (3 : Int32) from bn_k (by decide)) (by decide))) (show bn 2 2 (2 : Int32) from bn_k (by decide)) (by decide))) (by decide)) dX9_tell_49 (fun f_91960 H locs ef_91960 Y => ?_)
    obtain ⟨g_91959, eg_91959⟩ : ∃ z, z = upd (g_91956) (x_91958 : Int32).toNatClampNeg i3 := ⟨_, rfl⟩
    rw [← eg_91959] at ef_91960
    have p_ad_20_2 := p_ad_20_2.up ef_91960 (I.ne (k := 20) (j := 2) (k' := 21) (j' := 2) (by decide) (by decide) (Or.inl (by decide)))
    have p_ad_21_2 := p_ad_21_2.me ef_91960
    have I := I.up (k := 21) (j := 2) (by decide) ef_91960 (okE_a (g := g_91959) (hq2 g_91959))
    refine lv_aload_n hx hb dX9_tell_50 rfl (lv_at hl 1 rfl) ?_
    refine lv_dup hx hb dX9_tell_51 rfl ?_
    refine pg_get S Y ok_X9 2 (by decide) kf9_25 (v := .int v_91945) p_ad_20_2 rfl dX9_tell_52 ?_
    refine lv_iconst (v := 1) hx hb dX9_tell_55 (by decide) ?_
    refine lv_iadd hx hb dX9_tell_56 ?_
    refine lv_topi (fun x_91961 ex_91961 => ?_)
    refine pg_put S Y ok_X9 2 (by decide) kf9_25 rfl (fs' := [.ref (ad 21 2), .int v_91943, .int x_91961]) (v := .int x_91961) p_ad_20_2 rfl rfl rfl (Nat.le_of_ble_eq_true rfl) dX9_tell_57 (fun f_91962 H locs ef_91962 Y => ?_)
    have p_ad_21_2 := p_ad_21_2.up ef_91962 (I.ne (k := 21) (j := 2) (k' := 20) (j' := 2) (by decide) (by decide) (Or.inl (by decide)))
    have p_ad_20_2 := p_ad_20_2.me ef_91962
    have I := I.upS (sp' := spC rs fc tc (stf w 2 ((w 2).1 + 1, (w 2).1 + 1)) q) (k := 20) (j := 2) (by decide) ef_91962 (okE_o (okFs_c okV_r (okFs_c (okV_p b_91944) (okFs_c (okV_p (q := stf w 2 ((w 2).1 + 1, (w 2).1 + 1) 2) (by rw [stf_s]; exact ⟨by have h := (tx_in b_91946 hx2 b_91944 (Int32.not_le.mpr c_91947) (hW 2).1 ex_91961).2; show _ ≤ _; omega, by have h := (tx_in b_91946 hx2 b_91944 (Int32.not_le.mpr c_91947) (hW 2).1 ex_91961).2; show _ ≤ _; omega⟩)) okFs_n)))) wC
    refine lv_aload_n hx hb dX9_tell_60 rfl (lv_at hl 1 rfl) ?_
    refine pg_get S Y ok_X9 2 (by decide) kf9_25 (v := .int x_91961) p_ad_20_2 rfl dX9_tell_61 ?_
    exact prI (post := fun r L1 f1 => ∃ w2 : Nat → Int × Int, (tlp r (w 2).1 (w2 2).1) ∧ SH (spC rs fc tc w2 q) nnC G ad L1 f1 ∧ (w2 2).1 = (w2 2).2 ∧ (∀ k, k ≠ 2 → w2 k = w k) ∧ WBp w2 8) S Y rfl (by decide) (by decide) hA1 ⟨(stf w 2 ((w 2).1 + 1, (w 2).1 + 1)), Or.inl ⟨(tx_in b_91946 hx2 b_91944 (Int32.not_le.mpr c_91947) (hW 2).1 ex_91961).1, (tx_in b_91946 hx2 b_91944 (Int32.not_le.mpr c_91947) (hW 2).1 ex_91961).2, by rw [stf_s]⟩, I, (by rw [stf_s]), fun k h => stf_n h, (WB_st hW (by have h := (tx_in b_91946 hx2 b_91944 (Int32.not_le.mpr c_91947) (hW 2).1 ex_91961).1; have h2 := (hW 2).1; omega) (by have h := (tx_in b_91946 hx2 b_91944 (Int32.not_le.mpr c_91947) (hW 2).1 ex_91961).1; omega))⟩ dX9_tell_64
  · refine lv_bipush (v := (-2)) hx hb dX9_tell_11 (by decide) ?_
    exact prI (post := fun r L1 f1 => ∃ w2 : Nat → Int × Int, (tlp r (w 2).1 (w2 2).1) ∧ SH (spC rs fc tc w2 q) nnC G ad L1 f1 ∧ (w2 2).1 = (w2 2).2 ∧ (∀ k, k ≠ 2 → w2 k = w k) ∧ WBp w2 8) S Y rfl (by decide) (by decide) hA1 ⟨w, Or.inr ⟨tx_out b_91946 hx2 b_91944 (Int32.not_lt.mp c_91947), rfl, rfl⟩, I, hx2, fun k h => rfl, hW⟩ dX9_tell_13
def wdp (i1 i2 r : Int32) (n n2 : Int) : Prop := (i1 = -1 ∧ r = 0 ∧ n2 = 0) ∨ (¬ i1 = -1 ∧ ¬ ((1 ≤ i1.toInt ∧ i1.toInt ≤ 99) ∧ 0 ≤ i2.toInt ∧ i2.toInt ≤ 999) ∧ r = -2 ∧ n2 = n) ∨ (¬ i1 = -1 ∧ ((1 ≤ i1.toInt ∧ i1.toInt ≤ 99) ∧ 0 ≤ i2.toInt ∧ i2.toInt ≤ 999) ∧ tlp r n n2)
theorem wdp_one {i1 i2 r r' : Int32} {n m m' : Int} (h : wdp i1 i2 r n m) (h' : wdp i1 i2 r' n m') : r = r' ∧ m = m' := by
  unfold wdp tlp at h h'
  rcases h with ⟨a, b, c⟩ | ⟨a, b, c, d⟩ | ⟨a, b, c⟩ <;> rcases h' with ⟨a', b', c'⟩ | ⟨a', b', c', d'⟩ | ⟨a', b', c'⟩ <;> first | exact absurd a a' | exact absurd a' a | exact absurd b' b | exact absurd b b' | skip
  · exact ⟨by rw [b, b'], by rw [c, c']⟩
  · exact ⟨by rw [c, c'], by rw [d, d']⟩
  · rcases c with ⟨x, y, z⟩ | ⟨x, y, z⟩ <;> rcases c' with ⟨x', y', z'⟩ | ⟨x', y', z'⟩ <;> first | exact absurd x x' | exact absurd x' x | skip
    · exact ⟨Int32.toInt_inj.mp (by rw [y, y']), by rw [z, z']⟩
    · exact ⟨by rw [y, y'], by rw [z, z']⟩
set_option maxHeartbeats 4000000 in
set_option maxRecDepth 100000 in
theorem x_X11_word {l : Launch} {G : GG}  {L : List Nat} {f : HF} {ad : Nat → Nat → Nat} {nL : Int} {bT : Nat → Int32} {kF : Int} {pF : Int} {tc w : Nat → Int × Int} {q : Nat → (Nat → Int32) → Prop} {i1 i2 : Int32} (I : SH (spC ((NR 30 0 4, fz (pp nL) FI FI FI FI FI FI (pp kF) (pp pF), tz (EQ bT) TA TA TA, sc0) : RS) ((0, 6) : Int × Int) tc w q) nnC G ad L f) (hW : WBp w 8) (hT : WBp tc 4) (hQ : QIp q) (hZ : ZZp w q) (hE : ∀ j, (tc j).1 = (tc j).2) (hx2 : (w 2).1 = (w 2).2) (hq2 : ∀ g, q 2 g) : PMi l yX11_word cX11_word 3 .int 1 0 0 G [.ref (ad 0 0), .int i1, .int i2] L f (fun r L1 f1 => ∃ w2 : Nat → Int × Int, (wdp i1 i2 r (w 2).1 (w2 2).1) ∧ SH (spC ((NR 30 0 4, fz (pp nL) FI FI FI FI FI FI (pp kF) (pp pF), tz (EQ bT) TA TA TA, sc0) : RS) ((0, 6) : Int × Int) tc w2 q) nnC G ad L1 f1 ∧ (w2 2).1 = (w2 2).2 ∧ (∀ k, k ≠ 2 → w2 k = w k) ∧ WBp w2 8) := by
  refine PMi.of (post := fun r L1 f1 => ∃ w2 : Nat → Int × Int, (wdp i1 i2 r (w 2).1 (w2 2).1) ∧ SH (spC ((NR 30 0 4, fz (pp nL) FI FI FI FI FI FI (pp kF) (pp pF), tz (EQ bT) TA TA TA, sc0) : RS) ((0, 6) : Int × Int) tc w2 q) nnC G ad L1 f1 ∧ (w2 2).1 = (w2 2).2 ∧ (∀ k, k ≠ 2 → w2 k = w k) ∧ WBp w2 8) (own := RX11) (by decide) rfl (Nat.le_of_ble_eq_true rfl) (fun sz p e s m args below meth c A ls hA1 hname S Y hl => ?_)
  have hx := S.hx
  have hb := S.hb
  have hl : lv_has ls 3 [(0, .ref (ad 0 0)), (1, .int i1), (2, .int i2)] := hl
  refine lv_iload_n hx hb dX11_word_0 rfl (lv_at hl 1 rfl) ?_
  refine lv_iconst (v := (-1)) hx hb dX11_word_1 (by decide) ?_
  refine lv_icmp_ne (tgt := 16) hx hb dX11_word_2 (by decide) (fun c_92047 => ?_) (fun c_92047 => ?_)
  · refine lv_iload_n hx hb dX11_word_16 rfl (lv_at hl 1 rfl) ?_
    refine lv_iconst (v := 1) hx hb dX11_word_17 (by decide) ?_
    refine lv_bipush (v := 99) hx hb dX11_word_18 (by decide) ?_
    refine cSp (As := [.int i1, .int 1, .int 99]) (rest := []) S Y (x_X11_withinX (l := l) ) cw_X11_within km11_146 rfl ⟨Nat.le_of_ble_eq_true rfl, Nat.le_of_ble_eq_true rfl⟩ hl.1 rfl (Nat.le_of_ble_eq_true rfl) ⟨Nat.le_of_ble_eq_true rfl, Nat.le_of_ble_eq_true rfl⟩ dX11_word_20 (fun r_92049 H locs er_92049 Y => ?_)
    refine lv_if_eq (tgt := 37) hx hb dX11_word_23 (by decide) (fun c_92050 => ?_) (fun c_92050 => ?_)
    · have B_92051 : bn 0 0 r_92049 := bn_w (bn_eq c_92050 (show bn 0 0 (0 : Int32) from bn_k (by decide))) (by decide)
      refine lv_bipush (v := (-2)) hx hb dX11_word_37 (by decide) ?_
      exact prI (post := fun r L1 f1 => ∃ w2 : Nat → Int × Int, (wdp i1 i2 r (w 2).1 (w2 2).1) ∧ SH (spC ((NR 30 0 4, fz (pp nL) FI FI FI FI FI FI (pp kF) (pp pF), tz (EQ bT) TA TA TA, sc0) : RS) ((0, 6) : Int × Int) tc w2 q) nnC G ad L1 f1 ∧ (w2 2).1 = (w2 2).2 ∧ (∀ k, k ≠ 2 → w2 k = w k) ∧ WBp w2 8) S Y rfl (by decide) (by decide) hA1 ⟨w, Or.inr (Or.inl ⟨c_92047, fun z => (win_f er_92049 c_92050) z.1, rfl, rfl⟩), I, hx2, fun k h => rfl, hW⟩ dX11_word_39
    · refine lv_iload_n hx hb dX11_word_26 rfl (lv_at hl 2 rfl) ?_
      refine lv_iconst (v := 0) hx hb dX11_word_27 (by decide) ?_
      refine lv_sipush (v := 999) hx hb dX11_word_28 (by decide) ?_
      refine cSp (As := [.int i2, .int 0, .int 999]) (rest := []) S Y (x_X11_withinX (l := l) ) cw_X11_within km11_146 rfl ⟨Nat.le_of_ble_eq_true rfl, Nat.le_of_ble_eq_true rfl⟩ hl.1 rfl (Nat.le_of_ble_eq_true rfl) ⟨Nat.le_of_ble_eq_true rfl, Nat.le_of_ble_eq_true rfl⟩ dX11_word_31 (fun r_92052 H locs er_92052 Y => ?_)
      refine lv_if_ne (tgt := 40) hx hb dX11_word_34 (by decide) (fun c_92053 => ?_) (fun c_92053 => ?_)
      · refine lv_aload_n hx hb dX11_word_40 rfl (lv_at hl 0 rfl) ?_
        have p_ad_0_0 := opnC_0 (j := 0) I (by decide)
        have p_ad_0_0 : pt L f (ad 0 0) (.inr (11, [.ref (ad 1 0), .ref (ad 1 1), .ref (ad 2 0), .ref (ad 3 0), .ref (ad 4 0), .ref (ad 5 0), .ref (ad 6 0), .ref (ad 7 0), .ref (ad 8 0)])) := p_ad_0_0
        refine pg_get S Y ok_X11 0 (by decide) kf11_13 (v := .ref (ad 1 0)) p_ad_0_0 rfl dX11_word_41 ?_
        obtain ⟨v_92055, v_92057, v_92059, v_92061, v_92063, p_ad_1_0, b_92056, b_92058, b_92060, b_92062, b_92064⟩ := opnC_1 (j := 0) I (by decide)
        have p_ad_1_0 : pt L f (ad 1 0) (.inr (10, [.ref (ad 40 0), .ref (ad 41 0), .ref (ad 42 0), .ref (ad 10 0), .ref (ad 43 0), .ref (ad 20 0), .ref (ad 20 1), .ref (ad 20 2), .ref (ad 20 3), .ref (ad 20 4), .int v_92055, .int v_92057, .int v_92059, .int v_92061, .int v_92063])) := p_ad_1_0
        refine pg_getN S Y ok_X10 7 (by decide) kf11_293 (v := .ref (ad 20 2)) p_ad_1_0 rfl dX11_word_44 ?_
        refine lv_iload_n hx hb dX11_word_47 rfl (lv_at hl 1 rfl) ?_
        refine lv_iload_n hx hb dX11_word_48 rfl (lv_at hl 2 rfl) ?_
        refine lv_iconst (v := 0) hx hb dX11_word_49 (by decide) ?_
        refine cVi (As := [.int i1, .int i2, .int 0]) (rest := []) S Y (x_X9_tellX (l := l) I hW hT hQ hx2 hq2) cw_X9_tell km11_258 (I.opo (k := 20) (j := 2) (by decide) rfl).choose_spec.1 ok_X9.1 rfl rfl ⟨Nat.le_of_ble_eq_true rfl, Nat.le_of_ble_eq_true rfl⟩ hl.1 rfl (Nat.le_of_ble_eq_true rfl) ⟨Nat.le_of_ble_eq_true rfl, Nat.le_of_ble_eq_true rfl⟩ dX11_word_50 (fun r_92067 L_92065 f_92066 H locs hr_92067 Y => ?_)
        obtain ⟨w2_92068, er_92067, I, e1_92069, e2_92070, eW_92071⟩ := hr_92067
        exact prI (post := fun r L1 f1 => ∃ w2 : Nat → Int × Int, (wdp i1 i2 r (w 2).1 (w2 2).1) ∧ SH (spC ((NR 30 0 4, fz (pp nL) FI FI FI FI FI FI (pp kF) (pp pF), tz (EQ bT) TA TA TA, sc0) : RS) ((0, 6) : Int × Int) tc w2 q) nnC G ad L1 f1 ∧ (w2 2).1 = (w2 2).2 ∧ (∀ k, k ≠ 2 → w2 k = w k) ∧ WBp w2 8) S Y rfl (by decide) (by decide) hA1 ⟨w2_92068, Or.inr (Or.inr ⟨c_92047, ⟨(win_t er_92049 c_92050), (win_t er_92052 c_92053)⟩, er_92067⟩), I, e1_92069, e2_92070, eW_92071⟩ dX11_word_53
      · have B_92054 : bn 0 0 r_92052 := bn_w (bn_eq c_92053 (show bn 0 0 (0 : Int32) from bn_k (by decide))) (by decide)
        refine lv_bipush (v := (-2)) hx hb dX11_word_37 (by decide) ?_
        exact prI (post := fun r L1 f1 => ∃ w2 : Nat → Int × Int, (wdp i1 i2 r (w 2).1 (w2 2).1) ∧ SH (spC ((NR 30 0 4, fz (pp nL) FI FI FI FI FI FI (pp kF) (pp pF), tz (EQ bT) TA TA TA, sc0) : RS) ((0, 6) : Int × Int) tc w2 q) nnC G ad L1 f1 ∧ (w2 2).1 = (w2 2).2 ∧ (∀ k, k ≠ 2 → w2 k = w k) ∧ WBp w2 8) S Y rfl (by decide) (by decide) hA1 ⟨w, Or.inr (Or.inl ⟨c_92047, fun z => (win_f er_92052 c_92053) z.2, rfl, rfl⟩), I, hx2, fun k h => rfl, hW⟩ dX11_word_39
  · have B_92048 : bn (-1) (-1) i1 := bn_w (bn_eq c_92047 (show bn (-1) (-1) ((-1) : Int32) from bn_k (by decide))) (by decide)
    refine lv_aload_n hx hb dX11_word_5 rfl (lv_at hl 0 rfl) ?_
    have p_ad_0_0 := opnC_0 (j := 0) I (by decide)
    have p_ad_0_0 : pt L f (ad 0 0) (.inr (11, [.ref (ad 1 0), .ref (ad 1 1), .ref (ad 2 0), .ref (ad 3 0), .ref (ad 4 0), .ref (ad 5 0), .ref (ad 6 0), .ref (ad 7 0), .ref (ad 8 0)])) := p_ad_0_0
    refine pg_get S Y ok_X11 0 (by decide) kf11_13 (v := .ref (ad 1 0)) p_ad_0_0 rfl dX11_word_6 ?_
    obtain ⟨v_92072, v_92074, v_92076, v_92078, v_92080, p_ad_1_0, b_92073, b_92075, b_92077, b_92079, b_92081⟩ := opnC_1 (j := 0) I (by decide)
    have p_ad_1_0 : pt L f (ad 1 0) (.inr (10, [.ref (ad 40 0), .ref (ad 41 0), .ref (ad 42 0), .ref (ad 10 0), .ref (ad 43 0), .ref (ad 20 0), .ref (ad 20 1), .ref (ad 20 2), .ref (ad 20 3), .ref (ad 20 4), .int v_92072, .int v_92074, .int v_92076, .int v_92078, .int v_92080])) := p_ad_1_0
    refine pg_getN S Y ok_X10 7 (by decide) kf11_293 (v := .ref (ad 20 2)) p_ad_1_0 rfl dX11_word_9 ?_
    refine cVi (As := []) (rest := []) S Y (x_X9_forgetX (l := l) I hW hT hQ hx2 hq2) cw_X9_forget km11_253 (I.opo (k := 20) (j := 2) (by decide) rfl).choose_spec.1 ok_X9.1 rfl rfl ⟨Nat.le_of_ble_eq_true rfl, Nat.le_of_ble_eq_true rfl⟩ hl.1 rfl (Nat.le_of_ble_eq_true rfl) ⟨Nat.le_of_ble_eq_true rfl, Nat.le_of_ble_eq_true rfl⟩ dX11_word_12 (fun r_92084 L_92082 f_92083 H locs hr_92084 Y => ?_)
    obtain ⟨w2_92085, er_92084, I, e1_92086, e2_92087, eW_92088⟩ := hr_92084
    exact prI (post := fun r L1 f1 => ∃ w2 : Nat → Int × Int, (wdp i1 i2 r (w 2).1 (w2 2).1) ∧ SH (spC ((NR 30 0 4, fz (pp nL) FI FI FI FI FI FI (pp kF) (pp pF), tz (EQ bT) TA TA TA, sc0) : RS) ((0, 6) : Int × Int) tc w2 q) nnC G ad L1 f1 ∧ (w2 2).1 = (w2 2).2 ∧ (∀ k, k ≠ 2 → w2 k = w k) ∧ WBp w2 8) S Y rfl (by decide) (by decide) hA1 ⟨w2_92085, Or.inl ⟨c_92047, er_92084⟩, I, e1_92086, e2_92087, eW_92088⟩ dX11_word_15
set_option maxHeartbeats 4000000 in
set_option maxRecDepth 100000 in
theorem x_X11_image {l : Launch} {G : GG}  {L : List Nat} {f : HF} {ad : Nat → Nat → Nat} {nL : Int} {bT : Nat → Int32} {kF : Int} {pF : Int} {tc w : Nat → Int × Int} {q : Nat → (Nat → Int32) → Prop} (I : SH (spC ((NR 30 0 4, fz (pp nL) FI FI FI FI FI FI (pp kF) (pp pF), tz (EQ bT) TA TA TA, sc0) : RS) ((0, 6) : Int × Int) tc w q) nnC G ad L f) (hW : WBp w 8) (hT : WBp tc 4) (hQ : QIp q) (hZ : ZZp w q) (hE : ∀ j, (tc j).1 = (tc j).2) : PMi l yX11_image cX11_image 1 .int 3 0 0 G [.ref (ad 0 0)] L f (fun r L1 f1 => ∃ tc2 : Nat → Int × Int, ∃ w2 : Nat → Int × Int, ∃ q2 : Nat → (Nat → Int32) → Prop, SH (spC ((NR 30 0 4, fz (pp nL) FI FI FI FI FI FI (pp kF) (pp pF), tz (EQ bT) TA TA TA, sc0) : RS) ((0, 6) : Int × Int) tc2 w2 q2) nnC G ad L1 f1 ∧ tc2 1 = tc 0 ∧ (∀ k, k ≠ 1 → tc2 k = tc k) ∧ w2 5 = w 0 ∧ w2 6 = w 1 ∧ w2 7 = w 2 ∧ w2 8 = w 3 ∧ w2 9 = w 4 ∧ (∀ k, (k < 5 ∨ 10 ≤ k) → w2 k = w k) ∧ q2 5 = q 0 ∧ q2 6 = q 1 ∧ q2 7 = q 2 ∧ q2 8 = q 3 ∧ q2 9 = q 4 ∧ (∀ k, (k < 5 ∨ 10 ≤ k) → q2 k = q k) ∧ WBp tc2 4 ∧ WBp w2 8 ∧ QIp q2) := by
  refine PMi.of (post := fun r L1 f1 => ∃ tc2 : Nat → Int × Int, ∃ w2 : Nat → Int × Int, ∃ q2 : Nat → (Nat → Int32) → Prop, SH (spC ((NR 30 0 4, fz (pp nL) FI FI FI FI FI FI (pp kF) (pp pF), tz (EQ bT) TA TA TA, sc0) : RS) ((0, 6) : Int × Int) tc2 w2 q2) nnC G ad L1 f1 ∧ tc2 1 = tc 0 ∧ (∀ k, k ≠ 1 → tc2 k = tc k) ∧ w2 5 = w 0 ∧ w2 6 = w 1 ∧ w2 7 = w 2 ∧ w2 8 = w 3 ∧ w2 9 = w 4 ∧ (∀ k, (k < 5 ∨ 10 ≤ k) → w2 k = w k) ∧ q2 5 = q 0 ∧ q2 6 = q 1 ∧ q2 7 = q 2 ∧ q2 8 = q 3 ∧ q2 9 = q 4 ∧ (∀ k, (k < 5 ∨ 10 ≤ k) → q2 k = q k) ∧ WBp tc2 4 ∧ WBp w2 8 ∧ QIp q2) (own := RX11) (by decide) rfl (Nat.le_of_ble_eq_true rfl) (fun sz p e s m args below meth c A ls hA1 hname S Y hl => ?_)
  have hx := S.hx
  have hb := S.hb
  have hl : lv_has ls 1 [(0, .ref (ad 0 0))] := hl
  refine lv_aload_n hx hb dX11_image_0 rfl (lv_at hl 0 rfl) ?_
  have p_ad_0_0 := opnC_0 (j := 0) I (by decide)
  have p_ad_0_0 : pt L f (ad 0 0) (.inr (11, [.ref (ad 1 0), .ref (ad 1 1), .ref (ad 2 0), .ref (ad 3 0), .ref (ad 4 0), .ref (ad 5 0), .ref (ad 6 0), .ref (ad 7 0), .ref (ad 8 0)])) := p_ad_0_0
  refine pg_get S Y ok_X11 1 (by decide) kf11_19 (v := .ref (ad 1 1)) p_ad_0_0 rfl dX11_image_1 ?_
  refine lv_aload_n hx hb dX11_image_4 rfl (lv_at hl 0 rfl) ?_
  refine pg_get S Y ok_X11 0 (by decide) kf11_13 (v := .ref (ad 1 0)) p_ad_0_0 rfl dX11_image_5 ?_
  refine cVv (As := [.ref (ad 1 0)]) (rest := []) S Y (x_X10_takeOver1 (l := l) I hW hT hQ) cw_X10_takeOver km11_347 (I.opo (k := 1) (j := 1) (by decide) rfl).choose_spec.1 ok_X10.1 rfl rfl ⟨Nat.le_of_ble_eq_true rfl, Nat.le_of_ble_eq_true rfl⟩ hl.1 rfl (Nat.le_of_ble_eq_true rfl) ⟨Nat.le_of_ble_eq_true rfl, Nat.le_of_ble_eq_true rfl⟩ dX11_image_8 (fun L_92175 f_92176 H locs hr_92177 Y => ?_)
  obtain ⟨tc2_92178, w2_92179, q2_92180, I, e1_92181, e2_92182, ew0_92183, ew1_92184, ew2_92185, ew3_92186, ew4_92187, ewr_92188, eq0_92189, eq1_92190, eq2_92191, eq3_92192, eq4_92193, eqr_92194, eT_92195, eW_92196, eQ_92197⟩ := hr_92177
  refine lv_aload_n hx hb dX11_image_11 rfl (lv_at hl 0 rfl) ?_
  have p_ad_0_0 := opnC_0 (j := 0) I (by decide)
  have p_ad_0_0 : pt L_92175 f_92176 (ad 0 0) (.inr (11, [.ref (ad 1 0), .ref (ad 1 1), .ref (ad 2 0), .ref (ad 3 0), .ref (ad 4 0), .ref (ad 5 0), .ref (ad 6 0), .ref (ad 7 0), .ref (ad 8 0)])) := p_ad_0_0
  refine pg_get S Y ok_X11 0 (by decide) kf11_13 (v := .ref (ad 1 0)) p_ad_0_0 rfl dX11_image_12 ?_
  obtain ⟨v_92198, v_92200, v_92202, v_92204, v_92206, p_ad_1_0, b_92199, b_92201, b_92203, b_92205, b_92207⟩ := opnC_1 (j := 0) I (by decide)
  have p_ad_1_0 : pt L_92175 f_92176 (ad 1 0) (.inr (10, [.ref (ad 40 0), .ref (ad 41 0), .ref (ad 42 0), .ref (ad 10 0), .ref (ad 43 0), .ref (ad 20 0), .ref (ad 20 1), .ref (ad 20 2), .ref (ad 20 3), .ref (ad 20 4), .int v_92198, .int v_92200, .int v_92202, .int v_92204, .int v_92206])) := p_ad_1_0
  refine pg_getN S Y ok_X10 3 (by decide) kf11_131 (v := .ref (ad 10 0)) p_ad_1_0 rfl dX11_image_15 ?_
  obtain ⟨v_92208, v_92210, v_92212, v_92214, v_92216, p_ad_10_0, b_92209, b_92211, b_92213, b_92215, b_92217⟩ := opnC_10 (j := 0) I (by decide)
  have p_ad_10_0 : pt L_92175 f_92176 (ad 10 0) (.inr (4, [.ref (ad 11 0), .ref (ad 12 0), .int v_92208, .int v_92210, .int v_92212, .int v_92214, .int v_92216])) := p_ad_10_0
  refine pg_getN S Y ok_X4 4 (by decide) kf11_150 (v := .int v_92212) p_ad_10_0 rfl dX11_image_18 ?_
  exact prI (post := fun r L1 f1 => ∃ tc2 : Nat → Int × Int, ∃ w2 : Nat → Int × Int, ∃ q2 : Nat → (Nat → Int32) → Prop, SH (spC ((NR 30 0 4, fz (pp nL) FI FI FI FI FI FI (pp kF) (pp pF), tz (EQ bT) TA TA TA, sc0) : RS) ((0, 6) : Int × Int) tc2 w2 q2) nnC G ad L1 f1 ∧ tc2 1 = tc 0 ∧ (∀ k, k ≠ 1 → tc2 k = tc k) ∧ w2 5 = w 0 ∧ w2 6 = w 1 ∧ w2 7 = w 2 ∧ w2 8 = w 3 ∧ w2 9 = w 4 ∧ (∀ k, (k < 5 ∨ 10 ≤ k) → w2 k = w k) ∧ q2 5 = q 0 ∧ q2 6 = q 1 ∧ q2 7 = q 2 ∧ q2 8 = q 3 ∧ q2 9 = q 4 ∧ (∀ k, (k < 5 ∨ 10 ≤ k) → q2 k = q k) ∧ WBp tc2 4 ∧ WBp w2 8 ∧ QIp q2) S Y rfl (by decide) (by decide) hA1 ⟨tc2_92178, w2_92179, q2_92180, I, e1_92181, e2_92182, ew0_92183, ew1_92184, ew2_92185, ew3_92186, ew4_92187, ewr_92188, eq0_92189, eq1_92190, eq2_92191, eq3_92192, eq4_92193, eqr_92194, eT_92195, eW_92196, eQ_92197⟩ dX11_image_21
set_option maxHeartbeats 4000000 in
set_option maxRecDepth 100000 in
theorem x_X11_back {l : Launch} {G : GG}  {L : List Nat} {f : HF} {ad : Nat → Nat → Nat} {nL : Int} {bT : Nat → Int32} {kF : Int} {pF : Int} {tc w : Nat → Int × Int} {q : Nat → (Nat → Int32) → Prop} (I : SH (spC ((NR 30 0 4, fz (pp nL) FI FI FI FI FI FI (pp kF) (pp pF), tz (EQ bT) TA TA TA, sc0) : RS) ((0, 6) : Int × Int) tc w q) nnC G ad L f) (hW : WBp w 8) (hT : WBp tc 4) (hQ : QIp q) (hZ : ZZp w q) (hE : ∀ j, (tc j).1 = (tc j).2) : PMi l yX11_back cX11_back 1 .int 3 0 0 G [.ref (ad 0 0)] L f (fun r L1 f1 => ∃ tc2 : Nat → Int × Int, ∃ w2 : Nat → Int × Int, ∃ q2 : Nat → (Nat → Int32) → Prop, SH (spC ((NR 30 0 4, fz (pp nL) FI FI FI FI FI FI (pp kF) (pp pF), tz (EQ bT) TA TA TA, sc0) : RS) ((0, 6) : Int × Int) tc2 w2 q2) nnC G ad L1 f1 ∧ tc2 0 = tc 1 ∧ (∀ k, k ≠ 0 → tc2 k = tc k) ∧ w2 0 = w 5 ∧ w2 1 = w 6 ∧ w2 2 = w 7 ∧ w2 3 = w 8 ∧ w2 4 = w 9 ∧ (∀ k, (k < 0 ∨ 5 ≤ k) → w2 k = w k) ∧ q2 0 = q 5 ∧ q2 1 = q 6 ∧ q2 2 = q 7 ∧ q2 3 = q 8 ∧ q2 4 = q 9 ∧ (∀ k, (k < 0 ∨ 5 ≤ k) → q2 k = q k) ∧ WBp tc2 4 ∧ WBp w2 8 ∧ QIp q2) := by
  refine PMi.of (post := fun r L1 f1 => ∃ tc2 : Nat → Int × Int, ∃ w2 : Nat → Int × Int, ∃ q2 : Nat → (Nat → Int32) → Prop, SH (spC ((NR 30 0 4, fz (pp nL) FI FI FI FI FI FI (pp kF) (pp pF), tz (EQ bT) TA TA TA, sc0) : RS) ((0, 6) : Int × Int) tc2 w2 q2) nnC G ad L1 f1 ∧ tc2 0 = tc 1 ∧ (∀ k, k ≠ 0 → tc2 k = tc k) ∧ w2 0 = w 5 ∧ w2 1 = w 6 ∧ w2 2 = w 7 ∧ w2 3 = w 8 ∧ w2 4 = w 9 ∧ (∀ k, (k < 0 ∨ 5 ≤ k) → w2 k = w k) ∧ q2 0 = q 5 ∧ q2 1 = q 6 ∧ q2 2 = q 7 ∧ q2 3 = q 8 ∧ q2 4 = q 9 ∧ (∀ k, (k < 0 ∨ 5 ≤ k) → q2 k = q k) ∧ WBp tc2 4 ∧ WBp w2 8 ∧ QIp q2) (own := RX11) (by decide) rfl (Nat.le_of_ble_eq_true rfl) (fun sz p e s m args below meth c A ls hA1 hname S Y hl => ?_)
  have hx := S.hx
  have hb := S.hb
  have hl : lv_has ls 1 [(0, .ref (ad 0 0))] := hl
  refine lv_aload_n hx hb dX11_back_0 rfl (lv_at hl 0 rfl) ?_
  have p_ad_0_0 := opnC_0 (j := 0) I (by decide)
  have p_ad_0_0 : pt L f (ad 0 0) (.inr (11, [.ref (ad 1 0), .ref (ad 1 1), .ref (ad 2 0), .ref (ad 3 0), .ref (ad 4 0), .ref (ad 5 0), .ref (ad 6 0), .ref (ad 7 0), .ref (ad 8 0)])) := p_ad_0_0
  refine pg_get S Y ok_X11 0 (by decide) kf11_13 (v := .ref (ad 1 0)) p_ad_0_0 rfl dX11_back_1 ?_
  refine lv_aload_n hx hb dX11_back_4 rfl (lv_at hl 0 rfl) ?_
  refine pg_get S Y ok_X11 1 (by decide) kf11_19 (v := .ref (ad 1 1)) p_ad_0_0 rfl dX11_back_5 ?_
  refine cVv (As := [.ref (ad 1 1)]) (rest := []) S Y (x_X10_takeOver0 (l := l) I hW hT hQ) cw_X10_takeOver km11_347 (I.opo (k := 1) (j := 0) (by decide) rfl).choose_spec.1 ok_X10.1 rfl rfl ⟨Nat.le_of_ble_eq_true rfl, Nat.le_of_ble_eq_true rfl⟩ hl.1 rfl (Nat.le_of_ble_eq_true rfl) ⟨Nat.le_of_ble_eq_true rfl, Nat.le_of_ble_eq_true rfl⟩ dX11_back_8 (fun L_92304 f_92305 H locs hr_92306 Y => ?_)
  obtain ⟨tc2_92307, w2_92308, q2_92309, I, e1_92310, e2_92311, ew0_92312, ew1_92313, ew2_92314, ew3_92315, ew4_92316, ewr_92317, eq0_92318, eq1_92319, eq2_92320, eq3_92321, eq4_92322, eqr_92323, eT_92324, eW_92325, eQ_92326⟩ := hr_92306
  refine lv_aload_n hx hb dX11_back_11 rfl (lv_at hl 0 rfl) ?_
  have p_ad_0_0 := opnC_0 (j := 0) I (by decide)
  have p_ad_0_0 : pt L_92304 f_92305 (ad 0 0) (.inr (11, [.ref (ad 1 0), .ref (ad 1 1), .ref (ad 2 0), .ref (ad 3 0), .ref (ad 4 0), .ref (ad 5 0), .ref (ad 6 0), .ref (ad 7 0), .ref (ad 8 0)])) := p_ad_0_0
  refine pg_get S Y ok_X11 0 (by decide) kf11_13 (v := .ref (ad 1 0)) p_ad_0_0 rfl dX11_back_12 ?_
  obtain ⟨v_92327, v_92329, v_92331, v_92333, v_92335, p_ad_1_0, b_92328, b_92330, b_92332, b_92334, b_92336⟩ := opnC_1 (j := 0) I (by decide)
  have p_ad_1_0 : pt L_92304 f_92305 (ad 1 0) (.inr (10, [.ref (ad 40 0), .ref (ad 41 0), .ref (ad 42 0), .ref (ad 10 0), .ref (ad 43 0), .ref (ad 20 0), .ref (ad 20 1), .ref (ad 20 2), .ref (ad 20 3), .ref (ad 20 4), .int v_92327, .int v_92329, .int v_92331, .int v_92333, .int v_92335])) := p_ad_1_0
  refine pg_getN S Y ok_X10 3 (by decide) kf11_131 (v := .ref (ad 10 0)) p_ad_1_0 rfl dX11_back_15 ?_
  obtain ⟨v_92337, v_92339, v_92341, v_92343, v_92345, p_ad_10_0, b_92338, b_92340, b_92342, b_92344, b_92346⟩ := opnC_10 (j := 0) I (by decide)
  have p_ad_10_0 : pt L_92304 f_92305 (ad 10 0) (.inr (4, [.ref (ad 11 0), .ref (ad 12 0), .int v_92337, .int v_92339, .int v_92341, .int v_92343, .int v_92345])) := p_ad_10_0
  refine pg_getN S Y ok_X4 4 (by decide) kf11_150 (v := .int v_92341) p_ad_10_0 rfl dX11_back_18 ?_
  exact prI (post := fun r L1 f1 => ∃ tc2 : Nat → Int × Int, ∃ w2 : Nat → Int × Int, ∃ q2 : Nat → (Nat → Int32) → Prop, SH (spC ((NR 30 0 4, fz (pp nL) FI FI FI FI FI FI (pp kF) (pp pF), tz (EQ bT) TA TA TA, sc0) : RS) ((0, 6) : Int × Int) tc2 w2 q2) nnC G ad L1 f1 ∧ tc2 0 = tc 1 ∧ (∀ k, k ≠ 0 → tc2 k = tc k) ∧ w2 0 = w 5 ∧ w2 1 = w 6 ∧ w2 2 = w 7 ∧ w2 3 = w 8 ∧ w2 4 = w 9 ∧ (∀ k, (k < 0 ∨ 5 ≤ k) → w2 k = w k) ∧ q2 0 = q 5 ∧ q2 1 = q 6 ∧ q2 2 = q 7 ∧ q2 3 = q 8 ∧ q2 4 = q 9 ∧ (∀ k, (k < 0 ∨ 5 ≤ k) → q2 k = q k) ∧ WBp tc2 4 ∧ WBp w2 8 ∧ QIp q2) S Y rfl (by decide) (by decide) hA1 ⟨tc2_92307, w2_92308, q2_92309, I, e1_92310, e2_92311, ew0_92312, ew1_92313, ew2_92314, ew3_92315, ew4_92316, ewr_92317, eq0_92318, eq1_92319, eq2_92320, eq3_92321, eq4_92322, eqr_92323, eT_92324, eW_92325, eQ_92326⟩ dX11_back_21
