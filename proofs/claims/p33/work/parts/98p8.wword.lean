def EQs (p : Nat → Prop) (c : Nat → Int32) (g : Nat → Int32) : Prop := ∀ k, k < 24 → p k → g k = c k
theorem EQs_up {p : Nat → Prop} {c g : Nat → Int32} {k : Nat} {x : Int32} (h : EQs p c g) : EQs (fun j => p j ∨ j = k) (upd c k x) (upd g k x) := fun i hi hp => by
  by_cases z : i = k
  · subst z; rw [pk_us, pk_us]
  · rw [pk_un z, pk_un z]; exact h i hi (hp.resolve_right z)
theorem QI_e {q : Nat → (Nat → Int32) → Prop} {c : Nat → Int32} {p : Nat → Prop} (hQ : QIp q) : QIp (stf q 2 (EQs p c)) := fun j g g2 h p => by
  by_cases z : j = 2
  · subst z
    rw [stf_s] at p ⊢
    exact fun k hk hq => (h k hk).symm.trans (p k hk hq)
  · rw [stf_n z] at p ⊢
    exact hQ j g g2 h p
def tlE (r : Int32) (n n2 : Int) (i1 i2 i3 : Int32) (c c2 : Nat → Int32) : Prop := (n < 8 ∧ r.toInt = n + 1 ∧ n2 = n + 1 ∧ c2 = upd (upd (upd c (3 * n.toNat) i1) (3 * n.toNat + 1) i2) (3 * n.toNat + 2) i3) ∨ (¬ n < 8 ∧ r = -2 ∧ n2 = n ∧ c2 = c)
def wdE (i1 i2 r : Int32) (n n2 : Int) (c c2 : Nat → Int32) : Prop := (i1 = -1 ∧ r = 0 ∧ n2 = 0 ∧ c2 = c) ∨ (¬ i1 = -1 ∧ ¬ ((1 ≤ i1.toInt ∧ i1.toInt ≤ 99) ∧ 0 ≤ i2.toInt ∧ i2.toInt ≤ 999) ∧ r = -2 ∧ n2 = n ∧ c2 = c) ∨ (¬ i1 = -1 ∧ ((1 ≤ i1.toInt ∧ i1.toInt ≤ 99) ∧ 0 ≤ i2.toInt ∧ i2.toInt ≤ 999) ∧ tlE r n n2 i1 i2 0 c c2)
set_option maxHeartbeats 4000000 in
set_option maxRecDepth 100000 in
theorem x_X9_forgetE {l : Launch} {G : GG}  {L : List Nat} {f : HF} {ad : Nat → Nat → Nat} {rs : FS} {fc : Int × Int} {tc w : Nat → Int × Int} {q : Nat → (Nat → Int32) → Prop} {n9 : Int} {u9 : Nat → Int32} (I : SH (spC rs fc tc w q) nnC G ad L f) (hW : WBp w 8) (hT : WBp tc 4) (hQ : QIp q) (hn : w 2 = (n9, n9)) (hc : (∀ g, q 2 g → ∀ k, k < 3 * n9.toNat → g k = u9 k)) : PMi l yX9_forget cX9_forget 1 .int 0 0 0 G [.ref (ad 20 2)] L f (fun r L1 f1 => ∃ w2 : Nat → Int × Int, ∃ q2 : Nat → (Nat → Int32) → Prop, ∃ n2 : Int, ∃ c2 : Nat → Int32, (r = 0 ∧ n2 = 0 ∧ c2 = u9) ∧ SH (spC rs fc tc w2 q2) nnC G ad L1 f1 ∧ w2 2 = (n2, n2) ∧ (∀ g, q2 2 g → ∀ k, k < 3 * n2.toNat → g k = c2 k) ∧ (∀ k, k ≠ 2 → w2 k = w k) ∧ (∀ k, k ≠ 2 → q2 k = q k) ∧ WBp w2 8 ∧ QIp q2) := by
  refine PMi.of (post := fun r L1 f1 => ∃ w2 : Nat → Int × Int, ∃ q2 : Nat → (Nat → Int32) → Prop, ∃ n2 : Int, ∃ c2 : Nat → Int32, (r = 0 ∧ n2 = 0 ∧ c2 = u9) ∧ SH (spC rs fc tc w2 q2) nnC G ad L1 f1 ∧ w2 2 = (n2, n2) ∧ (∀ g, q2 2 g → ∀ k, k < 3 * n2.toNat → g k = c2 k) ∧ (∀ k, k ≠ 2 → w2 k = w k) ∧ (∀ k, k ≠ 2 → q2 k = q k) ∧ WBp w2 8 ∧ QIp q2) (own := RX9) (by decide) rfl (Nat.le_of_ble_eq_true rfl) (fun sz p e s m args below meth c A ls hA1 hname S Y hl => ?_)
  have hx := S.hx
  have hb := S.hb
  have hl : lv_has ls 1 [(0, .ref (ad 20 2))] := hl
  have hx2 : (w 2).1 = (w 2).2 := by rw [hn]
  refine lv_aload_n hx hb dX9_forget_0 rfl (lv_at hl 0 rfl) ?_
  refine lv_iconst (v := 0) hx hb dX9_forget_1 (by decide) ?_
  obtain ⟨v_82885, v_82887, p_ad_20_2, b_82886, b_82888⟩ := opnC_20 (j := 2) I (by decide)
  have p_ad_20_2 : pt L f (ad 20 2) (.inr (9, [.ref (ad 21 2), .int v_82885, .int v_82887])) := p_ad_20_2
  refine pg_put S Y ok_X9 2 (by decide) kf9_25 rfl (fs' := [.ref (ad 21 2), .int v_82885, .int 0]) (v := .int 0) p_ad_20_2 rfl rfl rfl (Nat.le_of_ble_eq_true rfl) dX9_forget_2 (fun f_82889 H locs ef_82889 Y => ?_)
  have p_ad_20_2 := p_ad_20_2.me ef_82889
  have I := I.upS (sp' := spC rs fc tc (stf w 2 (0, 0)) q) (k := 20) (j := 2) (by decide) ef_82889 (okE_o (okFs_c okV_r (okFs_c (okV_p b_82886) (okFs_c (okV_p (q := stf w 2 (0, 0) 2) (by rw [stf_s]; exact bn_k (by decide))) okFs_n)))) wC
  refine lv_iconst (v := 0) hx hb dX9_forget_5 (by decide) ?_
  exact prI (post := fun r L1 f1 => ∃ w2 : Nat → Int × Int, ∃ q2 : Nat → (Nat → Int32) → Prop, ∃ n2 : Int, ∃ c2 : Nat → Int32, (r = 0 ∧ n2 = 0 ∧ c2 = u9) ∧ SH (spC rs fc tc w2 q2) nnC G ad L1 f1 ∧ w2 2 = (n2, n2) ∧ (∀ g, q2 2 g → ∀ k, k < 3 * n2.toNat → g k = c2 k) ∧ (∀ k, k ≠ 2 → w2 k = w k) ∧ (∀ k, k ≠ 2 → q2 k = q k) ∧ WBp w2 8 ∧ QIp q2) S Y rfl (by decide) (by decide) hA1 ⟨(stf w 2 (0, 0)), q, 0, u9, ⟨rfl, rfl, rfl⟩, I, (by rw [stf_s]), (fun g h k hk => by exfalso; omega), (fun k h => stf_n h), (fun _ _ => rfl), (WB_st hW (by decide) (by decide)), hQ⟩ dX9_forget_6
set_option maxHeartbeats 4000000 in
set_option maxRecDepth 100000 in
theorem x_X9_tellE {l : Launch} {G : GG}  {L : List Nat} {f : HF} {ad : Nat → Nat → Nat} {rs : FS} {fc : Int × Int} {tc w : Nat → Int × Int} {q : Nat → (Nat → Int32) → Prop} {i1 i2 i3 : Int32} {n9 : Int} {u9 : Nat → Int32} (I : SH (spC rs fc tc w q) nnC G ad L f) (hW : WBp w 8) (hT : WBp tc 4) (hQ : QIp q) (hn : w 2 = (n9, n9)) (hc : (∀ g, q 2 g → ∀ k, k < 3 * n9.toNat → g k = u9 k)) : PMi l yX9_tell cX9_tell 5 .int 0 0 0 G [.ref (ad 20 2), .int i1, .int i2, .int i3] L f (fun r L1 f1 => ∃ w2 : Nat → Int × Int, ∃ q2 : Nat → (Nat → Int32) → Prop, ∃ n2 : Int, ∃ c2 : Nat → Int32, (tlE r n9 n2 i1 i2 i3 u9 c2) ∧ SH (spC rs fc tc w2 q2) nnC G ad L1 f1 ∧ w2 2 = (n2, n2) ∧ (∀ g, q2 2 g → ∀ k, k < 3 * n2.toNat → g k = c2 k) ∧ (∀ k, k ≠ 2 → w2 k = w k) ∧ (∀ k, k ≠ 2 → q2 k = q k) ∧ WBp w2 8 ∧ QIp q2) := by
  refine PMi.of (post := fun r L1 f1 => ∃ w2 : Nat → Int × Int, ∃ q2 : Nat → (Nat → Int32) → Prop, ∃ n2 : Int, ∃ c2 : Nat → Int32, (tlE r n9 n2 i1 i2 i3 u9 c2) ∧ SH (spC rs fc tc w2 q2) nnC G ad L1 f1 ∧ w2 2 = (n2, n2) ∧ (∀ g, q2 2 g → ∀ k, k < 3 * n2.toNat → g k = c2 k) ∧ (∀ k, k ≠ 2 → w2 k = w k) ∧ (∀ k, k ≠ 2 → q2 k = q k) ∧ WBp w2 8 ∧ QIp q2) (own := RX9) (by decide) rfl (Nat.le_of_ble_eq_true rfl) (fun sz p e s m args below meth c A ls hA1 hname S Y hl => ?_)
  have hx := S.hx
  have hb := S.hb
  have hl : lv_has ls 5 [(0, .ref (ad 20 2)), (1, .int i1), (2, .int i2), (3, .int i3)] := hl
  have hx2 : (w 2).1 = (w 2).2 := by rw [hn]
  refine lv_aload_n hx hb dX9_tell_0 rfl (lv_at hl 0 rfl) ?_
  obtain ⟨v_82942, v_82944, p_ad_20_2, b_82943, b_82945⟩ := opnC_20 (j := 2) I (by decide)
  have p_ad_20_2 : pt L f (ad 20 2) (.inr (9, [.ref (ad 21 2), .int v_82942, .int v_82944])) := p_ad_20_2
  refine pg_get S Y ok_X9 2 (by decide) kf9_25 (v := .int v_82944) p_ad_20_2 rfl dX9_tell_1 ?_
  refine lv_aload_n hx hb dX9_tell_4 rfl (lv_at hl 0 rfl) ?_
  refine pg_get S Y ok_X9 1 (by decide) kf9_21 (v := .int v_82942) p_ad_20_2 rfl dX9_tell_5 ?_
  refine lv_icmp_lt (tgt := 14) hx hb dX9_tell_8 (by decide) (fun c_82946 => ?_) (fun c_82946 => ?_)
  · have B_82947 : bn 0 7 v_82944 := bn_w (bn_ltl c_82946 (bn_w (a' := 0) (b' := 8) b_82945 (hW 2)) (bn_w (a' := 0) (b' := 8) b_82943 (lmt_b 2))) (by decide)
    have B_82948 : bn 1 8 v_82942 := bn_w (bn_ltr c_82946 (bn_w (a' := 0) (b' := 8) b_82945 (hW 2)) (bn_w (a' := 0) (b' := 8) b_82943 (lmt_b 2))) (by decide)
    have hlt8 : n9 < 8 := by have z := b_82945; have y := b_82943; rw [hn] at z; have z1 := z.1; have y2 := y.2; have z3 := (Int32.not_le.mpr c_82946); rw [Int32.le_iff_toInt_le] at z3; simp only at z1; have y3 : (lmt 2).2 = 8 := rfl; omega
    refine lv_aload_n hx hb dX9_tell_14 rfl (lv_at hl 0 rfl) ?_
    refine pg_get S Y ok_X9 2 (by decide) kf9_25 (v := .int v_82944) p_ad_20_2 rfl dX9_tell_15 ?_
    refine lv_iconst (v := 3) hx hb dX9_tell_18 (by decide) ?_
    refine lv_imul hx hb dX9_tell_19 ?_
    refine lv_topi (fun x_82949 ex_82949 => ?_)
    refine lv_istore (lv' := [(4, .int x_82949), (0, .ref (ad 20 2)), (1, .int i1), (2, .int i2), (3, .int i3)]) hx hb dX9_tell_20 hl (by decide) rfl (fun ls hl => ?_)
    refine lv_aload_n hx hb dX9_tell_22 rfl (lv_at hl 1 rfl) ?_
    refine pg_get S Y ok_X9 0 (by decide) kf9_9 (v := .ref (ad 21 2)) p_ad_20_2 rfl dX9_tell_23 ?_
    refine lv_iload hx hb dX9_tell_26 (lv_at hl 0 rfl) ?_
    refine lv_iload_n hx hb dX9_tell_28 rfl (lv_at hl 2 rfl) ?_
    obtain ⟨g_82950, p_ad_21_2, o_82951⟩ := I.opi (k := 21) (j := 2) (by decide) rfl
    have p_ad_21_2 : pt L f (ad 21 2) (.inl (G.2 0, 24, .inl g_82950)) := p_ad_21_2
    refine pg_iast S Y p_ad_21_2 (vp_bn (bn_eq ex_82949 (bn_mul B_82947 (show bn 3 3 (3 : Int32) from bn_k (by decide)) (by decide))) (by decide)) dX9_tell_29 (fun f_82953 H locs ef_82953 Y => ?_)
    obtain ⟨g_82952, eg_82952⟩ : ∃ z, z = upd (g_82950) (x_82949 : Int32).toNatClampNeg i1 := ⟨_, rfl⟩
    rw [← eg_82952] at ef_82953
    have p_ad_20_2 := p_ad_20_2.up ef_82953 (I.ne (k := 20) (j := 2) (k' := 21) (j' := 2) (by decide) (by decide) (Or.inl (by decide)))
    have p_ad_21_2 := p_ad_21_2.me ef_82953
    obtain ⟨cc_82954, ecc_82954⟩ : ∃ z : Nat → Int32, z = upd u9 (x_82949 : Int32).toNatClampNeg i1 := ⟨_, rfl⟩
    have E_82955 : EQs (fun j => (fun k => k < 3 * n9.toNat) j ∨ j = (x_82949 : Int32).toNatClampNeg) cc_82954 g_82952 := by rw [eg_82952, ecc_82954]; exact EQs_up (show EQs (fun k => k < 3 * n9.toNat) u9 g_82950 from fun k _ hk => hc g_82950 o_82951 k hk)
    have I := I.upS (sp' := spC rs fc tc w (stf q 2 (EQs (fun j => (fun k => k < 3 * n9.toNat) j ∨ j = (x_82949 : Int32).toNatClampNeg) cc_82954))) (k := 21) (j := 2) (by decide) ef_82953 (okE_a (P := (stf q 2 (EQs (fun j => (fun k => k < 3 * n9.toNat) j ∨ j = (x_82949 : Int32).toNatClampNeg) cc_82954)) 2) (g := g_82952) (by rw [stf_s]; exact E_82955)) qC
    refine lv_aload_n hx hb dX9_tell_30 rfl (lv_at hl 1 rfl) ?_
    refine pg_get S Y ok_X9 0 (by decide) kf9_9 (v := .ref (ad 21 2)) p_ad_20_2 rfl dX9_tell_31 ?_
    refine lv_iload hx hb dX9_tell_34 (lv_at hl 0 rfl) ?_
    refine lv_iconst (v := 1) hx hb dX9_tell_36 (by decide) ?_
    refine lv_iadd hx hb dX9_tell_37 ?_
    refine lv_topi (fun x_82956 ex_82956 => ?_)
    refine lv_iload_n hx hb dX9_tell_38 rfl (lv_at hl 3 rfl) ?_
    refine pg_iast S Y p_ad_21_2 (vp_bn (bn_eq ex_82956 (bn_add (bn_eq ex_82949 (bn_mul B_82947 (show bn 3 3 (3 : Int32) from bn_k (by decide)) (by decide))) (show bn 1 1 (1 : Int32) from bn_k (by decide)) (by decide))) (by decide)) dX9_tell_39 (fun f_82958 H locs ef_82958 Y => ?_)
    obtain ⟨g_82957, eg_82957⟩ : ∃ z, z = upd (g_82952) (x_82956 : Int32).toNatClampNeg i2 := ⟨_, rfl⟩
    rw [← eg_82957] at ef_82958
    have p_ad_20_2 := p_ad_20_2.up ef_82958 (I.ne (k := 20) (j := 2) (k' := 21) (j' := 2) (by decide) (by decide) (Or.inl (by decide)))
    have p_ad_21_2 := p_ad_21_2.me ef_82958
    obtain ⟨cc_82959, ecc_82959⟩ : ∃ z : Nat → Int32, z = upd cc_82954 (x_82956 : Int32).toNatClampNeg i2 := ⟨_, rfl⟩
    have E_82960 : EQs (fun j => (fun j => (fun k => k < 3 * n9.toNat) j ∨ j = (x_82949 : Int32).toNatClampNeg) j ∨ j = (x_82956 : Int32).toNatClampNeg) cc_82959 g_82957 := by rw [eg_82957, ecc_82959]; exact EQs_up E_82955
    have I := I.upS (sp' := spC rs fc tc w (stf (stf q 2 (EQs (fun j => (fun k => k < 3 * n9.toNat) j ∨ j = (x_82949 : Int32).toNatClampNeg) cc_82954)) 2 (EQs (fun j => (fun j => (fun k => k < 3 * n9.toNat) j ∨ j = (x_82949 : Int32).toNatClampNeg) j ∨ j = (x_82956 : Int32).toNatClampNeg) cc_82959))) (k := 21) (j := 2) (by decide) ef_82958 (okE_a (P := (stf (stf q 2 (EQs (fun j => (fun k => k < 3 * n9.toNat) j ∨ j = (x_82949 : Int32).toNatClampNeg) cc_82954)) 2 (EQs (fun j => (fun j => (fun k => k < 3 * n9.toNat) j ∨ j = (x_82949 : Int32).toNatClampNeg) j ∨ j = (x_82956 : Int32).toNatClampNeg) cc_82959)) 2) (g := g_82957) (by rw [stf_s]; exact E_82960)) qC
    refine lv_aload_n hx hb dX9_tell_40 rfl (lv_at hl 1 rfl) ?_
    refine pg_get S Y ok_X9 0 (by decide) kf9_9 (v := .ref (ad 21 2)) p_ad_20_2 rfl dX9_tell_41 ?_
    refine lv_iload hx hb dX9_tell_44 (lv_at hl 0 rfl) ?_
    refine lv_iconst (v := 2) hx hb dX9_tell_46 (by decide) ?_
    refine lv_iadd hx hb dX9_tell_47 ?_
    refine lv_topi (fun x_82961 ex_82961 => ?_)
    refine lv_iload_n hx hb dX9_tell_48 rfl (lv_at hl 4 rfl) ?_
    refine pg_iast S Y p_ad_21_2 (vp_bn (bn_eq ex_82961 (bn_add (bn_eq ex_82949 (bn_mul B_82947 (show bn 3 3 (3 : Int32) from bn_k (by decide)) (by decide))) (show bn 2 2 (2 : Int32) from bn_k (by decide)) (by decide))) (by decide)) dX9_tell_49 (fun f_82963 H locs ef_82963 Y => ?_)
    obtain ⟨g_82962, eg_82962⟩ : ∃ z, z = upd (g_82957) (x_82961 : Int32).toNatClampNeg i3 := ⟨_, rfl⟩
    rw [← eg_82962] at ef_82963
    have p_ad_20_2 := p_ad_20_2.up ef_82963 (I.ne (k := 20) (j := 2) (k' := 21) (j' := 2) (by decide) (by decide) (Or.inl (by decide)))
    have p_ad_21_2 := p_ad_21_2.me ef_82963
    obtain ⟨cc_82964, ecc_82964⟩ : ∃ z : Nat → Int32, z = upd cc_82959 (x_82961 : Int32).toNatClampNeg i3 := ⟨_, rfl⟩
    have E_82965 : EQs (fun j => (fun j => (fun j => (fun k => k < 3 * n9.toNat) j ∨ j = (x_82949 : Int32).toNatClampNeg) j ∨ j = (x_82956 : Int32).toNatClampNeg) j ∨ j = (x_82961 : Int32).toNatClampNeg) cc_82964 g_82962 := by rw [eg_82962, ecc_82964]; exact EQs_up E_82960
    have I := I.upS (sp' := spC rs fc tc w (stf (stf (stf q 2 (EQs (fun j => (fun k => k < 3 * n9.toNat) j ∨ j = (x_82949 : Int32).toNatClampNeg) cc_82954)) 2 (EQs (fun j => (fun j => (fun k => k < 3 * n9.toNat) j ∨ j = (x_82949 : Int32).toNatClampNeg) j ∨ j = (x_82956 : Int32).toNatClampNeg) cc_82959)) 2 (EQs (fun j => (fun j => (fun j => (fun k => k < 3 * n9.toNat) j ∨ j = (x_82949 : Int32).toNatClampNeg) j ∨ j = (x_82956 : Int32).toNatClampNeg) j ∨ j = (x_82961 : Int32).toNatClampNeg) cc_82964))) (k := 21) (j := 2) (by decide) ef_82963 (okE_a (P := (stf (stf (stf q 2 (EQs (fun j => (fun k => k < 3 * n9.toNat) j ∨ j = (x_82949 : Int32).toNatClampNeg) cc_82954)) 2 (EQs (fun j => (fun j => (fun k => k < 3 * n9.toNat) j ∨ j = (x_82949 : Int32).toNatClampNeg) j ∨ j = (x_82956 : Int32).toNatClampNeg) cc_82959)) 2 (EQs (fun j => (fun j => (fun j => (fun k => k < 3 * n9.toNat) j ∨ j = (x_82949 : Int32).toNatClampNeg) j ∨ j = (x_82956 : Int32).toNatClampNeg) j ∨ j = (x_82961 : Int32).toNatClampNeg) cc_82964)) 2) (g := g_82962) (by rw [stf_s]; exact E_82965)) qC
    refine lv_aload_n hx hb dX9_tell_50 rfl (lv_at hl 1 rfl) ?_
    refine lv_dup hx hb dX9_tell_51 rfl ?_
    refine pg_get S Y ok_X9 2 (by decide) kf9_25 (v := .int v_82944) p_ad_20_2 rfl dX9_tell_52 ?_
    refine lv_iconst (v := 1) hx hb dX9_tell_55 (by decide) ?_
    refine lv_iadd hx hb dX9_tell_56 ?_
    refine lv_topi (fun x_82966 ex_82966 => ?_)
    refine pg_put S Y ok_X9 2 (by decide) kf9_25 rfl (fs' := [.ref (ad 21 2), .int v_82942, .int x_82966]) (v := .int x_82966) p_ad_20_2 rfl rfl rfl (Nat.le_of_ble_eq_true rfl) dX9_tell_57 (fun f_82967 H locs ef_82967 Y => ?_)
    have p_ad_21_2 := p_ad_21_2.up ef_82967 (I.ne (k := 21) (j := 2) (k' := 20) (j' := 2) (by decide) (by decide) (Or.inl (by decide)))
    have p_ad_20_2 := p_ad_20_2.me ef_82967
    have I := I.upS (sp' := spC rs fc tc (stf w 2 ((w 2).1 + 1, (w 2).1 + 1)) (stf (stf (stf q 2 (EQs (fun j => (fun k => k < 3 * n9.toNat) j ∨ j = (x_82949 : Int32).toNatClampNeg) cc_82954)) 2 (EQs (fun j => (fun j => (fun k => k < 3 * n9.toNat) j ∨ j = (x_82949 : Int32).toNatClampNeg) j ∨ j = (x_82956 : Int32).toNatClampNeg) cc_82959)) 2 (EQs (fun j => (fun j => (fun j => (fun k => k < 3 * n9.toNat) j ∨ j = (x_82949 : Int32).toNatClampNeg) j ∨ j = (x_82956 : Int32).toNatClampNeg) j ∨ j = (x_82961 : Int32).toNatClampNeg) cc_82964))) (k := 20) (j := 2) (by decide) ef_82967 (okE_o (okFs_c okV_r (okFs_c (okV_p b_82943) (okFs_c (okV_p (q := stf w 2 ((w 2).1 + 1, (w 2).1 + 1) 2) (by rw [stf_s]; exact ⟨by have h := (tx_in b_82945 hx2 b_82943 (Int32.not_le.mpr c_82946) (hW 2).1 ex_82966).2; show _ ≤ _; omega, by have h := (tx_in b_82945 hx2 b_82943 (Int32.not_le.mpr c_82946) (hW 2).1 ex_82966).2; show _ ≤ _; omega⟩)) okFs_n)))) wC
    refine lv_aload_n hx hb dX9_tell_60 rfl (lv_at hl 1 rfl) ?_
    refine pg_get S Y ok_X9 2 (by decide) kf9_25 (v := .int x_82966) p_ad_20_2 rfl dX9_tell_61 ?_
    exact prI (post := fun r L1 f1 => ∃ w2 : Nat → Int × Int, ∃ q2 : Nat → (Nat → Int32) → Prop, ∃ n2 : Int, ∃ c2 : Nat → Int32, (tlE r n9 n2 i1 i2 i3 u9 c2) ∧ SH (spC rs fc tc w2 q2) nnC G ad L1 f1 ∧ w2 2 = (n2, n2) ∧ (∀ g, q2 2 g → ∀ k, k < 3 * n2.toNat → g k = c2 k) ∧ (∀ k, k ≠ 2 → w2 k = w k) ∧ (∀ k, k ≠ 2 → q2 k = q k) ∧ WBp w2 8 ∧ QIp q2) S Y rfl (by decide) (by decide) hA1 ⟨(stf w 2 ((w 2).1 + 1, (w 2).1 + 1)), (stf (stf (stf q 2 (EQs (fun j => (fun k => k < 3 * n9.toNat) j ∨ j = (x_82949 : Int32).toNatClampNeg) cc_82954)) 2 (EQs (fun j => (fun j => (fun k => k < 3 * n9.toNat) j ∨ j = (x_82949 : Int32).toNatClampNeg) j ∨ j = (x_82956 : Int32).toNatClampNeg) cc_82959)) 2 (EQs (fun j => (fun j => (fun j => (fun k => k < 3 * n9.toNat) j ∨ j = (x_82949 : Int32).toNatClampNeg) j ∨ j = (x_82956 : Int32).toNatClampNeg) j ∨ j = (x_82961 : Int32).toNatClampNeg) cc_82964)), (n9 + 1), cc_82964, Or.inl ⟨hlt8, by have z := (tx_in b_82945 hx2 b_82943 (Int32.not_le.mpr c_82946) (hW 2).1 ex_82966).2; rw [hn] at z; exact z, rfl, by rw [ecc_82964, ecc_82959, ecc_82954, (show (x_82949 : Int32).toNatClampNeg = 3 * n9.toNat from (by have z9 := (la_mul ex_82949 (rfl : v_82944.toInt = v_82944.toInt) (show (3 : Int32).toInt = 3 from rfl) B_82947 (show bn 3 3 (3 : Int32) from bn_k (by decide)) (by decide)); have z8 : bn (w 2).1 (w 2).2 v_82944 := b_82945; rw [hn] at z8; have z7 := z8.1; have z6 := z8.2; have z5 : n9 < 8 := hlt8; have z4 := (hW 2).1; rw [hn] at z4; rw [tncW]; simp only at z7 z6 z4; omega)), (show (x_82956 : Int32).toNatClampNeg = 3 * n9.toNat + 1 from (by have z9 := (la_add ex_82956 (la_mul ex_82949 (rfl : v_82944.toInt = v_82944.toInt) (show (3 : Int32).toInt = 3 from rfl) B_82947 (show bn 3 3 (3 : Int32) from bn_k (by decide)) (by decide)) (show (1 : Int32).toInt = 1 from rfl) (bn_eq ex_82949 (bn_mul B_82947 (show bn 3 3 (3 : Int32) from bn_k (by decide)) (by decide))) (show bn 1 1 (1 : Int32) from bn_k (by decide)) (by decide)); have z8 : bn (w 2).1 (w 2).2 v_82944 := b_82945; rw [hn] at z8; have z7 := z8.1; have z6 := z8.2; have z5 : n9 < 8 := hlt8; have z4 := (hW 2).1; rw [hn] at z4; rw [tncW]; simp only at z7 z6 z4; omega)), (show (x_82961 : Int32).toNatClampNeg = 3 * n9.toNat + 2 from (by have z9 := (la_add ex_82961 (la_mul ex_82949 (rfl : v_82944.toInt = v_82944.toInt) (show (3 : Int32).toInt = 3 from rfl) B_82947 (show bn 3 3 (3 : Int32) from bn_k (by decide)) (by decide)) (show (2 : Int32).toInt = 2 from rfl) (bn_eq ex_82949 (bn_mul B_82947 (show bn 3 3 (3 : Int32) from bn_k (by decide)) (by decide))) (show bn 2 2 (2 : Int32) from bn_k (by decide)) (by decide)); have z8 : bn (w 2).1 (w 2).2 v_82944 := b_82945; rw [hn] at z8; have z7 := z8.1; have z6 := z8.2; have z5 : n9 < 8 := hlt8; have z4 := (hW 2).1; rw [hn] at z4; rw [tncW]; simp only at z7 z6 z4; omega))]⟩, I, (by rw [stf_s, hn]), (fun g h k hk => by rw [stf_s] at h; have y1 := (show (x_82949 : Int32).toNatClampNeg = 3 * n9.toNat from (by have z9 := (la_mul ex_82949 (rfl : v_82944.toInt = v_82944.toInt) (show (3 : Int32).toInt = 3 from rfl) B_82947 (show bn 3 3 (3 : Int32) from bn_k (by decide)) (by decide)); have z8 : bn (w 2).1 (w 2).2 v_82944 := b_82945; rw [hn] at z8; have z7 := z8.1; have z6 := z8.2; have z5 : n9 < 8 := hlt8; have z4 := (hW 2).1; rw [hn] at z4; rw [tncW]; simp only at z7 z6 z4; omega)); have y2 := (show (x_82956 : Int32).toNatClampNeg = 3 * n9.toNat + 1 from (by have z9 := (la_add ex_82956 (la_mul ex_82949 (rfl : v_82944.toInt = v_82944.toInt) (show (3 : Int32).toInt = 3 from rfl) B_82947 (show bn 3 3 (3 : Int32) from bn_k (by decide)) (by decide)) (show (1 : Int32).toInt = 1 from rfl) (bn_eq ex_82949 (bn_mul B_82947 (show bn 3 3 (3 : Int32) from bn_k (by decide)) (by decide))) (show bn 1 1 (1 : Int32) from bn_k (by decide)) (by decide)); have z8 : bn (w 2).1 (w 2).2 v_82944 := b_82945; rw [hn] at z8; have z7 := z8.1; have z6 := z8.2; have z5 : n9 < 8 := hlt8; have z4 := (hW 2).1; rw [hn] at z4; rw [tncW]; simp only at z7 z6 z4; omega)); have y3 := (show (x_82961 : Int32).toNatClampNeg = 3 * n9.toNat + 2 from (by have z9 := (la_add ex_82961 (la_mul ex_82949 (rfl : v_82944.toInt = v_82944.toInt) (show (3 : Int32).toInt = 3 from rfl) B_82947 (show bn 3 3 (3 : Int32) from bn_k (by decide)) (by decide)) (show (2 : Int32).toInt = 2 from rfl) (bn_eq ex_82949 (bn_mul B_82947 (show bn 3 3 (3 : Int32) from bn_k (by decide)) (by decide))) (show bn 2 2 (2 : Int32) from bn_k (by decide)) (by decide)); have z8 : bn (w 2).1 (w 2).2 v_82944 := b_82945; rw [hn] at z8; have z7 := z8.1; have z6 := z8.2; have z5 : n9 < 8 := hlt8; have z4 := (hW 2).1; rw [hn] at z4; rw [tncW]; simp only at z7 z6 z4; omega)); have y4 : 0 ≤ n9 := by { have z := (hW 2).1; rw [hn] at z; exact z }; have y5 := hlt8; exact h k (by omega) (by show (((k < 3 * n9.toNat) ∨ k = _) ∨ k = _) ∨ k = _; omega)), (fun k h => stf_n h), (fun k h => ((stf_n h).trans ((stf_n h).trans (stf_n h)))), (WB_st hW (by have h := (tx_in b_82945 hx2 b_82943 (Int32.not_le.mpr c_82946) (hW 2).1 ex_82966).1; have h2 := (hW 2).1; omega) (by have h := (tx_in b_82945 hx2 b_82943 (Int32.not_le.mpr c_82946) (hW 2).1 ex_82966).1; omega)), (QI_e (QI_e (QI_e hQ)))⟩ dX9_tell_64
  · refine lv_bipush (v := (-2)) hx hb dX9_tell_11 (by decide) ?_
    exact prI (post := fun r L1 f1 => ∃ w2 : Nat → Int × Int, ∃ q2 : Nat → (Nat → Int32) → Prop, ∃ n2 : Int, ∃ c2 : Nat → Int32, (tlE r n9 n2 i1 i2 i3 u9 c2) ∧ SH (spC rs fc tc w2 q2) nnC G ad L1 f1 ∧ w2 2 = (n2, n2) ∧ (∀ g, q2 2 g → ∀ k, k < 3 * n2.toNat → g k = c2 k) ∧ (∀ k, k ≠ 2 → w2 k = w k) ∧ (∀ k, k ≠ 2 → q2 k = q k) ∧ WBp w2 8 ∧ QIp q2) S Y rfl (by decide) (by decide) hA1 ⟨w, q, n9, u9, Or.inr ⟨by have z := tx_out b_82945 hx2 b_82943 (Int32.not_lt.mp c_82946); rw [hn] at z; exact z, rfl, rfl, rfl⟩, I, hn, hc, (fun _ _ => rfl), (fun _ _ => rfl), hW, hQ⟩ dX9_tell_13
set_option maxHeartbeats 4000000 in
set_option maxRecDepth 100000 in
theorem x_X11_wordE {l : Launch} {G : GG}  {L : List Nat} {f : HF} {ad : Nat → Nat → Nat} {tc w : Nat → Int × Int} {q : Nat → (Nat → Int32) → Prop} {i1 i2 : Int32} {n9 : Int} {u9 : Nat → Int32} (I : SH (spC (NR 30 0 4) ((0, 6) : Int × Int) tc w q) nnC G ad L f) (hW : WBp w 8) (hT : WBp tc 4) (hQ : QIp q) (hZ : ZZp w q) (hE : ∀ j, (tc j).1 = (tc j).2) (hn : w 2 = (n9, n9)) (hc : (∀ g, q 2 g → ∀ k, k < 3 * n9.toNat → g k = u9 k)) : PMi l yX11_word cX11_word 3 .int 1 0 0 G [.ref (ad 0 0), .int i1, .int i2] L f (fun r L1 f1 => ∃ w2 : Nat → Int × Int, ∃ q2 : Nat → (Nat → Int32) → Prop, ∃ n2 : Int, ∃ c2 : Nat → Int32, (wdE i1 i2 r n9 n2 u9 c2) ∧ SH (spC (NR 30 0 4) ((0, 6) : Int × Int) tc w2 q2) nnC G ad L1 f1 ∧ w2 2 = (n2, n2) ∧ (∀ g, q2 2 g → ∀ k, k < 3 * n2.toNat → g k = c2 k) ∧ (∀ k, k ≠ 2 → w2 k = w k) ∧ (∀ k, k ≠ 2 → q2 k = q k) ∧ WBp w2 8 ∧ QIp q2) := by
  refine PMi.of (post := fun r L1 f1 => ∃ w2 : Nat → Int × Int, ∃ q2 : Nat → (Nat → Int32) → Prop, ∃ n2 : Int, ∃ c2 : Nat → Int32, (wdE i1 i2 r n9 n2 u9 c2) ∧ SH (spC (NR 30 0 4) ((0, 6) : Int × Int) tc w2 q2) nnC G ad L1 f1 ∧ w2 2 = (n2, n2) ∧ (∀ g, q2 2 g → ∀ k, k < 3 * n2.toNat → g k = c2 k) ∧ (∀ k, k ≠ 2 → w2 k = w k) ∧ (∀ k, k ≠ 2 → q2 k = q k) ∧ WBp w2 8 ∧ QIp q2) (own := RX11) (by decide) rfl (Nat.le_of_ble_eq_true rfl) (fun sz p e s m args below meth c A ls hA1 hname S Y hl => ?_)
  have hx := S.hx
  have hb := S.hb
  have hl : lv_has ls 3 [(0, .ref (ad 0 0)), (1, .int i1), (2, .int i2)] := hl
  refine lv_iload_n hx hb dX11_word_0 rfl (lv_at hl 1 rfl) ?_
  refine lv_iconst (v := (-1)) hx hb dX11_word_1 (by decide) ?_
  refine lv_icmp_ne (tgt := 16) hx hb dX11_word_2 (by decide) (fun c_83076 => ?_) (fun c_83076 => ?_)
  · refine lv_iload_n hx hb dX11_word_16 rfl (lv_at hl 1 rfl) ?_
    refine lv_iconst (v := 1) hx hb dX11_word_17 (by decide) ?_
    refine lv_bipush (v := 99) hx hb dX11_word_18 (by decide) ?_
    refine cSp (As := [.int i1, .int 1, .int 99]) (rest := []) S Y (x_X11_withinX (l := l) ) cw_X11_within km11_146 rfl ⟨Nat.le_of_ble_eq_true rfl, Nat.le_of_ble_eq_true rfl⟩ hl.1 rfl (Nat.le_of_ble_eq_true rfl) ⟨Nat.le_of_ble_eq_true rfl, Nat.le_of_ble_eq_true rfl⟩ dX11_word_20 (fun r_83078 H locs er_83078 Y => ?_)
    refine lv_if_eq (tgt := 37) hx hb dX11_word_23 (by decide) (fun c_83079 => ?_) (fun c_83079 => ?_)
    · have B_83080 : bn 0 0 r_83078 := bn_w (bn_eq c_83079 (show bn 0 0 (0 : Int32) from bn_k (by decide))) (by decide)
      refine lv_bipush (v := (-2)) hx hb dX11_word_37 (by decide) ?_
      exact prI (post := fun r L1 f1 => ∃ w2 : Nat → Int × Int, ∃ q2 : Nat → (Nat → Int32) → Prop, ∃ n2 : Int, ∃ c2 : Nat → Int32, (wdE i1 i2 r n9 n2 u9 c2) ∧ SH (spC (NR 30 0 4) ((0, 6) : Int × Int) tc w2 q2) nnC G ad L1 f1 ∧ w2 2 = (n2, n2) ∧ (∀ g, q2 2 g → ∀ k, k < 3 * n2.toNat → g k = c2 k) ∧ (∀ k, k ≠ 2 → w2 k = w k) ∧ (∀ k, k ≠ 2 → q2 k = q k) ∧ WBp w2 8 ∧ QIp q2) S Y rfl (by decide) (by decide) hA1 ⟨w, q, n9, u9, Or.inr (Or.inl ⟨c_83076, fun z => (win_f er_83078 c_83079) z.1, rfl, rfl, rfl⟩), I, hn, hc, (fun _ _ => rfl), (fun _ _ => rfl), hW, hQ⟩ dX11_word_39
    · refine lv_iload_n hx hb dX11_word_26 rfl (lv_at hl 2 rfl) ?_
      refine lv_iconst (v := 0) hx hb dX11_word_27 (by decide) ?_
      refine lv_sipush (v := 999) hx hb dX11_word_28 (by decide) ?_
      refine cSp (As := [.int i2, .int 0, .int 999]) (rest := []) S Y (x_X11_withinX (l := l) ) cw_X11_within km11_146 rfl ⟨Nat.le_of_ble_eq_true rfl, Nat.le_of_ble_eq_true rfl⟩ hl.1 rfl (Nat.le_of_ble_eq_true rfl) ⟨Nat.le_of_ble_eq_true rfl, Nat.le_of_ble_eq_true rfl⟩ dX11_word_31 (fun r_83081 H locs er_83081 Y => ?_)
      refine lv_if_ne (tgt := 40) hx hb dX11_word_34 (by decide) (fun c_83082 => ?_) (fun c_83082 => ?_)
      · refine lv_aload_n hx hb dX11_word_40 rfl (lv_at hl 0 rfl) ?_
        have p_ad_0_0 := opnC_0 (j := 0) I (by decide)
        have p_ad_0_0 : pt L f (ad 0 0) (.inr (11, [.ref (ad 1 0), .ref (ad 1 1), .ref (ad 2 0), .ref (ad 3 0), .ref (ad 4 0), .ref (ad 5 0), .ref (ad 6 0), .ref (ad 7 0), .ref (ad 8 0)])) := p_ad_0_0
        refine pg_get S Y ok_X11 0 (by decide) kf11_13 (v := .ref (ad 1 0)) p_ad_0_0 rfl dX11_word_41 ?_
        obtain ⟨v_83084, v_83086, v_83088, v_83090, v_83092, p_ad_1_0, b_83085, b_83087, b_83089, b_83091, b_83093⟩ := opnC_1 (j := 0) I (by decide)
        have p_ad_1_0 : pt L f (ad 1 0) (.inr (10, [.ref (ad 40 0), .ref (ad 41 0), .ref (ad 42 0), .ref (ad 10 0), .ref (ad 43 0), .ref (ad 20 0), .ref (ad 20 1), .ref (ad 20 2), .ref (ad 20 3), .ref (ad 20 4), .int v_83084, .int v_83086, .int v_83088, .int v_83090, .int v_83092])) := p_ad_1_0
        refine pg_getN S Y ok_X10 7 (by decide) kf11_293 (v := .ref (ad 20 2)) p_ad_1_0 rfl dX11_word_44 ?_
        refine lv_iload_n hx hb dX11_word_47 rfl (lv_at hl 1 rfl) ?_
        refine lv_iload_n hx hb dX11_word_48 rfl (lv_at hl 2 rfl) ?_
        refine lv_iconst (v := 0) hx hb dX11_word_49 (by decide) ?_
        refine cVi (As := [.int i1, .int i2, .int 0]) (rest := []) S Y (x_X9_tellE (l := l) I hW hT hQ hn hc) cw_X9_tell km11_258 (I.opo (k := 20) (j := 2) (by decide) rfl).choose_spec.1 ok_X9.1 rfl rfl ⟨Nat.le_of_ble_eq_true rfl, Nat.le_of_ble_eq_true rfl⟩ hl.1 rfl (Nat.le_of_ble_eq_true rfl) ⟨Nat.le_of_ble_eq_true rfl, Nat.le_of_ble_eq_true rfl⟩ dX11_word_50 (fun r_83096 L_83094 f_83095 H locs hr_83096 Y => ?_)
        obtain ⟨w2_83097, q2_83098, n2_83099, c2_83100, er_83096, I, en_83101, ec_83102, e2_83103, e4_83104, eW_83105, eQ_83106⟩ := hr_83096
        exact prI (post := fun r L1 f1 => ∃ w2 : Nat → Int × Int, ∃ q2 : Nat → (Nat → Int32) → Prop, ∃ n2 : Int, ∃ c2 : Nat → Int32, (wdE i1 i2 r n9 n2 u9 c2) ∧ SH (spC (NR 30 0 4) ((0, 6) : Int × Int) tc w2 q2) nnC G ad L1 f1 ∧ w2 2 = (n2, n2) ∧ (∀ g, q2 2 g → ∀ k, k < 3 * n2.toNat → g k = c2 k) ∧ (∀ k, k ≠ 2 → w2 k = w k) ∧ (∀ k, k ≠ 2 → q2 k = q k) ∧ WBp w2 8 ∧ QIp q2) S Y rfl (by decide) (by decide) hA1 ⟨w2_83097, q2_83098, n2_83099, c2_83100, Or.inr (Or.inr ⟨c_83076, ⟨(win_t er_83078 c_83079), (win_t er_83081 c_83082)⟩, er_83096⟩), I, en_83101, ec_83102, e2_83103, e4_83104, eW_83105, eQ_83106⟩ dX11_word_53
      · have B_83083 : bn 0 0 r_83081 := bn_w (bn_eq c_83082 (show bn 0 0 (0 : Int32) from bn_k (by decide))) (by decide)
        refine lv_bipush (v := (-2)) hx hb dX11_word_37 (by decide) ?_
        exact prI (post := fun r L1 f1 => ∃ w2 : Nat → Int × Int, ∃ q2 : Nat → (Nat → Int32) → Prop, ∃ n2 : Int, ∃ c2 : Nat → Int32, (wdE i1 i2 r n9 n2 u9 c2) ∧ SH (spC (NR 30 0 4) ((0, 6) : Int × Int) tc w2 q2) nnC G ad L1 f1 ∧ w2 2 = (n2, n2) ∧ (∀ g, q2 2 g → ∀ k, k < 3 * n2.toNat → g k = c2 k) ∧ (∀ k, k ≠ 2 → w2 k = w k) ∧ (∀ k, k ≠ 2 → q2 k = q k) ∧ WBp w2 8 ∧ QIp q2) S Y rfl (by decide) (by decide) hA1 ⟨w, q, n9, u9, Or.inr (Or.inl ⟨c_83076, fun z => (win_f er_83081 c_83082) z.2, rfl, rfl, rfl⟩), I, hn, hc, (fun _ _ => rfl), (fun _ _ => rfl), hW, hQ⟩ dX11_word_39
  · have B_83077 : bn (-1) (-1) i1 := bn_w (bn_eq c_83076 (show bn (-1) (-1) ((-1) : Int32) from bn_k (by decide))) (by decide)
    refine lv_aload_n hx hb dX11_word_5 rfl (lv_at hl 0 rfl) ?_
    have p_ad_0_0 := opnC_0 (j := 0) I (by decide)
    have p_ad_0_0 : pt L f (ad 0 0) (.inr (11, [.ref (ad 1 0), .ref (ad 1 1), .ref (ad 2 0), .ref (ad 3 0), .ref (ad 4 0), .ref (ad 5 0), .ref (ad 6 0), .ref (ad 7 0), .ref (ad 8 0)])) := p_ad_0_0
    refine pg_get S Y ok_X11 0 (by decide) kf11_13 (v := .ref (ad 1 0)) p_ad_0_0 rfl dX11_word_6 ?_
    obtain ⟨v_83107, v_83109, v_83111, v_83113, v_83115, p_ad_1_0, b_83108, b_83110, b_83112, b_83114, b_83116⟩ := opnC_1 (j := 0) I (by decide)
    have p_ad_1_0 : pt L f (ad 1 0) (.inr (10, [.ref (ad 40 0), .ref (ad 41 0), .ref (ad 42 0), .ref (ad 10 0), .ref (ad 43 0), .ref (ad 20 0), .ref (ad 20 1), .ref (ad 20 2), .ref (ad 20 3), .ref (ad 20 4), .int v_83107, .int v_83109, .int v_83111, .int v_83113, .int v_83115])) := p_ad_1_0
    refine pg_getN S Y ok_X10 7 (by decide) kf11_293 (v := .ref (ad 20 2)) p_ad_1_0 rfl dX11_word_9 ?_
    refine cVi (As := []) (rest := []) S Y (x_X9_forgetE (l := l) I hW hT hQ hn hc) cw_X9_forget km11_253 (I.opo (k := 20) (j := 2) (by decide) rfl).choose_spec.1 ok_X9.1 rfl rfl ⟨Nat.le_of_ble_eq_true rfl, Nat.le_of_ble_eq_true rfl⟩ hl.1 rfl (Nat.le_of_ble_eq_true rfl) ⟨Nat.le_of_ble_eq_true rfl, Nat.le_of_ble_eq_true rfl⟩ dX11_word_12 (fun r_83119 L_83117 f_83118 H locs hr_83119 Y => ?_)
    obtain ⟨w2_83120, q2_83121, n2_83122, c2_83123, er_83119, I, en_83124, ec_83125, e2_83126, e4_83127, eW_83128, eQ_83129⟩ := hr_83119
    exact prI (post := fun r L1 f1 => ∃ w2 : Nat → Int × Int, ∃ q2 : Nat → (Nat → Int32) → Prop, ∃ n2 : Int, ∃ c2 : Nat → Int32, (wdE i1 i2 r n9 n2 u9 c2) ∧ SH (spC (NR 30 0 4) ((0, 6) : Int × Int) tc w2 q2) nnC G ad L1 f1 ∧ w2 2 = (n2, n2) ∧ (∀ g, q2 2 g → ∀ k, k < 3 * n2.toNat → g k = c2 k) ∧ (∀ k, k ≠ 2 → w2 k = w k) ∧ (∀ k, k ≠ 2 → q2 k = q k) ∧ WBp w2 8 ∧ QIp q2) S Y rfl (by decide) (by decide) hA1 ⟨w2_83120, q2_83121, n2_83122, c2_83123, Or.inl ⟨c_83076, er_83119⟩, I, en_83124, ec_83125, e2_83126, e4_83127, eW_83128, eQ_83129⟩ dX11_word_15
