def BYR (i : Int32) (c : Int) : Prop := 0 ≤ i.toInt ∧ i.toInt < c
def BYQ (i : Int32) (c : Int) : Prop := i = -1 ∨ BYR i c
def BYA (i : Int32) (c : Int) (r : Int32) : Prop := (r = 1 ∧ BYQ i c) ∨ (r = 0 ∧ ¬ BYQ i c)
theorem bya_one {i r s : Int32} {c : Int} (h : BYA i c r) (k : BYA i c s) : r = s := by
  rcases h with ⟨h1, h2⟩ | ⟨h1, h2⟩ <;> rcases k with ⟨k1, k2⟩ | ⟨k1, k2⟩
  · exact h1.trans k1.symm
  · exact absurd h2 k2
  · exact absurd k2 h2
  · exact h1.trans k1.symm
theorem bya_b {i r : Int32} {c : Int} (h : BYA i c r) : bn 0 1 r := by
  rcases h with ⟨h, _⟩ | ⟨h, _⟩ <;> rw [h] <;> exact bn_k (by decide)
set_option maxHeartbeats 4000000 in
set_option maxRecDepth 100000 in
theorem x_X10_scriptE {l : Launch} {G : GG}  {L : List Nat} {f : HF} {ad : Nat → Nat → Nat} {rs : RS} {fc : Int × Int} {tc w : Nat → Int × Int} {q : Nat → (Nat → Int32) → Prop} {i1 : Int32} (I : SH (spC rs fc tc w q) nnC G ad L f) (hW : WBp w 8) (hT : WBp tc 4) (hQ : QIp q) (hE : ∀ j, (tc j).1 = (tc j).2) : PMw l yX10_script cX10_script 2 (.object "KneeOaths$Script") 0 0 0 G [.ref (ad 1 0), .int i1] L f (fun r => ((r = none ∨ ∃ t, t < 4 ∧ r = some (ad 30 (0 + t))) ∧ (r ≠ none → BYR i1 (tc 0).1) ∧ (r = none → ¬ BYR i1 (tc 0).1))) := by
  refine PMq.of (post := fun r L1 f1 => (((r = none ∨ ∃ t, t < 4 ∧ r = some (ad 30 (0 + t))) ∧ (r ≠ none → BYR i1 (tc 0).1) ∧ (r = none → ¬ BYR i1 (tc 0).1))) ∧ L1 = L ∧ f1 = f) (own := RX10) (by decide) rfl (Nat.le_of_ble_eq_true rfl) (fun sz p e s m args below meth c A ls hA1 hname S Y hl => ?_)
  have hx := S.hx
  have hb := S.hb
  have hl : lv_has ls 2 [(0, .ref (ad 1 0)), (1, .int i1)] := hl
  refine lv_iload_n hx hb dX10_script_0 rfl (lv_at hl 1 rfl) ?_
  refine lv_if_lt (tgt := 21) hx hb dX10_script_1 (by decide) (fun c_94569 => ?_) (fun c_94569 => ?_)
  · have B_94570 : bn (-2147483648) (-1) i1 := bn_w (bn_ltl c_94569 (bn_any i1) (show bn 0 0 (0 : Int32) from bn_k (by decide))) (by decide)
    refine lv_null hx hb dX10_script_21 ?_
    exact prQ (post := fun r L1 f1 => (((r = none ∨ ∃ t, t < 4 ∧ r = some (ad 30 (0 + t))) ∧ (r ≠ none → BYR i1 (tc 0).1) ∧ (r = none → ¬ BYR i1 (tc 0).1))) ∧ L1 = L ∧ f1 = f) (r := none) S Y rfl (by decide) (by decide) hA1 ⟨⟨Or.inl rfl, fun h => absurd rfl h, fun _ => (by intro z; obtain ⟨z1, z2⟩ := z; have i0 := c_94569; rw [Int32.lt_iff_toInt_lt] at i0; rw [show (0 : Int32).toInt = 0 from rfl] at i0; omega)⟩, rfl, rfl⟩ dX10_script_22
  · have B_94571 : bn 0 2147483647 i1 := bn_w (bn_gel c_94569 (bn_any i1) (show bn 0 0 (0 : Int32) from bn_k (by decide))) (by decide)
    refine lv_iload_n hx hb dX10_script_4 rfl (lv_at hl 1 rfl) ?_
    refine lv_aload_n hx hb dX10_script_5 rfl (lv_at hl 0 rfl) ?_
    obtain ⟨v_94572, v_94574, v_94576, v_94578, v_94580, p_ad_1_0, b_94573, b_94575, b_94577, b_94579, b_94581⟩ := opnC_1 (j := 0) I (by decide)
    have p_ad_1_0 : pt L f (ad 1 0) (.inr (10, [.ref (ad 40 0), .ref (ad 41 0), .ref (ad 42 0), .ref (ad 10 0), .ref (ad 43 0), .ref (ad 20 0), .ref (ad 20 1), .ref (ad 20 2), .ref (ad 20 3), .ref (ad 20 4), .int v_94572, .int v_94574, .int v_94576, .int v_94578, .int v_94580])) := p_ad_1_0
    refine pg_get S Y ok_X10 11 (by decide) kf10_67 (v := .int v_94574) p_ad_1_0 rfl dX10_script_6 ?_
    refine lv_icmp_ge (tgt := 21) hx hb dX10_script_9 (by decide) (fun c_94582 => ?_) (fun c_94582 => ?_)
    · refine lv_null hx hb dX10_script_21 ?_
      exact prQ (post := fun r L1 f1 => (((r = none ∨ ∃ t, t < 4 ∧ r = some (ad 30 (0 + t))) ∧ (r ≠ none → BYR i1 (tc 0).1) ∧ (r = none → ¬ BYR i1 (tc 0).1))) ∧ L1 = L ∧ f1 = f) (r := none) S Y rfl (by decide) (by decide) hA1 ⟨⟨Or.inl rfl, fun h => absurd rfl h, fun _ => (by intro z; obtain ⟨z1, z2⟩ := z; have z9 := b_94575; have z8 := z9.1; have z7 := z9.2; have z6 := hE 0; have i0 := (Int32.not_lt.mp c_94569); rw [Int32.le_iff_toInt_le] at i0; rw [show (0 : Int32).toInt = 0 from rfl] at i0; have i1 := c_94582; rw [Int32.le_iff_toInt_le] at i1; omega)⟩, rfl, rfl⟩ dX10_script_22
    · have B_94583 : bn 1 4 v_94574 := bn_w (bn_gtl c_94582 (bn_w (a' := 0) (b' := 4) b_94575 (hT 0)) B_94571) (by decide)
      have B_94584 : bn 0 3 i1 := bn_w (bn_gtr c_94582 (bn_w (a' := 0) (b' := 4) b_94575 (hT 0)) B_94571) (by decide)
      refine lv_aload_n hx hb dX10_script_12 rfl (lv_at hl 0 rfl) ?_
      refine pg_get S Y ok_X10 2 (by decide) kf10_20 (v := .ref (ad 42 0)) p_ad_1_0 rfl dX10_script_13 ?_
      refine lv_iload_n hx hb dX10_script_16 rfl (lv_at hl 1 rfl) ?_
      obtain ⟨g_94585, p_ad_42_0, o_94586⟩ := I.opr (k := 42) (j := 0) (by decide) rfl
      have p_ad_42_0 : pt L f (ad 42 0) (.inl (G.2 4, 4, .inr (.inr (.inr (.inr g_94585))))) := p_ad_42_0
      refine pg_aald S Y (k := 4) (o := (ad 30 i1.toNatClampNeg)) p_ad_42_0 rfl (vp_bn B_94584 (by decide)) (aal0 (o_94586 _ (tn_bn B_94584 (by decide)))) dX10_script_17 ?_
      refine lv_goto (tgt := 22) hx hb dX10_script_18 (by decide) ?_
      exact prQ (post := fun r L1 f1 => (((r = none ∨ ∃ t, t < 4 ∧ r = some (ad 30 (0 + t))) ∧ (r ≠ none → BYR i1 (tc 0).1) ∧ (r = none → ¬ BYR i1 (tc 0).1))) ∧ L1 = L ∧ f1 = f) (r := some (ad 30 i1.toNatClampNeg)) S Y rfl (by decide) (by decide) hA1 ⟨⟨Or.inr ⟨i1.toNatClampNeg, tn_bn B_94584 (by decide), by rw [Nat.zero_add]⟩, fun _ => (by have z9 := b_94575; have z8 := z9.1; have z7 := z9.2; have z6 := hE 0; have i0 := (Int32.not_lt.mp c_94569); rw [Int32.le_iff_toInt_le] at i0; rw [show (0 : Int32).toInt = 0 from rfl] at i0; have i1 := (Int32.not_le.mp c_94582); rw [Int32.lt_iff_toInt_lt] at i1; exact ⟨by omega, by omega⟩), fun h => absurd h (by intro q; cases q)⟩, rfl, rfl⟩ dX10_script_22
set_option maxHeartbeats 4000000 in
set_option maxRecDepth 100000 in
theorem x_X10_putUnderE {l : Launch} {G : GG}  {L : List Nat} {f : HF} {ad : Nat → Nat → Nat} {rs : RS} {fc : Int × Int} {tc w : Nat → Int × Int} {q : Nat → (Nat → Int32) → Prop} {i1 : Int32} (I : SH (spC rs fc tc w q) nnC G ad L f) (hW : WBp w 8) (hT : WBp tc 4) (hQ : QIp q) (hE : ∀ j, (tc j).1 = (tc j).2) : PMi l yX10_putUnder cX10_putUnder 2 .boolean 1 0 0 G [.ref (ad 1 0), .int i1] L f (fun r L1 f1 => (BYA i1 (tc 0).1 r) ∧ SH (spC rs fc tc w q) nnC G ad L1 f1) := by
  refine PMi.of (post := fun r L1 f1 => (BYA i1 (tc 0).1 r) ∧ SH (spC rs fc tc w q) nnC G ad L1 f1) (own := RX10) (by decide) rfl (Nat.le_of_ble_eq_true rfl) (fun sz p e s m args below meth c A ls hA1 hname S Y hl => ?_)
  have hx := S.hx
  have hb := S.hb
  have hl : lv_has ls 2 [(0, .ref (ad 1 0)), (1, .int i1)] := hl
  refine lv_iload_n hx hb dX10_putUnder_0 rfl (lv_at hl 1 rfl) ?_
  refine lv_iconst (v := (-1)) hx hb dX10_putUnder_1 (by decide) ?_
  refine lv_icmp_eq (tgt := 15) hx hb dX10_putUnder_2 (by decide) (fun c_94639 => ?_) (fun c_94639 => ?_)
  · have B_94640 : bn (-1) (-1) i1 := bn_w (bn_eq c_94639 (show bn (-1) (-1) ((-1) : Int32) from bn_k (by decide))) (by decide)
    refine lv_aload_n hx hb dX10_putUnder_15 rfl (lv_at hl 0 rfl) ?_
    refine lv_iload_n hx hb dX10_putUnder_16 rfl (lv_at hl 1 rfl) ?_
    obtain ⟨v_94641, v_94643, v_94645, v_94647, v_94649, p_ad_1_0, b_94642, b_94644, b_94646, b_94648, b_94650⟩ := opnC_1 (j := 0) I (by decide)
    have p_ad_1_0 : pt L f (ad 1 0) (.inr (10, [.ref (ad 40 0), .ref (ad 41 0), .ref (ad 42 0), .ref (ad 10 0), .ref (ad 43 0), .ref (ad 20 0), .ref (ad 20 1), .ref (ad 20 2), .ref (ad 20 3), .ref (ad 20 4), .int v_94641, .int v_94643, .int v_94645, .int v_94647, .int v_94649])) := p_ad_1_0
    refine pg_put S Y ok_X10 12 (by decide) kf10_56 rfl (fs' := [.ref (ad 40 0), .ref (ad 41 0), .ref (ad 42 0), .ref (ad 10 0), .ref (ad 43 0), .ref (ad 20 0), .ref (ad 20 1), .ref (ad 20 2), .ref (ad 20 3), .ref (ad 20 4), .int v_94641, .int v_94643, .int i1, .int v_94647, .int v_94649]) (v := .int i1) p_ad_1_0 rfl rfl rfl (Nat.le_of_ble_eq_true rfl) dX10_putUnder_17 (fun f_94651 H locs ef_94651 Y => ?_)
    have p_ad_1_0 := p_ad_1_0.me ef_94651
    have I := I.up (k := 1) (j := 0) (by decide) ef_94651 (okE_o (okFs_c okV_r (okFs_c okV_r (okFs_c okV_r (okFs_c okV_r (okFs_c okV_r (okFs_c okV_r (okFs_c okV_r (okFs_c okV_r (okFs_c okV_r (okFs_c okV_r (okFs_c (okV_i b_94642) (okFs_c (okV_p b_94644) (okFs_c (okV_i (bn_w B_94640 (by decide))) (okFs_c (okV_i b_94648) (okFs_c (okV_i b_94650) okFs_n))))))))))))))))
    refine lv_iconst (v := 1) hx hb dX10_putUnder_20 (by decide) ?_
    exact prI (post := fun r L1 f1 => (BYA i1 (tc 0).1 r) ∧ SH (spC rs fc tc w q) nnC G ad L1 f1) S Y rfl (by decide) (by decide) hA1 ⟨Or.inl ⟨rfl, Or.inl c_94639⟩, I⟩ dX10_putUnder_21
  · refine lv_aload_n hx hb dX10_putUnder_5 rfl (lv_at hl 0 rfl) ?_
    refine lv_iload_n hx hb dX10_putUnder_6 rfl (lv_at hl 1 rfl) ?_
    refine cVw (As := [.int i1]) (rest := []) S Y (x_X10_scriptE (l := l) I hW hT hQ hE) cw_X10_script km10_93 (I.opo (k := 1) (j := 0) (by decide) rfl).choose_spec.1 ok_X10.1 rfl rfl ⟨Nat.le_of_ble_eq_true rfl, Nat.le_of_ble_eq_true rfl⟩ hl.1 rfl (Nat.le_of_ble_eq_true rfl) ⟨Nat.le_of_ble_eq_true rfl, Nat.le_of_ble_eq_true rfl⟩ dX10_putUnder_7 (fun r_94652 H locs er_94652 Y => ?_)
    obtain ⟨er_94652, fr_94652, gr_94652⟩ := er_94652
    rcases er_94652 with er_94652 | ⟨t_94653, ht_94653, er_94652⟩
    · rw [er_94652]
      show W _ _ _ _ _ _ _ _ _ _ _ _ _ _ _ (F0 _ _ _ (.null :: _))
      refine lv_ifnonnullN hx hb dX10_putUnder_10 ?_
      refine lv_iconst (v := 0) hx hb dX10_putUnder_13 (by decide) ?_
      exact prI (post := fun r L1 f1 => (BYA i1 (tc 0).1 r) ∧ SH (spC rs fc tc w q) nnC G ad L1 f1) S Y rfl (by decide) (by decide) hA1 ⟨Or.inr ⟨rfl, fun z => z.elim c_94639 (gr_94652 er_94652)⟩, I⟩ dX10_putUnder_14
    · rw [er_94652]
      have e9 : 0 + t_94653 = t_94653 := Nat.zero_add _
      rw [e9]
      show W _ _ _ _ _ _ _ _ _ _ _ _ _ _ _ (F0 _ _ _ (.ref (ad 30 t_94653) :: _))
      refine lv_ifnonnull (tgt := 15) hx hb dX10_putUnder_10 (by decide) ?_
      refine lv_aload_n hx hb dX10_putUnder_15 rfl (lv_at hl 0 rfl) ?_
      refine lv_iload_n hx hb dX10_putUnder_16 rfl (lv_at hl 1 rfl) ?_
      obtain ⟨v_94654, v_94656, v_94658, v_94660, v_94662, p_ad_1_0, b_94655, b_94657, b_94659, b_94661, b_94663⟩ := opnC_1 (j := 0) I (by decide)
      have p_ad_1_0 : pt L f (ad 1 0) (.inr (10, [.ref (ad 40 0), .ref (ad 41 0), .ref (ad 42 0), .ref (ad 10 0), .ref (ad 43 0), .ref (ad 20 0), .ref (ad 20 1), .ref (ad 20 2), .ref (ad 20 3), .ref (ad 20 4), .int v_94654, .int v_94656, .int v_94658, .int v_94660, .int v_94662])) := p_ad_1_0
      refine pg_put S Y ok_X10 12 (by decide) kf10_56 rfl (fs' := [.ref (ad 40 0), .ref (ad 41 0), .ref (ad 42 0), .ref (ad 10 0), .ref (ad 43 0), .ref (ad 20 0), .ref (ad 20 1), .ref (ad 20 2), .ref (ad 20 3), .ref (ad 20 4), .int v_94654, .int v_94656, .int i1, .int v_94660, .int v_94662]) (v := .int i1) p_ad_1_0 rfl rfl rfl (Nat.le_of_ble_eq_true rfl) dX10_putUnder_17 (fun f_94664 H locs ef_94664 Y => ?_)
      have p_ad_1_0 := p_ad_1_0.me ef_94664
      have I := I.up (k := 1) (j := 0) (by decide) ef_94664 (okE_o (okFs_c okV_r (okFs_c okV_r (okFs_c okV_r (okFs_c okV_r (okFs_c okV_r (okFs_c okV_r (okFs_c okV_r (okFs_c okV_r (okFs_c okV_r (okFs_c okV_r (okFs_c (okV_i b_94655) (okFs_c (okV_p b_94657) (okFs_c (okV_i (bn_w (bn_any i1) (by decide))) (okFs_c (okV_i b_94661) (okFs_c (okV_i b_94663) okFs_n))))))))))))))))
      refine lv_iconst (v := 1) hx hb dX10_putUnder_20 (by decide) ?_
      exact prI (post := fun r L1 f1 => (BYA i1 (tc 0).1 r) ∧ SH (spC rs fc tc w q) nnC G ad L1 f1) S Y rfl (by decide) (by decide) hA1 ⟨Or.inl ⟨rfl, Or.inr (fr_94652 (by intro h9; rw [h9] at er_94652; cases er_94652))⟩, I⟩ dX10_putUnder_21
set_option maxHeartbeats 4000000 in
set_option maxRecDepth 100000 in
theorem x_X11_byE {l : Launch} {G : GG}  {L : List Nat} {f : HF} {ad : Nat → Nat → Nat} {nL : Int} {bT : Nat → Int32} {kF : Int} {pF : Int} {tc w : Nat → Int × Int} {q : Nat → (Nat → Int32) → Prop} {i1 : Int32} (I : SH (spC ((NR 30 0 4, fz (pp nL) FI FI FI FI FI FI (pp kF) (pp pF), tz (EQ bT) TA TA TA, sc0) : RS) ((0, 6) : Int × Int) tc w q) nnC G ad L f) (hW : WBp w 8) (hT : WBp tc 4) (hQ : QIp q) (hZ : ZZp w q) (hE : ∀ j, (tc j).1 = (tc j).2) : PMi l yX11_by cX11_by 2 .boolean 2 0 0 G [.ref (ad 0 0), .int i1] L f (fun r L1 f1 => (BYA i1 (tc 0).1 r) ∧ SH (spC ((NR 30 0 4, fz (pp nL) FI FI FI FI FI FI (pp kF) (pp pF), tz (EQ bT) TA TA TA, sc0) : RS) ((0, 6) : Int × Int) tc w q) nnC G ad L1 f1) := by
  refine PMi.of (post := fun r L1 f1 => (BYA i1 (tc 0).1 r) ∧ SH (spC ((NR 30 0 4, fz (pp nL) FI FI FI FI FI FI (pp kF) (pp pF), tz (EQ bT) TA TA TA, sc0) : RS) ((0, 6) : Int × Int) tc w q) nnC G ad L1 f1) (own := RX11) (by decide) rfl (Nat.le_of_ble_eq_true rfl) (fun sz p e s m args below meth c A ls hA1 hname S Y hl => ?_)
  have hx := S.hx
  have hb := S.hb
  have hl : lv_has ls 2 [(0, .ref (ad 0 0)), (1, .int i1)] := hl
  refine lv_aload_n hx hb dX11_by_0 rfl (lv_at hl 0 rfl) ?_
  have p_ad_0_0 := opnC_0 (j := 0) I (by decide)
  have p_ad_0_0 : pt L f (ad 0 0) (.inr (11, [.ref (ad 1 0), .ref (ad 1 1), .ref (ad 2 0), .ref (ad 3 0), .ref (ad 4 0), .ref (ad 5 0), .ref (ad 6 0), .ref (ad 7 0), .ref (ad 8 0)])) := p_ad_0_0
  refine pg_get S Y ok_X11 0 (by decide) kf11_13 (v := .ref (ad 1 0)) p_ad_0_0 rfl dX11_by_1 ?_
  refine lv_iload_n hx hb dX11_by_4 rfl (lv_at hl 1 rfl) ?_
  refine cVi (As := [.int i1]) (rest := []) S Y (x_X10_putUnderE (l := l) I hW hT hQ hE) cw_X10_putUnder km11_115 (I.opo (k := 1) (j := 0) (by decide) rfl).choose_spec.1 ok_X10.1 rfl rfl ⟨Nat.le_of_ble_eq_true rfl, Nat.le_of_ble_eq_true rfl⟩ hl.1 rfl (Nat.le_of_ble_eq_true rfl) ⟨Nat.le_of_ble_eq_true rfl, Nat.le_of_ble_eq_true rfl⟩ dX11_by_5 (fun r_94675 L_94673 f_94674 H locs hr_94675 Y => ?_)
  obtain ⟨er_94675, I⟩ := hr_94675
  have B_94676 : bn 0 1 r_94675 := bya_b er_94675
  exact prI (post := fun r L1 f1 => (BYA i1 (tc 0).1 r) ∧ SH (spC ((NR 30 0 4, fz (pp nL) FI FI FI FI FI FI (pp kF) (pp pF), tz (EQ bT) TA TA TA, sc0) : RS) ((0, 6) : Int × Int) tc w q) nnC G ad L1 f1) S Y (nw_b (bn_w B_94676 (by decide))) (by decide) (by decide) hA1 ⟨er_94675, I⟩ dX11_by_8
