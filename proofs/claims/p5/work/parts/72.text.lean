theorem dX11_text_0 : decode cX11_text 0 = .ok (.aload_n 0, 1) := by decide +kernel
theorem dX11_text_1 : decode cX11_text 1 = .ok (.getfield 13, 3) := by decide +kernel
theorem dX11_text_4 : decode cX11_text 4 = .ok (.invokevirtual 98, 3) := by decide +kernel
theorem cw_X10_freeScript : CWv yX10_freeScript cX10_freeScript 1 (some (.object "KneeOaths$Script")) 0 := ⟨⟨⟨List.mem_of_getElem? (i := 126) (by decide +kernel), by decide +kernel⟩, ⟨List.mem_of_getElem? (i := 575) (by decide +kernel), by decide +kernel⟩, by decide +kernel⟩, ⟨List.mem_of_getElem? (i := 573) (by decide +kernel), by decide +kernel⟩, ⟨List.mem_of_getElem? (i := 574) (by decide +kernel), by decide +kernel⟩⟩
theorem km11_98 : inW (Cond.methodLink RX11 98 yX10_freeScript) := ⟨List.mem_of_getElem? (i := 572) (by decide +kernel), by decide +kernel⟩
theorem dX11_text_7 : decode cX11_text 7 = .ok (.astore_n 1, 1) := by decide +kernel
theorem dX11_text_8 : decode cX11_text 8 = .ok (.aload_n 1, 1) := by decide +kernel
theorem dX11_text_9 : decode cX11_text 9 = .ok (.ifnonnull 5, 3) := by decide +kernel
theorem dX11_text_12 : decode cX11_text 12 = .ok (.iconst (-1), 1) := by decide +kernel
theorem dX11_text_13 : decode cX11_text 13 = .ok (.ireturn, 1) := by decide +kernel
theorem dX11_text_14 : decode cX11_text 14 = .ok (.aload_n 0, 1) := by decide +kernel
theorem dX11_text_15 : decode cX11_text 15 = .ok (.getfield 25, 3) := by decide +kernel
theorem dX11_text_18 : decode cX11_text 18 = .ok (.aload_n 1, 1) := by decide +kernel
theorem dX11_text_19 : decode cX11_text 19 = .ok (.invokevirtual 102, 3) := by decide +kernel
theorem cw_X5_read : CWv yX5_read cX5_read 4 (some .boolean) 1 := ⟨⟨⟨List.mem_of_getElem? (i := 130) (by decide +kernel), by decide +kernel⟩, ⟨List.mem_of_getElem? (i := 579) (by decide +kernel), by decide +kernel⟩, by decide +kernel⟩, ⟨List.mem_of_getElem? (i := 577) (by decide +kernel), by decide +kernel⟩, ⟨List.mem_of_getElem? (i := 578) (by decide +kernel), by decide +kernel⟩⟩
theorem km11_102 : inW (Cond.methodLink RX11 102 yX5_read) := ⟨List.mem_of_getElem? (i := 576) (by decide +kernel), by decide +kernel⟩
theorem dX11_text_22 : decode cX11_text 22 = .ok (.ifCond .eq 13, 3) := by decide +kernel
theorem dX11_text_35 : decode cX11_text 35 = .ok (.iconst (-1), 1) := by decide +kernel
theorem dX11_text_36 : decode cX11_text 36 = .ok (.ireturn, 1) := by decide +kernel
theorem dX11_text_25 : decode cX11_text 25 = .ok (.aload_n 0, 1) := by decide +kernel
theorem dX11_text_26 : decode cX11_text 26 = .ok (.getfield 13, 3) := by decide +kernel
theorem dX11_text_29 : decode cX11_text 29 = .ok (.invokevirtual 106, 3) := by decide +kernel
theorem cw_X10_keepScript : CWv yX10_keepScript cX10_keepScript 1 (some .int) 0 := ⟨⟨⟨List.mem_of_getElem? (i := 126) (by decide +kernel), by decide +kernel⟩, ⟨List.mem_of_getElem? (i := 842) (by decide +kernel), by decide +kernel⟩, by decide +kernel⟩, ⟨List.mem_of_getElem? (i := 840) (by decide +kernel), by decide +kernel⟩, ⟨List.mem_of_getElem? (i := 841) (by decide +kernel), by decide +kernel⟩⟩
theorem km11_106 : inW (Cond.methodLink RX11 106 yX10_keepScript) := ⟨List.mem_of_getElem? (i := 839) (by decide +kernel), by decide +kernel⟩
theorem dX11_text_32 : decode cX11_text 32 = .ok (.goto 4, 3) := by decide +kernel
theorem tcE {tc tc2 : Nat → Int × Int} (e1 : tc2 0 = ((tc 0).1 + 1, (tc 0).2 + 1)) (e2 : ∀ k, k ≠ 0 → tc2 k = tc k) (hE : ∀ j, (tc j).1 = (tc j).2) : ∀ j, (tc2 j).1 = (tc2 j).2 := by
  intro j
  by_cases z : j = 0
  · subst z; rw [e1]; have := hE 0; dsimp only; omega
  · rw [e2 j z]; exact hE j
theorem le4 {a b : Int} {x : Int32} (h : bn a b x) (c : 4 ≤ x.toInt) : 4 ≤ b := by have := h.2; omega
/-- what a text does: the count of texts, the tape's length, the fault and its place -/
def TXP (B : Nat → Int) (n : Nat) (cn cn2 n2 fk fp fk2 fp2 r : Int) : Prop :=
  (cn = 4 ∧ r = -1 ∧ cn2 = cn ∧ n2 = n ∧ fk2 = fk ∧ fp2 = fp) ∨
  (cn < 4 ∧ n2 = 0 ∧ ∃ rr, TXR B n rr ∧ ((rr.1 = 0 ∧ r = cn ∧ cn2 = cn + 1 ∧ fk2 = 0 ∧ fp2 = -1) ∨ (rr.1 ≠ 0 ∧ r = -1 ∧ cn2 = cn ∧ fk2 = rr.1 ∧ fp2 = tkPI B n rr.2)))
section TXX
variable {B : Nat → Int} {n : Nat} {fk fp fk2 fp2 : Int} {tc tc2 : Nat → Int × Int} {rr : Int × Nat} {r v : Int32}
theorem tx_f (h4 : 4 ≤ (tc 0).2) (hT : WBp tc 4) (hE : ∀ j, (tc j).1 = (tc j).2) : TXP B n (tc 0).1 (tc 0).1 n fk fp fk fp (-1 : Int32).toInt := Or.inl ⟨by have := hT 0; have := hE 0; omega, rfl, rfl, rfl, rfl, rfl⟩
theorem tx_n (h3 : (tc 0).2 ≤ 3) (hE : ∀ j, (tc j).1 = (tc j).2) (e : RES (tkK B n) (tkV B n) (tkPI B n) rr fk2 fp2 r) (h : r = 0) : TXP B n (tc 0).1 (tc 0).1 0 fk fp fk2 fp2 (-1 : Int32).toInt := by
  rcases e.2 with q | q
  · rw [h] at q; exact absurd q.1 (by decide)
  · exact Or.inr ⟨by have := hE 0; omega, rfl, rr, e.1, Or.inr ⟨q.2.1, rfl, rfl, q.2.2⟩⟩
theorem tx_y (h3 : (tc 0).2 ≤ 3) (hE : ∀ j, (tc j).1 = (tc j).2) (e : RES (tkK B n) (tkV B n) (tkPI B n) rr fk2 fp2 r) (h : ¬ r = 0) (hv : v.toInt = (tc 0).1) (e1 : tc2 0 = ((tc 0).1 + 1, (tc 0).2 + 1)) : TXP B n (tc 0).1 (tc2 0).1 0 fk fp fk2 fp2 v.toInt := by
  rcases e.2 with q | q
  · exact Or.inr ⟨by have := hE 0; omega, rfl, rr, e.1, Or.inl ⟨q.2.1, hv, by rw [e1], q.2.2⟩⟩
  · exact absurd q.1 h
end TXX
set_option maxHeartbeats 4000000 in
set_option maxRecDepth 100000 in
theorem x_X10_freeScriptE {l : Launch} {G : GG}  {L : List Nat} {f : HF} {ad : Nat → Nat → Nat} {rs : RS} {fc : Int × Int} {tc w : Nat → Int × Int} {q : Nat → (Nat → Int32) → Prop} (I : SH (spC rs fc tc w q) nnC G ad L f) (hW : WBp w 8) (hT : WBp tc 4) (hQ : QIp q) (hE : ∀ j, (tc j).1 = (tc j).2) : PMw l yX10_freeScript cX10_freeScript 1 (.object "KneeOaths$Script") 0 0 0 G [.ref (ad 1 0)] L f (fun r => ((r = none ∨ ∃ t, t < 4 ∧ r = some (ad 30 (0 + t))) ∧ (r ≠ none → (tc 0).2 ≤ 3) ∧ (r = none → 4 ≤ (tc 0).2))) := by
  refine PMq.of (post := fun r L1 f1 => (((r = none ∨ ∃ t, t < 4 ∧ r = some (ad 30 (0 + t))) ∧ (r ≠ none → (tc 0).2 ≤ 3) ∧ (r = none → 4 ≤ (tc 0).2))) ∧ L1 = L ∧ f1 = f) (own := RX10) (by decide) rfl (Nat.le_of_ble_eq_true rfl) (fun sz p e s m args below meth c A ls hA1 hname S Y hl => ?_)
  have hx := S.hx
  have hb := S.hb
  have hl : lv_has ls 1 [(0, .ref (ad 1 0))] := hl
  refine lv_aload_n hx hb dX10_freeScript_0 rfl (lv_at hl 0 rfl) ?_
  obtain ⟨v_92377, v_92379, v_92381, v_92383, v_92385, p_ad_1_0, b_92378, b_92380, b_92382, b_92384, b_92386⟩ := opnC_1 (j := 0) I (by decide)
  have p_ad_1_0 : pt L f (ad 1 0) (.inr (10, [.ref (ad 40 0), .ref (ad 41 0), .ref (ad 42 0), .ref (ad 10 0), .ref (ad 43 0), .ref (ad 20 0), .ref (ad 20 1), .ref (ad 20 2), .ref (ad 20 3), .ref (ad 20 4), .int v_92377, .int v_92379, .int v_92381, .int v_92383, .int v_92385])) := p_ad_1_0
  refine pg_get S Y ok_X10 11 (by decide) kf10_67 (v := .int v_92379) p_ad_1_0 rfl dX10_freeScript_1 ?_
  refine lv_iconst (v := 4) hx hb dX10_freeScript_4 (by decide) ?_
  refine lv_icmp_ge (tgt := 20) hx hb dX10_freeScript_5 (by decide) (fun c_92387 => ?_) (fun c_92387 => ?_)
  · have B_92388 : bn 4 4 v_92379 := bn_w (bn_ler c_92387 (show bn 4 4 (4 : Int32) from bn_k (by decide)) (bn_w (a' := 0) (b' := 4) b_92380 (hT 0))) (by decide)
    refine lv_null hx hb dX10_freeScript_20 ?_
    exact prQ (post := fun r L1 f1 => (((r = none ∨ ∃ t, t < 4 ∧ r = some (ad 30 (0 + t))) ∧ (r ≠ none → (tc 0).2 ≤ 3) ∧ (r = none → 4 ≤ (tc 0).2))) ∧ L1 = L ∧ f1 = f) (r := none) S Y rfl (by decide) (by decide) hA1 ⟨⟨Or.inl rfl, fun h => absurd rfl h, fun _ => le4 b_92380 (by have h9 := c_92387; rw [Int32.le_iff_toInt_le] at h9; exact h9)⟩, rfl, rfl⟩ dX10_freeScript_21
  · have B_92389 : bn 0 3 v_92379 := bn_w (bn_gtr c_92387 (show bn 4 4 (4 : Int32) from bn_k (by decide)) (bn_w (a' := 0) (b' := 4) b_92380 (hT 0))) (by decide)
    refine lv_aload_n hx hb dX10_freeScript_8 rfl (lv_at hl 0 rfl) ?_
    refine pg_get S Y ok_X10 2 (by decide) kf10_20 (v := .ref (ad 42 0)) p_ad_1_0 rfl dX10_freeScript_9 ?_
    refine lv_aload_n hx hb dX10_freeScript_12 rfl (lv_at hl 0 rfl) ?_
    refine pg_get S Y ok_X10 11 (by decide) kf10_67 (v := .int v_92379) p_ad_1_0 rfl dX10_freeScript_13 ?_
    obtain ⟨g_92390, p_ad_42_0, o_92391⟩ := I.opr (k := 42) (j := 0) (by decide) rfl
    have p_ad_42_0 : pt L f (ad 42 0) (.inl (G.2 4, 4, .inr (.inr (.inr (.inr g_92390))))) := p_ad_42_0
    refine pg_aald S Y (k := 4) (o := (ad 30 v_92379.toNatClampNeg)) p_ad_42_0 rfl (vp_bn B_92389 (by decide)) (aal0 (o_92391 _ (tn_bn B_92389 (by decide)))) dX10_freeScript_16 ?_
    refine lv_goto (tgt := 21) hx hb dX10_freeScript_17 (by decide) ?_
    exact prQ (post := fun r L1 f1 => (((r = none ∨ ∃ t, t < 4 ∧ r = some (ad 30 (0 + t))) ∧ (r ≠ none → (tc 0).2 ≤ 3) ∧ (r = none → 4 ≤ (tc 0).2))) ∧ L1 = L ∧ f1 = f) (r := some (ad 30 v_92379.toNatClampNeg)) S Y rfl (by decide) (by decide) hA1 ⟨⟨Or.inr ⟨v_92379.toNatClampNeg, tn_bn B_92389 (by decide), by rw [Nat.zero_add]⟩, fun _ => by have h7 := b_92380; have h8 : bn 0 3 v_92379 := bn_w B_92389 (by decide); have h9 := hE 0; exact le3 h7 h8 h9, fun h => absurd h (by intro q; cases q)⟩, rfl, rfl⟩ dX10_freeScript_21
set_option maxHeartbeats 4000000 in
set_option maxRecDepth 100000 in
theorem x_X10_keepScriptE {l : Launch} {G : GG}  {L : List Nat} {f : HF} {ad : Nat → Nat → Nat} {rs : RS} {fc : Int × Int} {tc w : Nat → Int × Int} {q : Nat → (Nat → Int32) → Prop} (I : SH (spC rs fc tc w q) nnC G ad L f) (hW : WBp w 8) (hT : WBp tc 4) (hQ : QIp q) (h3 : (tc 0).2 ≤ 3) (hE : ∀ j, (tc j).1 = (tc j).2) : PMi l yX10_keepScript cX10_keepScript 1 .int 0 0 0 G [.ref (ad 1 0)] L f (fun r L1 f1 => ∃ tc2 : Nat → Int × Int, (r.toInt = (tc 0).1) ∧ SH (spC rs fc tc2 w q) nnC G ad L1 f1 ∧ tc2 0 = ((tc 0).1 + 1, (tc 0).2 + 1) ∧ (∀ k, k ≠ 0 → tc2 k = tc k) ∧ WBp tc2 4) := by
  refine PMi.of (post := fun r L1 f1 => ∃ tc2 : Nat → Int × Int, (r.toInt = (tc 0).1) ∧ SH (spC rs fc tc2 w q) nnC G ad L1 f1 ∧ tc2 0 = ((tc 0).1 + 1, (tc 0).2 + 1) ∧ (∀ k, k ≠ 0 → tc2 k = tc k) ∧ WBp tc2 4) (own := RX10) (by decide) rfl (Nat.le_of_ble_eq_true rfl) (fun sz p e s m args below meth c A ls hA1 hname S Y hl => ?_)
  have hx := S.hx
  have hb := S.hb
  have hl : lv_has ls 1 [(0, .ref (ad 1 0))] := hl
  refine lv_aload_n hx hb dX10_keepScript_0 rfl (lv_at hl 0 rfl) ?_
  refine lv_dup hx hb dX10_keepScript_1 rfl ?_
  obtain ⟨v_92418, v_92420, v_92422, v_92424, v_92426, p_ad_1_0, b_92419, b_92421, b_92423, b_92425, b_92427⟩ := opnC_1 (j := 0) I (by decide)
  have p_ad_1_0 : pt L f (ad 1 0) (.inr (10, [.ref (ad 40 0), .ref (ad 41 0), .ref (ad 42 0), .ref (ad 10 0), .ref (ad 43 0), .ref (ad 20 0), .ref (ad 20 1), .ref (ad 20 2), .ref (ad 20 3), .ref (ad 20 4), .int v_92418, .int v_92420, .int v_92422, .int v_92424, .int v_92426])) := p_ad_1_0
  refine pg_get S Y ok_X10 11 (by decide) kf10_67 (v := .int v_92420) p_ad_1_0 rfl dX10_keepScript_2 ?_
  refine lv_iconst (v := 1) hx hb dX10_keepScript_5 (by decide) ?_
  refine lv_iadd hx hb dX10_keepScript_6 ?_
  refine lv_topi (fun x_92428 ex_92428 => ?_)
  refine pg_put S Y ok_X10 11 (by decide) kf10_67 rfl (fs' := [.ref (ad 40 0), .ref (ad 41 0), .ref (ad 42 0), .ref (ad 10 0), .ref (ad 43 0), .ref (ad 20 0), .ref (ad 20 1), .ref (ad 20 2), .ref (ad 20 3), .ref (ad 20 4), .int v_92418, .int x_92428, .int v_92422, .int v_92424, .int v_92426]) (v := .int x_92428) p_ad_1_0 rfl rfl rfl (Nat.le_of_ble_eq_true rfl) dX10_keepScript_7 (fun f_92429 H locs ef_92429 Y => ?_)
  have p_ad_1_0 := p_ad_1_0.me ef_92429
  have I := I.upS (sp' := spC rs fc (stf tc 0 ((tc 0).1 + 1, (tc 0).2 + 1)) w q) (k := 1) (j := 0) (by decide) ef_92429 (okE_o (okFs_c okV_r (okFs_c okV_r (okFs_c okV_r (okFs_c okV_r (okFs_c okV_r (okFs_c okV_r (okFs_c okV_r (okFs_c okV_r (okFs_c okV_r (okFs_c okV_r (okFs_c (okV_i b_92419) (okFs_c (okV_p (q := stf tc 0 ((tc 0).1 + 1, (tc 0).2 + 1) 0) (by rw [stf_s]; exact bn_pl ex_92428 b_92421 (hT 0).1 h3)) (okFs_c (okV_i b_92423) (okFs_c (okV_i b_92425) (okFs_c (okV_i b_92427) okFs_n)))))))))))))))) tcC
  refine lv_aload_n hx hb dX10_keepScript_10 rfl (lv_at hl 0 rfl) ?_
  refine pg_get S Y ok_X10 11 (by decide) kf10_67 (v := .int x_92428) p_ad_1_0 rfl dX10_keepScript_11 ?_
  refine lv_iconst (v := 1) hx hb dX10_keepScript_14 (by decide) ?_
  refine lv_isub hx hb dX10_keepScript_15 ?_
  refine lv_topi (fun x_92430 ex_92430 => ?_)
  exact prI (post := fun r L1 f1 => ∃ tc2 : Nat → Int × Int, (r.toInt = (tc 0).1) ∧ SH (spC rs fc tc2 w q) nnC G ad L1 f1 ∧ tc2 0 = ((tc 0).1 + 1, (tc 0).2 + 1) ∧ (∀ k, k ≠ 0 → tc2 k = tc k) ∧ WBp tc2 4) S Y rfl (by decide) (by decide) hA1 ⟨stf tc 0 ((tc 0).1 + 1, (tc 0).2 + 1), (by have h9 := (la_sub ex_92430 (la_add ex_92428 (rfl : v_92420.toInt = v_92420.toInt) (show (1 : Int32).toInt = 1 from rfl) (bn_w (a' := 0) (b' := 4) b_92421 (hT 0)) (show bn 1 1 (1 : Int32) from bn_k (by decide)) (by decide)) (show (1 : Int32).toInt = 1 from rfl) (bn_eq ex_92428 (bn_add (bn_w (a' := 0) (b' := 4) b_92421 (hT 0)) (show bn 1 1 (1 : Int32) from bn_k (by decide)) (by decide))) (show bn 1 1 (1 : Int32) from bn_k (by decide)) (by decide)); have h8 := b_92421; have h7 := hE 0; have h6 := h8.1; have h5 := h8.2; omega), I, stf_s, fun k h => stf_n h, WB_pl hT h3⟩ dX10_keepScript_16
set_option maxHeartbeats 4000000 in
set_option maxRecDepth 100000 in
theorem x_X11_text {l : Launch} {G : GG}  {L : List Nat} {f : HF} {ad : Nat → Nat → Nat} {bT : Nat → Int32} {kF : Int} {pF : Int} {nN : Nat} {tc w : Nat → Int × Int} {q : Nat → (Nat → Int32) → Prop} {aK aV : Nat → Nat} {z0 : Option Nat} (I : SH (spC ((NR 30 0 4, fz (pp (nN : Int)) FI FI FI FI FI FI (pp kF) (pp pF), tz (EQ bT) TA TA TA, sc0) : RS) ((0, 6) : Int × Int) tc w q) nnC G ad L f) (hW : WBp w 8) (hT : WBp tc 4) (hQ : QIp q) (hZ : ZZp w q) (hE : ∀ j, (tc j).1 = (tc j).2) (hn3 : nN ≤ 300) (hB : BYT bT) : PMiZ aK aV z0 l yX11_text cX11_text 2 .int 142 0 0 G [.ref (ad 0 0)] L f (fun r L1 f1 => ∃ tc2 : Nat → Int × Int, ∃ n2 : Int, ∃ fk2 : Int, ∃ fp2 : Int, SH (spC ((NR 30 0 4, fz (pp n2) FI FI FI FI FI FI (pp fk2) (pp fp2), tz (EQ bT) TA TA TA, sc0) : RS) ((0, 6) : Int × Int) tc2 w q) nnC G ad L1 f1 ∧ (∀ j, (tc2 j).1 = (tc2 j).2) ∧ (∀ k, k ≠ 0 → tc2 k = tc k) ∧ WBp tc2 4 ∧ TXP (bI bT) nN (tc 0).1 (tc2 0).1 n2 kF pF fk2 fp2 r.toInt) := by
  refine PMiZ.of (post := fun r L1 f1 => ∃ tc2 : Nat → Int × Int, ∃ n2 : Int, ∃ fk2 : Int, ∃ fp2 : Int, SH (spC ((NR 30 0 4, fz (pp n2) FI FI FI FI FI FI (pp fk2) (pp fp2), tz (EQ bT) TA TA TA, sc0) : RS) ((0, 6) : Int × Int) tc2 w q) nnC G ad L1 f1 ∧ (∀ j, (tc2 j).1 = (tc2 j).2) ∧ (∀ k, k ≠ 0 → tc2 k = tc k) ∧ WBp tc2 4 ∧ TXP (bI bT) nN (tc 0).1 (tc2 0).1 n2 kF pF fk2 fp2 r.toInt) (own := RX11) (by decide) rfl (Nat.le_of_ble_eq_true rfl) (fun sz p e s m args below meth c A ls hA1 hname S Y hz hl => ?_)
  have hx := S.hx
  have hb := S.hb
  have hl : lv_has ls 2 [(0, .ref (ad 0 0))] := hl
  refine lv_aload_n hx hb dX11_text_0 rfl (lv_at hl 0 rfl) ?_
  have p_ad_0_0 := opnC_0 (j := 0) I (by decide)
  have p_ad_0_0 : pt L f (ad 0 0) (.inr (11, [.ref (ad 1 0), .ref (ad 1 1), .ref (ad 2 0), .ref (ad 3 0), .ref (ad 4 0), .ref (ad 5 0), .ref (ad 6 0), .ref (ad 7 0), .ref (ad 8 0)])) := p_ad_0_0
  refine pg_get S Y ok_X11 0 (by decide) kf11_13 (v := .ref (ad 1 0)) p_ad_0_0 rfl dX11_text_1 ?_
  refine cVw (As := []) (rest := []) S Y (x_X10_freeScriptE (l := l) I hW hT hQ hE) cw_X10_freeScript km11_98 (I.opo (k := 1) (j := 0) (by decide) rfl).choose_spec.1 ok_X10.1 rfl rfl ⟨Nat.le_of_ble_eq_true rfl, Nat.le_of_ble_eq_true rfl⟩ hl.1 rfl (Nat.le_of_ble_eq_true rfl) ⟨Nat.le_of_ble_eq_true rfl, Nat.le_of_ble_eq_true rfl⟩ dX11_text_4 (fun r_92469 H locs er_92469 Y => ?_)
  obtain ⟨er_92469, fr_92469, gr_92469⟩ := er_92469
  rcases er_92469 with er_92469 | ⟨t_92470, ht_92470, er_92469⟩
  · rw [er_92469]
    show W _ _ _ _ _ _ _ _ _ _ _ _ _ _ _ (F0 _ _ _ (.null :: _))
    refine lv_astore_nN (lv' := [(1, .null), (0, .ref (ad 0 0))]) hx hb dX11_text_7 rfl hl (by decide) rfl (fun ls hl => ?_)
    refine lv_aload_nN hx hb dX11_text_8 rfl (lv_at hl 0 rfl) ?_
    refine lv_ifnonnullN hx hb dX11_text_9 ?_
    refine lv_iconst (v := (-1)) hx hb dX11_text_12 (by decide) ?_
    exact prI (post := fun r L1 f1 => ∃ tc2 : Nat → Int × Int, ∃ n2 : Int, ∃ fk2 : Int, ∃ fp2 : Int, SH (spC ((NR 30 0 4, fz (pp n2) FI FI FI FI FI FI (pp fk2) (pp fp2), tz (EQ bT) TA TA TA, sc0) : RS) ((0, 6) : Int × Int) tc2 w q) nnC G ad L1 f1 ∧ (∀ j, (tc2 j).1 = (tc2 j).2) ∧ (∀ k, k ≠ 0 → tc2 k = tc k) ∧ WBp tc2 4 ∧ TXP (bI bT) nN (tc 0).1 (tc2 0).1 n2 kF pF fk2 fp2 r.toInt) S Y rfl (by decide) (by decide) hA1 ⟨tc, (nN : Int), kF, pF, I, hE, (fun _ _ => rfl), hT, (tx_f (gr_92469 er_92469) hT hE)⟩ dX11_text_13
  · rw [er_92469]
    have e9 : 0 + t_92470 = t_92470 := Nat.zero_add _
    rw [e9]
    show W _ _ _ _ _ _ _ _ _ _ _ _ _ _ _ (F0 _ _ _ (.ref (ad 30 t_92470) :: _))
    refine lv_astore_n (lv' := [(1, .ref (ad 30 t_92470)), (0, .ref (ad 0 0))]) hx hb dX11_text_7 rfl hl (by decide) rfl (fun ls hl => ?_)
    refine lv_aload_n hx hb dX11_text_8 rfl (lv_at hl 0 rfl) ?_
    refine lv_ifnonnull (tgt := 14) hx hb dX11_text_9 (by decide) ?_
    refine lv_aload_n hx hb dX11_text_14 rfl (lv_at hl 1 rfl) ?_
    refine pg_get S Y ok_X11 2 (by decide) kf11_25 (v := .ref (ad 2 0)) p_ad_0_0 rfl dX11_text_15 ?_
    refine lv_aload_n hx hb dX11_text_18 rfl (lv_at hl 0 rfl) ?_
    refine zVi (As := [.ref (ad 30 t_92470)]) (rest := []) S Y hz (x_X5_read (l := l) (t := t_92470) I hW hT hQ (show t_92470 < 8 from by omega) ht_92470 hn3 hB) cw_X5_read km11_102 (recvO S Y (I.opo (k := 2) (j := 0) (by decide) rfl).choose_spec.1 ok_X5.1 rfl) rfl ⟨Nat.le_of_ble_eq_true rfl, Nat.le_of_ble_eq_true rfl⟩ hl.1 rfl (Nat.le_of_ble_eq_true rfl) ⟨Nat.le_of_ble_eq_true rfl, Nat.le_of_ble_eq_true rfl⟩ dX11_text_19 (fun r_92473 L_92471 f_92472 H locs hr_92473 Y => ?_)
    obtain ⟨rr_92474, fk2_92475, fp2_92476, er_92473, I, eR_92477⟩ := hr_92473
    refine lv_if_eq (tgt := 35) hx hb dX11_text_22 (by decide) (fun c_92478 => ?_) (fun c_92478 => ?_)
    · have B_92479 : bn 0 0 r_92473 := bn_w (bn_eq c_92478 (show bn 0 0 (0 : Int32) from bn_k (by decide))) (by decide)
      refine lv_iconst (v := (-1)) hx hb dX11_text_35 (by decide) ?_
      exact prI (post := fun r L1 f1 => ∃ tc2 : Nat → Int × Int, ∃ n2 : Int, ∃ fk2 : Int, ∃ fp2 : Int, SH (spC ((NR 30 0 4, fz (pp n2) FI FI FI FI FI FI (pp fk2) (pp fp2), tz (EQ bT) TA TA TA, sc0) : RS) ((0, 6) : Int × Int) tc2 w q) nnC G ad L1 f1 ∧ (∀ j, (tc2 j).1 = (tc2 j).2) ∧ (∀ k, k ≠ 0 → tc2 k = tc k) ∧ WBp tc2 4 ∧ TXP (bI bT) nN (tc 0).1 (tc2 0).1 n2 kF pF fk2 fp2 r.toInt) S Y rfl (by decide) (by decide) hA1 ⟨tc, 0, fk2_92475, fp2_92476, I, hE, (fun _ _ => rfl), hT, (tx_n (fr_92469 (by intro h9; rw [h9] at er_92469; cases er_92469)) hE eR_92477 c_92478)⟩ dX11_text_36
    · have B_92480 : bn 1 1 r_92473 := bn_w (bn_nel c_92478 er_92473 (show bn 0 0 (0 : Int32) from bn_k (by decide))) (by decide)
      refine lv_aload_n hx hb dX11_text_25 rfl (lv_at hl 1 rfl) ?_
      have p_ad_0_0 := opnC_0 (j := 0) I (by decide)
      have p_ad_0_0 : pt L_92471 f_92472 (ad 0 0) (.inr (11, [.ref (ad 1 0), .ref (ad 1 1), .ref (ad 2 0), .ref (ad 3 0), .ref (ad 4 0), .ref (ad 5 0), .ref (ad 6 0), .ref (ad 7 0), .ref (ad 8 0)])) := p_ad_0_0
      refine pg_get S Y ok_X11 0 (by decide) kf11_13 (v := .ref (ad 1 0)) p_ad_0_0 rfl dX11_text_26 ?_
      refine cVi (As := []) (rest := []) S Y (x_X10_keepScriptE (l := l) I hW hT hQ (fr_92469 (by intro h9; rw [h9] at er_92469; cases er_92469)) hE) cw_X10_keepScript km11_106 (I.opo (k := 1) (j := 0) (by decide) rfl).choose_spec.1 ok_X10.1 rfl rfl ⟨Nat.le_of_ble_eq_true rfl, Nat.le_of_ble_eq_true rfl⟩ hl.1 rfl (Nat.le_of_ble_eq_true rfl) ⟨Nat.le_of_ble_eq_true rfl, Nat.le_of_ble_eq_true rfl⟩ dX11_text_29 (fun r_92483 L_92481 f_92482 H locs hr_92483 Y => ?_)
      obtain ⟨tc2_92484, er_92483, I, e1_92485, e2_92486, eT_92487⟩ := hr_92483
      refine lv_goto (tgt := 36) hx hb dX11_text_32 (by decide) ?_
      exact prI (post := fun r L1 f1 => ∃ tc2 : Nat → Int × Int, ∃ n2 : Int, ∃ fk2 : Int, ∃ fp2 : Int, SH (spC ((NR 30 0 4, fz (pp n2) FI FI FI FI FI FI (pp fk2) (pp fp2), tz (EQ bT) TA TA TA, sc0) : RS) ((0, 6) : Int × Int) tc2 w q) nnC G ad L1 f1 ∧ (∀ j, (tc2 j).1 = (tc2 j).2) ∧ (∀ k, k ≠ 0 → tc2 k = tc k) ∧ WBp tc2 4 ∧ TXP (bI bT) nN (tc 0).1 (tc2 0).1 n2 kF pF fk2 fp2 r.toInt) S Y rfl (by decide) (by decide) hA1 ⟨tc2_92484, 0, fk2_92475, fp2_92476, I, (tcE e1_92485 e2_92486 hE), e2_92486, eT_92487, (tx_y (fr_92469 (by intro h9; rw [h9] at er_92469; cases er_92469)) hE eR_92477 c_92478 er_92483 e1_92485)⟩ dX11_text_36
