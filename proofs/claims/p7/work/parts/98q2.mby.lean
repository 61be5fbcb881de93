theorem byq_t {i v x r : Int32} {c : Int} (ev : v.toInt = c) (ex : x.toInt = v.toInt - 1) (h : winM r i (-1) x.toInt) (e : ¬ r = 0) : BYQ i c := by
  have z := winM_t h e
  by_cases q : i = -1
  · exact Or.inl q
  · refine Or.inr ⟨?_, by omega⟩
    have q2 : ¬ i.toInt = -1 := fun z => q (Int32.toInt_inj.mp (z.trans rfl))
    omega
theorem byq_f {i v x r : Int32} {c : Int} (hc : 0 ≤ c) (ev : v.toInt = c) (ex : x.toInt = v.toInt - 1) (h : winM r i (-1) x.toInt) (e : r = 0) : ¬ BYQ i c := by
  have z := winM_f h e
  intro q
  rcases q with q | ⟨q1, q2⟩
  · rw [q] at z
    exact z ⟨by decide, by rw [show (-1 : Int32).toInt = -1 from rfl]; omega⟩
  · exact z ⟨by omega, by omega⟩
set_option maxHeartbeats 4000000 in
set_option maxRecDepth 100000 in
theorem x_X12_byE {l : Launch} {G : GG}  {L : List Nat} {f : HF} {ad : Nat → Nat → Nat} {w : WW} {pi : PIT} {g0 : Nat → Int32} {i1 : Int32} (I : SH (spM (IA 0 0 14 9999 w) pi (EQ g0) LDa) nnM G ad L f) (hB : BBp 0 0 14 9999 w) (hX : TX g0) : PMi l yX12_by cX12_by 2 .boolean 1 0 0 G [.ref (ad 0 0), .int i1] L f (fun r L1 f1 => (BYA i1 (w.2 1).toInt r) ∧ SH (spM (IA 0 0 14 9999 w) pi (EQ g0) LDa) nnM G ad L1 f1) := by
  refine PMi.of (post := fun r L1 f1 => (BYA i1 (w.2 1).toInt r) ∧ SH (spM (IA 0 0 14 9999 w) pi (EQ g0) LDa) nnM G ad L1 f1) (own := RX12) (by decide) rfl (Nat.le_of_ble_eq_true rfl) (fun sz p e s m args below meth c A ls hA1 hname S Y hl => ?_)
  have hx := S.hx
  have hb := S.hb
  have hl : lv_has ls 2 [(0, .ref (ad 0 0)), (1, .int i1)] := hl
  refine lv_iload_n hx hb dX12_by_0 rfl (lv_at hl 1 rfl) ?_
  refine lv_iconst (v := (-1)) hx hb dX12_by_1 (by decide) ?_
  refine lv_aload_n hx hb dX12_by_2 rfl (lv_at hl 0 rfl) ?_
  obtain ⟨v_91407, v_91409, v_91411, v_91413, v_91415, v_91417, v_91419, v_91421, v_91422, v_91424, v_91426, v_91428, v_91430, v_91432, v_91434, v_91436, v_91438, v_91440, p_ad_0_0, b_91408, b_91410, b_91412, b_91414, b_91416, b_91418, b_91420, b_91423, b_91425, b_91427, b_91429, b_91431, b_91433, b_91435, b_91437, b_91439, b_91441⟩ := opnM_0 (j := 0) I (by decide)
  have p_ad_0_0 : pt L f (ad 0 0) (.inr (12, [.ref (ad 1 0), .ref (ad 2 0), .ref (ad 3 0), .ref (ad 4 0), .int v_91407, .int v_91409, .int v_91411, .int v_91413, .int v_91415, .int v_91417, .int v_91419, .long v_91421, .int v_91422, .int v_91424, .int v_91426, .ref (ad 5 0), .ref (ad 6 0), .int v_91428, .int v_91430, .int v_91432, .int v_91434, .int v_91436, .ref (ad 7 0), .ref (ad 8 0), .ref (ad 9 0), .int v_91438, .ref (ad 10 0), .ref (ad 11 0), .ref (ad 12 0), .ref (ad 13 0), .int v_91440, .ref (ad 14 0)])) := p_ad_0_0
  refine pg_get S Y ok_X12 0 (by decide) kf12_7 (v := .ref (ad 1 0)) p_ad_0_0 rfl dX12_by_3 ?_
  refine lv_iconst (v := 1) hx hb dX12_by_6 (by decide) ?_
  obtain ⟨g_91442, p_ad_1_0, o_91443⟩ := I.opi (k := 1) (j := 0) (by decide) rfl
  have p_ad_1_0 : pt L f (ad 1 0) (.inl (G.2 0, 10568, .inl g_91442)) := p_ad_1_0
  obtain ⟨v_91444, ev_91444⟩ : ∃ z, z = g_91442 (1 : Int32).toNatClampNeg := ⟨_, rfl⟩
  refine pg_iald S Y (v := v_91444) p_ad_1_0 (by unfold vp_in; decide) ev_91444.symm dX12_by_7 ?_
  have bv_91444 : bn 0 4 v_91444 := bn_eq ev_91444 (IA_1 o_91443)
  refine lv_iconst (v := 1) hx hb dX12_by_8 (by decide) ?_
  refine lv_isub hx hb dX12_by_9 ?_
  refine lv_topi (fun x_91445 ex_91445 => ?_)
  refine cSp (As := [.int i1, .int (-1), .int x_91445]) (rest := []) S Y (x_X12_isInX (l := l) ) cw_X12_isIn km12_69 rfl ⟨Nat.le_of_ble_eq_true rfl, Nat.le_of_ble_eq_true rfl⟩ hl.1 rfl (Nat.le_of_ble_eq_true rfl) ⟨Nat.le_of_ble_eq_true rfl, Nat.le_of_ble_eq_true rfl⟩ dX12_by_10 (fun r_91446 H locs er_91446 Y => ?_)
  refine lv_if_ne (tgt := 18) hx hb dX12_by_13 (by decide) (fun c_91447 => ?_) (fun c_91447 => ?_)
  · have B_91449 : bn (-1) 3 i1 := ⟨(winM_t er_91446 c_91447).1, by have z9 := (winM_t er_91446 c_91447).2; have z8 := (la_sub ex_91445 (rfl : v_91444.toInt = v_91444.toInt) (show (1 : Int32).toInt = 1 from rfl) bv_91444 (show bn 1 1 (1 : Int32) from bn_k (by decide)) (by decide)); have z7 := (bv_91444).2; omega⟩
    refine lv_aload_n hx hb dX12_by_18 rfl (lv_at hl 0 rfl) ?_
    refine pg_get S Y ok_X12 0 (by decide) kf12_7 (v := .ref (ad 1 0)) p_ad_0_0 rfl dX12_by_19 ?_
    refine lv_iconst (v := 2) hx hb dX12_by_22 (by decide) ?_
    refine lv_iload_n hx hb dX12_by_23 rfl (lv_at hl 1 rfl) ?_
    refine pg_iast S Y p_ad_1_0 (by unfold vp_in; decide) dX12_by_24 (fun f_91451 H locs ef_91451 Y => ?_)
    obtain ⟨g_91450, eg_91450⟩ : ∃ z, z = upd (g_91442) (2 : Int32).toNatClampNeg i1 := ⟨_, rfl⟩
    rw [← eg_91450] at ef_91451
    have p_ad_0_0 := p_ad_0_0.up ef_91451 (I.ne (k := 0) (j := 0) (k' := 1) (j' := 0) (by decide) (by decide) (Or.inl (by decide)))
    have p_ad_1_0 := p_ad_1_0.me ef_91451
    have o_91452 : (IA 0 0 14 9999 w) g_91450 := (by rw [eg_91450]; exact (IA_s2 o_91443 (bn_w B_91449 (by decide))))
    have I := I.up (k := 1) (j := 0) (by decide) ef_91451 (okE_a (g := g_91450) o_91452)
    have q_91453 : g_91450 (1 : Int32).toNatClampNeg = v_91444 := by rw [eg_91450]; exact (pk_un (by decide)).trans ev_91444.symm
    have q_91454 : g_91450 (2 : Int32).toNatClampNeg = i1 := by rw [eg_91450]; exact pk_us
    refine lv_iconst (v := 1) hx hb dX12_by_25 (by decide) ?_
    exact prI (post := fun r L1 f1 => (BYA i1 (w.2 1).toInt r) ∧ SH (spM (IA 0 0 14 9999 w) pi (EQ g0) LDa) nnM G ad L1 f1) S Y rfl (by decide) (by decide) hA1 ⟨Or.inl ⟨rfl, byq_t (show v_91444.toInt = (w.2 1).toInt from by rw [show v_91444 = g_91442 1 from ev_91444, IA_c o_91443]) (by have z9 := (la_sub ex_91445 (rfl : v_91444.toInt = v_91444.toInt) (show (1 : Int32).toInt = 1 from rfl) bv_91444 (show bn 1 1 (1 : Int32) from bn_k (by decide)) (by decide)); omega) er_91446 c_91447⟩, I⟩ dX12_by_26
  · have B_91448 : bn 0 0 r_91446 := bn_w (bn_eq c_91447 (show bn 0 0 (0 : Int32) from bn_k (by decide))) (by decide)
    refine lv_iconst (v := 0) hx hb dX12_by_16 (by decide) ?_
    exact prI (post := fun r L1 f1 => (BYA i1 (w.2 1).toInt r) ∧ SH (spM (IA 0 0 14 9999 w) pi (EQ g0) LDa) nnM G ad L1 f1) S Y rfl (by decide) (by decide) hA1 ⟨Or.inr ⟨rfl, byq_f (by have z9 := (bv_91444).1; have z8 := (show v_91444.toInt = (w.2 1).toInt from by rw [show v_91444 = g_91442 1 from ev_91444, IA_c o_91443]); omega) (show v_91444.toInt = (w.2 1).toInt from by rw [show v_91444 = g_91442 1 from ev_91444, IA_c o_91443]) (by have z9 := (la_sub ex_91445 (rfl : v_91444.toInt = v_91444.toInt) (show (1 : Int32).toInt = 1 from rfl) bv_91444 (show bn 1 1 (1 : Int32) from bn_k (by decide)) (by decide)); omega) er_91446 c_91447⟩, I⟩ dX12_by_17
