theorem dX12_summed_0 : decode cX12_summed 0 = .ok (.aload_n 0, 1) := by decide +kernel
theorem dX12_summed_1 : decode cX12_summed 1 = .ok (.iconst 0, 1) := by decide +kernel
theorem dX12_summed_2 : decode cX12_summed 2 = .ok (.putfield 142, 3) := by decide +kernel
theorem dX12_summed_5 : decode cX12_summed 5 = .ok (.aload_n 0, 1) := by decide +kernel
theorem dX12_summed_6 : decode cX12_summed 6 = .ok (.iconst 0, 1) := by decide +kernel
theorem dX12_summed_7 : decode cX12_summed 7 = .ok (.putfield 152, 3) := by decide +kernel
theorem dX12_summed_10 : decode cX12_summed 10 = .ok (.aload_n 0, 1) := by decide +kernel
theorem dX12_summed_11 : decode cX12_summed 11 = .ok (.iconst 0, 1) := by decide +kernel
theorem dX12_summed_12 : decode cX12_summed 12 = .ok (.putfield 169, 3) := by decide +kernel
theorem dX12_summed_15 : decode cX12_summed 15 = .ok (.aload_n 0, 1) := by decide +kernel
theorem dX12_summed_16 : decode cX12_summed 16 = .ok (.iconst 0, 1) := by decide +kernel
theorem dX12_summed_17 : decode cX12_summed 17 = .ok (.putfield 178, 3) := by decide +kernel
theorem dX12_summed_20 : decode cX12_summed 20 = .ok (.aload_n 0, 1) := by decide +kernel
theorem dX12_summed_21 : decode cX12_summed 21 = .ok (.getfield 178, 3) := by decide +kernel
theorem dX12_summed_24 : decode cX12_summed 24 = .ok (.ifCond .eq 10, 3) := by decide +kernel
theorem dX12_summed_34 : decode cX12_summed 34 = .ok (.aload_n 0, 1) := by decide +kernel
theorem dX12_summed_35 : decode cX12_summed 35 = .ok (.invokevirtual 212, 3) := by decide +kernel
theorem cw_X12_beginOne : CWv yX12_beginOne cX12_beginOne 2 (some .int) 0 := ⟨⟨⟨List.mem_of_getElem? (i := 137) (by decide +kernel), by decide +kernel⟩, ⟨List.mem_of_getElem? (i := 1752) (by decide +kernel), by decide +kernel⟩, by decide +kernel⟩, ⟨List.mem_of_getElem? (i := 1751) (by decide +kernel), by decide +kernel⟩, ⟨List.mem_of_getElem? (i := 74) (by decide +kernel), by decide +kernel⟩⟩
theorem km12_212 : inW (Cond.methodLink RX12 212 yX12_beginOne) := ⟨List.mem_of_getElem? (i := 1749) (by decide +kernel), by decide +kernel⟩
theorem dX12_summed_38 : decode cX12_summed 38 = .ok (.istore_n 1, 1) := by decide +kernel
theorem dX12_summed_39 : decode cX12_summed 39 = .ok (.iload_n 1, 1) := by decide +kernel
theorem dX12_summed_40 : decode cX12_summed 40 = .ok (.ifCond .le 5, 3) := by decide +kernel
theorem dX12_summed_45 : decode cX12_summed 45 = .ok (.iload_n 1, 1) := by decide +kernel
theorem dX12_summed_46 : decode cX12_summed 46 = .ok (.ifCond .ne 6, 3) := by decide +kernel
theorem dX12_summed_49 : decode cX12_summed 49 = .ok (.goto (-29), 3) := by decide +kernel
theorem dX12_summed_43 : decode cX12_summed 43 = .ok (.iload_n 1, 1) := by decide +kernel
theorem dX12_summed_44 : decode cX12_summed 44 = .ok (.ireturn, 1) := by decide +kernel
theorem dX12_summed_27 : decode cX12_summed 27 = .ok (.aload_n 0, 1) := by decide +kernel
theorem dX12_summed_28 : decode cX12_summed 28 = .ok (.invokevirtual 209, 3) := by decide +kernel
theorem cw_X12_behindOne : CWv yX12_behindOne cX12_behindOne 4 (some .int) 0 := ⟨⟨⟨List.mem_of_getElem? (i := 137) (by decide +kernel), by decide +kernel⟩, ⟨List.mem_of_getElem? (i := 1705) (by decide +kernel), by decide +kernel⟩, by decide +kernel⟩, ⟨List.mem_of_getElem? (i := 1704) (by decide +kernel), by decide +kernel⟩, ⟨List.mem_of_getElem? (i := 63) (by decide +kernel), by decide +kernel⟩⟩
theorem km12_209 : inW (Cond.methodLink RX12 209 yX12_behindOne) := ⟨List.mem_of_getElem? (i := 1702) (by decide +kernel), by decide +kernel⟩
theorem dX12_summed_31 : decode cX12_summed 31 = .ok (.goto 7, 3) := by decide +kernel
theorem dX12_summed_52 : decode cX12_summed 52 = .ok (.aload_n 0, 1) := by decide +kernel
theorem dX12_summed_53 : decode cX12_summed 53 = .ok (.invokevirtual 159, 3) := by decide +kernel
theorem dX12_summed_56 : decode cX12_summed 56 = .ok (.ifCond .lt 5, 3) := by decide +kernel
theorem dX12_summed_61 : decode cX12_summed 61 = .ok (.aload_n 0, 1) := by decide +kernel
theorem dX12_summed_62 : decode cX12_summed 62 = .ok (.iconst 1, 1) := by decide +kernel
theorem dX12_summed_63 : decode cX12_summed 63 = .ok (.invokevirtual 181, 3) := by decide +kernel
theorem dX12_summed_66 : decode cX12_summed 66 = .ok (.iconst 0, 1) := by decide +kernel
theorem dX12_summed_67 : decode cX12_summed 67 = .ok (.ireturn, 1) := by decide +kernel
theorem dX12_summed_59 : decode cX12_summed 59 = .ok (.iconst 1, 1) := by decide +kernel
theorem dX12_summed_60 : decode cX12_summed 60 = .ok (.ireturn, 1) := by decide +kernel
section XER
variable {gB z gp gc gx : Nat → Int32} {fr : Nat} {opn : Int} {cmp cur0 wh : Bool} {t0 wr pd op cg r iw v wr2 : Int32}
def XE (r : Int32) (gB : Nat → Int32) (v t0 wr : Int32) (z : Nat → Int32) : Prop := XB gB v.toInt.toNat t0 z ∧ (r = 0 → WFc z (t0.toInt.toNat + 121) v wr ∧ v.toInt ≤ wr.toInt)
theorem XW_st (e : z = gB) (hf : (fr : Int) = wr.toInt) : XW gB fr gp gc t0 wr 0 0 0 (decide ((0 : Int32) = 1)) z := by
  subst e
  rw [show decide ((0 : Int32) = 1) = false by decide]
  exact XW_start hf
theorem XW_t (h : XW gB fr gp gc t0 wr pd op cg (decide (iw = 1)) z) (e : iw = 1) : XW gB fr gp gc t0 wr pd op cg true z := by
  rw [show decide (iw = 1) = true from decide_eq_true e] at h; exact h
theorem XW_f (h : XW gB fr gp gc t0 wr pd op cg (decide (iw = 1)) z) (e : iw = 0) : XW gB fr gp gc t0 wr pd op cg false z := by
  rw [show decide (iw = 1) = false from decide_eq_false (by rw [e]; decide)] at h; exact h
theorem XE_no (h : XR r gB v.toInt.toNat gp gc t0 wr pd op cg iw z) {r2 : Int32} (hr : ¬ r2 = 0) : XE r2 gB v t0 wr z := ⟨h.1, fun e => absurd e hr⟩
theorem XE_fin (h : XS gB v.toInt.toNat gp gc 1 opn cur0 cmp t0 wr pd op cg z) (e1 : opn = -1) (hc : cur0 = false → cmp = true) (hq : cmp = true → askd opn) (hx : xtp gp pd 1) (hv : 0 ≤ v.toInt) (hw : wr.toInt ≤ 303) : XE 0 gB v t0 wr z := by
  refine ⟨h.1, fun _ => ⟨XS_fin h e1 hc hq hx (by omega) hw, ?_⟩⟩
  obtain ⟨_, m, hm, _⟩ := h
  omega
end XER
theorem iw_1 {x : Int32} (h : ¬ x = 0) (b : bn 0 1 x) : x = 1 := by
  rcases bn01 b with e | e
  · exact absurd e h
  · exact e
set_option maxHeartbeats 4000000 in
set_option maxRecDepth 100000 in
theorem x_X12_summed {l : Launch} {G : GG}  {L : List Nat} {f : HF} {ad : Nat → Nat → Nat} {pa : (Nat → Int32) → Prop} {PA : (Nat → Int32) → Prop} {PI : (Nat → Int32) → Prop} {td fa fp at9 ps9 tk nu t0 wr so pd op9 cg iw on9 is9 se : Int32} {wd : Int64} {gp gc : Nat → Int32} {gB : Nat → Int32} (I : SH (spM PA PI (EQ gB) pa) nnM G ad L f) (p_ad_0_0 : pt L f (ad 0 0) (.inr (12, [.ref (ad 1 0), .ref (ad 2 0), .ref (ad 3 0), .ref (ad 4 0), .int td, .int fa, .int fp, .int at9, .int ps9, .int tk, .int nu, .long wd, .int t0, .int wr, .int so, .ref (ad 5 0), .ref (ad 6 0), .int pd, .int op9, .int cg, .int iw, .int on9, .ref (ad 7 0), .ref (ad 8 0), .ref (ad 9 0), .int is9, .ref (ad 10 0), .ref (ad 11 0), .ref (ad 12 0), .ref (ad 13 0), .int se, .ref (ad 14 0)]))) (p_ad_5_0 : pt L f (ad 5 0) (.inl (G.2 0, 160, .inl gp))) (p_ad_6_0 : pt L f (ad 6 0) (.inl (G.2 0, 9, .inl gc))) (hroom : wr.toInt ≤ ps9.toInt) (hT : TK at9 ps9 tk) : PMi l yX12_summed cX12_summed 2 .int 6 0 0 G [.ref (ad 0 0)] L f (fun r L1 f1 => ∃ at92 : Int32, ∃ ps92 : Int32, ∃ tk2 : Int32, ∃ nu2 : Int32, ∃ wd2 : Int64, ∃ wr2 : Int32, ∃ pd2 : Int32, ∃ op92 : Int32, ∃ cg2 : Int32, ∃ iw2 : Int32, ∃ gp2 : Nat → Int32, ∃ gc2 : Nat → Int32, bn 0 7 r ∧ SH (spM PA PI (XE r gB wr t0 wr2) pa) nnM G ad L1 f1 ∧ pt L1 f1 (ad 0 0) (.inr (12, [.ref (ad 1 0), .ref (ad 2 0), .ref (ad 3 0), .ref (ad 4 0), .int td, .int fa, .int fp, .int at92, .int ps92, .int tk2, .int nu2, .long wd2, .int t0, .int wr2, .int so, .ref (ad 5 0), .ref (ad 6 0), .int pd2, .int op92, .int cg2, .int iw2, .int on9, .ref (ad 7 0), .ref (ad 8 0), .ref (ad 9 0), .int is9, .ref (ad 10 0), .ref (ad 11 0), .ref (ad 12 0), .ref (ad 13 0), .int se, .ref (ad 14 0)])) ∧ pt L1 f1 (ad 5 0) (.inl (G.2 0, 160, .inl gp2)) ∧ pt L1 f1 (ad 6 0) (.inl (G.2 0, 9, .inl gc2)) ∧ TK at92 ps92 tk2 ∧ (r.toInt = 0 → ps9.toInt ≤ ps92.toInt) ∧ (r.toInt = 0 → wr2.toInt ≤ ps92.toInt)) := by
  refine PMi.of (post := fun r L1 f1 => ∃ at92 : Int32, ∃ ps92 : Int32, ∃ tk2 : Int32, ∃ nu2 : Int32, ∃ wd2 : Int64, ∃ wr2 : Int32, ∃ pd2 : Int32, ∃ op92 : Int32, ∃ cg2 : Int32, ∃ iw2 : Int32, ∃ gp2 : Nat → Int32, ∃ gc2 : Nat → Int32, bn 0 7 r ∧ SH (spM PA PI (XE r gB wr t0 wr2) pa) nnM G ad L1 f1 ∧ pt L1 f1 (ad 0 0) (.inr (12, [.ref (ad 1 0), .ref (ad 2 0), .ref (ad 3 0), .ref (ad 4 0), .int td, .int fa, .int fp, .int at92, .int ps92, .int tk2, .int nu2, .long wd2, .int t0, .int wr2, .int so, .ref (ad 5 0), .ref (ad 6 0), .int pd2, .int op92, .int cg2, .int iw2, .int on9, .ref (ad 7 0), .ref (ad 8 0), .ref (ad 9 0), .int is9, .ref (ad 10 0), .ref (ad 11 0), .ref (ad 12 0), .ref (ad 13 0), .int se, .ref (ad 14 0)])) ∧ pt L1 f1 (ad 5 0) (.inl (G.2 0, 160, .inl gp2)) ∧ pt L1 f1 (ad 6 0) (.inl (G.2 0, 9, .inl gc2)) ∧ TK at92 ps92 tk2 ∧ (r.toInt = 0 → ps9.toInt ≤ ps92.toInt) ∧ (r.toInt = 0 → wr2.toInt ≤ ps92.toInt)) (own := RX12) (by decide) rfl (Nat.le_of_ble_eq_true rfl) (fun sz p e s m args below meth c A ls hA1 hname S Y hl => ?_)
  have hx := S.hx
  have hb := S.hb
  have hl : lv_has ls 2 [(0, .ref (ad 0 0))] := hl
  obtain ⟨bfe_4, bfe_7, bfe_8, bfe_12, bfe_13, bfe_17, bfe_18, bfe_19, bfe_20, bfe_25⟩ := obM I p_ad_0_0
  have J_20 : ∀ (n20 : Nat) (y20_f7 y20_f8 y20_f9 y20_f10 y20_f13 y20_f17 y20_f18 y20_f19 y20_f20 : Int32) (y20_f11 : Int64) (y20_a5 y20_a6 : Nat → Int32) (L_20 : List Nat) (f_20 : HF) (H : Heap) (locs : List Loc) (ls : Array Slot), (SH (spM PA PI (XW gB wr.toInt.toNat y20_a5 y20_a6 t0 y20_f13 y20_f17 y20_f18 y20_f19 (decide (y20_f20 = 1))) pa) nnM G ad L_20 f_20) → (bn 0 300 y20_f7) → (bn 0 300 y20_f8) → (bn 0 300 y20_f13) → (bn 0 160 y20_f17) → (bn 0 8 y20_f18) → (bn 0 8 y20_f19) → (bn 0 1 y20_f20) → (TK y20_f7 y20_f8 y20_f9 ∧ y20_f13.toInt + y20_f17.toInt ≤ y20_f8.toInt ∧ ps9.toInt ≤ y20_f8.toInt) → (pt L_20 f_20 (ad 0 0) (.inr (12, [.ref (ad 1 0), .ref (ad 2 0), .ref (ad 3 0), .ref (ad 4 0), .int td, .int fa, .int fp, .int y20_f7, .int y20_f8, .int y20_f9, .int y20_f10, .long y20_f11, .int t0, .int y20_f13, .int so, .ref (ad 5 0), .ref (ad 6 0), .int y20_f17, .int y20_f18, .int y20_f19, .int y20_f20, .int on9, .ref (ad 7 0), .ref (ad 8 0), .ref (ad 9 0), .int is9, .ref (ad 10 0), .ref (ad 11 0), .ref (ad 12 0), .ref (ad 13 0), .int se, .ref (ad 14 0)]))) → (pt L_20 f_20 (ad 5 0) (.inl (G.2 0, 160, .inl y20_a5))) → (pt L_20 f_20 (ad 6 0) (.inl (G.2 0, 9, .inl y20_a6))) → ((300 - y20_f8.toInt).toNat = n20) → (DY G A s [] L_20 f_20 H locs) → (lv_has ls 2 [(0, .ref (ad 0 0))]) → W p l e (rmD 6 0 0) s m args below meth c H locs (0) (0) (MQ below (va_Qi (fun r (u : List Nat × HF) => (fun r L1 f1 => ∃ at92 : Int32, ∃ ps92 : Int32, ∃ tk2 : Int32, ∃ nu2 : Int32, ∃ wd2 : Int64, ∃ wr2 : Int32, ∃ pd2 : Int32, ∃ op92 : Int32, ∃ cg2 : Int32, ∃ iw2 : Int32, ∃ gp2 : Nat → Int32, ∃ gc2 : Nat → Int32, bn 0 7 r ∧ SH (spM PA PI (XE r gB wr t0 wr2) pa) nnM G ad L1 f1 ∧ pt L1 f1 (ad 0 0) (.inr (12, [.ref (ad 1 0), .ref (ad 2 0), .ref (ad 3 0), .ref (ad 4 0), .int td, .int fa, .int fp, .int at92, .int ps92, .int tk2, .int nu2, .long wd2, .int t0, .int wr2, .int so, .ref (ad 5 0), .ref (ad 6 0), .int pd2, .int op92, .int cg2, .int iw2, .int on9, .ref (ad 7 0), .ref (ad 8 0), .ref (ad 9 0), .int is9, .ref (ad 10 0), .ref (ad 11 0), .ref (ad 12 0), .ref (ad 13 0), .int se, .ref (ad 14 0)])) ∧ pt L1 f1 (ad 5 0) (.inl (G.2 0, 160, .inl gp2)) ∧ pt L1 f1 (ad 6 0) (.inl (G.2 0, 9, .inl gc2)) ∧ TK at92 ps92 tk2 ∧ (r.toInt = 0 → ps9.toInt ≤ ps92.toInt) ∧ (r.toInt = 0 → wr2.toInt ≤ ps92.toInt)) r u.1 u.2) (fun u t => pOut G (va_A (va_pl L f) sz) u.1 u.2 t) (va_A (va_pl L f) sz)) args s 0 0 A) (F0 m 20 ls []) := by
    intro n20
    induction n20 using Nat.strongRecOn with
    | _ n20 ih20 =>
      intro y20_f7 y20_f8 y20_f9 y20_f10 y20_f13 y20_f17 y20_f18 y20_f19 y20_f20 y20_f11 y20_a5 y20_a6 L_20 f_20 H locs ls I b_y20_f7 b_y20_f8 b_y20_f13 b_y20_f17 b_y20_f18 b_y20_f19 b_y20_f20 hL p_ad_0_0 p_ad_5_0 p_ad_6_0 hm20 Y hl
      obtain ⟨bf20_4, bf20_7, bf20_8, bf20_12, bf20_13, bf20_17, bf20_18, bf20_19, bf20_20, bf20_25⟩ := obM I p_ad_0_0
      refine lv_aload_n hx hb dX12_summed_20 rfl (lv_at hl 0 rfl) ?_
      refine pg_get S Y ok_X12 20 (by decide) kf12_178 (v := .int y20_f20) p_ad_0_0 rfl dX12_summed_21 ?_
      refine lv_if_eq (tgt := 34) hx hb dX12_summed_24 (by decide) (fun c_88103 => ?_) (fun c_88103 => ?_)
      · have B_88104 : bn 0 0 y20_f20 := bn_w (bn_eq c_88103 (show bn 0 0 (0 : Int32) from bn_k (by decide))) (by decide)
        refine lv_aload_n hx hb dX12_summed_34 rfl (lv_at hl 0 rfl) ?_
        obtain ⟨g_88106, p_ad_3_0, o_88107⟩ := I.opi (k := 3) (j := 0) (by decide) rfl
        have p_ad_3_0 : pt L_20 f_20 (ad 3 0) (.inl (G.2 0, 2916, .inl g_88106)) := p_ad_3_0
        have o_88108 : (XW gB wr.toInt.toNat y20_a5 y20_a6 t0 y20_f13 y20_f17 y20_f18 y20_f19 false) g_88106 := (XW_f o_88107 c_88103)
        have I := I.castS (sp' := spM PA PI (XW gB wr.toInt.toNat y20_a5 y20_a6 t0 y20_f13 y20_f17 y20_f18 y20_f19 false) pa) (k := 3) (j := 0) (by decide) p_ad_3_0 (okE_a (g := g_88106) o_88108) pXC
        refine cVi (As := []) (rest := []) S Y (x_X12_beginOne (l := l) I p_ad_0_0 p_ad_5_0 p_ad_6_0 c_88103 hL.2.1 hL.1) cw_X12_beginOne km12_212 p_ad_0_0 ok_X12.1 rfl rfl ⟨Nat.le_of_ble_eq_true rfl, Nat.le_of_ble_eq_true rfl⟩ hl.1 rfl (Nat.le_of_ble_eq_true rfl) ⟨Nat.le_of_ble_eq_true rfl, Nat.le_of_ble_eq_true rfl⟩ dX12_summed_35 (fun r_88111 L_88109 f_88110 H locs hr_88111 Y => ?_)
        obtain ⟨v_88112, v_88113, v_88114, v_88115, v_88116, v_88117, v_88118, v_88119, v_88120, v_88121, g_88122, g_88123, er_88111, I, p_ad_0_0, p_ad_5_0, p_ad_6_0, eT_88124, eR_88125, eW_88126, eN_88127, eM_88128⟩ := hr_88111
        obtain ⟨bfc88128_4, bfc88128_7, bfc88128_8, bfc88128_12, bfc88128_13, bfc88128_17, bfc88128_18, bfc88128_19, bfc88128_20, bfc88128_25⟩ := obM I p_ad_0_0
        refine lv_istore_n (lv' := [(1, .int r_88111), (0, .ref (ad 0 0))]) hx hb dX12_summed_38 rfl hl (by decide) rfl (fun ls hl => ?_)
        refine lv_iload_n hx hb dX12_summed_39 rfl (lv_at hl 0 rfl) ?_
        refine lv_if_le (tgt := 45) hx hb dX12_summed_40 (by decide) (fun c_88130 => ?_) (fun c_88130 => ?_)
        · have B_88131 : bn 0 0 r_88111 := bn_w (bn_lel c_88130 er_88111 (show bn 0 0 (0 : Int32) from bn_k (by decide))) (by decide)
          refine lv_iload_n hx hb dX12_summed_45 rfl (lv_at hl 0 rfl) ?_
          refine lv_if_ne (tgt := 52) hx hb dX12_summed_46 (by decide) (fun h => absurd (bd_eq B_88131 (show bn 0 0 (0 : Int32) from bn_k (by decide))) h) (fun _ => ?_)
          refine lv_goto (tgt := 20) hx hb dX12_summed_49 (by decide) ?_
          obtain ⟨g_88133, p_ad_3_0, o_88134⟩ := I.opi (k := 3) (j := 0) (by decide) rfl
          have p_ad_3_0 : pt L_88109 f_88110 (ad 3 0) (.inl (G.2 0, 2916, .inl g_88133)) := p_ad_3_0
          have o_88135 : (XW gB wr.toInt.toNat g_88122 g_88123 t0 v_88117 v_88118 v_88119 v_88120 (decide (v_88121 = 1))) g_88133 := (o_88134.2 (by have z9 := (B_88131).2; omega))
          have I := I.castS (sp' := spM PA PI (XW gB wr.toInt.toNat g_88122 g_88123 t0 v_88117 v_88118 v_88119 v_88120 (decide (v_88121 = 1))) pa) (k := 3) (j := 0) (by decide) p_ad_3_0 (okE_a (g := g_88133) o_88135) pXC
          exact ih20 _ (by rw [← hm20]; exact (show (300 - v_88113.toInt).toNat < (300 - y20_f8.toInt).toNat from by have z9 := eR_88125 (by have z8 := (B_88131).1; have z7 := (B_88131).2; omega); have z6 := (bfc88128_8).2; omega)) v_88112 v_88113 v_88114 v_88115 v_88117 v_88118 v_88119 v_88120 v_88121 v_88116 g_88122 g_88123 _ _  _ _ _ I (bn_w bfc88128_7 (by decide)) (bn_w bfc88128_8 (by decide)) (bn_w bfc88128_13 (by decide)) (bn_w bfc88128_17 (by decide)) (bn_w bfc88128_18 (by decide)) (bn_w bfc88128_19 (by decide)) (bn_w bfc88128_20 (by decide)) ⟨eT_88124, eW_88126 (by have z9 := (B_88131).2; omega), by have z9 := (eR_88125 (by have z9 := (B_88131).1; have z8 := (B_88131).2; omega)); have z8 := hL.2.2; omega⟩ p_ad_0_0 p_ad_5_0 p_ad_6_0 rfl Y (lv_sub hl [1] rfl)
        · have B_88132 : bn 1 5 r_88111 := bn_w (bn_gtl c_88130 er_88111 (show bn 0 0 (0 : Int32) from bn_k (by decide))) (by decide)
          refine lv_iload_n hx hb dX12_summed_43 rfl (lv_at hl 0 rfl) ?_
          obtain ⟨g_88136, p_ad_3_0, o_88137⟩ := I.opi (k := 3) (j := 0) (by decide) rfl
          have p_ad_3_0 : pt L_88109 f_88110 (ad 3 0) (.inl (G.2 0, 2916, .inl g_88136)) := p_ad_3_0
          have o_88138 : (XE r_88111 gB wr t0 v_88117) g_88136 := (XE_no o_88137 (by intro z; have z9 := (B_88132).1; rw [z] at z9; exact absurd z9 (by decide)))
          have I := I.castS (sp' := spM PA PI (XE r_88111 gB wr t0 v_88117) pa) (k := 3) (j := 0) (by decide) p_ad_3_0 (okE_a (g := g_88136) o_88138) pXC
          exact prI (post := fun r L1 f1 => ∃ at92 : Int32, ∃ ps92 : Int32, ∃ tk2 : Int32, ∃ nu2 : Int32, ∃ wd2 : Int64, ∃ wr2 : Int32, ∃ pd2 : Int32, ∃ op92 : Int32, ∃ cg2 : Int32, ∃ iw2 : Int32, ∃ gp2 : Nat → Int32, ∃ gc2 : Nat → Int32, bn 0 7 r ∧ SH (spM PA PI (XE r gB wr t0 wr2) pa) nnM G ad L1 f1 ∧ pt L1 f1 (ad 0 0) (.inr (12, [.ref (ad 1 0), .ref (ad 2 0), .ref (ad 3 0), .ref (ad 4 0), .int td, .int fa, .int fp, .int at92, .int ps92, .int tk2, .int nu2, .long wd2, .int t0, .int wr2, .int so, .ref (ad 5 0), .ref (ad 6 0), .int pd2, .int op92, .int cg2, .int iw2, .int on9, .ref (ad 7 0), .ref (ad 8 0), .ref (ad 9 0), .int is9, .ref (ad 10 0), .ref (ad 11 0), .ref (ad 12 0), .ref (ad 13 0), .int se, .ref (ad 14 0)])) ∧ pt L1 f1 (ad 5 0) (.inl (G.2 0, 160, .inl gp2)) ∧ pt L1 f1 (ad 6 0) (.inl (G.2 0, 9, .inl gc2)) ∧ TK at92 ps92 tk2 ∧ (r.toInt = 0 → ps9.toInt ≤ ps92.toInt) ∧ (r.toInt = 0 → wr2.toInt ≤ ps92.toInt)) S Y rfl (by decide) (by decide) hA1 ⟨v_88112, v_88113, v_88114, v_88115, v_88116, v_88117, v_88118, v_88119, v_88120, v_88121, g_88122, g_88123, bn_w B_88132 (by decide), I, p_ad_0_0, p_ad_5_0, p_ad_6_0, eT_88124, (by intro h; have z9 := (B_88132).1; omega), (by intro h; have z9 := (B_88132).1; omega)⟩ dX12_summed_44
      · have B_88105 : bn 1 1 y20_f20 := bn_w (bn_nel c_88103 bf20_20 (show bn 0 0 (0 : Int32) from bn_k (by decide))) (by decide)
        refine lv_aload_n hx hb dX12_summed_27 rfl (lv_at hl 0 rfl) ?_
        obtain ⟨g_88139, p_ad_3_0, o_88140⟩ := I.opi (k := 3) (j := 0) (by decide) rfl
        have p_ad_3_0 : pt L_20 f_20 (ad 3 0) (.inl (G.2 0, 2916, .inl g_88139)) := p_ad_3_0
        have o_88141 : (XW gB wr.toInt.toNat y20_a5 y20_a6 t0 y20_f13 y20_f17 y20_f18 y20_f19 true) g_88139 := (XW_t o_88140 (iw_1 c_88103 bf20_20))
        have I := I.castS (sp' := spM PA PI (XW gB wr.toInt.toNat y20_a5 y20_a6 t0 y20_f13 y20_f17 y20_f18 y20_f19 true) pa) (k := 3) (j := 0) (by decide) p_ad_3_0 (okE_a (g := g_88139) o_88141) pXC
        refine cVi (As := []) (rest := []) S Y (x_X12_behindOne (l := l) I p_ad_0_0 p_ad_5_0 p_ad_6_0 (iw_1 c_88103 bf20_20) hL.2.1 hL.1) cw_X12_behindOne km12_209 p_ad_0_0 ok_X12.1 rfl rfl ⟨Nat.le_of_ble_eq_true rfl, Nat.le_of_ble_eq_true rfl⟩ hl.1 rfl (Nat.le_of_ble_eq_true rfl) ⟨Nat.le_of_ble_eq_true rfl, Nat.le_of_ble_eq_true rfl⟩ dX12_summed_28 (fun r_88144 L_88142 f_88143 H locs hr_88144 Y => ?_)
        obtain ⟨v_88145, v_88146, v_88147, v_88148, v_88149, v_88150, v_88151, v_88152, v_88153, v_88154, g_88155, g_88156, er_88144, I, p_ad_0_0, p_ad_5_0, p_ad_6_0, eT_88157, eR_88158, eW_88159, eN_88160, eM_88161⟩ := hr_88144
        obtain ⟨bfc88161_4, bfc88161_7, bfc88161_8, bfc88161_12, bfc88161_13, bfc88161_17, bfc88161_18, bfc88161_19, bfc88161_20, bfc88161_25⟩ := obM I p_ad_0_0
        refine lv_goto (tgt := 38) hx hb dX12_summed_31 (by decide) ?_
        refine lv_istore_n (lv' := [(1, .int r_88144), (0, .ref (ad 0 0))]) hx hb dX12_summed_38 rfl hl (by decide) rfl (fun ls hl => ?_)
        refine lv_iload_n hx hb dX12_summed_39 rfl (lv_at hl 0 rfl) ?_
        refine lv_if_le (tgt := 45) hx hb dX12_summed_40 (by decide) (fun c_88163 => ?_) (fun c_88163 => ?_)
        · have B_88164 : bn (-1) 0 r_88144 := bn_w (bn_lel c_88163 er_88144 (show bn 0 0 (0 : Int32) from bn_k (by decide))) (by decide)
          refine lv_iload_n hx hb dX12_summed_45 rfl (lv_at hl 0 rfl) ?_
          refine lv_if_ne (tgt := 52) hx hb dX12_summed_46 (by decide) (fun c_88166 => ?_) (fun c_88166 => ?_)
          · have B_88167 : bn (-1) (-1) r_88144 := bn_w (bn_neu c_88166 B_88164 (show bn 0 0 (0 : Int32) from bn_k (by decide))) (by decide)
            refine lv_aload_n hx hb dX12_summed_52 rfl (lv_at hl 1 rfl) ?_
            refine cVp (As := []) (rest := []) S Y (x_X12_openNow (l := l) I p_ad_0_0 p_ad_5_0) cw_X12_openNow km12_159 p_ad_0_0 ok_X12.1 rfl rfl ⟨Nat.le_of_ble_eq_true rfl, Nat.le_of_ble_eq_true rfl⟩ hl.1 rfl (Nat.le_of_ble_eq_true rfl) ⟨Nat.le_of_ble_eq_true rfl, Nat.le_of_ble_eq_true rfl⟩ dX12_summed_53 (fun r_88169 H locs er_88169 Y => ?_)
            refine lv_if_lt (tgt := 61) hx hb dX12_summed_56 (by decide) (fun c_88170 => ?_) (fun c_88170 => ?_)
            · have B_88171 : bn (-2147483648) (-1) r_88169 := bn_w (bn_ltl c_88170 (bn_any r_88169) (show bn 0 0 (0 : Int32) from bn_k (by decide))) (by decide)
              refine lv_aload_n hx hb dX12_summed_61 rfl (lv_at hl 1 rfl) ?_
              refine lv_iconst (v := 1) hx hb dX12_summed_62 (by decide) ?_
              obtain ⟨g_88173, p_ad_3_0, o_88174⟩ := I.opi (k := 3) (j := 0) (by decide) rfl
              have p_ad_3_0 : pt L_88142 f_88143 (ad 3 0) (.inl (G.2 0, 2916, .inl g_88173)) := p_ad_3_0
              have hr0 : r_88144.toInt < 0 := by have z9 := (B_88167).2; omega
              obtain ⟨opn, cmp, hv⟩ := XW_t (o_88174.2 (by omega)) (eN_88160 hr0)
              have hI := XV_info hv (bn_w bfc88161_18 (by decide)) (bn_w bfc88161_19 (by decide)) (bn_w bfc88161_17 (by decide))
              have hm1 : opn = -1 := by have z9 := er_88169; rw [show opv (fun j => (g_88155 j).toInt) v_88151.toInt.toNat = opn from hI.1] at z9; have z8 := (B_88171).2; rcases hI.2.2.2.2.2.1 with z7 | z7 <;> omega
              obtain ⟨cur0, hz, hc, _⟩ := XV_SL (least := (1 : Int32).toInt.toNat) hv (Or.inr (Or.inr (by rw [hm1]; unfold askd; decide)))
              have o_88175 : (XS gB wr.toInt.toNat g_88155 g_88156 (1 : Int32).toInt.toNat opn cur0 cmp t0 v_88150 v_88151 v_88152 v_88153) g_88173 := hz
              have I := I.castS (sp' := spM PA PI (XS gB wr.toInt.toNat g_88155 g_88156 (1 : Int32).toInt.toNat opn cur0 cmp t0 v_88150 v_88151 v_88152 v_88153) pa) (k := 3) (j := 0) (by decide) p_ad_3_0 (okE_a (g := g_88173) o_88175) pXC
              refine cVv (As := [.int 1]) (rest := []) S Y (x_X12_settle (l := l) I p_ad_0_0 p_ad_5_0 p_ad_6_0 (bn_w (show bn 1 1 (1 : Int32) from bn_k (by decide)) (by decide)) (by have z9 := eW_88159 (by omega); have z8 := (bfc88161_8).2; omega)) cw_X12_settle km12_181 p_ad_0_0 ok_X12.1 rfl rfl ⟨Nat.le_of_ble_eq_true rfl, Nat.le_of_ble_eq_true rfl⟩ hl.1 rfl (Nat.le_of_ble_eq_true rfl) ⟨Nat.le_of_ble_eq_true rfl, Nat.le_of_ble_eq_true rfl⟩ dX12_summed_63 (fun L_88176 f_88177 H locs hr_88178 Y => ?_)
              obtain ⟨v_88179, v_88180, v_88181, I, p_ad_0_0, p_ad_5_0, p_ad_6_0, es1_88182, es2_88183, es3_88184⟩ := hr_88178
              obtain ⟨bfc88184_4, bfc88184_7, bfc88184_8, bfc88184_12, bfc88184_13, bfc88184_17, bfc88184_18, bfc88184_19, bfc88184_20, bfc88184_25⟩ := obM I p_ad_0_0
              obtain ⟨g_88186, p_ad_3_0, o_88187⟩ := I.opi (k := 3) (j := 0) (by decide) rfl
              have p_ad_3_0 : pt L_88176 f_88177 (ad 3 0) (.inl (G.2 0, 2916, .inl g_88186)) := p_ad_3_0
              have o_88188 : (XE 0 gB wr t0 v_88179) g_88186 := (XE_fin o_88187 hm1 hc hI.2.2.2.2.1 es2_88183 bfe_13.1 (by have z9 := (bfc88184_13).2; omega))
              have I := I.castS (sp' := spM PA PI (XE 0 gB wr t0 v_88179) pa) (k := 3) (j := 0) (by decide) p_ad_3_0 (okE_a (g := g_88186) o_88188) pXC
              refine lv_iconst (v := 0) hx hb dX12_summed_66 (by decide) ?_
              exact prI (post := fun r L1 f1 => ∃ at92 : Int32, ∃ ps92 : Int32, ∃ tk2 : Int32, ∃ nu2 : Int32, ∃ wd2 : Int64, ∃ wr2 : Int32, ∃ pd2 : Int32, ∃ op92 : Int32, ∃ cg2 : Int32, ∃ iw2 : Int32, ∃ gp2 : Nat → Int32, ∃ gc2 : Nat → Int32, bn 0 7 r ∧ SH (spM PA PI (XE r gB wr t0 wr2) pa) nnM G ad L1 f1 ∧ pt L1 f1 (ad 0 0) (.inr (12, [.ref (ad 1 0), .ref (ad 2 0), .ref (ad 3 0), .ref (ad 4 0), .int td, .int fa, .int fp, .int at92, .int ps92, .int tk2, .int nu2, .long wd2, .int t0, .int wr2, .int so, .ref (ad 5 0), .ref (ad 6 0), .int pd2, .int op92, .int cg2, .int iw2, .int on9, .ref (ad 7 0), .ref (ad 8 0), .ref (ad 9 0), .int is9, .ref (ad 10 0), .ref (ad 11 0), .ref (ad 12 0), .ref (ad 13 0), .int se, .ref (ad 14 0)])) ∧ pt L1 f1 (ad 5 0) (.inl (G.2 0, 160, .inl gp2)) ∧ pt L1 f1 (ad 6 0) (.inl (G.2 0, 9, .inl gc2)) ∧ TK at92 ps92 tk2 ∧ (r.toInt = 0 → ps9.toInt ≤ ps92.toInt) ∧ (r.toInt = 0 → wr2.toInt ≤ ps92.toInt)) S Y rfl (by decide) (by decide) hA1 ⟨v_88145, v_88146, v_88147, v_88148, v_88149, v_88179, v_88180, v_88181, v_88153, v_88154, g_88155, g_88156, bn_w (show bn 0 0 (0 : Int32) from bn_k (by decide)) (by decide), I, p_ad_0_0, p_ad_5_0, p_ad_6_0, eT_88157, (fun _ => by have z9 := hL.2.2; have z8 := eM_88161 (by omega); omega), (fun _ => by have z9 := (eW_88159 (by have z9 := hr0; omega)); have z8 := es1_88182; have z7 := (bfc88184_17).1; omega)⟩ dX12_summed_67
            · have B_88172 : bn 0 2147483647 r_88169 := bn_w (bn_gel c_88170 (bn_any r_88169) (show bn 0 0 (0 : Int32) from bn_k (by decide))) (by decide)
              refine lv_iconst (v := 1) hx hb dX12_summed_59 (by decide) ?_
              obtain ⟨g_88189, p_ad_3_0, o_88190⟩ := I.opi (k := 3) (j := 0) (by decide) rfl
              have p_ad_3_0 : pt L_88142 f_88143 (ad 3 0) (.inl (G.2 0, 2916, .inl g_88189)) := p_ad_3_0
              have o_88191 : (XE 1 gB wr t0 v_88150) g_88189 := (XE_no o_88190 (by decide))
              have I := I.castS (sp' := spM PA PI (XE 1 gB wr t0 v_88150) pa) (k := 3) (j := 0) (by decide) p_ad_3_0 (okE_a (g := g_88189) o_88191) pXC
              exact prI (post := fun r L1 f1 => ∃ at92 : Int32, ∃ ps92 : Int32, ∃ tk2 : Int32, ∃ nu2 : Int32, ∃ wd2 : Int64, ∃ wr2 : Int32, ∃ pd2 : Int32, ∃ op92 : Int32, ∃ cg2 : Int32, ∃ iw2 : Int32, ∃ gp2 : Nat → Int32, ∃ gc2 : Nat → Int32, bn 0 7 r ∧ SH (spM PA PI (XE r gB wr t0 wr2) pa) nnM G ad L1 f1 ∧ pt L1 f1 (ad 0 0) (.inr (12, [.ref (ad 1 0), .ref (ad 2 0), .ref (ad 3 0), .ref (ad 4 0), .int td, .int fa, .int fp, .int at92, .int ps92, .int tk2, .int nu2, .long wd2, .int t0, .int wr2, .int so, .ref (ad 5 0), .ref (ad 6 0), .int pd2, .int op92, .int cg2, .int iw2, .int on9, .ref (ad 7 0), .ref (ad 8 0), .ref (ad 9 0), .int is9, .ref (ad 10 0), .ref (ad 11 0), .ref (ad 12 0), .ref (ad 13 0), .int se, .ref (ad 14 0)])) ∧ pt L1 f1 (ad 5 0) (.inl (G.2 0, 160, .inl gp2)) ∧ pt L1 f1 (ad 6 0) (.inl (G.2 0, 9, .inl gc2)) ∧ TK at92 ps92 tk2 ∧ (r.toInt = 0 → ps9.toInt ≤ ps92.toInt) ∧ (r.toInt = 0 → wr2.toInt ≤ ps92.toInt)) S Y rfl (by decide) (by decide) hA1 ⟨v_88145, v_88146, v_88147, v_88148, v_88149, v_88150, v_88151, v_88152, v_88153, v_88154, g_88155, g_88156, bn_w (show bn 1 1 (1 : Int32) from bn_k (by decide)) (by decide), I, p_ad_0_0, p_ad_5_0, p_ad_6_0, eT_88157, (fun h => absurd h (by decide)), (fun h => absurd h (by decide))⟩ dX12_summed_60
          · have B_88168 : bn 0 0 r_88144 := bn_w (bn_eq c_88166 (show bn 0 0 (0 : Int32) from bn_k (by decide))) (by decide)
            refine lv_goto (tgt := 20) hx hb dX12_summed_49 (by decide) ?_
            obtain ⟨g_88192, p_ad_3_0, o_88193⟩ := I.opi (k := 3) (j := 0) (by decide) rfl
            have p_ad_3_0 : pt L_88142 f_88143 (ad 3 0) (.inl (G.2 0, 2916, .inl g_88192)) := p_ad_3_0
            have o_88194 : (XW gB wr.toInt.toNat g_88155 g_88156 t0 v_88150 v_88151 v_88152 v_88153 (decide (v_88154 = 1))) g_88192 := (o_88193.2 (by have z9 := (B_88168).2; omega))
            have I := I.castS (sp' := spM PA PI (XW gB wr.toInt.toNat g_88155 g_88156 t0 v_88150 v_88151 v_88152 v_88153 (decide (v_88154 = 1))) pa) (k := 3) (j := 0) (by decide) p_ad_3_0 (okE_a (g := g_88192) o_88194) pXC
            exact ih20 _ (by rw [← hm20]; exact (show (300 - v_88146.toInt).toNat < (300 - y20_f8.toInt).toNat from by have z9 := eR_88158 (by have z8 := (B_88168).1; have z7 := (B_88168).2; omega); have z6 := (bfc88161_8).2; omega)) v_88145 v_88146 v_88147 v_88148 v_88150 v_88151 v_88152 v_88153 v_88154 v_88149 g_88155 g_88156 _ _  _ _ _ I (bn_w bfc88161_7 (by decide)) (bn_w bfc88161_8 (by decide)) (bn_w bfc88161_13 (by decide)) (bn_w bfc88161_17 (by decide)) (bn_w bfc88161_18 (by decide)) (bn_w bfc88161_19 (by decide)) (bn_w bfc88161_20 (by decide)) ⟨eT_88157, eW_88159 (by have z9 := (B_88168).2; omega), by have z9 := (eR_88158 (by have z9 := (B_88168).1; have z8 := (B_88168).2; omega)); have z8 := hL.2.2; omega⟩ p_ad_0_0 p_ad_5_0 p_ad_6_0 rfl Y (lv_sub hl [1] rfl)
        · have B_88165 : bn 1 7 r_88144 := bn_w (bn_gtl c_88163 er_88144 (show bn 0 0 (0 : Int32) from bn_k (by decide))) (by decide)
          refine lv_iload_n hx hb dX12_summed_43 rfl (lv_at hl 0 rfl) ?_
          obtain ⟨g_88195, p_ad_3_0, o_88196⟩ := I.opi (k := 3) (j := 0) (by decide) rfl
          have p_ad_3_0 : pt L_88142 f_88143 (ad 3 0) (.inl (G.2 0, 2916, .inl g_88195)) := p_ad_3_0
          have o_88197 : (XE r_88144 gB wr t0 v_88150) g_88195 := (XE_no o_88196 (by intro z; have z9 := (B_88165).1; rw [z] at z9; exact absurd z9 (by decide)))
          have I := I.castS (sp' := spM PA PI (XE r_88144 gB wr t0 v_88150) pa) (k := 3) (j := 0) (by decide) p_ad_3_0 (okE_a (g := g_88195) o_88197) pXC
          exact prI (post := fun r L1 f1 => ∃ at92 : Int32, ∃ ps92 : Int32, ∃ tk2 : Int32, ∃ nu2 : Int32, ∃ wd2 : Int64, ∃ wr2 : Int32, ∃ pd2 : Int32, ∃ op92 : Int32, ∃ cg2 : Int32, ∃ iw2 : Int32, ∃ gp2 : Nat → Int32, ∃ gc2 : Nat → Int32, bn 0 7 r ∧ SH (spM PA PI (XE r gB wr t0 wr2) pa) nnM G ad L1 f1 ∧ pt L1 f1 (ad 0 0) (.inr (12, [.ref (ad 1 0), .ref (ad 2 0), .ref (ad 3 0), .ref (ad 4 0), .int td, .int fa, .int fp, .int at92, .int ps92, .int tk2, .int nu2, .long wd2, .int t0, .int wr2, .int so, .ref (ad 5 0), .ref (ad 6 0), .int pd2, .int op92, .int cg2, .int iw2, .int on9, .ref (ad 7 0), .ref (ad 8 0), .ref (ad 9 0), .int is9, .ref (ad 10 0), .ref (ad 11 0), .ref (ad 12 0), .ref (ad 13 0), .int se, .ref (ad 14 0)])) ∧ pt L1 f1 (ad 5 0) (.inl (G.2 0, 160, .inl gp2)) ∧ pt L1 f1 (ad 6 0) (.inl (G.2 0, 9, .inl gc2)) ∧ TK at92 ps92 tk2 ∧ (r.toInt = 0 → ps9.toInt ≤ ps92.toInt) ∧ (r.toInt = 0 → wr2.toInt ≤ ps92.toInt)) S Y rfl (by decide) (by decide) hA1 ⟨v_88145, v_88146, v_88147, v_88148, v_88149, v_88150, v_88151, v_88152, v_88153, v_88154, g_88155, g_88156, bn_w B_88165 (by decide), I, p_ad_0_0, p_ad_5_0, p_ad_6_0, eT_88157, (by intro h; have z9 := (B_88165).1; omega), (by intro h; have z9 := (B_88165).1; omega)⟩ dX12_summed_44
  refine lv_aload_n hx hb dX12_summed_0 rfl (lv_at hl 0 rfl) ?_
  refine lv_iconst (v := 0) hx hb dX12_summed_1 (by decide) ?_
  refine pg_put S Y ok_X12 17 (by decide) kf12_142 rfl (fs' := [.ref (ad 1 0), .ref (ad 2 0), .ref (ad 3 0), .ref (ad 4 0), .int td, .int fa, .int fp, .int at9, .int ps9, .int tk, .int nu, .long wd, .int t0, .int wr, .int so, .ref (ad 5 0), .ref (ad 6 0), .int 0, .int op9, .int cg, .int iw, .int on9, .ref (ad 7 0), .ref (ad 8 0), .ref (ad 9 0), .int is9, .ref (ad 10 0), .ref (ad 11 0), .ref (ad 12 0), .ref (ad 13 0), .int se, .ref (ad 14 0)]) (v := .int 0) p_ad_0_0 rfl rfl rfl (Nat.le_of_ble_eq_true rfl) dX12_summed_2 (fun f_88198 H locs ef_88198 Y => ?_)
  have p_ad_5_0 := p_ad_5_0.up ef_88198 (I.ne (k := 5) (j := 0) (k' := 0) (j' := 0) (by decide) (by decide) (Or.inl (by decide)))
  have p_ad_6_0 := p_ad_6_0.up ef_88198 (I.ne (k := 6) (j := 0) (k' := 0) (j' := 0) (by decide) (by decide) (Or.inl (by decide)))
  have p_ad_0_0 := p_ad_0_0.me ef_88198
  have I := I.up (k := 0) (j := 0) (by decide) ef_88198 (okE_o (okFs_c okV_r (okFs_c okV_r (okFs_c okV_r (okFs_c okV_r (okFs_c (okV_i bfe_4) (okFs_c (okV_i (bn_any _)) (okFs_c (okV_i (bn_any _)) (okFs_c (okV_i bfe_7) (okFs_c (okV_i bfe_8) (okFs_c (okV_i (bn_any _)) (okFs_c (okV_i (bn_any _)) (okFs_c okV_l (okFs_c (okV_i bfe_12) (okFs_c (okV_i bfe_13) (okFs_c (okV_i (bn_any _)) (okFs_c okV_r (okFs_c okV_r (okFs_c (okV_i (bn_w (show bn 0 0 (0 : Int32) from bn_k (by decide)) (by decide))) (okFs_c (okV_i bfe_18) (okFs_c (okV_i bfe_19) (okFs_c (okV_i bfe_20) (okFs_c (okV_i (bn_any _)) (okFs_c okV_r (okFs_c okV_r (okFs_c okV_r (okFs_c (okV_i bfe_25) (okFs_c okV_r (okFs_c okV_r (okFs_c okV_r (okFs_c okV_r (okFs_c (okV_i (bn_any _)) (okFs_c okV_r okFs_n)))))))))))))))))))))))))))))))))
  refine lv_aload_n hx hb dX12_summed_5 rfl (lv_at hl 0 rfl) ?_
  refine lv_iconst (v := 0) hx hb dX12_summed_6 (by decide) ?_
  refine pg_put S Y ok_X12 18 (by decide) kf12_152 rfl (fs' := [.ref (ad 1 0), .ref (ad 2 0), .ref (ad 3 0), .ref (ad 4 0), .int td, .int fa, .int fp, .int at9, .int ps9, .int tk, .int nu, .long wd, .int t0, .int wr, .int so, .ref (ad 5 0), .ref (ad 6 0), .int 0, .int 0, .int cg, .int iw, .int on9, .ref (ad 7 0), .ref (ad 8 0), .ref (ad 9 0), .int is9, .ref (ad 10 0), .ref (ad 11 0), .ref (ad 12 0), .ref (ad 13 0), .int se, .ref (ad 14 0)]) (v := .int 0) p_ad_0_0 rfl rfl rfl (Nat.le_of_ble_eq_true rfl) dX12_summed_7 (fun f_88199 H locs ef_88199 Y => ?_)
  have p_ad_5_0 := p_ad_5_0.up ef_88199 (I.ne (k := 5) (j := 0) (k' := 0) (j' := 0) (by decide) (by decide) (Or.inl (by decide)))
  have p_ad_6_0 := p_ad_6_0.up ef_88199 (I.ne (k := 6) (j := 0) (k' := 0) (j' := 0) (by decide) (by decide) (Or.inl (by decide)))
  have p_ad_0_0 := p_ad_0_0.me ef_88199
  have I := I.up (k := 0) (j := 0) (by decide) ef_88199 (okE_o (okFs_c okV_r (okFs_c okV_r (okFs_c okV_r (okFs_c okV_r (okFs_c (okV_i bfe_4) (okFs_c (okV_i (bn_any _)) (okFs_c (okV_i (bn_any _)) (okFs_c (okV_i bfe_7) (okFs_c (okV_i bfe_8) (okFs_c (okV_i (bn_any _)) (okFs_c (okV_i (bn_any _)) (okFs_c okV_l (okFs_c (okV_i bfe_12) (okFs_c (okV_i bfe_13) (okFs_c (okV_i (bn_any _)) (okFs_c okV_r (okFs_c okV_r (okFs_c (okV_i (bn_w (show bn 0 0 (0 : Int32) from bn_k (by decide)) (by decide))) (okFs_c (okV_i (bn_w (show bn 0 0 (0 : Int32) from bn_k (by decide)) (by decide))) (okFs_c (okV_i bfe_19) (okFs_c (okV_i bfe_20) (okFs_c (okV_i (bn_any _)) (okFs_c okV_r (okFs_c okV_r (okFs_c okV_r (okFs_c (okV_i bfe_25) (okFs_c okV_r (okFs_c okV_r (okFs_c okV_r (okFs_c okV_r (okFs_c (okV_i (bn_any _)) (okFs_c okV_r okFs_n)))))))))))))))))))))))))))))))))
  refine lv_aload_n hx hb dX12_summed_10 rfl (lv_at hl 0 rfl) ?_
  refine lv_iconst (v := 0) hx hb dX12_summed_11 (by decide) ?_
  refine pg_put S Y ok_X12 19 (by decide) kf12_169 rfl (fs' := [.ref (ad 1 0), .ref (ad 2 0), .ref (ad 3 0), .ref (ad 4 0), .int td, .int fa, .int fp, .int at9, .int ps9, .int tk, .int nu, .long wd, .int t0, .int wr, .int so, .ref (ad 5 0), .ref (ad 6 0), .int 0, .int 0, .int 0, .int iw, .int on9, .ref (ad 7 0), .ref (ad 8 0), .ref (ad 9 0), .int is9, .ref (ad 10 0), .ref (ad 11 0), .ref (ad 12 0), .ref (ad 13 0), .int se, .ref (ad 14 0)]) (v := .int 0) p_ad_0_0 rfl rfl rfl (Nat.le_of_ble_eq_true rfl) dX12_summed_12 (fun f_88200 H locs ef_88200 Y => ?_)
  have p_ad_5_0 := p_ad_5_0.up ef_88200 (I.ne (k := 5) (j := 0) (k' := 0) (j' := 0) (by decide) (by decide) (Or.inl (by decide)))
  have p_ad_6_0 := p_ad_6_0.up ef_88200 (I.ne (k := 6) (j := 0) (k' := 0) (j' := 0) (by decide) (by decide) (Or.inl (by decide)))
  have p_ad_0_0 := p_ad_0_0.me ef_88200
  have I := I.up (k := 0) (j := 0) (by decide) ef_88200 (okE_o (okFs_c okV_r (okFs_c okV_r (okFs_c okV_r (okFs_c okV_r (okFs_c (okV_i bfe_4) (okFs_c (okV_i (bn_any _)) (okFs_c (okV_i (bn_any _)) (okFs_c (okV_i bfe_7) (okFs_c (okV_i bfe_8) (okFs_c (okV_i (bn_any _)) (okFs_c (okV_i (bn_any _)) (okFs_c okV_l (okFs_c (okV_i bfe_12) (okFs_c (okV_i bfe_13) (okFs_c (okV_i (bn_any _)) (okFs_c okV_r (okFs_c okV_r (okFs_c (okV_i (bn_w (show bn 0 0 (0 : Int32) from bn_k (by decide)) (by decide))) (okFs_c (okV_i (bn_w (show bn 0 0 (0 : Int32) from bn_k (by decide)) (by decide))) (okFs_c (okV_i (bn_w (show bn 0 0 (0 : Int32) from bn_k (by decide)) (by decide))) (okFs_c (okV_i bfe_20) (okFs_c (okV_i (bn_any _)) (okFs_c okV_r (okFs_c okV_r (okFs_c okV_r (okFs_c (okV_i bfe_25) (okFs_c okV_r (okFs_c okV_r (okFs_c okV_r (okFs_c okV_r (okFs_c (okV_i (bn_any _)) (okFs_c okV_r okFs_n)))))))))))))))))))))))))))))))))
  refine lv_aload_n hx hb dX12_summed_15 rfl (lv_at hl 0 rfl) ?_
  refine lv_iconst (v := 0) hx hb dX12_summed_16 (by decide) ?_
  refine pg_put S Y ok_X12 20 (by decide) kf12_178 rfl (fs' := [.ref (ad 1 0), .ref (ad 2 0), .ref (ad 3 0), .ref (ad 4 0), .int td, .int fa, .int fp, .int at9, .int ps9, .int tk, .int nu, .long wd, .int t0, .int wr, .int so, .ref (ad 5 0), .ref (ad 6 0), .int 0, .int 0, .int 0, .int 0, .int on9, .ref (ad 7 0), .ref (ad 8 0), .ref (ad 9 0), .int is9, .ref (ad 10 0), .ref (ad 11 0), .ref (ad 12 0), .ref (ad 13 0), .int se, .ref (ad 14 0)]) (v := .int 0) p_ad_0_0 rfl rfl rfl (Nat.le_of_ble_eq_true rfl) dX12_summed_17 (fun f_88201 H locs ef_88201 Y => ?_)
  have p_ad_5_0 := p_ad_5_0.up ef_88201 (I.ne (k := 5) (j := 0) (k' := 0) (j' := 0) (by decide) (by decide) (Or.inl (by decide)))
  have p_ad_6_0 := p_ad_6_0.up ef_88201 (I.ne (k := 6) (j := 0) (k' := 0) (j' := 0) (by decide) (by decide) (Or.inl (by decide)))
  have p_ad_0_0 := p_ad_0_0.me ef_88201
  have I := I.up (k := 0) (j := 0) (by decide) ef_88201 (okE_o (okFs_c okV_r (okFs_c okV_r (okFs_c okV_r (okFs_c okV_r (okFs_c (okV_i bfe_4) (okFs_c (okV_i (bn_any _)) (okFs_c (okV_i (bn_any _)) (okFs_c (okV_i bfe_7) (okFs_c (okV_i bfe_8) (okFs_c (okV_i (bn_any _)) (okFs_c (okV_i (bn_any _)) (okFs_c okV_l (okFs_c (okV_i bfe_12) (okFs_c (okV_i bfe_13) (okFs_c (okV_i (bn_any _)) (okFs_c okV_r (okFs_c okV_r (okFs_c (okV_i (bn_w (show bn 0 0 (0 : Int32) from bn_k (by decide)) (by decide))) (okFs_c (okV_i (bn_w (show bn 0 0 (0 : Int32) from bn_k (by decide)) (by decide))) (okFs_c (okV_i (bn_w (show bn 0 0 (0 : Int32) from bn_k (by decide)) (by decide))) (okFs_c (okV_i (bn_w (show bn 0 0 (0 : Int32) from bn_k (by decide)) (by decide))) (okFs_c (okV_i (bn_any _)) (okFs_c okV_r (okFs_c okV_r (okFs_c okV_r (okFs_c (okV_i bfe_25) (okFs_c okV_r (okFs_c okV_r (okFs_c okV_r (okFs_c okV_r (okFs_c (okV_i (bn_any _)) (okFs_c okV_r okFs_n)))))))))))))))))))))))))))))))))
  obtain ⟨g_88202, p_ad_3_0, o_88203⟩ := I.opi (k := 3) (j := 0) (by decide) rfl
  have p_ad_3_0 : pt L f_88201 (ad 3 0) (.inl (G.2 0, 2916, .inl g_88202)) := p_ad_3_0
  have o_88204 : (XW gB wr.toInt.toNat gp gc t0 wr 0 0 0 (decide (0 = 1))) g_88202 := (XW_st o_88203 (by have z9 := bfe_13.1; omega))
  have I := I.castS (sp' := spM PA PI (XW gB wr.toInt.toNat gp gc t0 wr 0 0 0 (decide (0 = 1))) pa) (k := 3) (j := 0) (by decide) p_ad_3_0 (okE_a (g := g_88202) o_88204) pXC
  exact J_20 _ at9 ps9 tk nu wr 0 0 0 0 wd gp gc _ _  _ _ _ I (bn_w bfe_7 (by decide)) (bn_w bfe_8 (by decide)) (bn_w bfe_13 (by decide)) (bn_w (show bn 0 0 (0 : Int32) from bn_k (by decide)) (by decide)) (bn_w (show bn 0 0 (0 : Int32) from bn_k (by decide)) (by decide)) (bn_w (show bn 0 0 (0 : Int32) from bn_k (by decide)) (by decide)) (bn_w (show bn 0 0 (0 : Int32) from bn_k (by decide)) (by decide)) ⟨hT, by have z9 := hroom; have z8 : (0 : Int32).toInt = 0 := rfl; omega, Int.le_refl _⟩ p_ad_0_0 p_ad_5_0 p_ad_6_0 rfl Y (lv_sub hl [0] rfl)
