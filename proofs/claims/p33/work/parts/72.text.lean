theorem dX11_text_0 : decode cX11_text 0 = .ok (.aload_n 0, 1) := by decide +kernel
theorem dX11_text_1 : decode cX11_text 1 = .ok (.getfield 13, 3) := by decide +kernel
theorem dX11_text_4 : decode cX11_text 4 = .ok (.invokevirtual 98, 3) := by decide +kernel
theorem cw_X10_freeScript : CWv yX10_freeScript cX10_freeScript 1 (some (.object "KneeOaths$Script")) 0 := ⟨⟨⟨List.mem_of_getElem? (i := 126) (by decide +kernel), by decide +kernel⟩, ⟨List.mem_of_getElem? (i := 575) (by decide +kernel), by decide +kernel⟩, by decide +kernel⟩, ⟨List.mem_of_getElem? (i := 573) (by decide +kernel), by decide +kernel⟩, ⟨List.mem_of_getElem? (i := 574) (by decide +kernel), by decide +kernel⟩⟩
theorem km11_98 : inW (Cond.methodLink RX11 98 yX10_freeScript) := ⟨List.mem_of_getElem? (i := 572) (by decide +kernel), by decide +kernel⟩
theorem dX11_text_7 : decode cX11_text 7 = .ok (.astore_n 1, 1) := by decide +kernel
theorem dX11_text_8 : decode cX11_text 8 = .ok (.aload_n 1, 1) := by decide +kernel
theorem dX11_text_9 : decode cX11_text 9 = .ok (.ifnonnull 5, 3) := by decide +kernel
theorem dX11_text_12 : decode cX11_text 12 = .ok (.iconst (-1), 1) := by decide +kernel
theorem dX11_text_13 : decode cX11_text 13 = .ok (.ireturn, 1) := by decide +kernel
theorem dX11_text_14 : decode cX11_text 14 = .ok (.aload_n 0, 1) := by decide +kernel
theorem dX11_text_15 : decode cX11_text 15 = .ok (.getfield 25, 3) := by decide +kernel
theorem dX11_text_18 : decode cX11_text 18 = .ok (.aload_n 1, 1) := by decide +kernel
theorem dX11_text_19 : decode cX11_text 19 = .ok (.invokevirtual 102, 3) := by decide +kernel
theorem cw_X5_read : CWv yX5_read cX5_read 4 (some .boolean) 1 := ⟨⟨⟨List.mem_of_getElem? (i := 130) (by decide +kernel), by decide +kernel⟩, ⟨List.mem_of_getElem? (i := 579) (by decide +kernel), by decide +kernel⟩, by decide +kernel⟩, ⟨List.mem_of_getElem? (i := 577) (by decide +kernel), by decide +kernel⟩, ⟨List.mem_of_getElem? (i := 578) (by decide +kernel), by decide +kernel⟩⟩
theorem km11_102 : inW (Cond.methodLink RX11 102 yX5_read) := ⟨List.mem_of_getElem? (i := 576) (by decide +kernel), by decide +kernel⟩
theorem dX11_text_22 : decode cX11_text 22 = .ok (.ifCond .eq 13, 3) := by decide +kernel
theorem dX11_text_35 : decode cX11_text 35 = .ok (.iconst (-1), 1) := by decide +kernel
theorem dX11_text_36 : decode cX11_text 36 = .ok (.ireturn, 1) := by decide +kernel
theorem dX11_text_25 : decode cX11_text 25 = .ok (.aload_n 0, 1) := by decide +kernel
theorem dX11_text_26 : decode cX11_text 26 = .ok (.getfield 13, 3) := by decide +kernel
theorem dX11_text_29 : decode cX11_text 29 = .ok (.invokevirtual 106, 3) := by decide +kernel
theorem cw_X10_keepScript : CWv yX10_keepScript cX10_keepScript 1 (some .int) 0 := ⟨⟨⟨List.mem_of_getElem? (i := 126) (by decide +kernel), by decide +kernel⟩, ⟨List.mem_of_getElem? (i := 842) (by decide +kernel), by decide +kernel⟩, by decide +kernel⟩, ⟨List.mem_of_getElem? (i := 840) (by decide +kernel), by decide +kernel⟩, ⟨List.mem_of_getElem? (i := 841) (by decide +kernel), by decide +kernel⟩⟩
theorem km11_106 : inW (Cond.methodLink RX11 106 yX10_keepScript) := ⟨List.mem_of_getElem? (i := 839) (by decide +kernel), by decide +kernel⟩
theorem dX11_text_32 : decode cX11_text 32 = .ok (.goto 4, 3) := by decide +kernel
theorem tcE {tc tc2 : Nat → Int × Int} (e1 : tc2 0 = ((tc 0).1 + 1, (tc 0).2 + 1)) (e2 : ∀ k, k ≠ 0 → tc2 k = tc k) (hE : ∀ j, (tc j).1 = (tc j).2) : ∀ j, (tc2 j).1 = (tc2 j).2 := by
  intro j
  by_cases z : j = 0
  · subst z; rw [e1]; have := hE 0; dsimp only; omega
  · rw [e2 j z]; exact hE j
set_option maxHeartbeats 4000000 in
set_option maxRecDepth 100000 in
theorem x_X11_text {l : Launch} {G : GG}  {L : List Nat} {f : HF} {ad : Nat → Nat → Nat} {tc w : Nat → Int × Int} {q : Nat → (Nat → Int32) → Prop} {aK aV : Nat → Nat} {z0 : Option Nat} (I : SH (spC (NR 30 0 4) ((0, 6) : Int × Int) tc w q) nnC G ad L f) (hW : WBp w 8) (hT : WBp tc 4) (hQ : QIp q) (hZ : ZZp w q) (hE : ∀ j, (tc j).1 = (tc j).2) : PMiZ aK aV z0 l yX11_text cX11_text 2 .int 142 0 0 G [.ref (ad 0 0)] L f (fun r L1 f1 => ∃ tc2 : Nat → Int × Int, SH (spC (NR 30 0 4) ((0, 6) : Int × Int) tc2 w q) nnC G ad L1 f1 ∧ (∀ j, (tc2 j).1 = (tc2 j).2) ∧ (∀ k, k ≠ 0 → tc2 k = tc k) ∧ WBp tc2 4) := by
  refine PMiZ.of (post := fun r L1 f1 => ∃ tc2 : Nat → Int × Int, SH (spC (NR 30 0 4) ((0, 6) : Int × Int) tc2 w q) nnC G ad L1 f1 ∧ (∀ j, (tc2 j).1 = (tc2 j).2) ∧ (∀ k, k ≠ 0 → tc2 k = tc k) ∧ WBp tc2 4) (own := RX11) (by decide) rfl (Nat.le_of_ble_eq_true rfl) (fun sz p e s m args below meth c A ls hA1 hname S Y hz hl => ?_)
  have hx := S.hx
  have hb := S.hb
  have hl : lv_has ls 2 [(0, .ref (ad 0 0))] := hl
  refine lv_aload_n hx hb dX11_text_0 rfl (lv_at hl 0 rfl) ?_
  have p_ad_0_0 := opnC_0 (j := 0) I (by decide)
  have p_ad_0_0 : pt L f (ad 0 0) (.inr (11, [.ref (ad 1 0), .ref (ad 1 1), .ref (ad 2 0), .ref (ad 3 0), .ref (ad 4 0), .ref (ad 5 0), .ref (ad 6 0), .ref (ad 7 0), .ref (ad 8 0)])) := p_ad_0_0
  refine pg_get S Y ok_X11 0 (by decide) kf11_13 (v := .ref (ad 1 0)) p_ad_0_0 rfl dX11_text_1 ?_
  refine cVw (As := []) (rest := []) S Y (x_X10_freeScript (l := l) I hW hT hQ hE) cw_X10_freeScript km11_98 (I.opo (k := 1) (j := 0) (by decide) rfl).choose_spec.1 ok_X10.1 rfl rfl ⟨Nat.le_of_ble_eq_true rfl, Nat.le_of_ble_eq_true rfl⟩ hl.1 rfl (Nat.le_of_ble_eq_true rfl) ⟨Nat.le_of_ble_eq_true rfl, Nat.le_of_ble_eq_true rfl⟩ dX11_text_4 (fun r_78971 H locs er_78971 Y => ?_)
  obtain ⟨er_78971, fr_78971⟩ := er_78971
  rcases er_78971 with er_78971 | ⟨t_78972, ht_78972, er_78971⟩
  · rw [er_78971]
    show W _ _ _ _ _ _ _ _ _ _ _ _ _ _ _ (F0 _ _ _ (.null :: _))
    refine lv_astore_nN (lv' := [(1, .null), (0, .ref (ad 0 0))]) hx hb dX11_text_7 rfl hl (by decide) rfl (fun ls hl => ?_)
    refine lv_aload_nN hx hb dX11_text_8 rfl (lv_at hl 0 rfl) ?_
    refine lv_ifnonnullN hx hb dX11_text_9 ?_
    refine lv_iconst (v := (-1)) hx hb dX11_text_12 (by decide) ?_
    exact prI (post := fun r L1 f1 => ∃ tc2 : Nat → Int × Int, SH (spC (NR 30 0 4) ((0, 6) : Int × Int) tc2 w q) nnC G ad L1 f1 ∧ (∀ j, (tc2 j).1 = (tc2 j).2) ∧ (∀ k, k ≠ 0 → tc2 k = tc k) ∧ WBp tc2 4) S Y rfl (by decide) (by decide) hA1 ⟨tc, I, hE, (fun _ _ => rfl), hT⟩ dX11_text_13
  · rw [er_78971]
    have e9 : 0 + t_78972 = t_78972 := Nat.zero_add _
    rw [e9]
    show W _ _ _ _ _ _ _ _ _ _ _ _ _ _ _ (F0 _ _ _ (.ref (ad 30 t_78972) :: _))
    refine lv_astore_n (lv' := [(1, .ref (ad 30 t_78972)), (0, .ref (ad 0 0))]) hx hb dX11_text_7 rfl hl (by decide) rfl (fun ls hl => ?_)
    refine lv_aload_n hx hb dX11_text_8 rfl (lv_at hl 0 rfl) ?_
    refine lv_ifnonnull (tgt := 14) hx hb dX11_text_9 (by decide) ?_
    refine lv_aload_n hx hb dX11_text_14 rfl (lv_at hl 1 rfl) ?_
    refine pg_get S Y ok_X11 2 (by decide) kf11_25 (v := .ref (ad 2 0)) p_ad_0_0 rfl dX11_text_15 ?_
    refine lv_aload_n hx hb dX11_text_18 rfl (lv_at hl 0 rfl) ?_
    refine zVi (As := [.ref (ad 30 t_78972)]) (rest := []) S Y hz (x_X5_read (l := l) (t := t_78972) I hW hT hQ (show t_78972 < 8 from by omega) ht_78972) cw_X5_read km11_102 (recvO S Y (I.opo (k := 2) (j := 0) (by decide) rfl).choose_spec.1 ok_X5.1 rfl) rfl ⟨Nat.le_of_ble_eq_true rfl, Nat.le_of_ble_eq_true rfl⟩ hl.1 rfl (Nat.le_of_ble_eq_true rfl) ⟨Nat.le_of_ble_eq_true rfl, Nat.le_of_ble_eq_true rfl⟩ dX11_text_19 (fun r_78975 L_78973 f_78974 H locs hr_78975 Y => ?_)
    obtain ⟨er_78975, I⟩ := hr_78975
    refine lv_if_eq (tgt := 35) hx hb dX11_text_22 (by decide) (fun c_78976 => ?_) (fun c_78976 => ?_)
    · have B_78977 : bn 0 0 r_78975 := bn_w (bn_eq c_78976 (show bn 0 0 (0 : Int32) from bn_k (by decide))) (by decide)
      refine lv_iconst (v := (-1)) hx hb dX11_text_35 (by decide) ?_
      exact prI (post := fun r L1 f1 => ∃ tc2 : Nat → Int × Int, SH (spC (NR 30 0 4) ((0, 6) : Int × Int) tc2 w q) nnC G ad L1 f1 ∧ (∀ j, (tc2 j).1 = (tc2 j).2) ∧ (∀ k, k ≠ 0 → tc2 k = tc k) ∧ WBp tc2 4) S Y rfl (by decide) (by decide) hA1 ⟨tc, I, hE, (fun _ _ => rfl), hT⟩ dX11_text_36
    · have B_78978 : bn 1 1 r_78975 := bn_w (bn_nel c_78976 er_78975 (show bn 0 0 (0 : Int32) from bn_k (by decide))) (by decide)
      refine lv_aload_n hx hb dX11_text_25 rfl (lv_at hl 1 rfl) ?_
      have p_ad_0_0 := opnC_0 (j := 0) I (by decide)
      have p_ad_0_0 : pt L_78973 f_78974 (ad 0 0) (.inr (11, [.ref (ad 1 0), .ref (ad 1 1), .ref (ad 2 0), .ref (ad 3 0), .ref (ad 4 0), .ref (ad 5 0), .ref (ad 6 0), .ref (ad 7 0), .ref (ad 8 0)])) := p_ad_0_0
      refine pg_get S Y ok_X11 0 (by decide) kf11_13 (v := .ref (ad 1 0)) p_ad_0_0 rfl dX11_text_26 ?_
      refine cVi (As := []) (rest := []) S Y (x_X10_keepScript (l := l) I hW hT hQ (fr_78971 (by intro h9; rw [h9] at er_78971; cases er_78971))) cw_X10_keepScript km11_106 (I.opo (k := 1) (j := 0) (by decide) rfl).choose_spec.1 ok_X10.1 rfl rfl ⟨Nat.le_of_ble_eq_true rfl, Nat.le_of_ble_eq_true rfl⟩ hl.1 rfl (Nat.le_of_ble_eq_true rfl) ⟨Nat.le_of_ble_eq_true rfl, Nat.le_of_ble_eq_true rfl⟩ dX11_text_29 (fun r_78981 L_78979 f_78980 H locs hr_78981 Y => ?_)
      obtain ⟨tc2_78982, I, e1_78983, e2_78984, eT_78985⟩ := hr_78981
      refine lv_goto (tgt := 36) hx hb dX11_text_32 (by decide) ?_
      exact prI (post := fun r L1 f1 => ∃ tc2 : Nat → Int × Int, SH (spC (NR 30 0 4) ((0, 6) : Int × Int) tc2 w q) nnC G ad L1 f1 ∧ (∀ j, (tc2 j).1 = (tc2 j).2) ∧ (∀ k, k ≠ 0 → tc2 k = tc k) ∧ WBp tc2 4) S Y rfl (by decide) (by decide) hA1 ⟨tc2_78982, I, (tcE e1_78983 e2_78984 hE), e2_78984, eT_78985⟩ dX11_text_36
