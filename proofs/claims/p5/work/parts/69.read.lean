theorem dX5_read_0 : decode cX5_read 0 = .ok (.aload_n 0, 1) := by decide +kernel
theorem dX5_read_1 : decode cX5_read 1 = .ok (.aload_n 1, 1) := by decide +kernel
theorem dX5_read_2 : decode cX5_read 2 = .ok (.putfield 34, 3) := by decide +kernel
theorem dX5_read_5 : decode cX5_read 5 = .ok (.aload_n 0, 1) := by decide +kernel
theorem dX5_read_6 : decode cX5_read 6 = .ok (.getfield 34, 3) := by decide +kernel
theorem dX5_read_9 : decode cX5_read 9 = .ok (.invokevirtual 38, 3) := by decide +kernel
theorem cw_X7_clear : CWv yX7_clear cX7_clear 2 none 0 := ⟨⟨⟨List.mem_of_getElem? (i := 129) (by decide +kernel), by decide +kernel⟩, ⟨List.mem_of_getElem? (i := 583) (by decide +kernel), by decide +kernel⟩, by decide +kernel⟩, ⟨List.mem_of_getElem? (i := 581) (by decide +kernel), by decide +kernel⟩, ⟨List.mem_of_getElem? (i := 582) (by decide +kernel), by decide +kernel⟩⟩
theorem km5_38 : inW (Cond.methodLink RX5 38 yX7_clear) := ⟨List.mem_of_getElem? (i := 580) (by decide +kernel), by decide +kernel⟩
theorem dX5_read_12 : decode cX5_read 12 = .ok (.aload_n 0, 1) := by decide +kernel
theorem dX5_read_13 : decode cX5_read 13 = .ok (.iconst 0, 1) := by decide +kernel
theorem dX5_read_14 : decode cX5_read 14 = .ok (.putfield 24, 3) := by decide +kernel
theorem dX5_read_17 : decode cX5_read 17 = .ok (.aload_n 0, 1) := by decide +kernel
theorem dX5_read_18 : decode cX5_read 18 = .ok (.iconst (-1), 1) := by decide +kernel
theorem dX5_read_19 : decode cX5_read 19 = .ok (.putfield 28, 3) := by decide +kernel
theorem dX5_read_22 : decode cX5_read 22 = .ok (.aload_n 0, 1) := by decide +kernel
theorem dX5_read_23 : decode cX5_read 23 = .ok (.invokevirtual 43, 3) := by decide +kernel
theorem cw_X5_cutTokens : CWv yX5_cutTokens cX5_cutTokens 4 none 0 := ⟨⟨⟨List.mem_of_getElem? (i := 130) (by decide +kernel), by decide +kernel⟩, ⟨List.mem_of_getElem? (i := 587) (by decide +kernel), by decide +kernel⟩, by decide +kernel⟩, ⟨List.mem_of_getElem? (i := 586) (by decide +kernel), by decide +kernel⟩, ⟨List.mem_of_getElem? (i := 0) (by decide +kernel), by decide +kernel⟩⟩
theorem km5_43 : inW (Cond.methodLink RX5 43 yX5_cutTokens) := ⟨List.mem_of_getElem? (i := 584) (by decide +kernel), by decide +kernel⟩
theorem dX5_read_26 : decode cX5_read 26 = .ok (.aload_n 0, 1) := by decide +kernel
theorem dX5_read_27 : decode cX5_read 27 = .ok (.iconst 0, 1) := by decide +kernel
theorem dX5_read_28 : decode cX5_read 28 = .ok (.putfield 46, 3) := by decide +kernel
theorem dX5_read_31 : decode cX5_read 31 = .ok (.aload_n 0, 1) := by decide +kernel
theorem dX5_read_32 : decode cX5_read 32 = .ok (.invokevirtual 49, 3) := by decide +kernel
theorem dX5_read_35 : decode cX5_read 35 = .ok (.iconst 1, 1) := by decide +kernel
theorem dX5_read_36 : decode cX5_read 36 = .ok (.istore_n 2, 1) := by decide +kernel
theorem dX5_read_37 : decode cX5_read 37 = .ok (.iconst 0, 1) := by decide +kernel
theorem dX5_read_38 : decode cX5_read 38 = .ok (.istore_n 3, 1) := by decide +kernel
theorem dX5_read_39 : decode cX5_read 39 = .ok (.iload_n 3, 1) := by decide +kernel
theorem dX5_read_40 : decode cX5_read 40 = .ok (.bipush 24, 2) := by decide +kernel
theorem dX5_read_42 : decode cX5_read 42 = .ok (.if_icmp .gt 28, 3) := by decide +kernel
theorem dX5_read_45 : decode cX5_read 45 = .ok (.iload_n 2, 1) := by decide +kernel
theorem dX5_read_46 : decode cX5_read 46 = .ok (.ifCond .eq 24, 3) := by decide +kernel
theorem dX5_read_49 : decode cX5_read 49 = .ok (.aload_n 0, 1) := by decide +kernel
theorem dX5_read_50 : decode cX5_read 50 = .ok (.getfield 52, 3) := by decide +kernel
theorem dX5_read_53 : decode cX5_read 53 = .ok (.sipush 1002, 3) := by decide +kernel
theorem dX5_read_56 : decode cX5_read 56 = .ok (.if_icmp .eq 14, 3) := by decide +kernel
theorem dX5_read_70 : decode cX5_read 70 = .ok (.aload_n 0, 1) := by decide +kernel
theorem dX5_read_71 : decode cX5_read 71 = .ok (.iconst 0, 1) := by decide +kernel
theorem dX5_read_72 : decode cX5_read 72 = .ok (.putfield 31, 3) := by decide +kernel
theorem dX5_read_75 : decode cX5_read 75 = .ok (.iload_n 2, 1) := by decide +kernel
theorem dX5_read_76 : decode cX5_read 76 = .ok (.ireturn, 1) := by decide +kernel
theorem dX5_read_59 : decode cX5_read 59 = .ok (.aload_n 0, 1) := by decide +kernel
theorem dX5_read_60 : decode cX5_read 60 = .ok (.invokevirtual 55, 3) := by decide +kernel
theorem cw_X5_readClause : CWv yX5_readClause cX5_readClause 2 (some .boolean) 0 := ⟨⟨⟨List.mem_of_getElem? (i := 130) (by decide +kernel), by decide +kernel⟩, ⟨List.mem_of_getElem? (i := 737) (by decide +kernel), by decide +kernel⟩, by decide +kernel⟩, ⟨List.mem_of_getElem? (i := 736) (by decide +kernel), by decide +kernel⟩, ⟨List.mem_of_getElem? (i := 9) (by decide +kernel), by decide +kernel⟩⟩
theorem km5_55 : inW (Cond.methodLink RX5 55 yX5_readClause) := ⟨List.mem_of_getElem? (i := 734) (by decide +kernel), by decide +kernel⟩
theorem dX5_read_63 : decode cX5_read 63 = .ok (.istore_n 2, 1) := by decide +kernel
theorem dX5_read_64 : decode cX5_read 64 = .ok (.iinc 3 1, 3) := by decide +kernel
theorem dX5_read_67 : decode cX5_read 67 = .ok (.goto (-28), 3) := by decide +kernel
section RDI
variable {K V Pl : Nat → Int} {N j j2 : Nat} {s s2 : SG} {fk fp fk2 fp2 sl : Int} {y2 y3 r x3 : Int32} {aF aT : Nat → Int}
abbrev CL0 : List LI := [(kCls 0, 0, false)]
def RDI (K V Pl : Nat → Int) (N j : Nat) (s : SG) (fk fp : Int) (y2 y3 : Int32) : Prop := RDH K N ∧ ((y2 = 1 ∧ fk = 0 ∧ fp = -1 ∧ j < N ∧ (∃ (sl : Int) (aF aT : Nat → Int), s = (pp sl, pp y3.toInt, LR aF, LR aT) ∧ 0 ≤ sl ∧ sl ≤ (j : Int) ∧ ∀ S, Tr K V (CL0 ++ S) 0 (([(kCls (clN aF aT y3.toInt), 0, false)] : List LI) ++ S) j) ∧ 0 ≤ y3.toInt ∧ y3.toInt ≤ 24) ∨ (y2 = 0 ∧ (∀ S, LL K V (CL0 ++ S) 0 (fk, j)) ∧ fk ≠ 0 ∧ fp = Pl j))
theorem RDI_0 (h : RDH K N) (hs : s = (pp 0, pp 0, LR (fun _ => 0), LR (fun _ => 0))) : RDI K V Pl N 0 s 0 (-1) 1 0 :=
  ⟨h, Or.inl ⟨rfl, rfl, rfl, by have := h.1; omega, ⟨0, fun _ => 0, fun _ => 0, hs, Int.le_refl _, Int.le_refl _, fun S => by
    have e : clN (fun _ => 0) (fun _ => 0) (0 : Int32).toInt = 0 := by unfold clN mkL; simp
    rw [e]; exact Tr_0⟩, by decide, by decide⟩⟩
theorem RDI_g (h : RDI K V Pl N j s fk fp y2 y3) (c : ¬ y2 = 0) : fk = 0 ∧ fp = -1 ∧ j < N ∧ (∃ (sl : Int) (aF aT : Nat → Int), s = (pp sl, pp y3.toInt, LR aF, LR aT) ∧ 0 ≤ sl ∧ sl ≤ (j : Int) ∧ ∀ S, Tr K V (CL0 ++ S) 0 (([(kCls (clN aF aT y3.toInt), 0, false)] : List LI) ++ S) j) ∧ 0 ≤ y3.toInt ∧ y3.toInt ≤ 24 := by
  rcases h.2 with q | q
  · exact q.2
  · exact absurd q.1 c
theorem RDI_s (h : RDI K V Pl N j s fk fp y2 y3) (c : ¬ y2 = 0) (hl : sl ≤ (j : Int)) (h0 : 0 ≤ sl) (htr : ∀ S, Tr K V (CL0 ++ S) 0 (([(kCls (clN aF aT y3.toInt), 0, false)] : List LI) ++ S) j) (e : CLP K V Pl aF aT y3.toInt j j2 N fk fp fk2 fp2 sl s2 r) (ex : x3.toInt = y3.toInt + 1) : RDI K V Pl N j2 s2 fk2 fp2 r x3 := by
  obtain ⟨g1, g2, g3, g4, g5, g6⟩ := RDI_g h c
  refine ⟨h.1, ?_⟩
  rcases e with ⟨e1, sl2, aF2, aT2, e2, e3, e4, e5, e6, e7, e8, e9, e10⟩ | ⟨e1, e2, e3, e4⟩
  · refine Or.inl ⟨e1, by rw [← e9]; exact g1, by rw [← e10]; exact g2, e7, ⟨sl2, aF2, aT2, by rw [ex]; exact e2, by omega, by omega, fun S => ?_⟩, by omega, by omega⟩
    rw [ex]; exact Tr_t (htr S) (e6 S)
  · exact Or.inr ⟨e1, fun S => htr S _ (e2 S), e3, e4⟩
def RES (K V Pl : Nat → Int) (rr : Int × Nat) (fk fp : Int) (r : Int32) : Prop := LL K V CL0 0 rr ∧ ((r = 1 ∧ rr.1 = 0 ∧ fk = 0 ∧ fp = -1) ∨ (r = 0 ∧ rr.1 ≠ 0 ∧ fk = rr.1 ∧ fp = Pl rr.2))
theorem RDI_b (h : RDI K V Pl N j s fk fp y2 y3) (c : y2 = 0 ∨ 24 < y3.toInt) : RES K V Pl (fk, j) fk fp y2 := by
  rcases h.2 with q | q
  · exfalso
    rcases c with c | c
    · rw [q.1] at c; exact absurd c (by decide)
    · have := q.2.2.2.2.2.2; omega
  · exact ⟨q.2.1 [], Or.inr ⟨q.1, q.2.2.1, rfl, q.2.2.2⟩⟩
theorem RDI_c (h : RDI K V Pl N j s fk fp y2 y3) (c : ¬ y2 = 0) (hk : K j = 1002) : RES K V Pl (0, j) fk fp y2 := by
  rcases h.2 with q | q
  · obtain ⟨q1, q2, q3, q4, ⟨sl, aF, aT, q5, q6, q7, q8⟩, q9⟩ := q
    refine ⟨?_, Or.inl ⟨q1, rfl, q2, q3⟩⟩
    have t := Tr_go (K := K) (V := V) (i := j) (x := kCls (clN aF aT y3.toInt)) (o := 0) (b := false) (S := []) (a := 0) (its := []) (d := 0) (by unfold gx; simp only; rw [if_pos hk])
    exact q8 [] _ (t _ ⟨1, rfl⟩)
  · exact absurd q.1 c
end RDI
set_option maxHeartbeats 4000000 in
set_option maxRecDepth 100000 in
theorem x_X5_read {l : Launch} {G : GG}  {L : List Nat} {f : HF} {ad : Nat → Nat → Nat} {zC : Int × Int} {zR : Int × Int} {zK : Int × Int} {zP : Int × Int} {zV : Int × Int} {zW : Int × Int} {zF : Int × Int} {zQ : Int × Int} {tU : (Nat → Int32) → Prop} {tP : (Nat → Int32) → Prop} {tV : (Nat → Int32) → Prop} {rf : FS} {sc : Nat → SG} {bT : Nat → Int32} {nN : Nat} {fc : Int × Int} {tc w : Nat → Int × Int} {q : Nat → (Nat → Int32) → Prop} {aK aV : Nat → Nat} {z0 : Option Nat} {t : Nat} (I : SH (spC ((rf, fz (pp (nN : Int)) zC zR zK zP zV zW zF zQ, tz (EQ bT) tU tP tV, sc) : RS) fc tc w q) nnC G ad L f) (hW : WBp w 8) (hT : WBp tc 4) (hQ : QIp q) (ht : t < 8) (h4 : t < 4) (hn3 : nN ≤ 300) (hB : BYT bT) : PMiZ aK aV z0 l yX5_read cX5_read 4 .boolean 141 0 0 G [.ref (ad 2 0), .ref (ad 30 t)] L f (fun r L1 f1 => ∃ rr : Int × Nat, ∃ fk2 : Int, ∃ fp2 : Int, bn 0 1 r ∧ SH (spC ((NR 30 0 4, fz (pp 0) FI FI FI FI FI FI (pp fk2) (pp fp2), tz (EQ bT) TA TA TA, sc0) : RS) fc tc w q) nnC G ad L1 f1 ∧ RES (tkK (bI bT) nN) (tkV (bI bT) nN) (tkPI (bI bT) nN) rr fk2 fp2 r) := by
  refine PMiZ.of (post := fun r L1 f1 => ∃ rr : Int × Nat, ∃ fk2 : Int, ∃ fp2 : Int, bn 0 1 r ∧ SH (spC ((NR 30 0 4, fz (pp 0) FI FI FI FI FI FI (pp fk2) (pp fp2), tz (EQ bT) TA TA TA, sc0) : RS) fc tc w q) nnC G ad L1 f1 ∧ RES (tkK (bI bT) nN) (tkV (bI bT) nN) (tkPI (bI bT) nN) rr fk2 fp2 r) (own := RX5) (by decide) rfl (Nat.le_of_ble_eq_true rfl) (fun sz p e s m args below meth c A ls hA1 hname S Y hz hl => ?_)
  have hx := S.hx
  have hb := S.hb
  have hl : lv_has ls 4 [(0, .ref (ad 2 0)), (1, .ref (ad 30 t))] := hl
  have J_39 : ∀ (n39 : Nat) (y39_2 y39_3 : Int32) (kNh : Nat) (jh : Nat) (sch : Nat → SG) (lwh : Int) (fkh : Int) (fph : Int) (L_39 : List Nat) (f_39 : HF) (H : Heap) (locs : List Loc) (ls : Array Slot), (SH (spC ((RF 30 t, fz (pp (nN : Int)) (pp (kNh : Int)) (pp ((jh + 1 : Nat) : Int)) (pp ((tkK (bI bT) nN) jh)) (pp ((tkPI (bI bT) nN) jh)) (pp ((tkV (bI bT) nN) jh)) (pp lwh) (pp fkh) (pp fph), tz (EQ bT) (RW kNh (tkK (bI bT) nN)) (RW kNh (tkPI (bI bT) nN)) (RW kNh (tkV (bI bT) nN)), sch) : RS) fc tc w q) nnC G ad L_39 f_39) → (bn 0 1 y39_2) → (bn 0 25 y39_3) → (RDI (tkK (bI bT) nN) (tkV (bI bT) nN) (tkPI (bI bT) nN) kNh jh (sch t) fkh fph y39_2 y39_3) → (((25 : Int) - y39_3.toInt).toNat = n39) → (DY G A s [] L_39 f_39 H locs) → (lv_has ls 4 [(0, .ref (ad 2 0)), (1, .ref (ad 30 t)), (2, .int y39_2), (3, .int y39_3)]) → W p l e (rmD 141 0 0) s m args below meth c H locs (0) (0) (MQ below (va_Qi (fun r (u : List Nat × HF) => (fun r L1 f1 => ∃ rr : Int × Nat, ∃ fk2 : Int, ∃ fp2 : Int, bn 0 1 r ∧ SH (spC ((NR 30 0 4, fz (pp 0) FI FI FI FI FI FI (pp fk2) (pp fp2), tz (EQ bT) TA TA TA, sc0) : RS) fc tc w q) nnC G ad L1 f1 ∧ RES (tkK (bI bT) nN) (tkV (bI bT) nN) (tkPI (bI bT) nN) rr fk2 fp2 r) r u.1 u.2) (fun u t => pOut G (va_A (va_pl L f) sz) u.1 u.2 t) (va_A (va_pl L f) sz)) args s 0 0 A) (F0 m 39 ls []) := by
    intro n39
    induction n39 using Nat.strongRecOn with
    | _ n39 ih39 =>
      intro y39_2 y39_3 kNh jh sch lwh fkh fph L_39 f_39 H locs ls I b_y39_2 b_y39_3 hJ hm39 Y hl
      refine lv_iload_n hx hb dX5_read_39 rfl (lv_at hl 3 rfl) ?_
      refine lv_bipush (v := 24) hx hb dX5_read_40 (by decide) ?_
      refine lv_icmp_gt (tgt := 70) hx hb dX5_read_42 (by decide) (fun c_84803 => ?_) (fun c_84803 => ?_)
      · have B_84804 : bn 25 25 y39_3 := bn_w (bn_ltr c_84803 (show bn 24 24 (24 : Int32) from bn_k (by decide)) b_y39_3) (by decide)
        refine lv_aload_n hx hb dX5_read_70 rfl (lv_at hl 0 rfl) ?_
        refine lv_iconst (v := 0) hx hb dX5_read_71 (by decide) ?_
        obtain ⟨v_84806, v_84808, v_84810, v_84812, v_84814, v_84816, v_84818, v_84820, v_84822, p_ad_2_0, b_84807, b_84809, b_84811, b_84813, b_84815, b_84817, b_84819, b_84821, b_84823⟩ := opnC_2r (j := 0) I (by decide)
        have p_ad_2_0 : pt L_39 f_39 (ad 2 0) (.inr (5, [.ref (ad 50 0), .ref (ad 51 0), .ref (ad 52 0), .ref (ad 53 0), .int v_84806, .int v_84808, .int v_84810, .int v_84812, .int v_84814, .int v_84816, .int v_84818, .ref (ad 30 t), .int v_84820, .int v_84822])) := p_ad_2_0
        have tv_84806 : v_84806.toInt = (nN : Int) := lim_eq b_84807
        have tv_84808 : v_84808.toInt = (kNh : Int) := lim_eq b_84809
        have tv_84810 : v_84810.toInt = ((jh + 1 : Nat) : Int) := lim_eq b_84811
        have tv_84812 : v_84812.toInt = ((tkK (bI bT) nN) jh) := lim_eq b_84813
        have tv_84814 : v_84814.toInt = ((tkPI (bI bT) nN) jh) := lim_eq b_84815
        have tv_84816 : v_84816.toInt = ((tkV (bI bT) nN) jh) := lim_eq b_84817
        have tv_84818 : v_84818.toInt = lwh := lim_eq b_84819
        have tv_84820 : v_84820.toInt = fkh := lim_eq b_84821
        have tv_84822 : v_84822.toInt = fph := lim_eq b_84823
        refine pg_put S Y ok_X5 4 (by decide) kf5_31 rfl (fs' := [.ref (ad 50 0), .ref (ad 51 0), .ref (ad 52 0), .ref (ad 53 0), .int 0, .int v_84808, .int v_84810, .int v_84812, .int v_84814, .int v_84816, .int v_84818, .ref (ad 30 t), .int v_84820, .int v_84822]) (v := .int 0) p_ad_2_0 rfl rfl rfl (Nat.le_of_ble_eq_true rfl) dX5_read_72 (fun f_84824 H locs ef_84824 Y => ?_)
        have p_ad_2_0 := p_ad_2_0.me ef_84824
        have I := I.upS (sp' := spC ((RF 30 t, fz (pp 0) (pp (kNh : Int)) (pp ((jh + 1 : Nat) : Int)) (pp ((tkK (bI bT) nN) jh)) (pp ((tkPI (bI bT) nN) jh)) (pp ((tkV (bI bT) nN) jh)) (pp lwh) (pp fkh) (pp fph), tz (EQ bT) (RW kNh (tkK (bI bT) nN)) (RW kNh (tkPI (bI bT) nN)) (RW kNh (tkV (bI bT) nN)), sch) : RS) fc tc w q) (k := 2) (j := 0) (by decide) ef_84824 (okE_o (okFs_c okV_r (okFs_c okV_r (okFs_c okV_r (okFs_c okV_r (okFs_c (okV_p (lim_mk (bn_w (show bn 0 0 (0 : Int32) from bn_k (by decide)) (by decide) : bn 0 300 (0 : Int32)) (show (0 : Int32).toInt = 0 from rfl))) (okFs_c (okV_p b_84809) (okFs_c (okV_p b_84811) (okFs_c (okV_p b_84813) (okFs_c (okV_p b_84815) (okFs_c (okV_p b_84817) (okFs_c (okV_p b_84819) (okFs_c okV_r (okFs_c (okV_p b_84821) (okFs_c (okV_p b_84823) okFs_n))))))))))))))) rsC
        refine lv_iload_n hx hb dX5_read_75 rfl (lv_at hl 2 rfl) ?_
        exact prI (post := fun r L1 f1 => ∃ rr : Int × Nat, ∃ fk2 : Int, ∃ fp2 : Int, bn 0 1 r ∧ SH (spC ((NR 30 0 4, fz (pp 0) FI FI FI FI FI FI (pp fk2) (pp fp2), tz (EQ bT) TA TA TA, sc0) : RS) fc tc w q) nnC G ad L1 f1 ∧ RES (tkK (bI bT) nN) (tkV (bI bT) nN) (tkPI (bI bT) nN) rr fk2 fp2 r) S Y (nw_b (bn_w b_y39_2 (by decide))) (by decide) (by decide) hA1 ⟨(fkh, jh), fkh, fph, bn_w b_y39_2 (by decide), (rswC (rdOut I) h4), (RDI_b hJ (Or.inr (by have h9 := c_84803; rw [Int32.lt_iff_toInt_lt] at h9; exact h9)))⟩ dX5_read_76
      · have B_84805 : bn 0 24 y39_3 := bn_w (bn_ger c_84803 (show bn 24 24 (24 : Int32) from bn_k (by decide)) b_y39_3) (by decide)
        refine lv_iload_n hx hb dX5_read_45 rfl (lv_at hl 2 rfl) ?_
        refine lv_if_eq (tgt := 70) hx hb dX5_read_46 (by decide) (fun c_84825 => ?_) (fun c_84825 => ?_)
        · have B_84826 : bn 0 0 y39_2 := bn_w (bn_eq c_84825 (show bn 0 0 (0 : Int32) from bn_k (by decide))) (by decide)
          refine lv_aload_n hx hb dX5_read_70 rfl (lv_at hl 0 rfl) ?_
          refine lv_iconst (v := 0) hx hb dX5_read_71 (by decide) ?_
          obtain ⟨v_84828, v_84830, v_84832, v_84834, v_84836, v_84838, v_84840, v_84842, v_84844, p_ad_2_0, b_84829, b_84831, b_84833, b_84835, b_84837, b_84839, b_84841, b_84843, b_84845⟩ := opnC_2r (j := 0) I (by decide)
          have p_ad_2_0 : pt L_39 f_39 (ad 2 0) (.inr (5, [.ref (ad 50 0), .ref (ad 51 0), .ref (ad 52 0), .ref (ad 53 0), .int v_84828, .int v_84830, .int v_84832, .int v_84834, .int v_84836, .int v_84838, .int v_84840, .ref (ad 30 t), .int v_84842, .int v_84844])) := p_ad_2_0
          have tv_84828 : v_84828.toInt = (nN : Int) := lim_eq b_84829
          have tv_84830 : v_84830.toInt = (kNh : Int) := lim_eq b_84831
          have tv_84832 : v_84832.toInt = ((jh + 1 : Nat) : Int) := lim_eq b_84833
          have tv_84834 : v_84834.toInt = ((tkK (bI bT) nN) jh) := lim_eq b_84835
          have tv_84836 : v_84836.toInt = ((tkPI (bI bT) nN) jh) := lim_eq b_84837
          have tv_84838 : v_84838.toInt = ((tkV (bI bT) nN) jh) := lim_eq b_84839
          have tv_84840 : v_84840.toInt = lwh := lim_eq b_84841
          have tv_84842 : v_84842.toInt = fkh := lim_eq b_84843
          have tv_84844 : v_84844.toInt = fph := lim_eq b_84845
          refine pg_put S Y ok_X5 4 (by decide) kf5_31 rfl (fs' := [.ref (ad 50 0), .ref (ad 51 0), .ref (ad 52 0), .ref (ad 53 0), .int 0, .int v_84830, .int v_84832, .int v_84834, .int v_84836, .int v_84838, .int v_84840, .ref (ad 30 t), .int v_84842, .int v_84844]) (v := .int 0) p_ad_2_0 rfl rfl rfl (Nat.le_of_ble_eq_true rfl) dX5_read_72 (fun f_84846 H locs ef_84846 Y => ?_)
          have p_ad_2_0 := p_ad_2_0.me ef_84846
          have I := I.upS (sp' := spC ((RF 30 t, fz (pp 0) (pp (kNh : Int)) (pp ((jh + 1 : Nat) : Int)) (pp ((tkK (bI bT) nN) jh)) (pp ((tkPI (bI bT) nN) jh)) (pp ((tkV (bI bT) nN) jh)) (pp lwh) (pp fkh) (pp fph), tz (EQ bT) (RW kNh (tkK (bI bT) nN)) (RW kNh (tkPI (bI bT) nN)) (RW kNh (tkV (bI bT) nN)), sch) : RS) fc tc w q) (k := 2) (j := 0) (by decide) ef_84846 (okE_o (okFs_c okV_r (okFs_c okV_r (okFs_c okV_r (okFs_c okV_r (okFs_c (okV_p (lim_mk (bn_w (show bn 0 0 (0 : Int32) from bn_k (by decide)) (by decide) : bn 0 300 (0 : Int32)) (show (0 : Int32).toInt = 0 from rfl))) (okFs_c (okV_p b_84831) (okFs_c (okV_p b_84833) (okFs_c (okV_p b_84835) (okFs_c (okV_p b_84837) (okFs_c (okV_p b_84839) (okFs_c (okV_p b_84841) (okFs_c okV_r (okFs_c (okV_p b_84843) (okFs_c (okV_p b_84845) okFs_n))))))))))))))) rsC
          refine lv_iload_n hx hb dX5_read_75 rfl (lv_at hl 2 rfl) ?_
          exact prI (post := fun r L1 f1 => ∃ rr : Int × Nat, ∃ fk2 : Int, ∃ fp2 : Int, bn 0 1 r ∧ SH (spC ((NR 30 0 4, fz (pp 0) FI FI FI FI FI FI (pp fk2) (pp fp2), tz (EQ bT) TA TA TA, sc0) : RS) fc tc w q) nnC G ad L1 f1 ∧ RES (tkK (bI bT) nN) (tkV (bI bT) nN) (tkPI (bI bT) nN) rr fk2 fp2 r) S Y (nw_b (bn_w B_84826 (by decide))) (by decide) (by decide) hA1 ⟨(fkh, jh), fkh, fph, bn_w B_84826 (by decide), (rswC (rdOut I) h4), (RDI_b hJ (Or.inl c_84825))⟩ dX5_read_76
        · have B_84827 : bn 1 1 y39_2 := bn_w (bn_nel c_84825 b_y39_2 (show bn 0 0 (0 : Int32) from bn_k (by decide))) (by decide)
          refine lv_aload_n hx hb dX5_read_49 rfl (lv_at hl 0 rfl) ?_
          obtain ⟨v_84847, v_84849, v_84851, v_84853, v_84855, v_84857, v_84859, v_84861, v_84863, p_ad_2_0, b_84848, b_84850, b_84852, b_84854, b_84856, b_84858, b_84860, b_84862, b_84864⟩ := opnC_2r (j := 0) I (by decide)
          have p_ad_2_0 : pt L_39 f_39 (ad 2 0) (.inr (5, [.ref (ad 50 0), .ref (ad 51 0), .ref (ad 52 0), .ref (ad 53 0), .int v_84847, .int v_84849, .int v_84851, .int v_84853, .int v_84855, .int v_84857, .int v_84859, .ref (ad 30 t), .int v_84861, .int v_84863])) := p_ad_2_0
          have tv_84847 : v_84847.toInt = (nN : Int) := lim_eq b_84848
          have tv_84849 : v_84849.toInt = (kNh : Int) := lim_eq b_84850
          have tv_84851 : v_84851.toInt = ((jh + 1 : Nat) : Int) := lim_eq b_84852
          have tv_84853 : v_84853.toInt = ((tkK (bI bT) nN) jh) := lim_eq b_84854
          have tv_84855 : v_84855.toInt = ((tkPI (bI bT) nN) jh) := lim_eq b_84856
          have tv_84857 : v_84857.toInt = ((tkV (bI bT) nN) jh) := lim_eq b_84858
          have tv_84859 : v_84859.toInt = lwh := lim_eq b_84860
          have tv_84861 : v_84861.toInt = fkh := lim_eq b_84862
          have tv_84863 : v_84863.toInt = fph := lim_eq b_84864
          refine pg_get S Y ok_X5 7 (by decide) kf5_52 (v := .int v_84853) p_ad_2_0 rfl dX5_read_50 ?_
          refine lv_sipush (v := 1002) hx hb dX5_read_53 (by decide) ?_
          refine lv_icmp_eq (tgt := 70) hx hb dX5_read_56 (by decide) (fun c_84865 => ?_) (fun c_84865 => ?_)
          · have B_84866 : bn 1002 1002 v_84853 := bn_w (bn_eq c_84865 (show bn 1002 1002 (1002 : Int32) from bn_k (by decide))) (by decide)
            refine lv_aload_n hx hb dX5_read_70 rfl (lv_at hl 0 rfl) ?_
            refine lv_iconst (v := 0) hx hb dX5_read_71 (by decide) ?_
            refine pg_put S Y ok_X5 4 (by decide) kf5_31 rfl (fs' := [.ref (ad 50 0), .ref (ad 51 0), .ref (ad 52 0), .ref (ad 53 0), .int 0, .int v_84849, .int v_84851, .int v_84853, .int v_84855, .int v_84857, .int v_84859, .ref (ad 30 t), .int v_84861, .int v_84863]) (v := .int 0) p_ad_2_0 rfl rfl rfl (Nat.le_of_ble_eq_true rfl) dX5_read_72 (fun f_84867 H locs ef_84867 Y => ?_)
            have p_ad_2_0 := p_ad_2_0.me ef_84867
            have I := I.upS (sp' := spC ((RF 30 t, fz (pp 0) (pp (kNh : Int)) (pp ((jh + 1 : Nat) : Int)) (pp ((tkK (bI bT) nN) jh)) (pp ((tkPI (bI bT) nN) jh)) (pp ((tkV (bI bT) nN) jh)) (pp lwh) (pp fkh) (pp fph), tz (EQ bT) (RW kNh (tkK (bI bT) nN)) (RW kNh (tkPI (bI bT) nN)) (RW kNh (tkV (bI bT) nN)), sch) : RS) fc tc w q) (k := 2) (j := 0) (by decide) ef_84867 (okE_o (okFs_c okV_r (okFs_c okV_r (okFs_c okV_r (okFs_c okV_r (okFs_c (okV_p (lim_mk (bn_w (show bn 0 0 (0 : Int32) from bn_k (by decide)) (by decide) : bn 0 300 (0 : Int32)) (show (0 : Int32).toInt = 0 from rfl))) (okFs_c (okV_p b_84850) (okFs_c (okV_p b_84852) (okFs_c (okV_p b_84854) (okFs_c (okV_p b_84856) (okFs_c (okV_p b_84858) (okFs_c (okV_p b_84860) (okFs_c okV_r (okFs_c (okV_p b_84862) (okFs_c (okV_p b_84864) okFs_n))))))))))))))) rsC
            refine lv_iload_n hx hb dX5_read_75 rfl (lv_at hl 2 rfl) ?_
            exact prI (post := fun r L1 f1 => ∃ rr : Int × Nat, ∃ fk2 : Int, ∃ fp2 : Int, bn 0 1 r ∧ SH (spC ((NR 30 0 4, fz (pp 0) FI FI FI FI FI FI (pp fk2) (pp fp2), tz (EQ bT) TA TA TA, sc0) : RS) fc tc w q) nnC G ad L1 f1 ∧ RES (tkK (bI bT) nN) (tkV (bI bT) nN) (tkPI (bI bT) nN) rr fk2 fp2 r) S Y (nw_b (bn_w B_84827 (by decide))) (by decide) (by decide) hA1 ⟨(0, jh), fkh, fph, bn_w B_84827 (by decide), (rswC (rdOut I) h4), (RDI_c hJ c_84825 (tv_84853.symm.trans (by rw [c_84865]; rfl)))⟩ dX5_read_76
          · refine lv_aload_n hx hb dX5_read_59 rfl (lv_at hl 0 rfl) ?_
            obtain ⟨hf_84868, hf_84869, hj_84870, ⟨sl_84871, aF_84872, aT_84873, hs_84874, hl_84875, hl_84876, htr_84877⟩, hc_84878, hc_84879⟩ := RDI_g hJ c_84825
            refine cVi (As := []) (rest := []) S Y (x_X5_readClause (l := l) (t := t) I hW hT hQ h4 hJ.1 hj_84870 hs_84874 ⟨hl_84875, hl_84876⟩ ⟨hc_84878, hc_84879⟩ (fun q => c_84865 (Int32.toInt_inj.mp (tv_84853.trans (q.trans rfl))))) cw_X5_readClause km5_55 p_ad_2_0 ok_X5.1 rfl rfl ⟨Nat.le_of_ble_eq_true rfl, Nat.le_of_ble_eq_true rfl⟩ hl.1 rfl (Nat.le_of_ble_eq_true rfl) ⟨Nat.le_of_ble_eq_true rfl, Nat.le_of_ble_eq_true rfl⟩ dX5_read_60 (fun r_84882 L_84880 f_84881 H locs hr_84882 Y => ?_)
            obtain ⟨j2_84883, fk2_84884, fp2_84885, lw2_84886, sc2_84887, er_84882, I, eC_84888⟩ := hr_84882
            refine lv_istore_n (lv' := [(2, .int r_84882), (0, .ref (ad 2 0)), (1, .ref (ad 30 t)), (3, .int y39_3)]) hx hb dX5_read_63 rfl hl (by decide) rfl (fun ls hl => ?_)
            obtain ⟨x_84889, ex_84889⟩ : ∃ z : Int32, z = y39_3 + 1 := ⟨_, rfl⟩
            refine lv_iinc (v := x_84889) (lv' := [(3, .int x_84889), (2, .int r_84882), (0, .ref (ad 2 0)), (1, .ref (ad 30 t))]) hx hb dX5_read_64 hl (k := 3) rfl (by rw [ex_84889]; rfl) (by decide) rfl (fun ls hl => ?_)
            refine lv_goto (tgt := 39) hx hb dX5_read_67 (by decide) ?_
            exact ih39 _ (by rw [← hm39]; exact ms_up (m := 1) ex_84889 (show bn 1 1 (1 : Int32) from bn_k (by decide)) B_84805 (bn_w (bn_eq ex_84889 (bn_add B_84805 (show bn 1 1 (1 : Int32) from bn_k (by decide)) (by decide))) (by decide) : bn 0 25 x_84889) (by decide)) r_84882 x_84889 kNh j2_84883 sc2_84887 lw2_84886 fk2_84884 fp2_84885 _ _  _ _ _ I (bn_w er_84882 (by decide)) (bn_w (bn_eq ex_84889 (bn_add B_84805 (show bn 1 1 (1 : Int32) from bn_k (by decide)) (by decide))) (by decide)) (RDI_s hJ c_84825 hl_84876 hl_84875 htr_84877 eC_84888 (la_add ex_84889 (rfl : y39_3.toInt = y39_3.toInt) (show (1 : Int32).toInt = 1 from rfl) B_84805 (show bn 1 1 (1 : Int32) from bn_k (by decide)) (by decide))) rfl Y (lv_sub hl [2, 3, 1, 0] rfl)
  refine lv_aload_n hx hb dX5_read_0 rfl (lv_at hl 0 rfl) ?_
  refine lv_aload_n hx hb dX5_read_1 rfl (lv_at hl 1 rfl) ?_
  obtain ⟨v_84890, v_84892, v_84894, v_84896, v_84898, v_84900, v_84902, v_84904, v_84906, v_84908, p_ad_2_0, b_84891, b_84893, b_84895, b_84897, b_84899, b_84901, b_84903, b_84905, b_84907, b_84909⟩ := opnC_2 (j := 0) I (by decide)
  have p_ad_2_0 : pt L f (ad 2 0) (.inr (5, [.ref (ad 50 0), .ref (ad 51 0), .ref (ad 52 0), .ref (ad 53 0), .int v_84890, .int v_84892, .int v_84894, .int v_84896, .int v_84898, .int v_84900, .int v_84902, v_84904, .int v_84906, .int v_84908])) := p_ad_2_0
  have tv_84890 : v_84890.toInt = (nN : Int) := lim_eq b_84891
  refine pg_put S Y ok_X5 11 (by decide) kf5_34 rfl (fs' := [.ref (ad 50 0), .ref (ad 51 0), .ref (ad 52 0), .ref (ad 53 0), .int v_84890, .int v_84892, .int v_84894, .int v_84896, .int v_84898, .int v_84900, .int v_84902, .ref (ad 30 t), .int v_84906, .int v_84908]) (v := .ref (ad 30 t)) p_ad_2_0 rfl rfl rfl (Nat.le_of_ble_eq_true rfl) dX5_read_2 (fun f_84910 H locs ef_84910 Y => ?_)
  have p_ad_2_0 := p_ad_2_0.me ef_84910
  have I := I.upS (sp' := spC ((RF 30 t, fz (pp (nN : Int)) zC zR zK zP zV zW zF zQ, tz (EQ bT) tU tP tV, sc) : RS) fc tc w q) (k := 2) (j := 0) (by decide) ef_84910 (okE_o (okFs_c okV_r (okFs_c okV_r (okFs_c okV_r (okFs_c okV_r (okFs_c (okV_p b_84891) (okFs_c (okV_p b_84893) (okFs_c (okV_p b_84895) (okFs_c (okV_p b_84897) (okFs_c (okV_p b_84899) (okFs_c (okV_p b_84901) (okFs_c (okV_p b_84903) (okFs_c okV_r (okFs_c (okV_p b_84907) (okFs_c (okV_p b_84909) okFs_n))))))))))))))) rsC
  refine lv_aload_n hx hb dX5_read_5 rfl (lv_at hl 0 rfl) ?_
  refine pg_get S Y ok_X5 11 (by decide) kf5_34 (v := .ref (ad 30 t)) p_ad_2_0 rfl dX5_read_6 ?_
  refine cVv (As := []) (rest := []) S Y (x_X7_clear (l := l) (j := t) I hW hT hQ ht rfl) cw_X7_clear km5_38 (I.opo (k := 30) (j := t) ht rfl).choose_spec.1 ok_X7.1 rfl rfl ⟨Nat.le_of_ble_eq_true rfl, Nat.le_of_ble_eq_true rfl⟩ hl.1 rfl (Nat.le_of_ble_eq_true rfl) ⟨Nat.le_of_ble_eq_true rfl, Nat.le_of_ble_eq_true rfl⟩ dX5_read_9 (fun L_84911 f_84912 H locs hr_84913 Y => ?_)
  obtain ⟨sc2_84914, I, es_84915⟩ := hr_84913
  refine lv_aload_n hx hb dX5_read_12 rfl (lv_at hl 0 rfl) ?_
  refine lv_iconst (v := 0) hx hb dX5_read_13 (by decide) ?_
  obtain ⟨v_84916, v_84918, v_84920, v_84922, v_84924, v_84926, v_84928, v_84930, v_84932, p_ad_2_0, b_84917, b_84919, b_84921, b_84923, b_84925, b_84927, b_84929, b_84931, b_84933⟩ := opnC_2r (j := 0) I (by decide)
  have p_ad_2_0 : pt L_84911 f_84912 (ad 2 0) (.inr (5, [.ref (ad 50 0), .ref (ad 51 0), .ref (ad 52 0), .ref (ad 53 0), .int v_84916, .int v_84918, .int v_84920, .int v_84922, .int v_84924, .int v_84926, .int v_84928, .ref (ad 30 t), .int v_84930, .int v_84932])) := p_ad_2_0
  have tv_84916 : v_84916.toInt = (nN : Int) := lim_eq b_84917
  refine pg_put S Y ok_X5 12 (by decide) kf5_24 rfl (fs' := [.ref (ad 50 0), .ref (ad 51 0), .ref (ad 52 0), .ref (ad 53 0), .int v_84916, .int v_84918, .int v_84920, .int v_84922, .int v_84924, .int v_84926, .int v_84928, .ref (ad 30 t), .int 0, .int v_84932]) (v := .int 0) p_ad_2_0 rfl rfl rfl (Nat.le_of_ble_eq_true rfl) dX5_read_14 (fun f_84934 H locs ef_84934 Y => ?_)
  have p_ad_2_0 := p_ad_2_0.me ef_84934
  have I := I.upS (sp' := spC ((RF 30 t, fz (pp (nN : Int)) zC zR zK zP zV zW (pp 0) zQ, tz (EQ bT) tU tP tV, sc2_84914) : RS) fc tc w q) (k := 2) (j := 0) (by decide) ef_84934 (okE_o (okFs_c okV_r (okFs_c okV_r (okFs_c okV_r (okFs_c okV_r (okFs_c (okV_p b_84917) (okFs_c (okV_p b_84919) (okFs_c (okV_p b_84921) (okFs_c (okV_p b_84923) (okFs_c (okV_p b_84925) (okFs_c (okV_p b_84927) (okFs_c (okV_p b_84929) (okFs_c okV_r (okFs_c (okV_p (lim_mk (bn_w (show bn 0 0 (0 : Int32) from bn_k (by decide)) (by decide) : bn (-2147483648) 2147483647 (0 : Int32)) (show (0 : Int32).toInt = 0 from rfl))) (okFs_c (okV_p b_84933) okFs_n))))))))))))))) rsC
  refine lv_aload_n hx hb dX5_read_17 rfl (lv_at hl 0 rfl) ?_
  refine lv_iconst (v := (-1)) hx hb dX5_read_18 (by decide) ?_
  refine pg_put S Y ok_X5 13 (by decide) kf5_28 rfl (fs' := [.ref (ad 50 0), .ref (ad 51 0), .ref (ad 52 0), .ref (ad 53 0), .int v_84916, .int v_84918, .int v_84920, .int v_84922, .int v_84924, .int v_84926, .int v_84928, .ref (ad 30 t), .int 0, .int (-1)]) (v := .int (-1)) p_ad_2_0 rfl rfl rfl (Nat.le_of_ble_eq_true rfl) dX5_read_19 (fun f_84935 H locs ef_84935 Y => ?_)
  have p_ad_2_0 := p_ad_2_0.me ef_84935
  have I := I.upS (sp' := spC ((RF 30 t, fz (pp (nN : Int)) zC zR zK zP zV zW (pp 0) (pp (-1)), tz (EQ bT) tU tP tV, sc2_84914) : RS) fc tc w q) (k := 2) (j := 0) (by decide) ef_84935 (okE_o (okFs_c okV_r (okFs_c okV_r (okFs_c okV_r (okFs_c okV_r (okFs_c (okV_p b_84917) (okFs_c (okV_p b_84919) (okFs_c (okV_p b_84921) (okFs_c (okV_p b_84923) (okFs_c (okV_p b_84925) (okFs_c (okV_p b_84927) (okFs_c (okV_p b_84929) (okFs_c okV_r (okFs_c (okV_p (lim_mk (bn_w (show bn 0 0 (0 : Int32) from bn_k (by decide)) (by decide) : bn (-2147483648) 2147483647 (0 : Int32)) (show (0 : Int32).toInt = 0 from rfl))) (okFs_c (okV_p (lim_mk (bn_w (show bn (-1) (-1) ((-1) : Int32) from bn_k (by decide)) (by decide) : bn (-2147483648) 2147483647 ((-1) : Int32)) (show ((-1) : Int32).toInt = (-1) from rfl))) okFs_n))))))))))))))) rsC
  refine lv_aload_n hx hb dX5_read_22 rfl (lv_at hl 0 rfl) ?_
  refine zVv (As := []) (rest := []) S Y hz (x_X5_cutTokens (l := l) I hW hT hQ hn3 hB) cw_X5_cutTokens km5_43 (recvO S Y (I.opo (k := 2) (j := 0) (by decide) rfl).choose_spec.1 ok_X5.1 rfl) rfl ⟨Nat.le_of_ble_eq_true rfl, Nat.le_of_ble_eq_true rfl⟩ hl.1 rfl (Nat.le_of_ble_eq_true rfl) ⟨Nat.le_of_ble_eq_true rfl, Nat.le_of_ble_eq_true rfl⟩ dX5_read_23 (fun L_84936 f_84937 H locs hr_84938 Y => ?_)
  obtain ⟨kN2_84939, I, eH_84940⟩ := hr_84938
  refine lv_aload_n hx hb dX5_read_26 rfl (lv_at hl 0 rfl) ?_
  refine lv_iconst (v := 0) hx hb dX5_read_27 (by decide) ?_
  obtain ⟨v_84941, v_84943, v_84945, v_84947, v_84949, v_84951, v_84953, v_84955, v_84957, p_ad_2_0, b_84942, b_84944, b_84946, b_84948, b_84950, b_84952, b_84954, b_84956, b_84958⟩ := opnC_2r (j := 0) I (by decide)
  have p_ad_2_0 : pt L_84936 f_84937 (ad 2 0) (.inr (5, [.ref (ad 50 0), .ref (ad 51 0), .ref (ad 52 0), .ref (ad 53 0), .int v_84941, .int v_84943, .int v_84945, .int v_84947, .int v_84949, .int v_84951, .int v_84953, .ref (ad 30 t), .int v_84955, .int v_84957])) := p_ad_2_0
  have tv_84941 : v_84941.toInt = (nN : Int) := lim_eq b_84942
  have tv_84943 : v_84943.toInt = (kN2_84939 : Int) := lim_eq b_84944
  have tv_84955 : v_84955.toInt = 0 := lim_eq b_84956
  have tv_84957 : v_84957.toInt = (-1) := lim_eq b_84958
  refine pg_put S Y ok_X5 6 (by decide) kf5_46 rfl (fs' := [.ref (ad 50 0), .ref (ad 51 0), .ref (ad 52 0), .ref (ad 53 0), .int v_84941, .int v_84943, .int 0, .int v_84947, .int v_84949, .int v_84951, .int v_84953, .ref (ad 30 t), .int v_84955, .int v_84957]) (v := .int 0) p_ad_2_0 rfl rfl rfl (Nat.le_of_ble_eq_true rfl) dX5_read_28 (fun f_84959 H locs ef_84959 Y => ?_)
  have p_ad_2_0 := p_ad_2_0.me ef_84959
  have I := I.upS (sp' := spC ((RF 30 t, fz (pp (nN : Int)) (pp (kN2_84939 : Int)) (pp 0) zK zP zV zW (pp 0) (pp (-1)), tz (EQ bT) (RW kN2_84939 (tkK (bI bT) nN)) (RW kN2_84939 (tkPI (bI bT) nN)) (RW kN2_84939 (tkV (bI bT) nN)), sc2_84914) : RS) fc tc w q) (k := 2) (j := 0) (by decide) ef_84959 (okE_o (okFs_c okV_r (okFs_c okV_r (okFs_c okV_r (okFs_c okV_r (okFs_c (okV_p b_84942) (okFs_c (okV_p b_84944) (okFs_c (okV_p (lim_mk (bn_w (show bn 0 0 (0 : Int32) from bn_k (by decide)) (by decide) : bn (-2147483648) 2147483647 (0 : Int32)) (show (0 : Int32).toInt = 0 from rfl))) (okFs_c (okV_p b_84948) (okFs_c (okV_p b_84950) (okFs_c (okV_p b_84952) (okFs_c (okV_p b_84954) (okFs_c okV_r (okFs_c (okV_p b_84956) (okFs_c (okV_p b_84958) okFs_n))))))))))))))) rsC
  refine lv_aload_n hx hb dX5_read_31 rfl (lv_at hl 0 rfl) ?_
  have I := I.castS (sp' := spC ((RF 30 t, fz (pp (nN : Int)) (pp (kN2_84939 : Int)) (pp 0) zK zP zV (pp v_84953.toInt) (pp 0) (pp (-1)), tz (EQ bT) (RW kN2_84939 (tkK (bI bT) nN)) (RW kN2_84939 (tkPI (bI bT) nN)) (RW kN2_84939 (tkV (bI bT) nN)), sc2_84914) : RS) fc tc w q) (k := 2) (j := 0) (by decide) p_ad_2_0 (okE_o (okFs_c okV_r (okFs_c okV_r (okFs_c okV_r (okFs_c okV_r (okFs_c (okV_p b_84942) (okFs_c (okV_p b_84944) (okFs_c (okV_p (lim_mk (bn_w (show bn 0 0 (0 : Int32) from bn_k (by decide)) (by decide) : bn (-2147483648) 2147483647 (0 : Int32)) (show (0 : Int32).toInt = 0 from rfl))) (okFs_c (okV_p b_84948) (okFs_c (okV_p b_84950) (okFs_c (okV_p b_84952) (okFs_c (okV_p (lim_mk (bn_any v_84953) rfl)) (okFs_c okV_r (okFs_c (okV_p b_84956) (okFs_c (okV_p b_84958) okFs_n))))))))))))))) rsC
  have hN : RDH (tkK (bI bT) nN) kN2_84939 := eH_84940
  have I : SH (spC ((RF 30 t, fz (pp (nN : Int)) (pp (kN2_84939 : Int)) (pp ((0 : Nat) : Int)) zK zP zV (pp v_84953.toInt) (pp 0) (pp (-1)), tz (EQ bT) (RW kN2_84939 (tkK (bI bT) nN)) (RW kN2_84939 (tkPI (bI bT) nN)) (RW kN2_84939 (tkV (bI bT) nN)), sc2_84914) : RS) fc tc w q) nnC G ad L_84936 f_84959 := I
  refine cVv (As := []) (rest := []) S Y (x_X5_step (l := l) (iT := 0) I hW hT hQ hN (Nat.lt_of_lt_of_le Nat.zero_lt_one hN.1)) cw_X5_step km5_49 p_ad_2_0 ok_X5.1 rfl rfl ⟨Nat.le_of_ble_eq_true rfl, Nat.le_of_ble_eq_true rfl⟩ hl.1 rfl (Nat.le_of_ble_eq_true rfl) ⟨Nat.le_of_ble_eq_true rfl, Nat.le_of_ble_eq_true rfl⟩ dX5_read_32 (fun L_84960 f_84961 H locs I Y => ?_)
  refine lv_iconst (v := 1) hx hb dX5_read_35 (by decide) ?_
  refine lv_istore_n (lv' := [(2, .int 1), (0, .ref (ad 2 0)), (1, .ref (ad 30 t))]) hx hb dX5_read_36 rfl hl (by decide) rfl (fun ls hl => ?_)
  refine lv_iconst (v := 0) hx hb dX5_read_37 (by decide) ?_
  refine lv_istore_n (lv' := [(3, .int 0), (2, .int 1), (0, .ref (ad 2 0)), (1, .ref (ad 30 t))]) hx hb dX5_read_38 rfl hl (by decide) rfl (fun ls hl => ?_)
  exact J_39 _ 1 0 kN2_84939 0 sc2_84914 v_84953.toInt 0 (-1) _ _  _ _ _ I (bn_w (show bn 1 1 (1 : Int32) from bn_k (by decide)) (by decide)) (bn_w (show bn 0 0 (0 : Int32) from bn_k (by decide)) (by decide)) (RDI_0 hN es_84915) rfl Y (lv_sub hl [2, 3, 1, 0] rfl)
