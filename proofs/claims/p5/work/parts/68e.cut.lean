theorem dX5_cutSign_0 : decode cX5_cutSign 0 = .ok (.aload_n 0, 1) := by decide +kernel
theorem dX5_cutSign_1 : decode cX5_cutSign 1 = .ok (.iload_n 1, 1) := by decide +kernel
theorem dX5_cutSign_2 : decode cX5_cutSign 2 = .ok (.invokevirtual 65, 3) := by decide +kernel
theorem dX5_cutSign_5 : decode cX5_cutSign 5 = .ok (.istore_n 2, 1) := by decide +kernel
theorem dX5_cutSign_6 : decode cX5_cutSign 6 = .ok (.iload_n 2, 1) := by decide +kernel
theorem dX5_cutSign_7 : decode cX5_cutSign 7 = .ok (.bipush 60, 2) := by decide +kernel
theorem dX5_cutSign_9 : decode cX5_cutSign 9 = .ok (.if_icmp .eq 9, 3) := by decide +kernel
theorem dX5_cutSign_18 : decode cX5_cutSign 18 = .ok (.aload_n 0, 1) := by decide +kernel
theorem dX5_cutSign_19 : decode cX5_cutSign 19 = .ok (.iload_n 1, 1) := by decide +kernel
theorem dX5_cutSign_20 : decode cX5_cutSign 20 = .ok (.iconst 1, 1) := by decide +kernel
theorem dX5_cutSign_21 : decode cX5_cutSign 21 = .ok (.iadd, 1) := by decide +kernel
theorem dX5_cutSign_22 : decode cX5_cutSign 22 = .ok (.invokevirtual 65, 3) := by decide +kernel
theorem dX5_cutSign_25 : decode cX5_cutSign 25 = .ok (.bipush 61, 2) := by decide +kernel
theorem dX5_cutSign_27 : decode cX5_cutSign 27 = .ok (.if_icmp .ne 7, 3) := by decide +kernel
theorem dX5_cutSign_34 : decode cX5_cutSign 34 = .ok (.iconst 0, 1) := by decide +kernel
theorem dX5_cutSign_35 : decode cX5_cutSign 35 = .ok (.istore_n 3, 1) := by decide +kernel
theorem dX5_cutSign_36 : decode cX5_cutSign 36 = .ok (.ldc 113, 2) := by decide +kernel
theorem dX5_cutSign_38 : decode cX5_cutSign 38 = .ok (.iload_n 2, 1) := by decide +kernel
theorem dX5_cutSign_39 : decode cX5_cutSign 39 = .ok (.i2c, 1) := by decide +kernel
theorem dX5_cutSign_40 : decode cX5_cutSign 40 = .ok (.invokevirtual 115, 3) := by decide +kernel
theorem cw_X100_indexOf_0f7a4 : CWv yJ0_indexOf_0f7a4 cJ0_indexOf_0f7a4 2 (some .int) 1 := ⟨⟨⟨List.mem_of_getElem? (i := 138) (by decide +kernel), by decide +kernel⟩, ⟨List.mem_of_getElem? (i := 676) (by decide +kernel), by decide +kernel⟩, by decide +kernel⟩, ⟨List.mem_of_getElem? (i := 674) (by decide +kernel), by decide +kernel⟩, ⟨List.mem_of_getElem? (i := 675) (by decide +kernel), by decide +kernel⟩⟩
theorem km5_115 : inW (Cond.methodLink RX5 115 yJ0_indexOf_0f7a4) := ⟨List.mem_of_getElem? (i := 673) (by decide +kernel), by decide +kernel⟩
theorem dX5_cutSign_43 : decode cX5_cutSign 43 = .ok (.ifCond .lt 7, 3) := by decide +kernel
theorem dX5_cutSign_50 : decode cX5_cutSign 50 = .ok (.sipush 1001, 3) := by decide +kernel
theorem dX5_cutSign_53 : decode cX5_cutSign 53 = .ok (.istore 4, 2) := by decide +kernel
theorem dX5_cutSign_55 : decode cX5_cutSign 55 = .ok (.aload_n 0, 1) := by decide +kernel
theorem dX5_cutSign_56 : decode cX5_cutSign 56 = .ok (.iload_n 3, 1) := by decide +kernel
theorem dX5_cutSign_57 : decode cX5_cutSign 57 = .ok (.ifCond .eq 11, 3) := by decide +kernel
theorem dX5_cutSign_68 : decode cX5_cutSign 68 = .ok (.iload 4, 2) := by decide +kernel
theorem dX5_cutSign_70 : decode cX5_cutSign 70 = .ok (.iload_n 1, 1) := by decide +kernel
theorem dX5_cutSign_71 : decode cX5_cutSign 71 = .ok (.iconst 0, 1) := by decide +kernel
theorem dX5_cutSign_72 : decode cX5_cutSign 72 = .ok (.invokevirtual 85, 3) := by decide +kernel
theorem dX5_cutSign_75 : decode cX5_cutSign 75 = .ok (.iload_n 3, 1) := by decide +kernel
theorem dX5_cutSign_76 : decode cX5_cutSign 76 = .ok (.ifCond .eq 9, 3) := by decide +kernel
theorem dX5_cutSign_85 : decode cX5_cutSign 85 = .ok (.iload_n 1, 1) := by decide +kernel
theorem dX5_cutSign_86 : decode cX5_cutSign 86 = .ok (.iconst 1, 1) := by decide +kernel
theorem dX5_cutSign_87 : decode cX5_cutSign 87 = .ok (.iadd, 1) := by decide +kernel
theorem dX5_cutSign_88 : decode cX5_cutSign 88 = .ok (.ireturn, 1) := by decide +kernel
theorem dX5_cutSign_46 : decode cX5_cutSign 46 = .ok (.iload_n 2, 1) := by decide +kernel
theorem dX5_cutSign_47 : decode cX5_cutSign 47 = .ok (.goto 6, 3) := by decide +kernel
theorem dX5_cutSign_30 : decode cX5_cutSign 30 = .ok (.iconst 1, 1) := by decide +kernel
theorem dX5_cutSign_31 : decode cX5_cutSign 31 = .ok (.goto 4, 3) := by decide +kernel
theorem dX5_cutSign_60 : decode cX5_cutSign 60 = .ok (.iload_n 2, 1) := by decide +kernel
theorem dX5_cutSign_61 : decode cX5_cutSign 61 = .ok (.sipush 256, 3) := by decide +kernel
theorem dX5_cutSign_64 : decode cX5_cutSign 64 = .ok (.iadd, 1) := by decide +kernel
theorem dX5_cutSign_65 : decode cX5_cutSign 65 = .ok (.goto 5, 3) := by decide +kernel
theorem dX5_cutSign_79 : decode cX5_cutSign 79 = .ok (.iload_n 1, 1) := by decide +kernel
theorem dX5_cutSign_80 : decode cX5_cutSign 80 = .ok (.iconst 2, 1) := by decide +kernel
theorem dX5_cutSign_81 : decode cX5_cutSign 81 = .ok (.iadd, 1) := by decide +kernel
theorem dX5_cutSign_82 : decode cX5_cutSign 82 = .ok (.goto 6, 3) := by decide +kernel
theorem dX5_cutSign_12 : decode cX5_cutSign 12 = .ok (.iload_n 2, 1) := by decide +kernel
theorem dX5_cutSign_13 : decode cX5_cutSign 13 = .ok (.bipush 62, 2) := by decide +kernel
theorem dX5_cutSign_15 : decode cX5_cutSign 15 = .ok (.if_icmp .ne 19, 3) := by decide +kernel
theorem dX5_cutTokens_0 : decode cX5_cutTokens 0 = .ok (.aload_n 0, 1) := by decide +kernel
theorem dX5_cutTokens_1 : decode cX5_cutTokens 1 = .ok (.iconst 0, 1) := by decide +kernel
theorem dX5_cutTokens_2 : decode cX5_cutTokens 2 = .ok (.putfield 62, 3) := by decide +kernel
theorem dX5_cutTokens_5 : decode cX5_cutTokens 5 = .ok (.iconst 0, 1) := by decide +kernel
theorem dX5_cutTokens_6 : decode cX5_cutTokens 6 = .ok (.istore_n 1, 1) := by decide +kernel
theorem dX5_cutTokens_7 : decode cX5_cutTokens 7 = .ok (.iconst 0, 1) := by decide +kernel
theorem dX5_cutTokens_8 : decode cX5_cutTokens 8 = .ok (.istore_n 2, 1) := by decide +kernel
theorem dX5_cutTokens_9 : decode cX5_cutTokens 9 = .ok (.iload_n 2, 1) := by decide +kernel
theorem dX5_cutTokens_10 : decode cX5_cutTokens 10 = .ok (.sipush 300, 3) := by decide +kernel
theorem dX5_cutTokens_13 : decode cX5_cutTokens 13 = .ok (.if_icmp .ge 79, 3) := by decide +kernel
theorem dX5_cutTokens_16 : decode cX5_cutTokens 16 = .ok (.iload_n 1, 1) := by decide +kernel
theorem dX5_cutTokens_17 : decode cX5_cutTokens 17 = .ok (.aload_n 0, 1) := by decide +kernel
theorem dX5_cutTokens_18 : decode cX5_cutTokens 18 = .ok (.getfield 31, 3) := by decide +kernel
theorem dX5_cutTokens_21 : decode cX5_cutTokens 21 = .ok (.if_icmp .ge 71, 3) := by decide +kernel
theorem dX5_cutTokens_92 : decode cX5_cutTokens 92 = .ok (.aload_n 0, 1) := by decide +kernel
theorem dX5_cutTokens_93 : decode cX5_cutTokens 93 = .ok (.sipush 1002, 3) := by decide +kernel
theorem dX5_cutTokens_96 : decode cX5_cutTokens 96 = .ok (.aload_n 0, 1) := by decide +kernel
theorem dX5_cutTokens_97 : decode cX5_cutTokens 97 = .ok (.getfield 31, 3) := by decide +kernel
theorem dX5_cutTokens_100 : decode cX5_cutTokens 100 = .ok (.iconst 0, 1) := by decide +kernel
theorem dX5_cutTokens_101 : decode cX5_cutTokens 101 = .ok (.invokevirtual 85, 3) := by decide +kernel
theorem dX5_cutTokens_104 : decode cX5_cutTokens 104 = .ok (.return_, 1) := by decide +kernel
theorem dX5_cutTokens_24 : decode cX5_cutTokens 24 = .ok (.aload_n 0, 1) := by decide +kernel
theorem dX5_cutTokens_25 : decode cX5_cutTokens 25 = .ok (.iload_n 1, 1) := by decide +kernel
theorem dX5_cutTokens_26 : decode cX5_cutTokens 26 = .ok (.invokevirtual 65, 3) := by decide +kernel
theorem dX5_cutTokens_29 : decode cX5_cutTokens 29 = .ok (.istore_n 3, 1) := by decide +kernel
theorem dX5_cutTokens_30 : decode cX5_cutTokens 30 = .ok (.iload_n 3, 1) := by decide +kernel
theorem dX5_cutTokens_31 : decode cX5_cutTokens 31 = .ok (.bipush 32, 2) := by decide +kernel
theorem dX5_cutTokens_33 : decode cX5_cutTokens 33 = .ok (.if_icmp .eq 9, 3) := by decide +kernel
theorem dX5_cutTokens_42 : decode cX5_cutTokens 42 = .ok (.iinc 1 1, 3) := by decide +kernel
theorem dX5_cutTokens_45 : decode cX5_cutTokens 45 = .ok (.goto 41, 3) := by decide +kernel
theorem dX5_cutTokens_86 : decode cX5_cutTokens 86 = .ok (.iinc 2 1, 3) := by decide +kernel
theorem dX5_cutTokens_89 : decode cX5_cutTokens 89 = .ok (.goto (-80), 3) := by decide +kernel
theorem dX5_cutTokens_36 : decode cX5_cutTokens 36 = .ok (.iload_n 3, 1) := by decide +kernel
theorem dX5_cutTokens_37 : decode cX5_cutTokens 37 = .ok (.bipush 10, 2) := by decide +kernel
theorem dX5_cutTokens_39 : decode cX5_cutTokens 39 = .ok (.if_icmp .ne 9, 3) := by decide +kernel
theorem dX5_cutTokens_48 : decode cX5_cutTokens 48 = .ok (.iload_n 3, 1) := by decide +kernel
theorem dX5_cutTokens_49 : decode cX5_cutTokens 49 = .ok (.invokestatic 69, 3) := by decide +kernel
theorem dX5_cutTokens_52 : decode cX5_cutTokens 52 = .ok (.ifCond .eq 12, 3) := by decide +kernel
theorem dX5_cutTokens_64 : decode cX5_cutTokens 64 = .ok (.iload_n 3, 1) := by decide +kernel
theorem dX5_cutTokens_65 : decode cX5_cutTokens 65 = .ok (.invokestatic 76, 3) := by decide +kernel
theorem dX5_cutTokens_68 : decode cX5_cutTokens 68 = .ok (.ifCond .eq 12, 3) := by decide +kernel
theorem dX5_cutTokens_80 : decode cX5_cutTokens 80 = .ok (.aload_n 0, 1) := by decide +kernel
theorem dX5_cutTokens_81 : decode cX5_cutTokens 81 = .ok (.iload_n 1, 1) := by decide +kernel
theorem dX5_cutTokens_82 : decode cX5_cutTokens 82 = .ok (.invokevirtual 82, 3) := by decide +kernel
theorem cw_X5_cutSign : CWv yX5_cutSign cX5_cutSign 5 (some .int) 1 := ⟨⟨⟨List.mem_of_getElem? (i := 130) (by decide +kernel), by decide +kernel⟩, ⟨List.mem_of_getElem? (i := 671) (by decide +kernel), by decide +kernel⟩, by decide +kernel⟩, ⟨List.mem_of_getElem? (i := 670) (by decide +kernel), by decide +kernel⟩, ⟨List.mem_of_getElem? (i := 7) (by decide +kernel), by decide +kernel⟩⟩
theorem km5_82 : inW (Cond.methodLink RX5 82 yX5_cutSign) := ⟨List.mem_of_getElem? (i := 668) (by decide +kernel), by decide +kernel⟩
theorem dX5_cutTokens_85 : decode cX5_cutTokens 85 = .ok (.istore_n 1, 1) := by decide +kernel
theorem dX5_cutTokens_71 : decode cX5_cutTokens 71 = .ok (.aload_n 0, 1) := by decide +kernel
theorem dX5_cutTokens_72 : decode cX5_cutTokens 72 = .ok (.iload_n 1, 1) := by decide +kernel
theorem dX5_cutTokens_73 : decode cX5_cutTokens 73 = .ok (.invokevirtual 79, 3) := by decide +kernel
theorem cw_X5_cutNumber : CWv yX5_cutNumber cX5_cutNumber 4 (some .int) 1 := ⟨⟨⟨List.mem_of_getElem? (i := 130) (by decide +kernel), by decide +kernel⟩, ⟨List.mem_of_getElem? (i := 666) (by decide +kernel), by decide +kernel⟩, by decide +kernel⟩, ⟨List.mem_of_getElem? (i := 665) (by decide +kernel), by decide +kernel⟩, ⟨List.mem_of_getElem? (i := 6) (by decide +kernel), by decide +kernel⟩⟩
theorem km5_79 : inW (Cond.methodLink RX5 79 yX5_cutNumber) := ⟨List.mem_of_getElem? (i := 663) (by decide +kernel), by decide +kernel⟩
theorem dX5_cutTokens_76 : decode cX5_cutTokens 76 = .ok (.istore_n 1, 1) := by decide +kernel
theorem dX5_cutTokens_77 : decode cX5_cutTokens 77 = .ok (.goto 9, 3) := by decide +kernel
theorem dX5_cutTokens_55 : decode cX5_cutTokens 55 = .ok (.aload_n 0, 1) := by decide +kernel
theorem dX5_cutTokens_56 : decode cX5_cutTokens 56 = .ok (.iload_n 1, 1) := by decide +kernel
theorem dX5_cutTokens_57 : decode cX5_cutTokens 57 = .ok (.invokevirtual 73, 3) := by decide +kernel
theorem cw_X5_cutWord : CWv yX5_cutWord cX5_cutWord 3 (some .int) 1 := ⟨⟨⟨List.mem_of_getElem? (i := 130) (by decide +kernel), by decide +kernel⟩, ⟨List.mem_of_getElem? (i := 598) (by decide +kernel), by decide +kernel⟩, by decide +kernel⟩, ⟨List.mem_of_getElem? (i := 597) (by decide +kernel), by decide +kernel⟩, ⟨List.mem_of_getElem? (i := 2) (by decide +kernel), by decide +kernel⟩⟩
theorem km5_73 : inW (Cond.methodLink RX5 73 yX5_cutWord) := ⟨List.mem_of_getElem? (i := 595) (by decide +kernel), by decide +kernel⟩
theorem dX5_cutTokens_60 : decode cX5_cutTokens 60 = .ok (.istore_n 1, 1) := by decide +kernel
theorem dX5_cutTokens_61 : decode cX5_cutTokens 61 = .ok (.goto 25, 3) := by decide +kernel
section SGR
variable {bT : Nat → Int32} {nN p n a f : Nat} {r0 r1 r2 x xc : Int32} {B : Nat → Int} {v : Int}
theorem sg_y (h0 : r0.toInt = bI bT p) (hs : r0 = 60 ∨ r0 = 62) (e1 : r1 = byA bT (nN : Int) x) (hx : x.toInt = (p : Int) + 1) (h1 : r1 = 61) : sgT (bI bT) nN p = (bI bT p + 256, p + 2) := by
  have hlt : (p : Int) + 1 < nN := by
    apply Int.not_le.mp
    intro q
    have e := byA_out e1 (by omega)
    rw [h1] at e
    exact absurd e (by decide)
  have e2 := byA_in (a := p + 1) e1 (by omega) (by omega)
  rw [h1] at e2
  have e2 : (61 : Int) = bI bT (p + 1) := e2
  unfold sgT
  rw [if_pos ⟨by rcases hs with h | h <;> (rw [h] at h0; exact (by have k : _ = bI bT p := h0; first | exact Or.inl k.symm | exact Or.inr k.symm)), by omega, e2.symm⟩]
theorem sg_n1 (h0 : r0.toInt = bI bT p) (h1 : ¬ r0 = 60) (h2 : ¬ r0 = 62) : sgT (bI bT) nN p = (if isSg (bI bT p) then bI bT p else 1001, p + 1) := by
  unfold sgT
  rw [if_neg]
  rintro ⟨q, -⟩
  rcases q with q | q
  · exact h1 (Int32.toInt_inj.mp (h0.trans q))
  · exact h2 (Int32.toInt_inj.mp (h0.trans q))
theorem sg_n2 (e1 : r1 = byA bT (nN : Int) x) (hx : x.toInt = (p : Int) + 1) (h1 : ¬ r1 = 61) : sgT (bI bT) nN p = (if isSg (bI bT p) then bI bT p else 1001, p + 1) := by
  unfold sgT
  rw [if_neg]
  rintro ⟨-, q2, q3⟩
  have e2 := byA_in (a := p + 1) e1 (by omega) (by omega)
  exact h1 (Int32.toInt_inj.mp (e2.trans q3))
theorem sg_ky (h0 : r0.toInt = bI bT p) (hi : IOF r2 xc) (ex : xc = r0) (c : ¬ r2 < 0) : (if isSg (bI bT p) then bI bT p else 1001) = r0.toInt := by
  rw [Int32.lt_iff_toInt_lt] at c
  have c : ¬ r2.toInt < 0 := c
  rcases hi with ⟨q1, q2⟩ | ⟨q1, q2⟩
  · rw [ex, h0] at q2; rw [if_pos q2, h0]
  · omega
theorem sg_kn (h0 : r0.toInt = bI bT p) (hi : IOF r2 xc) (ex : xc = r0) (c : r2 < 0) : (if isSg (bI bT p) then bI bT p else 1001) = 1001 := by
  rw [Int32.lt_iff_toInt_lt] at c
  have c : r2.toInt < 0 := c
  rcases hi with ⟨q1, q2⟩ | ⟨q1, q2⟩
  · omega
  · rw [ex, h0] at q2; rw [if_neg q2]
theorem by255 (hB : BYT bT) (h0 : r0.toInt = bI bT p) : bn 0 255 r0 := by
  have h := hB p
  obtain ⟨h1, h2⟩ := h
  have h0 : r0.toInt = (bT p).toInt := h0
  exact ⟨by omega, by omega⟩
theorem dgE_ge : ∀ f a v, a ≤ (dgE B n f a v).1 := by
  intro f
  induction f with
  | zero => intro a v; exact Nat.le_refl _
  | succ f ih =>
    intro a v
    unfold dgE
    split
    · have := ih (a + 1) (min 10000 (v * 10 + B a - 48)); omega
    · exact Nat.le_refl _
theorem dgE_le : ∀ f a v, a ≤ n → (dgE B n f a v).1 ≤ n := by
  intro f
  induction f with
  | zero => intro a v h; exact h
  | succ f ih =>
    intro a v h
    unfold dgE
    split
    · exact ih (a + 1) _ (by omega)
    · exact h
theorem sgT_b (h : p < n) : p + 1 ≤ (sgT B n p).2 ∧ (sgT B n p).2 ≤ n := by
  unfold sgT
  split
  · next w => exact ⟨by show p + 1 ≤ p + 2; omega, by show p + 2 ≤ n; omega⟩
  · exact ⟨Nat.le_refl _, by show p + 1 ≤ n; omega⟩
abbrev tkPI (B : Nat → Int) (n i : Nat) : Int := ((tkP B n i : Nat) : Int)
theorem tk_at {K V : Int} {e : Nat} (hq : tkP B n a = p) (ht : tk0 B n p = (K, V, e)) : tkK B n a = K ∧ tkV B n a = V ∧ tkP B n (a + 1) = skB B n n e := by
  refine ⟨?_, ?_, ?_⟩
  · show (tk0 B n (tkP B n a)).1 = K; rw [hq, ht]
  · show (tk0 B n (tkP B n a)).2.1 = V; rw [hq, ht]
  · show skB B n n (tk0 B n (tkP B n a)).2.2 = _; rw [hq, ht]
end SGR
set_option maxHeartbeats 4000000 in
set_option maxRecDepth 100000 in
theorem x_X5_cutSign {l : Launch} {G : GG}  {L : List Nat} {f : HF} {ad : Nat → Nat → Nat} {zR : Int × Int} {zK : Int × Int} {zP : Int × Int} {zV : Int × Int} {zW : Int × Int} {zF : Int × Int} {zQ : Int × Int} {rf : FS} {sc : Nat → SG} {kK : Nat → Int} {kP : Nat → Int} {kV : Nat → Int} {bT : Nat → Int32} {nN : Nat} {cT : Nat} {fc : Int × Int} {tc w : Nat → Int × Int} {q : Nat → (Nat → Int32) → Prop} {aK aV : Nat → Nat} {z0 : Option Nat} {i1 : Int32} {pT : Nat} (I : SH (spC ((rf, fz (pp (nN : Int)) (pp (cT : Int)) zR zK zP zV zW zF zQ, tz (EQ bT) (RW cT kK) (RW cT kP) (RW cT kV), sc) : RS) fc tc w q) nnC G ad L f) (hW : WBp w 8) (hT : WBp tc 4) (hQ : QIp q) (b_i1 : bn 0 299 i1) (hp : i1.toInt = (pT : Int)) (hpn : pT < nN) (hn3 : nN ≤ 300) (hc : cT ≤ 300) (hP : kP cT = (pT : Int)) (hV : kV cT = 0) (hK : kK cT = (sgT (bI bT) nN pT).1) (hB : BYT bT) : PMiZ aK aV z0 l yX5_cutSign cX5_cutSign 5 .int 4 0 0 G [.ref (ad 2 0), .int i1] L f (fun r L1 f1 => bn 0 301 r ∧ SH (spC ((rf, fz (pp (nN : Int)) (pp ((cT + 1 : Nat) : Int)) zR zK zP zV zW zF zQ, tz (EQ bT) (RW (cT + 1) kK) (RW (cT + 1) kP) (RW (cT + 1) kV), sc) : RS) fc tc w q) nnC G ad L1 f1 ∧ r.toInt = (((sgT (bI bT) nN pT).2 : Nat) : Int)) := by
  refine PMiZ.of (post := fun r L1 f1 => bn 0 301 r ∧ SH (spC ((rf, fz (pp (nN : Int)) (pp ((cT + 1 : Nat) : Int)) zR zK zP zV zW zF zQ, tz (EQ bT) (RW (cT + 1) kK) (RW (cT + 1) kP) (RW (cT + 1) kV), sc) : RS) fc tc w q) nnC G ad L1 f1 ∧ r.toInt = (((sgT (bI bT) nN pT).2 : Nat) : Int)) (own := RX5) (by decide) rfl (Nat.le_of_ble_eq_true rfl) (fun sz p e s m args below meth c A ls hA1 hname S Y hz hl => ?_)
  have hx := S.hx
  have hb := S.hb
  have hl : lv_has ls 5 [(0, .ref (ad 2 0)), (1, .int i1)] := hl
  refine lv_aload_n hx hb dX5_cutSign_0 rfl (lv_at hl 0 rfl) ?_
  refine lv_iload_n hx hb dX5_cutSign_1 rfl (lv_at hl 1 rfl) ?_
  refine cVp (As := [.int i1]) (rest := []) S Y (x_X5_byteAt (l := l) I hW hT hQ) cw_X5_byteAt km5_65 (I.opo (k := 2) (j := 0) (by decide) rfl).choose_spec.1 ok_X5.1 rfl rfl ⟨Nat.le_of_ble_eq_true rfl, Nat.le_of_ble_eq_true rfl⟩ hl.1 rfl (Nat.le_of_ble_eq_true rfl) ⟨Nat.le_of_ble_eq_true rfl, Nat.le_of_ble_eq_true rfl⟩ dX5_cutSign_2 (fun r_80830 H locs er_80830 Y => ?_)
  have t0 : r_80830.toInt = bI bT pT := byA_in (a := pT) er_80830 hp (by omega)
  have B_80831 : bn 0 255 r_80830 := by255 hB t0
  refine lv_istore_n (lv' := [(2, .int r_80830), (0, .ref (ad 2 0)), (1, .int i1)]) hx hb dX5_cutSign_5 rfl hl (by decide) rfl (fun ls hl => ?_)
  refine lv_iload_n hx hb dX5_cutSign_6 rfl (lv_at hl 0 rfl) ?_
  refine lv_bipush (v := 60) hx hb dX5_cutSign_7 (by decide) ?_
  refine lv_icmp_eq (tgt := 18) hx hb dX5_cutSign_9 (by decide) (fun c_80832 => ?_) (fun c_80832 => ?_)
  · have B_80833 : bn 60 60 r_80830 := bn_w (bn_eq c_80832 (show bn 60 60 (60 : Int32) from bn_k (by decide))) (by decide)
    refine lv_aload_n hx hb dX5_cutSign_18 rfl (lv_at hl 1 rfl) ?_
    refine lv_iload_n hx hb dX5_cutSign_19 rfl (lv_at hl 2 rfl) ?_
    refine lv_iconst (v := 1) hx hb dX5_cutSign_20 (by decide) ?_
    refine lv_iadd hx hb dX5_cutSign_21 ?_
    refine lv_topi (fun x_80834 ex_80834 => ?_)
    refine cVp (As := [.int x_80834]) (rest := []) S Y (x_X5_byteAt (l := l) I hW hT hQ) cw_X5_byteAt km5_65 (I.opo (k := 2) (j := 0) (by decide) rfl).choose_spec.1 ok_X5.1 rfl rfl ⟨Nat.le_of_ble_eq_true rfl, Nat.le_of_ble_eq_true rfl⟩ hl.1 rfl (Nat.le_of_ble_eq_true rfl) ⟨Nat.le_of_ble_eq_true rfl, Nat.le_of_ble_eq_true rfl⟩ dX5_cutSign_22 (fun r_80835 H locs er_80835 Y => ?_)
    refine lv_bipush (v := 61) hx hb dX5_cutSign_25 (by decide) ?_
    refine lv_icmp_ne (tgt := 34) hx hb dX5_cutSign_27 (by decide) (fun c_80836 => ?_) (fun c_80836 => ?_)
    · refine lv_iconst (v := 0) hx hb dX5_cutSign_34 (by decide) ?_
      refine lv_istore_n (lv' := [(3, .int 0), (2, .int r_80830), (0, .ref (ad 2 0)), (1, .int i1)]) hx hb dX5_cutSign_35 rfl hl (by decide) rfl (fun ls hl => ?_)
      refine va_ldcS hx hb S.ow hz.2.2.2.2 dX5_cutSign_36 ?_
      refine lv_iload_n hx hb dX5_cutSign_38 rfl (lv_at hl 1 rfl) ?_
      obtain ⟨x_80838, ex_80838⟩ : ∃ z : Int32, z = ((r_80830 : Int32).toUInt32 % 65536).toInt32 := ⟨_, rfl⟩
      refine lv_i2c (v := x_80838) hx hb dX5_cutSign_39 ex_80838.symm ?_
      have exc : x_80838 = r_80830 := c16 (bn_w B_80833 (by decide)) ex_80838
      have B_80839 : bn 0 255 x_80838 := by rw [exc]; exact bn_w B_80833 (by decide)
      refine zVi (As := [.int x_80838]) (rest := []) S Y hz (x_J0_indexOf (l := l) (bn_w B_80839 (by decide))) cw_X100_indexOf_0f7a4 km5_115 (recvK (i := 1) Y hz (by decide) rfl) rfl ⟨Nat.le_of_ble_eq_true rfl, Nat.le_of_ble_eq_true rfl⟩ hl.1 rfl (Nat.le_of_ble_eq_true rfl) ⟨Nat.le_of_ble_eq_true rfl, Nat.le_of_ble_eq_true rfl⟩ dX5_cutSign_40 (fun r_80843 L_80840 f_80841 H locs h_80842 Y => ?_)
      rw [h_80842.2.1, h_80842.2.2] at Y
      have er_80843 := h_80842.1
      refine lv_if_lt (tgt := 50) hx hb dX5_cutSign_43 (by decide) (fun c_80844 => ?_) (fun c_80844 => ?_)
      · have B_80845 : bn (-2147483648) (-1) r_80843 := bn_w (bn_ltl c_80844 (bn_any r_80843) (show bn 0 0 (0 : Int32) from bn_k (by decide))) (by decide)
        refine lv_sipush (v := 1001) hx hb dX5_cutSign_50 (by decide) ?_
        refine lv_istore (lv' := [(4, .int 1001), (3, .int 0), (2, .int r_80830), (0, .ref (ad 2 0)), (1, .int i1)]) hx hb dX5_cutSign_53 hl (by decide) rfl (fun ls hl => ?_)
        refine lv_aload_n hx hb dX5_cutSign_55 rfl (lv_at hl 3 rfl) ?_
        refine lv_iload_n hx hb dX5_cutSign_56 rfl (lv_at hl 1 rfl) ?_
        refine lv_if_eq (tgt := 68) hx hb dX5_cutSign_57 (by decide) (fun _ => ?_) (fun h => absurd (by decide) h)
        refine lv_iload hx hb dX5_cutSign_68 (lv_at hl 0 rfl) ?_
        refine lv_iload_n hx hb dX5_cutSign_70 rfl (lv_at hl 4 rfl) ?_
        refine lv_iconst (v := 0) hx hb dX5_cutSign_71 (by decide) ?_
        have hE : sgT (bI bT) nN pT = (1001, pT + 1) := by rw [sg_n2 er_80835 (by have h9 := (la_add ex_80834 (rfl : i1.toInt = i1.toInt) (show (1 : Int32).toInt = 1 from rfl) b_i1 (show bn 1 1 (1 : Int32) from bn_k (by decide)) (by decide)); have h8 := hp; omega) c_80836, (sg_kn t0 er_80843 exc c_80844)]
        refine cVv (As := [.int 1001, .int i1, .int 0]) (rest := []) S Y (x_X5_addToken (l := l) I hW hT hQ hc (by rw [hK, hE]; rfl) (by rw [hP]; exact hp) (by rw [hV]; rfl)) cw_X5_addToken km5_85 (I.opo (k := 2) (j := 0) (by decide) rfl).choose_spec.1 ok_X5.1 rfl rfl ⟨Nat.le_of_ble_eq_true rfl, Nat.le_of_ble_eq_true rfl⟩ hl.1 rfl (Nat.le_of_ble_eq_true rfl) ⟨Nat.le_of_ble_eq_true rfl, Nat.le_of_ble_eq_true rfl⟩ dX5_cutSign_72 (fun L_80847 f_80848 H locs I Y => ?_)
        refine lv_iload_n hx hb dX5_cutSign_75 rfl (lv_at hl 1 rfl) ?_
        refine lv_if_eq (tgt := 85) hx hb dX5_cutSign_76 (by decide) (fun _ => ?_) (fun h => absurd (by decide) h)
        refine lv_iload_n hx hb dX5_cutSign_85 rfl (lv_at hl 4 rfl) ?_
        refine lv_iconst (v := 1) hx hb dX5_cutSign_86 (by decide) ?_
        refine lv_iadd hx hb dX5_cutSign_87 ?_
        refine lv_topi (fun x_80849 ex_80849 => ?_)
        exact prI (post := fun r L1 f1 => bn 0 301 r ∧ SH (spC ((rf, fz (pp (nN : Int)) (pp ((cT + 1 : Nat) : Int)) zR zK zP zV zW zF zQ, tz (EQ bT) (RW (cT + 1) kK) (RW (cT + 1) kP) (RW (cT + 1) kV), sc) : RS) fc tc w q) nnC G ad L1 f1 ∧ r.toInt = (((sgT (bI bT) nN pT).2 : Nat) : Int)) S Y rfl (by decide) (by decide) hA1 ⟨bn_w (bn_eq ex_80849 (bn_add b_i1 (show bn 1 1 (1 : Int32) from bn_k (by decide)) (by decide))) (by decide), I, (by rw [hE]; have h9 := (la_add ex_80849 (rfl : i1.toInt = i1.toInt) (show (1 : Int32).toInt = 1 from rfl) b_i1 (show bn 1 1 (1 : Int32) from bn_k (by decide)) (by decide)); have h8 := hp; show x_80849.toInt = ((pT + 1 : Nat) : Int); omega)⟩ dX5_cutSign_88
      · have B_80846 : bn 0 2147483647 r_80843 := bn_w (bn_gel c_80844 (bn_any r_80843) (show bn 0 0 (0 : Int32) from bn_k (by decide))) (by decide)
        refine lv_iload_n hx hb dX5_cutSign_46 rfl (lv_at hl 1 rfl) ?_
        refine lv_goto (tgt := 53) hx hb dX5_cutSign_47 (by decide) ?_
        refine lv_istore (lv' := [(4, .int r_80830), (3, .int 0), (2, .int r_80830), (0, .ref (ad 2 0)), (1, .int i1)]) hx hb dX5_cutSign_53 hl (by decide) rfl (fun ls hl => ?_)
        refine lv_aload_n hx hb dX5_cutSign_55 rfl (lv_at hl 3 rfl) ?_
        refine lv_iload_n hx hb dX5_cutSign_56 rfl (lv_at hl 1 rfl) ?_
        refine lv_if_eq (tgt := 68) hx hb dX5_cutSign_57 (by decide) (fun _ => ?_) (fun h => absurd (by decide) h)
        refine lv_iload hx hb dX5_cutSign_68 (lv_at hl 0 rfl) ?_
        refine lv_iload_n hx hb dX5_cutSign_70 rfl (lv_at hl 4 rfl) ?_
        refine lv_iconst (v := 0) hx hb dX5_cutSign_71 (by decide) ?_
        have hE : sgT (bI bT) nN pT = (r_80830.toInt, pT + 1) := by rw [sg_n2 er_80835 (by have h9 := (la_add ex_80834 (rfl : i1.toInt = i1.toInt) (show (1 : Int32).toInt = 1 from rfl) b_i1 (show bn 1 1 (1 : Int32) from bn_k (by decide)) (by decide)); have h8 := hp; omega) c_80836, (sg_ky t0 er_80843 exc c_80844)]
        refine cVv (As := [.int r_80830, .int i1, .int 0]) (rest := []) S Y (x_X5_addToken (l := l) I hW hT hQ hc (by rw [hK, hE]) (by rw [hP]; exact hp) (by rw [hV]; rfl)) cw_X5_addToken km5_85 (I.opo (k := 2) (j := 0) (by decide) rfl).choose_spec.1 ok_X5.1 rfl rfl ⟨Nat.le_of_ble_eq_true rfl, Nat.le_of_ble_eq_true rfl⟩ hl.1 rfl (Nat.le_of_ble_eq_true rfl) ⟨Nat.le_of_ble_eq_true rfl, Nat.le_of_ble_eq_true rfl⟩ dX5_cutSign_72 (fun L_80850 f_80851 H locs I Y => ?_)
        refine lv_iload_n hx hb dX5_cutSign_75 rfl (lv_at hl 1 rfl) ?_
        refine lv_if_eq (tgt := 85) hx hb dX5_cutSign_76 (by decide) (fun _ => ?_) (fun h => absurd (by decide) h)
        refine lv_iload_n hx hb dX5_cutSign_85 rfl (lv_at hl 4 rfl) ?_
        refine lv_iconst (v := 1) hx hb dX5_cutSign_86 (by decide) ?_
        refine lv_iadd hx hb dX5_cutSign_87 ?_
        refine lv_topi (fun x_80852 ex_80852 => ?_)
        exact prI (post := fun r L1 f1 => bn 0 301 r ∧ SH (spC ((rf, fz (pp (nN : Int)) (pp ((cT + 1 : Nat) : Int)) zR zK zP zV zW zF zQ, tz (EQ bT) (RW (cT + 1) kK) (RW (cT + 1) kP) (RW (cT + 1) kV), sc) : RS) fc tc w q) nnC G ad L1 f1 ∧ r.toInt = (((sgT (bI bT) nN pT).2 : Nat) : Int)) S Y rfl (by decide) (by decide) hA1 ⟨bn_w (bn_eq ex_80852 (bn_add b_i1 (show bn 1 1 (1 : Int32) from bn_k (by decide)) (by decide))) (by decide), I, (by rw [hE]; have h9 := (la_add ex_80852 (rfl : i1.toInt = i1.toInt) (show (1 : Int32).toInt = 1 from rfl) b_i1 (show bn 1 1 (1 : Int32) from bn_k (by decide)) (by decide)); have h8 := hp; show x_80852.toInt = ((pT + 1 : Nat) : Int); omega)⟩ dX5_cutSign_88
    · have B_80837 : bn 61 61 r_80835 := bn_w (bn_eq c_80836 (show bn 61 61 (61 : Int32) from bn_k (by decide))) (by decide)
      refine lv_iconst (v := 1) hx hb dX5_cutSign_30 (by decide) ?_
      refine lv_goto (tgt := 35) hx hb dX5_cutSign_31 (by decide) ?_
      refine lv_istore_n (lv' := [(3, .int 1), (2, .int r_80830), (0, .ref (ad 2 0)), (1, .int i1)]) hx hb dX5_cutSign_35 rfl hl (by decide) rfl (fun ls hl => ?_)
      refine va_ldcS hx hb S.ow hz.2.2.2.2 dX5_cutSign_36 ?_
      refine lv_iload_n hx hb dX5_cutSign_38 rfl (lv_at hl 1 rfl) ?_
      obtain ⟨x_80853, ex_80853⟩ : ∃ z : Int32, z = ((r_80830 : Int32).toUInt32 % 65536).toInt32 := ⟨_, rfl⟩
      refine lv_i2c (v := x_80853) hx hb dX5_cutSign_39 ex_80853.symm ?_
      have exc : x_80853 = r_80830 := c16 (bn_w B_80833 (by decide)) ex_80853
      have B_80854 : bn 0 255 x_80853 := by rw [exc]; exact bn_w B_80833 (by decide)
      refine zVi (As := [.int x_80853]) (rest := []) S Y hz (x_J0_indexOf (l := l) (bn_w B_80854 (by decide))) cw_X100_indexOf_0f7a4 km5_115 (recvK (i := 1) Y hz (by decide) rfl) rfl ⟨Nat.le_of_ble_eq_true rfl, Nat.le_of_ble_eq_true rfl⟩ hl.1 rfl (Nat.le_of_ble_eq_true rfl) ⟨Nat.le_of_ble_eq_true rfl, Nat.le_of_ble_eq_true rfl⟩ dX5_cutSign_40 (fun r_80858 L_80855 f_80856 H locs h_80857 Y => ?_)
      rw [h_80857.2.1, h_80857.2.2] at Y
      have er_80858 := h_80857.1
      refine lv_if_lt (tgt := 50) hx hb dX5_cutSign_43 (by decide) (fun c_80859 => ?_) (fun c_80859 => ?_)
      · have B_80860 : bn (-2147483648) (-1) r_80858 := bn_w (bn_ltl c_80859 (bn_any r_80858) (show bn 0 0 (0 : Int32) from bn_k (by decide))) (by decide)
        refine lv_sipush (v := 1001) hx hb dX5_cutSign_50 (by decide) ?_
        refine lv_istore (lv' := [(4, .int 1001), (3, .int 1), (2, .int r_80830), (0, .ref (ad 2 0)), (1, .int i1)]) hx hb dX5_cutSign_53 hl (by decide) rfl (fun ls hl => ?_)
        refine lv_aload_n hx hb dX5_cutSign_55 rfl (lv_at hl 3 rfl) ?_
        refine lv_iload_n hx hb dX5_cutSign_56 rfl (lv_at hl 1 rfl) ?_
        refine lv_if_eq (tgt := 68) hx hb dX5_cutSign_57 (by decide) (fun h => absurd h (by decide)) (fun _ => ?_)
        refine lv_iload_n hx hb dX5_cutSign_60 rfl (lv_at hl 2 rfl) ?_
        refine lv_sipush (v := 256) hx hb dX5_cutSign_61 (by decide) ?_
        refine lv_iadd hx hb dX5_cutSign_64 ?_
        refine lv_topi (fun x_80862 ex_80862 => ?_)
        refine lv_goto (tgt := 70) hx hb dX5_cutSign_65 (by decide) ?_
        refine lv_iload_n hx hb dX5_cutSign_70 rfl (lv_at hl 4 rfl) ?_
        refine lv_iconst (v := 0) hx hb dX5_cutSign_71 (by decide) ?_
        have hE : sgT (bI bT) nN pT = (bI bT pT + 256, pT + 2) := sg_y t0 (Or.inl c_80832) er_80835 (by have h9 := (la_add ex_80834 (rfl : i1.toInt = i1.toInt) (show (1 : Int32).toInt = 1 from rfl) b_i1 (show bn 1 1 (1 : Int32) from bn_k (by decide)) (by decide)); have h8 := hp; omega) c_80836
        refine cVv (As := [.int x_80862, .int i1, .int 0]) (rest := []) S Y (x_X5_addToken (l := l) I hW hT hQ hc (by rw [hK, hE]; have h9 := (la_add ex_80862 t0 (show (256 : Int32).toInt = 256 from rfl) B_80833 (show bn 256 256 (256 : Int32) from bn_k (by decide)) (by decide)); show x_80862.toInt = bI bT pT + 256; have h8 := t0; omega) (by rw [hP]; exact hp) (by rw [hV]; rfl)) cw_X5_addToken km5_85 (I.opo (k := 2) (j := 0) (by decide) rfl).choose_spec.1 ok_X5.1 rfl rfl ⟨Nat.le_of_ble_eq_true rfl, Nat.le_of_ble_eq_true rfl⟩ hl.1 rfl (Nat.le_of_ble_eq_true rfl) ⟨Nat.le_of_ble_eq_true rfl, Nat.le_of_ble_eq_true rfl⟩ dX5_cutSign_72 (fun L_80863 f_80864 H locs I Y => ?_)
        refine lv_iload_n hx hb dX5_cutSign_75 rfl (lv_at hl 1 rfl) ?_
        refine lv_if_eq (tgt := 85) hx hb dX5_cutSign_76 (by decide) (fun h => absurd h (by decide)) (fun _ => ?_)
        refine lv_iload_n hx hb dX5_cutSign_79 rfl (lv_at hl 4 rfl) ?_
        refine lv_iconst (v := 2) hx hb dX5_cutSign_80 (by decide) ?_
        refine lv_iadd hx hb dX5_cutSign_81 ?_
        refine lv_topi (fun x_80865 ex_80865 => ?_)
        refine lv_goto (tgt := 88) hx hb dX5_cutSign_82 (by decide) ?_
        exact prI (post := fun r L1 f1 => bn 0 301 r ∧ SH (spC ((rf, fz (pp (nN : Int)) (pp ((cT + 1 : Nat) : Int)) zR zK zP zV zW zF zQ, tz (EQ bT) (RW (cT + 1) kK) (RW (cT + 1) kP) (RW (cT + 1) kV), sc) : RS) fc tc w q) nnC G ad L1 f1 ∧ r.toInt = (((sgT (bI bT) nN pT).2 : Nat) : Int)) S Y rfl (by decide) (by decide) hA1 ⟨bn_w (bn_eq ex_80865 (bn_add b_i1 (show bn 2 2 (2 : Int32) from bn_k (by decide)) (by decide))) (by decide), I, (by rw [hE]; have h9 := (la_add ex_80865 (rfl : i1.toInt = i1.toInt) (show (2 : Int32).toInt = 2 from rfl) b_i1 (show bn 2 2 (2 : Int32) from bn_k (by decide)) (by decide)); have h8 := hp; show x_80865.toInt = ((pT + 2 : Nat) : Int); omega)⟩ dX5_cutSign_88
      · have B_80861 : bn 0 2147483647 r_80858 := bn_w (bn_gel c_80859 (bn_any r_80858) (show bn 0 0 (0 : Int32) from bn_k (by decide))) (by decide)
        refine lv_iload_n hx hb dX5_cutSign_46 rfl (lv_at hl 1 rfl) ?_
        refine lv_goto (tgt := 53) hx hb dX5_cutSign_47 (by decide) ?_
        refine lv_istore (lv' := [(4, .int r_80830), (3, .int 1), (2, .int r_80830), (0, .ref (ad 2 0)), (1, .int i1)]) hx hb dX5_cutSign_53 hl (by decide) rfl (fun ls hl => ?_)
        refine lv_aload_n hx hb dX5_cutSign_55 rfl (lv_at hl 3 rfl) ?_
        refine lv_iload_n hx hb dX5_cutSign_56 rfl (lv_at hl 1 rfl) ?_
        refine lv_if_eq (tgt := 68) hx hb dX5_cutSign_57 (by decide) (fun h => absurd h (by decide)) (fun _ => ?_)
        refine lv_iload_n hx hb dX5_cutSign_60 rfl (lv_at hl 2 rfl) ?_
        refine lv_sipush (v := 256) hx hb dX5_cutSign_61 (by decide) ?_
        refine lv_iadd hx hb dX5_cutSign_64 ?_
        refine lv_topi (fun x_80866 ex_80866 => ?_)
        refine lv_goto (tgt := 70) hx hb dX5_cutSign_65 (by decide) ?_
        refine lv_iload_n hx hb dX5_cutSign_70 rfl (lv_at hl 4 rfl) ?_
        refine lv_iconst (v := 0) hx hb dX5_cutSign_71 (by decide) ?_
        have hE : sgT (bI bT) nN pT = (bI bT pT + 256, pT + 2) := sg_y t0 (Or.inl c_80832) er_80835 (by have h9 := (la_add ex_80834 (rfl : i1.toInt = i1.toInt) (show (1 : Int32).toInt = 1 from rfl) b_i1 (show bn 1 1 (1 : Int32) from bn_k (by decide)) (by decide)); have h8 := hp; omega) c_80836
        refine cVv (As := [.int x_80866, .int i1, .int 0]) (rest := []) S Y (x_X5_addToken (l := l) I hW hT hQ hc (by rw [hK, hE]; have h9 := (la_add ex_80866 t0 (show (256 : Int32).toInt = 256 from rfl) B_80833 (show bn 256 256 (256 : Int32) from bn_k (by decide)) (by decide)); show x_80866.toInt = bI bT pT + 256; have h8 := t0; omega) (by rw [hP]; exact hp) (by rw [hV]; rfl)) cw_X5_addToken km5_85 (I.opo (k := 2) (j := 0) (by decide) rfl).choose_spec.1 ok_X5.1 rfl rfl ⟨Nat.le_of_ble_eq_true rfl, Nat.le_of_ble_eq_true rfl⟩ hl.1 rfl (Nat.le_of_ble_eq_true rfl) ⟨Nat.le_of_ble_eq_true rfl, Nat.le_of_ble_eq_true rfl⟩ dX5_cutSign_72 (fun L_80867 f_80868 H locs I Y => ?_)
        refine lv_iload_n hx hb dX5_cutSign_75 rfl (lv_at hl 1 rfl) ?_
        refine lv_if_eq (tgt := 85) hx hb dX5_cutSign_76 (by decide) (fun h => absurd h (by decide)) (fun _ => ?_)
        refine lv_iload_n hx hb dX5_cutSign_79 rfl (lv_at hl 4 rfl) ?_
        refine lv_iconst (v := 2) hx hb dX5_cutSign_80 (by decide) ?_
        refine lv_iadd hx hb dX5_cutSign_81 ?_
        refine lv_topi (fun x_80869 ex_80869 => ?_)
        refine lv_goto (tgt := 88) hx hb dX5_cutSign_82 (by decide) ?_
        exact prI (post := fun r L1 f1 => bn 0 301 r ∧ SH (spC ((rf, fz (pp (nN : Int)) (pp ((cT + 1 : Nat) : Int)) zR zK zP zV zW zF zQ, tz (EQ bT) (RW (cT + 1) kK) (RW (cT + 1) kP) (RW (cT + 1) kV), sc) : RS) fc tc w q) nnC G ad L1 f1 ∧ r.toInt = (((sgT (bI bT) nN pT).2 : Nat) : Int)) S Y rfl (by decide) (by decide) hA1 ⟨bn_w (bn_eq ex_80869 (bn_add b_i1 (show bn 2 2 (2 : Int32) from bn_k (by decide)) (by decide))) (by decide), I, (by rw [hE]; have h9 := (la_add ex_80869 (rfl : i1.toInt = i1.toInt) (show (2 : Int32).toInt = 2 from rfl) b_i1 (show bn 2 2 (2 : Int32) from bn_k (by decide)) (by decide)); have h8 := hp; show x_80869.toInt = ((pT + 2 : Nat) : Int); omega)⟩ dX5_cutSign_88
  · refine lv_iload_n hx hb dX5_cutSign_12 rfl (lv_at hl 0 rfl) ?_
    refine lv_bipush (v := 62) hx hb dX5_cutSign_13 (by decide) ?_
    refine lv_icmp_ne (tgt := 34) hx hb dX5_cutSign_15 (by decide) (fun c_80870 => ?_) (fun c_80870 => ?_)
    · refine lv_iconst (v := 0) hx hb dX5_cutSign_34 (by decide) ?_
      refine lv_istore_n (lv' := [(3, .int 0), (2, .int r_80830), (0, .ref (ad 2 0)), (1, .int i1)]) hx hb dX5_cutSign_35 rfl hl (by decide) rfl (fun ls hl => ?_)
      refine va_ldcS hx hb S.ow hz.2.2.2.2 dX5_cutSign_36 ?_
      refine lv_iload_n hx hb dX5_cutSign_38 rfl (lv_at hl 1 rfl) ?_
      obtain ⟨x_80872, ex_80872⟩ : ∃ z : Int32, z = ((r_80830 : Int32).toUInt32 % 65536).toInt32 := ⟨_, rfl⟩
      refine lv_i2c (v := x_80872) hx hb dX5_cutSign_39 ex_80872.symm ?_
      have exc : x_80872 = r_80830 := c16 (bn_w B_80831 (by decide)) ex_80872
      have B_80873 : bn 0 255 x_80872 := by rw [exc]; exact bn_w B_80831 (by decide)
      refine zVi (As := [.int x_80872]) (rest := []) S Y hz (x_J0_indexOf (l := l) (bn_w B_80873 (by decide))) cw_X100_indexOf_0f7a4 km5_115 (recvK (i := 1) Y hz (by decide) rfl) rfl ⟨Nat.le_of_ble_eq_true rfl, Nat.le_of_ble_eq_true rfl⟩ hl.1 rfl (Nat.le_of_ble_eq_true rfl) ⟨Nat.le_of_ble_eq_true rfl, Nat.le_of_ble_eq_true rfl⟩ dX5_cutSign_40 (fun r_80877 L_80874 f_80875 H locs h_80876 Y => ?_)
      rw [h_80876.2.1, h_80876.2.2] at Y
      have er_80877 := h_80876.1
      refine lv_if_lt (tgt := 50) hx hb dX5_cutSign_43 (by decide) (fun c_80878 => ?_) (fun c_80878 => ?_)
      · have B_80879 : bn (-2147483648) (-1) r_80877 := bn_w (bn_ltl c_80878 (bn_any r_80877) (show bn 0 0 (0 : Int32) from bn_k (by decide))) (by decide)
        refine lv_sipush (v := 1001) hx hb dX5_cutSign_50 (by decide) ?_
        refine lv_istore (lv' := [(4, .int 1001), (3, .int 0), (2, .int r_80830), (0, .ref (ad 2 0)), (1, .int i1)]) hx hb dX5_cutSign_53 hl (by decide) rfl (fun ls hl => ?_)
        refine lv_aload_n hx hb dX5_cutSign_55 rfl (lv_at hl 3 rfl) ?_
        refine lv_iload_n hx hb dX5_cutSign_56 rfl (lv_at hl 1 rfl) ?_
        refine lv_if_eq (tgt := 68) hx hb dX5_cutSign_57 (by decide) (fun _ => ?_) (fun h => absurd (by decide) h)
        refine lv_iload hx hb dX5_cutSign_68 (lv_at hl 0 rfl) ?_
        refine lv_iload_n hx hb dX5_cutSign_70 rfl (lv_at hl 4 rfl) ?_
        refine lv_iconst (v := 0) hx hb dX5_cutSign_71 (by decide) ?_
        have hE : sgT (bI bT) nN pT = (1001, pT + 1) := by rw [sg_n1 t0 c_80832 c_80870, (sg_kn t0 er_80877 exc c_80878)]
        refine cVv (As := [.int 1001, .int i1, .int 0]) (rest := []) S Y (x_X5_addToken (l := l) I hW hT hQ hc (by rw [hK, hE]; rfl) (by rw [hP]; exact hp) (by rw [hV]; rfl)) cw_X5_addToken km5_85 (I.opo (k := 2) (j := 0) (by decide) rfl).choose_spec.1 ok_X5.1 rfl rfl ⟨Nat.le_of_ble_eq_true rfl, Nat.le_of_ble_eq_true rfl⟩ hl.1 rfl (Nat.le_of_ble_eq_true rfl) ⟨Nat.le_of_ble_eq_true rfl, Nat.le_of_ble_eq_true rfl⟩ dX5_cutSign_72 (fun L_80881 f_80882 H locs I Y => ?_)
        refine lv_iload_n hx hb dX5_cutSign_75 rfl (lv_at hl 1 rfl) ?_
        refine lv_if_eq (tgt := 85) hx hb dX5_cutSign_76 (by decide) (fun _ => ?_) (fun h => absurd (by decide) h)
        refine lv_iload_n hx hb dX5_cutSign_85 rfl (lv_at hl 4 rfl) ?_
        refine lv_iconst (v := 1) hx hb dX5_cutSign_86 (by decide) ?_
        refine lv_iadd hx hb dX5_cutSign_87 ?_
        refine lv_topi (fun x_80883 ex_80883 => ?_)
        exact prI (post := fun r L1 f1 => bn 0 301 r ∧ SH (spC ((rf, fz (pp (nN : Int)) (pp ((cT + 1 : Nat) : Int)) zR zK zP zV zW zF zQ, tz (EQ bT) (RW (cT + 1) kK) (RW (cT + 1) kP) (RW (cT + 1) kV), sc) : RS) fc tc w q) nnC G ad L1 f1 ∧ r.toInt = (((sgT (bI bT) nN pT).2 : Nat) : Int)) S Y rfl (by decide) (by decide) hA1 ⟨bn_w (bn_eq ex_80883 (bn_add b_i1 (show bn 1 1 (1 : Int32) from bn_k (by decide)) (by decide))) (by decide), I, (by rw [hE]; have h9 := (la_add ex_80883 (rfl : i1.toInt = i1.toInt) (show (1 : Int32).toInt = 1 from rfl) b_i1 (show bn 1 1 (1 : Int32) from bn_k (by decide)) (by decide)); have h8 := hp; show x_80883.toInt = ((pT + 1 : Nat) : Int); omega)⟩ dX5_cutSign_88
      · have B_80880 : bn 0 2147483647 r_80877 := bn_w (bn_gel c_80878 (bn_any r_80877) (show bn 0 0 (0 : Int32) from bn_k (by decide))) (by decide)
        refine lv_iload_n hx hb dX5_cutSign_46 rfl (lv_at hl 1 rfl) ?_
        refine lv_goto (tgt := 53) hx hb dX5_cutSign_47 (by decide) ?_
        refine lv_istore (lv' := [(4, .int r_80830), (3, .int 0), (2, .int r_80830), (0, .ref (ad 2 0)), (1, .int i1)]) hx hb dX5_cutSign_53 hl (by decide) rfl (fun ls hl => ?_)
        refine lv_aload_n hx hb dX5_cutSign_55 rfl (lv_at hl 3 rfl) ?_
        refine lv_iload_n hx hb dX5_cutSign_56 rfl (lv_at hl 1 rfl) ?_
        refine lv_if_eq (tgt := 68) hx hb dX5_cutSign_57 (by decide) (fun _ => ?_) (fun h => absurd (by decide) h)
        refine lv_iload hx hb dX5_cutSign_68 (lv_at hl 0 rfl) ?_
        refine lv_iload_n hx hb dX5_cutSign_70 rfl (lv_at hl 4 rfl) ?_
        refine lv_iconst (v := 0) hx hb dX5_cutSign_71 (by decide) ?_
        have hE : sgT (bI bT) nN pT = (r_80830.toInt, pT + 1) := by rw [sg_n1 t0 c_80832 c_80870, (sg_ky t0 er_80877 exc c_80878)]
        refine cVv (As := [.int r_80830, .int i1, .int 0]) (rest := []) S Y (x_X5_addToken (l := l) I hW hT hQ hc (by rw [hK, hE]) (by rw [hP]; exact hp) (by rw [hV]; rfl)) cw_X5_addToken km5_85 (I.opo (k := 2) (j := 0) (by decide) rfl).choose_spec.1 ok_X5.1 rfl rfl ⟨Nat.le_of_ble_eq_true rfl, Nat.le_of_ble_eq_true rfl⟩ hl.1 rfl (Nat.le_of_ble_eq_true rfl) ⟨Nat.le_of_ble_eq_true rfl, Nat.le_of_ble_eq_true rfl⟩ dX5_cutSign_72 (fun L_80884 f_80885 H locs I Y => ?_)
        refine lv_iload_n hx hb dX5_cutSign_75 rfl (lv_at hl 1 rfl) ?_
        refine lv_if_eq (tgt := 85) hx hb dX5_cutSign_76 (by decide) (fun _ => ?_) (fun h => absurd (by decide) h)
        refine lv_iload_n hx hb dX5_cutSign_85 rfl (lv_at hl 4 rfl) ?_
        refine lv_iconst (v := 1) hx hb dX5_cutSign_86 (by decide) ?_
        refine lv_iadd hx hb dX5_cutSign_87 ?_
        refine lv_topi (fun x_80886 ex_80886 => ?_)
        exact prI (post := fun r L1 f1 => bn 0 301 r ∧ SH (spC ((rf, fz (pp (nN : Int)) (pp ((cT + 1 : Nat) : Int)) zR zK zP zV zW zF zQ, tz (EQ bT) (RW (cT + 1) kK) (RW (cT + 1) kP) (RW (cT + 1) kV), sc) : RS) fc tc w q) nnC G ad L1 f1 ∧ r.toInt = (((sgT (bI bT) nN pT).2 : Nat) : Int)) S Y rfl (by decide) (by decide) hA1 ⟨bn_w (bn_eq ex_80886 (bn_add b_i1 (show bn 1 1 (1 : Int32) from bn_k (by decide)) (by decide))) (by decide), I, (by rw [hE]; have h9 := (la_add ex_80886 (rfl : i1.toInt = i1.toInt) (show (1 : Int32).toInt = 1 from rfl) b_i1 (show bn 1 1 (1 : Int32) from bn_k (by decide)) (by decide)); have h8 := hp; show x_80886.toInt = ((pT + 1 : Nat) : Int); omega)⟩ dX5_cutSign_88
    · have B_80871 : bn 62 62 r_80830 := bn_w (bn_eq c_80870 (show bn 62 62 (62 : Int32) from bn_k (by decide))) (by decide)
      refine lv_aload_n hx hb dX5_cutSign_18 rfl (lv_at hl 1 rfl) ?_
      refine lv_iload_n hx hb dX5_cutSign_19 rfl (lv_at hl 2 rfl) ?_
      refine lv_iconst (v := 1) hx hb dX5_cutSign_20 (by decide) ?_
      refine lv_iadd hx hb dX5_cutSign_21 ?_
      refine lv_topi (fun x_80887 ex_80887 => ?_)
      refine cVp (As := [.int x_80887]) (rest := []) S Y (x_X5_byteAt (l := l) I hW hT hQ) cw_X5_byteAt km5_65 (I.opo (k := 2) (j := 0) (by decide) rfl).choose_spec.1 ok_X5.1 rfl rfl ⟨Nat.le_of_ble_eq_true rfl, Nat.le_of_ble_eq_true rfl⟩ hl.1 rfl (Nat.le_of_ble_eq_true rfl) ⟨Nat.le_of_ble_eq_true rfl, Nat.le_of_ble_eq_true rfl⟩ dX5_cutSign_22 (fun r_80888 H locs er_80888 Y => ?_)
      refine lv_bipush (v := 61) hx hb dX5_cutSign_25 (by decide) ?_
      refine lv_icmp_ne (tgt := 34) hx hb dX5_cutSign_27 (by decide) (fun c_80889 => ?_) (fun c_80889 => ?_)
      · refine lv_iconst (v := 0) hx hb dX5_cutSign_34 (by decide) ?_
        refine lv_istore_n (lv' := [(3, .int 0), (2, .int r_80830), (0, .ref (ad 2 0)), (1, .int i1)]) hx hb dX5_cutSign_35 rfl hl (by decide) rfl (fun ls hl => ?_)
        refine va_ldcS hx hb S.ow hz.2.2.2.2 dX5_cutSign_36 ?_
        refine lv_iload_n hx hb dX5_cutSign_38 rfl (lv_at hl 1 rfl) ?_
        obtain ⟨x_80891, ex_80891⟩ : ∃ z : Int32, z = ((r_80830 : Int32).toUInt32 % 65536).toInt32 := ⟨_, rfl⟩
        refine lv_i2c (v := x_80891) hx hb dX5_cutSign_39 ex_80891.symm ?_
        have exc : x_80891 = r_80830 := c16 (bn_w B_80871 (by decide)) ex_80891
        have B_80892 : bn 0 255 x_80891 := by rw [exc]; exact bn_w B_80871 (by decide)
        refine zVi (As := [.int x_80891]) (rest := []) S Y hz (x_J0_indexOf (l := l) (bn_w B_80892 (by decide))) cw_X100_indexOf_0f7a4 km5_115 (recvK (i := 1) Y hz (by decide) rfl) rfl ⟨Nat.le_of_ble_eq_true rfl, Nat.le_of_ble_eq_true rfl⟩ hl.1 rfl (Nat.le_of_ble_eq_true rfl) ⟨Nat.le_of_ble_eq_true rfl, Nat.le_of_ble_eq_true rfl⟩ dX5_cutSign_40 (fun r_80896 L_80893 f_80894 H locs h_80895 Y => ?_)
        rw [h_80895.2.1, h_80895.2.2] at Y
        have er_80896 := h_80895.1
        refine lv_if_lt (tgt := 50) hx hb dX5_cutSign_43 (by decide) (fun c_80897 => ?_) (fun c_80897 => ?_)
        · have B_80898 : bn (-2147483648) (-1) r_80896 := bn_w (bn_ltl c_80897 (bn_any r_80896) (show bn 0 0 (0 : Int32) from bn_k (by decide))) (by decide)
          refine lv_sipush (v := 1001) hx hb dX5_cutSign_50 (by decide) ?_
          refine lv_istore (lv' := [(4, .int 1001), (3, .int 0), (2, .int r_80830), (0, .ref (ad 2 0)), (1, .int i1)]) hx hb dX5_cutSign_53 hl (by decide) rfl (fun ls hl => ?_)
          refine lv_aload_n hx hb dX5_cutSign_55 rfl (lv_at hl 3 rfl) ?_
          refine lv_iload_n hx hb dX5_cutSign_56 rfl (lv_at hl 1 rfl) ?_
          refine lv_if_eq (tgt := 68) hx hb dX5_cutSign_57 (by decide) (fun _ => ?_) (fun h => absurd (by decide) h)
          refine lv_iload hx hb dX5_cutSign_68 (lv_at hl 0 rfl) ?_
          refine lv_iload_n hx hb dX5_cutSign_70 rfl (lv_at hl 4 rfl) ?_
          refine lv_iconst (v := 0) hx hb dX5_cutSign_71 (by decide) ?_
          have hE : sgT (bI bT) nN pT = (1001, pT + 1) := by rw [sg_n2 er_80888 (by have h9 := (la_add ex_80887 (rfl : i1.toInt = i1.toInt) (show (1 : Int32).toInt = 1 from rfl) b_i1 (show bn 1 1 (1 : Int32) from bn_k (by decide)) (by decide)); have h8 := hp; omega) c_80889, (sg_kn t0 er_80896 exc c_80897)]
          refine cVv (As := [.int 1001, .int i1, .int 0]) (rest := []) S Y (x_X5_addToken (l := l) I hW hT hQ hc (by rw [hK, hE]; rfl) (by rw [hP]; exact hp) (by rw [hV]; rfl)) cw_X5_addToken km5_85 (I.opo (k := 2) (j := 0) (by decide) rfl).choose_spec.1 ok_X5.1 rfl rfl ⟨Nat.le_of_ble_eq_true rfl, Nat.le_of_ble_eq_true rfl⟩ hl.1 rfl (Nat.le_of_ble_eq_true rfl) ⟨Nat.le_of_ble_eq_true rfl, Nat.le_of_ble_eq_true rfl⟩ dX5_cutSign_72 (fun L_80900 f_80901 H locs I Y => ?_)
          refine lv_iload_n hx hb dX5_cutSign_75 rfl (lv_at hl 1 rfl) ?_
          refine lv_if_eq (tgt := 85) hx hb dX5_cutSign_76 (by decide) (fun _ => ?_) (fun h => absurd (by decide) h)
          refine lv_iload_n hx hb dX5_cutSign_85 rfl (lv_at hl 4 rfl) ?_
          refine lv_iconst (v := 1) hx hb dX5_cutSign_86 (by decide) ?_
          refine lv_iadd hx hb dX5_cutSign_87 ?_
          refine lv_topi (fun x_80902 ex_80902 => ?_)
          exact prI (post := fun r L1 f1 => bn 0 301 r ∧ SH (spC ((rf, fz (pp (nN : Int)) (pp ((cT + 1 : Nat) : Int)) zR zK zP zV zW zF zQ, tz (EQ bT) (RW (cT + 1) kK) (RW (cT + 1) kP) (RW (cT + 1) kV), sc) : RS) fc tc w q) nnC G ad L1 f1 ∧ r.toInt = (((sgT (bI bT) nN pT).2 : Nat) : Int)) S Y rfl (by decide) (by decide) hA1 ⟨bn_w (bn_eq ex_80902 (bn_add b_i1 (show bn 1 1 (1 : Int32) from bn_k (by decide)) (by decide))) (by decide), I, (by rw [hE]; have h9 := (la_add ex_80902 (rfl : i1.toInt = i1.toInt) (show (1 : Int32).toInt = 1 from rfl) b_i1 (show bn 1 1 (1 : Int32) from bn_k (by decide)) (by decide)); have h8 := hp; show x_80902.toInt = ((pT + 1 : Nat) : Int); omega)⟩ dX5_cutSign_88
        · have B_80899 : bn 0 2147483647 r_80896 := bn_w (bn_gel c_80897 (bn_any r_80896) (show bn 0 0 (0 : Int32) from bn_k (by decide))) (by decide)
          refine lv_iload_n hx hb dX5_cutSign_46 rfl (lv_at hl 1 rfl) ?_
          refine lv_goto (tgt := 53) hx hb dX5_cutSign_47 (by decide) ?_
          refine lv_istore (lv' := [(4, .int r_80830), (3, .int 0), (2, .int r_80830), (0, .ref (ad 2 0)), (1, .int i1)]) hx hb dX5_cutSign_53 hl (by decide) rfl (fun ls hl => ?_)
          refine lv_aload_n hx hb dX5_cutSign_55 rfl (lv_at hl 3 rfl) ?_
          refine lv_iload_n hx hb dX5_cutSign_56 rfl (lv_at hl 1 rfl) ?_
          refine lv_if_eq (tgt := 68) hx hb dX5_cutSign_57 (by decide) (fun _ => ?_) (fun h => absurd (by decide) h)
          refine lv_iload hx hb dX5_cutSign_68 (lv_at hl 0 rfl) ?_
          refine lv_iload_n hx hb dX5_cutSign_70 rfl (lv_at hl 4 rfl) ?_
          refine lv_iconst (v := 0) hx hb dX5_cutSign_71 (by decide) ?_
          have hE : sgT (bI bT) nN pT = (r_80830.toInt, pT + 1) := by rw [sg_n2 er_80888 (by have h9 := (la_add ex_80887 (rfl : i1.toInt = i1.toInt) (show (1 : Int32).toInt = 1 from rfl) b_i1 (show bn 1 1 (1 : Int32) from bn_k (by decide)) (by decide)); have h8 := hp; omega) c_80889, (sg_ky t0 er_80896 exc c_80897)]
          refine cVv (As := [.int r_80830, .int i1, .int 0]) (rest := []) S Y (x_X5_addToken (l := l) I hW hT hQ hc (by rw [hK, hE]) (by rw [hP]; exact hp) (by rw [hV]; rfl)) cw_X5_addToken km5_85 (I.opo (k := 2) (j := 0) (by decide) rfl).choose_spec.1 ok_X5.1 rfl rfl ⟨Nat.le_of_ble_eq_true rfl, Nat.le_of_ble_eq_true rfl⟩ hl.1 rfl (Nat.le_of_ble_eq_true rfl) ⟨Nat.le_of_ble_eq_true rfl, Nat.le_of_ble_eq_true rfl⟩ dX5_cutSign_72 (fun L_80903 f_80904 H locs I Y => ?_)
          refine lv_iload_n hx hb dX5_cutSign_75 rfl (lv_at hl 1 rfl) ?_
          refine lv_if_eq (tgt := 85) hx hb dX5_cutSign_76 (by decide) (fun _ => ?_) (fun h => absurd (by decide) h)
          refine lv_iload_n hx hb dX5_cutSign_85 rfl (lv_at hl 4 rfl) ?_
          refine lv_iconst (v := 1) hx hb dX5_cutSign_86 (by decide) ?_
          refine lv_iadd hx hb dX5_cutSign_87 ?_
          refine lv_topi (fun x_80905 ex_80905 => ?_)
          exact prI (post := fun r L1 f1 => bn 0 301 r ∧ SH (spC ((rf, fz (pp (nN : Int)) (pp ((cT + 1 : Nat) : Int)) zR zK zP zV zW zF zQ, tz (EQ bT) (RW (cT + 1) kK) (RW (cT + 1) kP) (RW (cT + 1) kV), sc) : RS) fc tc w q) nnC G ad L1 f1 ∧ r.toInt = (((sgT (bI bT) nN pT).2 : Nat) : Int)) S Y rfl (by decide) (by decide) hA1 ⟨bn_w (bn_eq ex_80905 (bn_add b_i1 (show bn 1 1 (1 : Int32) from bn_k (by decide)) (by decide))) (by decide), I, (by rw [hE]; have h9 := (la_add ex_80905 (rfl : i1.toInt = i1.toInt) (show (1 : Int32).toInt = 1 from rfl) b_i1 (show bn 1 1 (1 : Int32) from bn_k (by decide)) (by decide)); have h8 := hp; show x_80905.toInt = ((pT + 1 : Nat) : Int); omega)⟩ dX5_cutSign_88
      · have B_80890 : bn 61 61 r_80888 := bn_w (bn_eq c_80889 (show bn 61 61 (61 : Int32) from bn_k (by decide))) (by decide)
        refine lv_iconst (v := 1) hx hb dX5_cutSign_30 (by decide) ?_
        refine lv_goto (tgt := 35) hx hb dX5_cutSign_31 (by decide) ?_
        refine lv_istore_n (lv' := [(3, .int 1), (2, .int r_80830), (0, .ref (ad 2 0)), (1, .int i1)]) hx hb dX5_cutSign_35 rfl hl (by decide) rfl (fun ls hl => ?_)
        refine va_ldcS hx hb S.ow hz.2.2.2.2 dX5_cutSign_36 ?_
        refine lv_iload_n hx hb dX5_cutSign_38 rfl (lv_at hl 1 rfl) ?_
        obtain ⟨x_80906, ex_80906⟩ : ∃ z : Int32, z = ((r_80830 : Int32).toUInt32 % 65536).toInt32 := ⟨_, rfl⟩
        refine lv_i2c (v := x_80906) hx hb dX5_cutSign_39 ex_80906.symm ?_
        have exc : x_80906 = r_80830 := c16 (bn_w B_80871 (by decide)) ex_80906
        have B_80907 : bn 0 255 x_80906 := by rw [exc]; exact bn_w B_80871 (by decide)
        refine zVi (As := [.int x_80906]) (rest := []) S Y hz (x_J0_indexOf (l := l) (bn_w B_80907 (by decide))) cw_X100_indexOf_0f7a4 km5_115 (recvK (i := 1) Y hz (by decide) rfl) rfl ⟨Nat.le_of_ble_eq_true rfl, Nat.le_of_ble_eq_true rfl⟩ hl.1 rfl (Nat.le_of_ble_eq_true rfl) ⟨Nat.le_of_ble_eq_true rfl, Nat.le_of_ble_eq_true rfl⟩ dX5_cutSign_40 (fun r_80911 L_80908 f_80909 H locs h_80910 Y => ?_)
        rw [h_80910.2.1, h_80910.2.2] at Y
        have er_80911 := h_80910.1
        refine lv_if_lt (tgt := 50) hx hb dX5_cutSign_43 (by decide) (fun c_80912 => ?_) (fun c_80912 => ?_)
        · have B_80913 : bn (-2147483648) (-1) r_80911 := bn_w (bn_ltl c_80912 (bn_any r_80911) (show bn 0 0 (0 : Int32) from bn_k (by decide))) (by decide)
          refine lv_sipush (v := 1001) hx hb dX5_cutSign_50 (by decide) ?_
          refine lv_istore (lv' := [(4, .int 1001), (3, .int 1), (2, .int r_80830), (0, .ref (ad 2 0)), (1, .int i1)]) hx hb dX5_cutSign_53 hl (by decide) rfl (fun ls hl => ?_)
          refine lv_aload_n hx hb dX5_cutSign_55 rfl (lv_at hl 3 rfl) ?_
          refine lv_iload_n hx hb dX5_cutSign_56 rfl (lv_at hl 1 rfl) ?_
          refine lv_if_eq (tgt := 68) hx hb dX5_cutSign_57 (by decide) (fun h => absurd h (by decide)) (fun _ => ?_)
          refine lv_iload_n hx hb dX5_cutSign_60 rfl (lv_at hl 2 rfl) ?_
          refine lv_sipush (v := 256) hx hb dX5_cutSign_61 (by decide) ?_
          refine lv_iadd hx hb dX5_cutSign_64 ?_
          refine lv_topi (fun x_80915 ex_80915 => ?_)
          refine lv_goto (tgt := 70) hx hb dX5_cutSign_65 (by decide) ?_
          refine lv_iload_n hx hb dX5_cutSign_70 rfl (lv_at hl 4 rfl) ?_
          refine lv_iconst (v := 0) hx hb dX5_cutSign_71 (by decide) ?_
          have hE : sgT (bI bT) nN pT = (bI bT pT + 256, pT + 2) := sg_y t0 (Or.inr c_80870) er_80888 (by have h9 := (la_add ex_80887 (rfl : i1.toInt = i1.toInt) (show (1 : Int32).toInt = 1 from rfl) b_i1 (show bn 1 1 (1 : Int32) from bn_k (by decide)) (by decide)); have h8 := hp; omega) c_80889
          refine cVv (As := [.int x_80915, .int i1, .int 0]) (rest := []) S Y (x_X5_addToken (l := l) I hW hT hQ hc (by rw [hK, hE]; have h9 := (la_add ex_80915 t0 (show (256 : Int32).toInt = 256 from rfl) B_80871 (show bn 256 256 (256 : Int32) from bn_k (by decide)) (by decide)); show x_80915.toInt = bI bT pT + 256; have h8 := t0; omega) (by rw [hP]; exact hp) (by rw [hV]; rfl)) cw_X5_addToken km5_85 (I.opo (k := 2) (j := 0) (by decide) rfl).choose_spec.1 ok_X5.1 rfl rfl ⟨Nat.le_of_ble_eq_true rfl, Nat.le_of_ble_eq_true rfl⟩ hl.1 rfl (Nat.le_of_ble_eq_true rfl) ⟨Nat.le_of_ble_eq_true rfl, Nat.le_of_ble_eq_true rfl⟩ dX5_cutSign_72 (fun L_80916 f_80917 H locs I Y => ?_)
          refine lv_iload_n hx hb dX5_cutSign_75 rfl (lv_at hl 1 rfl) ?_
          refine lv_if_eq (tgt := 85) hx hb dX5_cutSign_76 (by decide) (fun h => absurd h (by decide)) (fun _ => ?_)
          refine lv_iload_n hx hb dX5_cutSign_79 rfl (lv_at hl 4 rfl) ?_
          refine lv_iconst (v := 2) hx hb dX5_cutSign_80 (by decide) ?_
          refine lv_iadd hx hb dX5_cutSign_81 ?_
          refine lv_topi (fun x_80918 ex_80918 => ?_)
          refine lv_goto (tgt := 88) hx hb dX5_cutSign_82 (by decide) ?_
          exact prI (post := fun r L1 f1 => bn 0 301 r ∧ SH (spC ((rf, fz (pp (nN : Int)) (pp ((cT + 1 : Nat) : Int)) zR zK zP zV zW zF zQ, tz (EQ bT) (RW (cT + 1) kK) (RW (cT + 1) kP) (RW (cT + 1) kV), sc) : RS) fc tc w q) nnC G ad L1 f1 ∧ r.toInt = (((sgT (bI bT) nN pT).2 : Nat) : Int)) S Y rfl (by decide) (by decide) hA1 ⟨bn_w (bn_eq ex_80918 (bn_add b_i1 (show bn 2 2 (2 : Int32) from bn_k (by decide)) (by decide))) (by decide), I, (by rw [hE]; have h9 := (la_add ex_80918 (rfl : i1.toInt = i1.toInt) (show (2 : Int32).toInt = 2 from rfl) b_i1 (show bn 2 2 (2 : Int32) from bn_k (by decide)) (by decide)); have h8 := hp; show x_80918.toInt = ((pT + 2 : Nat) : Int); omega)⟩ dX5_cutSign_88
        · have B_80914 : bn 0 2147483647 r_80911 := bn_w (bn_gel c_80912 (bn_any r_80911) (show bn 0 0 (0 : Int32) from bn_k (by decide))) (by decide)
          refine lv_iload_n hx hb dX5_cutSign_46 rfl (lv_at hl 1 rfl) ?_
          refine lv_goto (tgt := 53) hx hb dX5_cutSign_47 (by decide) ?_
          refine lv_istore (lv' := [(4, .int r_80830), (3, .int 1), (2, .int r_80830), (0, .ref (ad 2 0)), (1, .int i1)]) hx hb dX5_cutSign_53 hl (by decide) rfl (fun ls hl => ?_)
          refine lv_aload_n hx hb dX5_cutSign_55 rfl (lv_at hl 3 rfl) ?_
          refine lv_iload_n hx hb dX5_cutSign_56 rfl (lv_at hl 1 rfl) ?_
          refine lv_if_eq (tgt := 68) hx hb dX5_cutSign_57 (by decide) (fun h => absurd h (by decide)) (fun _ => ?_)
          refine lv_iload_n hx hb dX5_cutSign_60 rfl (lv_at hl 2 rfl) ?_
          refine lv_sipush (v := 256) hx hb dX5_cutSign_61 (by decide) ?_
          refine lv_iadd hx hb dX5_cutSign_64 ?_
          refine lv_topi (fun x_80919 ex_80919 => ?_)
          refine lv_goto (tgt := 70) hx hb dX5_cutSign_65 (by decide) ?_
          refine lv_iload_n hx hb dX5_cutSign_70 rfl (lv_at hl 4 rfl) ?_
          refine lv_iconst (v := 0) hx hb dX5_cutSign_71 (by decide) ?_
          have hE : sgT (bI bT) nN pT = (bI bT pT + 256, pT + 2) := sg_y t0 (Or.inr c_80870) er_80888 (by have h9 := (la_add ex_80887 (rfl : i1.toInt = i1.toInt) (show (1 : Int32).toInt = 1 from rfl) b_i1 (show bn 1 1 (1 : Int32) from bn_k (by decide)) (by decide)); have h8 := hp; omega) c_80889
          refine cVv (As := [.int x_80919, .int i1, .int 0]) (rest := []) S Y (x_X5_addToken (l := l) I hW hT hQ hc (by rw [hK, hE]; have h9 := (la_add ex_80919 t0 (show (256 : Int32).toInt = 256 from rfl) B_80871 (show bn 256 256 (256 : Int32) from bn_k (by decide)) (by decide)); show x_80919.toInt = bI bT pT + 256; have h8 := t0; omega) (by rw [hP]; exact hp) (by rw [hV]; rfl)) cw_X5_addToken km5_85 (I.opo (k := 2) (j := 0) (by decide) rfl).choose_spec.1 ok_X5.1 rfl rfl ⟨Nat.le_of_ble_eq_true rfl, Nat.le_of_ble_eq_true rfl⟩ hl.1 rfl (Nat.le_of_ble_eq_true rfl) ⟨Nat.le_of_ble_eq_true rfl, Nat.le_of_ble_eq_true rfl⟩ dX5_cutSign_72 (fun L_80920 f_80921 H locs I Y => ?_)
          refine lv_iload_n hx hb dX5_cutSign_75 rfl (lv_at hl 1 rfl) ?_
          refine lv_if_eq (tgt := 85) hx hb dX5_cutSign_76 (by decide) (fun h => absurd h (by decide)) (fun _ => ?_)
          refine lv_iload_n hx hb dX5_cutSign_79 rfl (lv_at hl 4 rfl) ?_
          refine lv_iconst (v := 2) hx hb dX5_cutSign_80 (by decide) ?_
          refine lv_iadd hx hb dX5_cutSign_81 ?_
          refine lv_topi (fun x_80922 ex_80922 => ?_)
          refine lv_goto (tgt := 88) hx hb dX5_cutSign_82 (by decide) ?_
          exact prI (post := fun r L1 f1 => bn 0 301 r ∧ SH (spC ((rf, fz (pp (nN : Int)) (pp ((cT + 1 : Nat) : Int)) zR zK zP zV zW zF zQ, tz (EQ bT) (RW (cT + 1) kK) (RW (cT + 1) kP) (RW (cT + 1) kV), sc) : RS) fc tc w q) nnC G ad L1 f1 ∧ r.toInt = (((sgT (bI bT) nN pT).2 : Nat) : Int)) S Y rfl (by decide) (by decide) hA1 ⟨bn_w (bn_eq ex_80922 (bn_add b_i1 (show bn 2 2 (2 : Int32) from bn_k (by decide)) (by decide))) (by decide), I, (by rw [hE]; have h9 := (la_add ex_80922 (rfl : i1.toInt = i1.toInt) (show (2 : Int32).toInt = 2 from rfl) b_i1 (show bn 2 2 (2 : Int32) from bn_k (by decide)) (by decide)); have h8 := hp; show x_80922.toInt = ((pT + 2 : Nat) : Int); omega)⟩ dX5_cutSign_88
set_option maxHeartbeats 4000000 in
set_option maxRecDepth 100000 in
theorem x_X5_cutTokens {l : Launch} {G : GG}  {L : List Nat} {f : HF} {ad : Nat → Nat → Nat} {zC : Int × Int} {zR : Int × Int} {zK : Int × Int} {zP : Int × Int} {zV : Int × Int} {zW : Int × Int} {zF : Int × Int} {zQ : Int × Int} {tU : (Nat → Int32) → Prop} {tP : (Nat → Int32) → Prop} {tV : (Nat → Int32) → Prop} {rf : FS} {sc : Nat → SG} {bT : Nat → Int32} {nN : Nat} {fc : Int × Int} {tc w : Nat → Int × Int} {q : Nat → (Nat → Int32) → Prop} {aK aV : Nat → Nat} {z0 : Option Nat} (I : SH (spC ((rf, fz (pp (nN : Int)) zC zR zK zP zV zW zF zQ, tz (EQ bT) tU tP tV, sc) : RS) fc tc w q) nnC G ad L f) (hW : WBp w 8) (hT : WBp tc 4) (hQ : QIp q) (hn3 : nN ≤ 300) (hB : BYT bT) : PMvZ aK aV z0 l yX5_cutTokens cX5_cutTokens 4 7 0 0 G [.ref (ad 2 0)] L f (fun L1 f1 => ∃ kN2 : Nat, SH (spC ((rf, fz (pp (nN : Int)) (pp (kN2 : Int)) zR zK zP zV zW zF zQ, tz (EQ bT) (RW kN2 (tkK (bI bT) nN)) (RW kN2 (tkPI (bI bT) nN)) (RW kN2 (tkV (bI bT) nN)), sc) : RS) fc tc w q) nnC G ad L1 f1 ∧ RDH (tkK (bI bT) nN) kN2) := by
  refine PMvZ.of (post := fun L1 f1 => ∃ kN2 : Nat, SH (spC ((rf, fz (pp (nN : Int)) (pp (kN2 : Int)) zR zK zP zV zW zF zQ, tz (EQ bT) (RW kN2 (tkK (bI bT) nN)) (RW kN2 (tkPI (bI bT) nN)) (RW kN2 (tkV (bI bT) nN)), sc) : RS) fc tc w q) nnC G ad L1 f1 ∧ RDH (tkK (bI bT) nN) kN2) (own := RX5) (by decide) rfl (Nat.le_of_ble_eq_true rfl) (fun sz p e s m args below meth c A ls hA1 hname S Y hz hl => ?_)
  have hx := S.hx
  have hb := S.hb
  have hl : lv_has ls 4 [(0, .ref (ad 2 0))] := hl
  have J_9 : ∀ (n9 : Nat) (y9_1 y9_2 : Int32) (aT : Nat) (ch : Nat) (L_9 : List Nat) (f_9 : HF) (H : Heap) (locs : List Loc) (ls : Array Slot), (SH (spC ((rf, fz (pp (nN : Int)) (pp (ch : Int)) zR zK zP zV zW zF zQ, tz (EQ bT) (RW ch (tkK (bI bT) nN)) (RW ch (tkPI (bI bT) nN)) (RW ch (tkV (bI bT) nN)), sc) : RS) fc tc w q) nnC G ad L_9 f_9) → (bn 0 301 y9_1) → (bn 0 300 y9_2) → (y9_1.toInt = (aT : Int) ∧ aT ≤ nN ∧ y9_2.toInt ≤ (aT : Int) ∧ ch ≤ aT ∧ tkP (bI bT) nN ch = skB (bI bT) nN nN aT) → (((300 : Int) - y9_2.toInt).toNat = n9) → (DY G A s [] L_9 f_9 H locs) → (lv_has ls 4 [(0, .ref (ad 2 0)), (1, .int y9_1), (2, .int y9_2)]) → W p l e (rmD 7 0 0) s m args below meth c H locs (0) (0) (MQ below (va_Qv (fun (u : List Nat × HF) => (fun L1 f1 => ∃ kN2 : Nat, SH (spC ((rf, fz (pp (nN : Int)) (pp (kN2 : Int)) zR zK zP zV zW zF zQ, tz (EQ bT) (RW kN2 (tkK (bI bT) nN)) (RW kN2 (tkPI (bI bT) nN)) (RW kN2 (tkV (bI bT) nN)), sc) : RS) fc tc w q) nnC G ad L1 f1 ∧ RDH (tkK (bI bT) nN) kN2) u.1 u.2) (fun u t => pOut G (va_A (va_pl L f) sz) u.1 u.2 t) (va_A (va_pl L f) sz)) args s 0 0 A) (F0 m 9 ls []) := by
    intro n9
    induction n9 using Nat.strongRecOn with
    | _ n9 ih9 =>
      intro y9_1 y9_2 aT ch L_9 f_9 H locs ls I b_y9_1 b_y9_2 hI hm9 Y hl
      refine lv_iload_n hx hb dX5_cutTokens_9 rfl (lv_at hl 2 rfl) ?_
      refine lv_sipush (v := 300) hx hb dX5_cutTokens_10 (by decide) ?_
      refine lv_icmp_ge (tgt := 92) hx hb dX5_cutTokens_13 (by decide) (fun c_83352 => ?_) (fun c_83352 => ?_)
      · have B_83353 : bn 300 300 y9_2 := bn_w (bn_ler c_83352 (show bn 300 300 (300 : Int32) from bn_k (by decide)) b_y9_2) (by decide)
        refine lv_aload_n hx hb dX5_cutTokens_92 rfl (lv_at hl 0 rfl) ?_
        refine lv_sipush (v := 1002) hx hb dX5_cutTokens_93 (by decide) ?_
        refine lv_aload_n hx hb dX5_cutTokens_96 rfl (lv_at hl 0 rfl) ?_
        obtain ⟨v_83355, v_83357, v_83359, v_83361, v_83363, v_83365, v_83367, v_83369, v_83371, v_83373, p_ad_2_0, b_83356, b_83358, b_83360, b_83362, b_83364, b_83366, b_83368, b_83370, b_83372, b_83374⟩ := opnC_2 (j := 0) I (by decide)
        have p_ad_2_0 : pt L_9 f_9 (ad 2 0) (.inr (5, [.ref (ad 50 0), .ref (ad 51 0), .ref (ad 52 0), .ref (ad 53 0), .int v_83355, .int v_83357, .int v_83359, .int v_83361, .int v_83363, .int v_83365, .int v_83367, v_83369, .int v_83371, .int v_83373])) := p_ad_2_0
        have tv_83355 : v_83355.toInt = (nN : Int) := lim_eq b_83356
        have tv_83357 : v_83357.toInt = (ch : Int) := lim_eq b_83358
        refine pg_get S Y ok_X5 4 (by decide) kf5_31 (v := .int v_83355) p_ad_2_0 rfl dX5_cutTokens_97 ?_
        refine lv_iconst (v := 0) hx hb dX5_cutTokens_100 (by decide) ?_
        have hq : tkP (bI bT) nN ch = nN := by have h9 : aT = nN := (by have u1 := tv_83355; have u2 := tv_83357; have u3 := (show 300 ≤ y9_2.toInt from by have z9 := c_83352; rw [Int32.le_iff_toInt_le] at z9; exact z9); have u4 := hI.1; have u5 := hI.2.1; have u6 := hI.2.2.1; have u7 := hn3; omega); have h8 := hI.2.2.2.2; rw [skB_no (fun q => absurd q.1 (by omega)), h9] at h8; exact h8
        refine cVv (As := [.int 1002, .int v_83355, .int 0]) (rest := []) S Y (x_X5_addToken (l := l) I hW hT hQ (by have h9 := hI.2.2.2.1; have h8 := hI.2.1; have h7 := hn3; omega) (show (1002 : Int32).toInt = tkK (bI bT) nN ch from (tk_at hq (tk0_e (Nat.le_refl nN))).1.symm) (show v_83355.toInt = ((tkP (bI bT) nN ch : Nat) : Int) from by rw [hq]; exact tv_83355) (show (0 : Int32).toInt = tkV (bI bT) nN ch from (tk_at hq (tk0_e (Nat.le_refl nN))).2.1.symm)) cw_X5_addToken km5_85 p_ad_2_0 ok_X5.1 rfl rfl ⟨Nat.le_of_ble_eq_true rfl, Nat.le_of_ble_eq_true rfl⟩ hl.1 rfl (Nat.le_of_ble_eq_true rfl) ⟨Nat.le_of_ble_eq_true rfl, Nat.le_of_ble_eq_true rfl⟩ dX5_cutTokens_101 (fun L_83375 f_83376 H locs I Y => ?_)
        exact prV (post := fun L1 f1 => ∃ kN2 : Nat, SH (spC ((rf, fz (pp (nN : Int)) (pp (kN2 : Int)) zR zK zP zV zW zF zQ, tz (EQ bT) (RW kN2 (tkK (bI bT) nN)) (RW kN2 (tkPI (bI bT) nN)) (RW kN2 (tkV (bI bT) nN)), sc) : RS) fc tc w q) nnC G ad L1 f1 ∧ RDH (tkK (bI bT) nN) kN2) S Y (by decide) (by decide) hA1 ⟨(ch + 1), I, (RDH_mk hq (by have h9 := hI.2.2.2.1; have h8 := hI.2.1; have h7 := hn3; omega))⟩ dX5_cutTokens_104
      · have B_83354 : bn 0 299 y9_2 := bn_w (bn_gtr c_83352 (show bn 300 300 (300 : Int32) from bn_k (by decide)) b_y9_2) (by decide)
        refine lv_iload_n hx hb dX5_cutTokens_16 rfl (lv_at hl 1 rfl) ?_
        refine lv_aload_n hx hb dX5_cutTokens_17 rfl (lv_at hl 0 rfl) ?_
        obtain ⟨v_83377, v_83379, v_83381, v_83383, v_83385, v_83387, v_83389, v_83391, v_83393, v_83395, p_ad_2_0, b_83378, b_83380, b_83382, b_83384, b_83386, b_83388, b_83390, b_83392, b_83394, b_83396⟩ := opnC_2 (j := 0) I (by decide)
        have p_ad_2_0 : pt L_9 f_9 (ad 2 0) (.inr (5, [.ref (ad 50 0), .ref (ad 51 0), .ref (ad 52 0), .ref (ad 53 0), .int v_83377, .int v_83379, .int v_83381, .int v_83383, .int v_83385, .int v_83387, .int v_83389, v_83391, .int v_83393, .int v_83395])) := p_ad_2_0
        have tv_83377 : v_83377.toInt = (nN : Int) := lim_eq b_83378
        have tv_83379 : v_83379.toInt = (ch : Int) := lim_eq b_83380
        refine pg_get S Y ok_X5 4 (by decide) kf5_31 (v := .int v_83377) p_ad_2_0 rfl dX5_cutTokens_18 ?_
        refine lv_icmp_ge (tgt := 92) hx hb dX5_cutTokens_21 (by decide) (fun c_83397 => ?_) (fun c_83397 => ?_)
        · refine lv_aload_n hx hb dX5_cutTokens_92 rfl (lv_at hl 0 rfl) ?_
          refine lv_sipush (v := 1002) hx hb dX5_cutTokens_93 (by decide) ?_
          refine lv_aload_n hx hb dX5_cutTokens_96 rfl (lv_at hl 0 rfl) ?_
          refine pg_get S Y ok_X5 4 (by decide) kf5_31 (v := .int v_83377) p_ad_2_0 rfl dX5_cutTokens_97 ?_
          refine lv_iconst (v := 0) hx hb dX5_cutTokens_100 (by decide) ?_
          have hq : tkP (bI bT) nN ch = nN := by have h9 : aT = nN := (by have u1 := tv_83377; have u2 := tv_83379; have u3 := (show y9_2.toInt < 300 from by have z9 := (Int32.not_le.mp c_83352); rw [Int32.lt_iff_toInt_lt] at z9; exact z9); have u4 := (show v_83377.toInt ≤ y9_1.toInt from by have z9 := c_83397; rw [Int32.le_iff_toInt_le] at z9; exact z9); have u5 := hI.1; have u6 := hI.2.1; have u7 := hI.2.2.1; have u8 := hn3; omega); have h8 := hI.2.2.2.2; rw [skB_no (fun q => absurd q.1 (by omega)), h9] at h8; exact h8
          refine cVv (As := [.int 1002, .int v_83377, .int 0]) (rest := []) S Y (x_X5_addToken (l := l) I hW hT hQ (by have h9 := hI.2.2.2.1; have h8 := hI.2.1; have h7 := hn3; omega) (show (1002 : Int32).toInt = tkK (bI bT) nN ch from (tk_at hq (tk0_e (Nat.le_refl nN))).1.symm) (show v_83377.toInt = ((tkP (bI bT) nN ch : Nat) : Int) from by rw [hq]; exact tv_83377) (show (0 : Int32).toInt = tkV (bI bT) nN ch from (tk_at hq (tk0_e (Nat.le_refl nN))).2.1.symm)) cw_X5_addToken km5_85 p_ad_2_0 ok_X5.1 rfl rfl ⟨Nat.le_of_ble_eq_true rfl, Nat.le_of_ble_eq_true rfl⟩ hl.1 rfl (Nat.le_of_ble_eq_true rfl) ⟨Nat.le_of_ble_eq_true rfl, Nat.le_of_ble_eq_true rfl⟩ dX5_cutTokens_101 (fun L_83400 f_83401 H locs I Y => ?_)
          exact prV (post := fun L1 f1 => ∃ kN2 : Nat, SH (spC ((rf, fz (pp (nN : Int)) (pp (kN2 : Int)) zR zK zP zV zW zF zQ, tz (EQ bT) (RW kN2 (tkK (bI bT) nN)) (RW kN2 (tkPI (bI bT) nN)) (RW kN2 (tkV (bI bT) nN)), sc) : RS) fc tc w q) nnC G ad L1 f1 ∧ RDH (tkK (bI bT) nN) kN2) S Y (by decide) (by decide) hA1 ⟨(ch + 1), I, (RDH_mk hq (by have h9 := hI.2.2.2.1; have h8 := hI.2.1; have h7 := hn3; omega))⟩ dX5_cutTokens_104
        · have B_83398 : bn 1 300 v_83377 := bn_w (bn_gtl c_83397 (bn_w (a' := 0) (b' := 300) b_83378 (lim_b _ _ _)) b_y9_1) (by decide)
          have B_83399 : bn 0 299 y9_1 := bn_w (bn_gtr c_83397 (bn_w (a' := 0) (b' := 300) b_83378 (lim_b _ _ _)) b_y9_1) (by decide)
          refine lv_aload_n hx hb dX5_cutTokens_24 rfl (lv_at hl 0 rfl) ?_
          refine lv_iload_n hx hb dX5_cutTokens_25 rfl (lv_at hl 1 rfl) ?_
          refine cVp (As := [.int y9_1]) (rest := []) S Y (x_X5_byteAt (l := l) I hW hT hQ) cw_X5_byteAt km5_65 p_ad_2_0 ok_X5.1 rfl rfl ⟨Nat.le_of_ble_eq_true rfl, Nat.le_of_ble_eq_true rfl⟩ hl.1 rfl (Nat.le_of_ble_eq_true rfl) ⟨Nat.le_of_ble_eq_true rfl, Nat.le_of_ble_eq_true rfl⟩ dX5_cutTokens_26 (fun r_83402 H locs er_83402 Y => ?_)
          refine lv_istore_n (lv' := [(3, .int r_83402), (0, .ref (ad 2 0)), (1, .int y9_1), (2, .int y9_2)]) hx hb dX5_cutTokens_29 rfl hl (by decide) rfl (fun ls hl => ?_)
          refine lv_iload_n hx hb dX5_cutTokens_30 rfl (lv_at hl 0 rfl) ?_
          refine lv_bipush (v := 32) hx hb dX5_cutTokens_31 (by decide) ?_
          refine lv_icmp_eq (tgt := 42) hx hb dX5_cutTokens_33 (by decide) (fun c_83403 => ?_) (fun c_83403 => ?_)
          · have B_83404 : bn 32 32 r_83402 := bn_w (bn_eq c_83403 (show bn 32 32 (32 : Int32) from bn_k (by decide))) (by decide)
            obtain ⟨x_83405, ex_83405⟩ : ∃ z : Int32, z = y9_1 + 1 := ⟨_, rfl⟩
            refine lv_iinc (v := x_83405) (lv' := [(1, .int x_83405), (3, .int r_83402), (0, .ref (ad 2 0)), (2, .int y9_2)]) hx hb dX5_cutTokens_42 hl (k := 2) rfl (by rw [ex_83405]; rfl) (by decide) rfl (fun ls hl => ?_)
            refine lv_goto (tgt := 86) hx hb dX5_cutTokens_45 (by decide) ?_
            obtain ⟨x_83406, ex_83406⟩ : ∃ z : Int32, z = y9_2 + 1 := ⟨_, rfl⟩
            refine lv_iinc (v := x_83406) (lv' := [(2, .int x_83406), (1, .int x_83405), (3, .int r_83402), (0, .ref (ad 2 0))]) hx hb dX5_cutTokens_86 hl (k := 3) rfl (by rw [ex_83406]; rfl) (by decide) rfl (fun ls hl => ?_)
            refine lv_goto (tgt := 9) hx hb dX5_cutTokens_89 (by decide) ?_
            exact ih9 _ (by rw [← hm9]; exact ms_up (m := 1) ex_83406 (show bn 1 1 (1 : Int32) from bn_k (by decide)) B_83354 (bn_w (bn_eq ex_83406 (bn_add B_83354 (show bn 1 1 (1 : Int32) from bn_k (by decide)) (by decide))) (by decide) : bn 0 300 x_83406) (by decide)) x_83405 x_83406 (aT + 1) ch _ _  _ _ _ I (bn_w (bn_eq ex_83405 (bn_add B_83399 (show bn 1 1 (1 : Int32) from bn_k (by decide)) (by decide))) (by decide)) (bn_w (bn_eq ex_83406 (bn_add B_83354 (show bn 1 1 (1 : Int32) from bn_k (by decide)) (by decide))) (by decide)) ⟨(by have u1 := tv_83377; have u2 := tv_83379; have u3 := (show y9_2.toInt < 300 from by have z9 := (Int32.not_le.mp c_83352); rw [Int32.lt_iff_toInt_lt] at z9; exact z9); have u4 := (show y9_1.toInt < v_83377.toInt from by have z9 := (Int32.not_le.mp c_83397); rw [Int32.lt_iff_toInt_lt] at z9; exact z9); have u5 := hI.1; have u6 := hI.2.1; have u7 := hI.2.2.1; have u8 := hI.2.2.2.1; have u9 := (la_add ex_83405 (rfl : y9_1.toInt = y9_1.toInt) (show (1 : Int32).toInt = 1 from rfl) B_83399 (show bn 1 1 (1 : Int32) from bn_k (by decide)) (by decide)); have u10 := (la_add ex_83406 (rfl : y9_2.toInt = y9_2.toInt) (show (1 : Int32).toInt = 1 from rfl) B_83354 (show bn 1 1 (1 : Int32) from bn_k (by decide)) (by decide)); omega), (by have u1 := tv_83377; have u2 := tv_83379; have u3 := (show y9_2.toInt < 300 from by have z9 := (Int32.not_le.mp c_83352); rw [Int32.lt_iff_toInt_lt] at z9; exact z9); have u4 := (show y9_1.toInt < v_83377.toInt from by have z9 := (Int32.not_le.mp c_83397); rw [Int32.lt_iff_toInt_lt] at z9; exact z9); have u5 := hI.1; have u6 := hI.2.1; have u7 := hI.2.2.1; have u8 := hI.2.2.2.1; have u9 := (la_add ex_83405 (rfl : y9_1.toInt = y9_1.toInt) (show (1 : Int32).toInt = 1 from rfl) B_83399 (show bn 1 1 (1 : Int32) from bn_k (by decide)) (by decide)); have u10 := (la_add ex_83406 (rfl : y9_2.toInt = y9_2.toInt) (show (1 : Int32).toInt = 1 from rfl) B_83354 (show bn 1 1 (1 : Int32) from bn_k (by decide)) (by decide)); omega), (by have u1 := tv_83377; have u2 := tv_83379; have u3 := (show y9_2.toInt < 300 from by have z9 := (Int32.not_le.mp c_83352); rw [Int32.lt_iff_toInt_lt] at z9; exact z9); have u4 := (show y9_1.toInt < v_83377.toInt from by have z9 := (Int32.not_le.mp c_83397); rw [Int32.lt_iff_toInt_lt] at z9; exact z9); have u5 := hI.1; have u6 := hI.2.1; have u7 := hI.2.2.1; have u8 := hI.2.2.2.1; have u9 := (la_add ex_83405 (rfl : y9_1.toInt = y9_1.toInt) (show (1 : Int32).toInt = 1 from rfl) B_83399 (show bn 1 1 (1 : Int32) from bn_k (by decide)) (by decide)); have u10 := (la_add ex_83406 (rfl : y9_2.toInt = y9_2.toInt) (show (1 : Int32).toInt = 1 from rfl) B_83354 (show bn 1 1 (1 : Int32) from bn_k (by decide)) (by decide)); omega), (by have u1 := tv_83377; have u2 := tv_83379; have u3 := (show y9_2.toInt < 300 from by have z9 := (Int32.not_le.mp c_83352); rw [Int32.lt_iff_toInt_lt] at z9; exact z9); have u4 := (show y9_1.toInt < v_83377.toInt from by have z9 := (Int32.not_le.mp c_83397); rw [Int32.lt_iff_toInt_lt] at z9; exact z9); have u5 := hI.1; have u6 := hI.2.1; have u7 := hI.2.2.1; have u8 := hI.2.2.2.1; have u9 := (la_add ex_83405 (rfl : y9_1.toInt = y9_1.toInt) (show (1 : Int32).toInt = 1 from rfl) B_83399 (show bn 1 1 (1 : Int32) from bn_k (by decide)) (by decide)); have u10 := (la_add ex_83406 (rfl : y9_2.toInt = y9_2.toInt) (show (1 : Int32).toInt = 1 from rfl) B_83354 (show bn 1 1 (1 : Int32) from bn_k (by decide)) (by decide)); omega), hI.2.2.2.2.trans (skB_s ⟨(by have u1 := tv_83377; have u2 := tv_83379; have u3 := (show y9_2.toInt < 300 from by have z9 := (Int32.not_le.mp c_83352); rw [Int32.lt_iff_toInt_lt] at z9; exact z9); have u4 := (show y9_1.toInt < v_83377.toInt from by have z9 := (Int32.not_le.mp c_83397); rw [Int32.lt_iff_toInt_lt] at z9; exact z9); have u5 := hI.1; have u6 := hI.2.1; have u7 := hI.2.2.1; have u8 := hI.2.2.2.1; have u9 := (la_add ex_83405 (rfl : y9_1.toInt = y9_1.toInt) (show (1 : Int32).toInt = 1 from rfl) B_83399 (show bn 1 1 (1 : Int32) from bn_k (by decide)) (by decide)); have u10 := (la_add ex_83406 (rfl : y9_2.toInt = y9_2.toInt) (show (1 : Int32).toInt = 1 from rfl) B_83354 (show bn 1 1 (1 : Int32) from bn_k (by decide)) (by decide)); omega), Or.inl ((byA_in (a := aT) er_83402 hI.1 (by have u1 := tv_83377; have u2 := tv_83379; have u3 := (show y9_2.toInt < 300 from by have z9 := (Int32.not_le.mp c_83352); rw [Int32.lt_iff_toInt_lt] at z9; exact z9); have u4 := (show y9_1.toInt < v_83377.toInt from by have z9 := (Int32.not_le.mp c_83397); rw [Int32.lt_iff_toInt_lt] at z9; exact z9); have u5 := hI.1; omega)).symm.trans (by rw [c_83403]; rfl))⟩)⟩ rfl Y (lv_sub hl [3, 1, 0] rfl)
          · refine lv_iload_n hx hb dX5_cutTokens_36 rfl (lv_at hl 0 rfl) ?_
            refine lv_bipush (v := 10) hx hb dX5_cutTokens_37 (by decide) ?_
            refine lv_icmp_ne (tgt := 48) hx hb dX5_cutTokens_39 (by decide) (fun c_83407 => ?_) (fun c_83407 => ?_)
            · refine lv_iload_n hx hb dX5_cutTokens_48 rfl (lv_at hl 0 rfl) ?_
              refine cSp (As := [.int r_83402]) (rest := []) S Y (x_X5_isLetter (l := l) ) cw_X5_isLetter km5_69 rfl ⟨Nat.le_of_ble_eq_true rfl, Nat.le_of_ble_eq_true rfl⟩ hl.1 rfl (Nat.le_of_ble_eq_true rfl) ⟨Nat.le_of_ble_eq_true rfl, Nat.le_of_ble_eq_true rfl⟩ dX5_cutTokens_49 (fun r_83409 H locs er_83409 Y => ?_)
              refine lv_if_eq (tgt := 64) hx hb dX5_cutTokens_52 (by decide) (fun c_83410 => ?_) (fun c_83410 => ?_)
              · have B_83411 : bn 0 0 r_83409 := bn_w (bn_eq c_83410 (show bn 0 0 (0 : Int32) from bn_k (by decide))) (by decide)
                refine lv_iload_n hx hb dX5_cutTokens_64 rfl (lv_at hl 0 rfl) ?_
                refine cSp (As := [.int r_83402]) (rest := []) S Y (x_X5_isDigit (l := l) ) cw_X5_isDigit km5_76 rfl ⟨Nat.le_of_ble_eq_true rfl, Nat.le_of_ble_eq_true rfl⟩ hl.1 rfl (Nat.le_of_ble_eq_true rfl) ⟨Nat.le_of_ble_eq_true rfl, Nat.le_of_ble_eq_true rfl⟩ dX5_cutTokens_65 (fun r_83413 H locs er_83413 Y => ?_)
                refine lv_if_eq (tgt := 80) hx hb dX5_cutTokens_68 (by decide) (fun c_83414 => ?_) (fun c_83414 => ?_)
                · have B_83415 : bn 0 0 r_83413 := bn_w (bn_eq c_83414 (show bn 0 0 (0 : Int32) from bn_k (by decide))) (by decide)
                  refine lv_aload_n hx hb dX5_cutTokens_80 rfl (lv_at hl 1 rfl) ?_
                  refine lv_iload_n hx hb dX5_cutTokens_81 rfl (lv_at hl 2 rfl) ?_
                  have hq : tkP (bI bT) nN ch = aT := hI.2.2.2.2.trans (skB_no (fun q => q.2.elim (fun q => c_83403 (Int32.toInt_inj.mp ((byA_in (a := aT) er_83402 hI.1 (by have u1 := tv_83377; have u2 := tv_83379; have u3 := (show y9_2.toInt < 300 from by have z9 := (Int32.not_le.mp c_83352); rw [Int32.lt_iff_toInt_lt] at z9; exact z9); have u4 := (show y9_1.toInt < v_83377.toInt from by have z9 := (Int32.not_le.mp c_83397); rw [Int32.lt_iff_toInt_lt] at z9; exact z9); have u5 := hI.1; omega)).trans (q.trans rfl)))) (fun q => c_83407 (Int32.toInt_inj.mp ((byA_in (a := aT) er_83402 hI.1 (by have u1 := tv_83377; have u2 := tv_83379; have u3 := (show y9_2.toInt < 300 from by have z9 := (Int32.not_le.mp c_83352); rw [Int32.lt_iff_toInt_lt] at z9; exact z9); have u4 := (show y9_1.toInt < v_83377.toInt from by have z9 := (Int32.not_le.mp c_83397); rw [Int32.lt_iff_toInt_lt] at z9; exact z9); have u5 := hI.1; omega)).trans (q.trans rfl))))))
                  have hlt : aT < nN := (by have u1 := tv_83377; have u2 := tv_83379; have u3 := (show y9_2.toInt < 300 from by have z9 := (Int32.not_le.mp c_83352); rw [Int32.lt_iff_toInt_lt] at z9; exact z9); have u4 := (show y9_1.toInt < v_83377.toInt from by have z9 := (Int32.not_le.mp c_83397); rw [Int32.lt_iff_toInt_lt] at z9; exact z9); have u5 := hI.1; omega)
                  have ht := tk0_s hlt (show ¬ isLt (bI bT aT) from by rw [← (byA_in (a := aT) er_83402 hI.1 (by have u1 := tv_83377; have u2 := tv_83379; have u3 := (show y9_2.toInt < 300 from by have z9 := (Int32.not_le.mp c_83352); rw [Int32.lt_iff_toInt_lt] at z9; exact z9); have u4 := (show y9_1.toInt < v_83377.toInt from by have z9 := (Int32.not_le.mp c_83397); rw [Int32.lt_iff_toInt_lt] at z9; exact z9); have u5 := hI.1; omega))]; exact cls_f er_83409.2 c_83410) (show ¬ isDg (bI bT aT) from by rw [← (byA_in (a := aT) er_83402 hI.1 (by have u1 := tv_83377; have u2 := tv_83379; have u3 := (show y9_2.toInt < 300 from by have z9 := (Int32.not_le.mp c_83352); rw [Int32.lt_iff_toInt_lt] at z9; exact z9); have u4 := (show y9_1.toInt < v_83377.toInt from by have z9 := (Int32.not_le.mp c_83397); rw [Int32.lt_iff_toInt_lt] at z9; exact z9); have u5 := hI.1; omega))]; exact cls_f er_83413.2 c_83414)
                  have hb9 := sgT_b (B := bI bT) hlt
                  refine zVi (As := [.int y9_1]) (rest := []) S Y hz (x_X5_cutSign (l := l) I hW hT hQ (bn_w B_83399 (by decide)) hI.1 hlt hn3 (by have h9 := hI.2.2.2.1; have h8 := hlt; have h7 := hn3; omega) (show ((tkP (bI bT) nN ch : Nat) : Int) = (aT : Int) from by rw [hq]) (tk_at hq ht).2.1 (tk_at hq ht).1 hB) cw_X5_cutSign km5_82 (recvO S Y (I.opo (k := 2) (j := 0) (by decide) rfl).choose_spec.1 ok_X5.1 rfl) rfl ⟨Nat.le_of_ble_eq_true rfl, Nat.le_of_ble_eq_true rfl⟩ hl.1 rfl (Nat.le_of_ble_eq_true rfl) ⟨Nat.le_of_ble_eq_true rfl, Nat.le_of_ble_eq_true rfl⟩ dX5_cutTokens_82 (fun r_83419 L_83417 f_83418 H locs hr_83419 Y => ?_)
                  obtain ⟨er_83419, I, eE_83420⟩ := hr_83419
                  refine lv_istore_n (lv' := [(1, .int r_83419), (3, .int r_83402), (0, .ref (ad 2 0)), (2, .int y9_2)]) hx hb dX5_cutTokens_85 rfl hl (by decide) rfl (fun ls hl => ?_)
                  obtain ⟨x_83421, ex_83421⟩ : ∃ z : Int32, z = y9_2 + 1 := ⟨_, rfl⟩
                  refine lv_iinc (v := x_83421) (lv' := [(2, .int x_83421), (1, .int r_83419), (3, .int r_83402), (0, .ref (ad 2 0))]) hx hb dX5_cutTokens_86 hl (k := 3) rfl (by rw [ex_83421]; rfl) (by decide) rfl (fun ls hl => ?_)
                  refine lv_goto (tgt := 9) hx hb dX5_cutTokens_89 (by decide) ?_
                  exact ih9 _ (by rw [← hm9]; exact ms_up (m := 1) ex_83421 (show bn 1 1 (1 : Int32) from bn_k (by decide)) B_83354 (bn_w (bn_eq ex_83421 (bn_add B_83354 (show bn 1 1 (1 : Int32) from bn_k (by decide)) (by decide))) (by decide) : bn 0 300 x_83421) (by decide)) r_83419 x_83421 ((sgT (bI bT) nN aT).2) (ch + 1) _ _  _ _ _ I (bn_w er_83419 (by decide)) (bn_w (bn_eq ex_83421 (bn_add B_83354 (show bn 1 1 (1 : Int32) from bn_k (by decide)) (by decide))) (by decide)) ⟨eE_83420, (by have u1 := tv_83377; have u2 := tv_83379; have u3 := (show y9_2.toInt < 300 from by have z9 := (Int32.not_le.mp c_83352); rw [Int32.lt_iff_toInt_lt] at z9; exact z9); have u4 := (show y9_1.toInt < v_83377.toInt from by have z9 := (Int32.not_le.mp c_83397); rw [Int32.lt_iff_toInt_lt] at z9; exact z9); have u5 := hI.1; have u6 := hI.2.1; have u7 := hI.2.2.1; have u8 := hI.2.2.2.1; have u9 := eE_83420; have u10 := (la_add ex_83421 (rfl : y9_2.toInt = y9_2.toInt) (show (1 : Int32).toInt = 1 from rfl) B_83354 (show bn 1 1 (1 : Int32) from bn_k (by decide)) (by decide)); have u11 := hb9.1; have u12 := hb9.2; omega), (by have u1 := tv_83377; have u2 := tv_83379; have u3 := (show y9_2.toInt < 300 from by have z9 := (Int32.not_le.mp c_83352); rw [Int32.lt_iff_toInt_lt] at z9; exact z9); have u4 := (show y9_1.toInt < v_83377.toInt from by have z9 := (Int32.not_le.mp c_83397); rw [Int32.lt_iff_toInt_lt] at z9; exact z9); have u5 := hI.1; have u6 := hI.2.1; have u7 := hI.2.2.1; have u8 := hI.2.2.2.1; have u9 := eE_83420; have u10 := (la_add ex_83421 (rfl : y9_2.toInt = y9_2.toInt) (show (1 : Int32).toInt = 1 from rfl) B_83354 (show bn 1 1 (1 : Int32) from bn_k (by decide)) (by decide)); have u11 := hb9.1; have u12 := hb9.2; omega), (by have u1 := tv_83377; have u2 := tv_83379; have u3 := (show y9_2.toInt < 300 from by have z9 := (Int32.not_le.mp c_83352); rw [Int32.lt_iff_toInt_lt] at z9; exact z9); have u4 := (show y9_1.toInt < v_83377.toInt from by have z9 := (Int32.not_le.mp c_83397); rw [Int32.lt_iff_toInt_lt] at z9; exact z9); have u5 := hI.1; have u6 := hI.2.1; have u7 := hI.2.2.1; have u8 := hI.2.2.2.1; have u9 := eE_83420; have u10 := (la_add ex_83421 (rfl : y9_2.toInt = y9_2.toInt) (show (1 : Int32).toInt = 1 from rfl) B_83354 (show bn 1 1 (1 : Int32) from bn_k (by decide)) (by decide)); have u11 := hb9.1; have u12 := hb9.2; omega), (tk_at hq ht).2.2⟩ rfl Y (lv_sub hl [3, 1, 0] rfl)
                · have B_83416 : bn 1 1 r_83413 := bn_w (bn_nel c_83414 er_83413.1 (show bn 0 0 (0 : Int32) from bn_k (by decide))) (by decide)
                  refine lv_aload_n hx hb dX5_cutTokens_71 rfl (lv_at hl 1 rfl) ?_
                  refine lv_iload_n hx hb dX5_cutTokens_72 rfl (lv_at hl 2 rfl) ?_
                  have hq : tkP (bI bT) nN ch = aT := hI.2.2.2.2.trans (skB_no (fun q => q.2.elim (fun q => c_83403 (Int32.toInt_inj.mp ((byA_in (a := aT) er_83402 hI.1 (by have u1 := tv_83377; have u2 := tv_83379; have u3 := (show y9_2.toInt < 300 from by have z9 := (Int32.not_le.mp c_83352); rw [Int32.lt_iff_toInt_lt] at z9; exact z9); have u4 := (show y9_1.toInt < v_83377.toInt from by have z9 := (Int32.not_le.mp c_83397); rw [Int32.lt_iff_toInt_lt] at z9; exact z9); have u5 := hI.1; omega)).trans (q.trans rfl)))) (fun q => c_83407 (Int32.toInt_inj.mp ((byA_in (a := aT) er_83402 hI.1 (by have u1 := tv_83377; have u2 := tv_83379; have u3 := (show y9_2.toInt < 300 from by have z9 := (Int32.not_le.mp c_83352); rw [Int32.lt_iff_toInt_lt] at z9; exact z9); have u4 := (show y9_1.toInt < v_83377.toInt from by have z9 := (Int32.not_le.mp c_83397); rw [Int32.lt_iff_toInt_lt] at z9; exact z9); have u5 := hI.1; omega)).trans (q.trans rfl))))))
                  have hlt : aT < nN := (by have u1 := tv_83377; have u2 := tv_83379; have u3 := (show y9_2.toInt < 300 from by have z9 := (Int32.not_le.mp c_83352); rw [Int32.lt_iff_toInt_lt] at z9; exact z9); have u4 := (show y9_1.toInt < v_83377.toInt from by have z9 := (Int32.not_le.mp c_83397); rw [Int32.lt_iff_toInt_lt] at z9; exact z9); have u5 := hI.1; omega)
                  have hlx : isDg (bI bT aT) := (show isDg (bI bT aT) from by rw [← (byA_in (a := aT) er_83402 hI.1 (by have u1 := tv_83377; have u2 := tv_83379; have u3 := (show y9_2.toInt < 300 from by have z9 := (Int32.not_le.mp c_83352); rw [Int32.lt_iff_toInt_lt] at z9; exact z9); have u4 := (show y9_1.toInt < v_83377.toInt from by have z9 := (Int32.not_le.mp c_83397); rw [Int32.lt_iff_toInt_lt] at z9; exact z9); have u5 := hI.1; omega))]; exact cls_t er_83413.2 c_83414)
                  have ht := tk0_d hlt (show ¬ isLt (bI bT aT) from by rw [← (byA_in (a := aT) er_83402 hI.1 (by have u1 := tv_83377; have u2 := tv_83379; have u3 := (show y9_2.toInt < 300 from by have z9 := (Int32.not_le.mp c_83352); rw [Int32.lt_iff_toInt_lt] at z9; exact z9); have u4 := (show y9_1.toInt < v_83377.toInt from by have z9 := (Int32.not_le.mp c_83397); rw [Int32.lt_iff_toInt_lt] at z9; exact z9); have u5 := hI.1; omega))]; exact cls_f er_83409.2 c_83410) hlx
                  have hb9 : aT + 1 ≤ (dgE (bI bT) nN nN aT 0).1 ∧ (dgE (bI bT) nN nN aT 0).1 ≤ nN := ⟨by rw [dgE_s ⟨hlt, hlx⟩]; exact dgE_ge _ _ _, dgE_le _ _ _ (by omega)⟩
                  refine zVi (As := [.int y9_1]) (rest := []) S Y hz (x_X5_cutNumber (l := l) I hW hT hQ (bn_w B_83399 (by decide)) hI.1 hlt hn3 (by have h9 := hI.2.2.2.1; have h8 := hlt; have h7 := hn3; omega) (show ((tkP (bI bT) nN ch : Nat) : Int) = (aT : Int) from by rw [hq]) (tk_at hq ht).2.1 (tk_at hq ht).1) cw_X5_cutNumber km5_79 (recvO S Y (I.opo (k := 2) (j := 0) (by decide) rfl).choose_spec.1 ok_X5.1 rfl) rfl ⟨Nat.le_of_ble_eq_true rfl, Nat.le_of_ble_eq_true rfl⟩ hl.1 rfl (Nat.le_of_ble_eq_true rfl) ⟨Nat.le_of_ble_eq_true rfl, Nat.le_of_ble_eq_true rfl⟩ dX5_cutTokens_73 (fun r_83424 L_83422 f_83423 H locs hr_83424 Y => ?_)
                  obtain ⟨er_83424, I, eE_83425⟩ := hr_83424
                  refine lv_istore_n (lv' := [(1, .int r_83424), (3, .int r_83402), (0, .ref (ad 2 0)), (2, .int y9_2)]) hx hb dX5_cutTokens_76 rfl hl (by decide) rfl (fun ls hl => ?_)
                  refine lv_goto (tgt := 86) hx hb dX5_cutTokens_77 (by decide) ?_
                  obtain ⟨x_83426, ex_83426⟩ : ∃ z : Int32, z = y9_2 + 1 := ⟨_, rfl⟩
                  refine lv_iinc (v := x_83426) (lv' := [(2, .int x_83426), (1, .int r_83424), (3, .int r_83402), (0, .ref (ad 2 0))]) hx hb dX5_cutTokens_86 hl (k := 3) rfl (by rw [ex_83426]; rfl) (by decide) rfl (fun ls hl => ?_)
                  refine lv_goto (tgt := 9) hx hb dX5_cutTokens_89 (by decide) ?_
                  exact ih9 _ (by rw [← hm9]; exact ms_up (m := 1) ex_83426 (show bn 1 1 (1 : Int32) from bn_k (by decide)) B_83354 (bn_w (bn_eq ex_83426 (bn_add B_83354 (show bn 1 1 (1 : Int32) from bn_k (by decide)) (by decide))) (by decide) : bn 0 300 x_83426) (by decide)) r_83424 x_83426 ((dgE (bI bT) nN nN aT 0).1) (ch + 1) _ _  _ _ _ I (bn_w er_83424 (by decide)) (bn_w (bn_eq ex_83426 (bn_add B_83354 (show bn 1 1 (1 : Int32) from bn_k (by decide)) (by decide))) (by decide)) ⟨eE_83425, (by have u1 := tv_83377; have u2 := tv_83379; have u3 := (show y9_2.toInt < 300 from by have z9 := (Int32.not_le.mp c_83352); rw [Int32.lt_iff_toInt_lt] at z9; exact z9); have u4 := (show y9_1.toInt < v_83377.toInt from by have z9 := (Int32.not_le.mp c_83397); rw [Int32.lt_iff_toInt_lt] at z9; exact z9); have u5 := hI.1; have u6 := hI.2.1; have u7 := hI.2.2.1; have u8 := hI.2.2.2.1; have u9 := eE_83425; have u10 := (la_add ex_83426 (rfl : y9_2.toInt = y9_2.toInt) (show (1 : Int32).toInt = 1 from rfl) B_83354 (show bn 1 1 (1 : Int32) from bn_k (by decide)) (by decide)); have u11 := hb9.1; have u12 := hb9.2; omega), (by have u1 := tv_83377; have u2 := tv_83379; have u3 := (show y9_2.toInt < 300 from by have z9 := (Int32.not_le.mp c_83352); rw [Int32.lt_iff_toInt_lt] at z9; exact z9); have u4 := (show y9_1.toInt < v_83377.toInt from by have z9 := (Int32.not_le.mp c_83397); rw [Int32.lt_iff_toInt_lt] at z9; exact z9); have u5 := hI.1; have u6 := hI.2.1; have u7 := hI.2.2.1; have u8 := hI.2.2.2.1; have u9 := eE_83425; have u10 := (la_add ex_83426 (rfl : y9_2.toInt = y9_2.toInt) (show (1 : Int32).toInt = 1 from rfl) B_83354 (show bn 1 1 (1 : Int32) from bn_k (by decide)) (by decide)); have u11 := hb9.1; have u12 := hb9.2; omega), (by have u1 := tv_83377; have u2 := tv_83379; have u3 := (show y9_2.toInt < 300 from by have z9 := (Int32.not_le.mp c_83352); rw [Int32.lt_iff_toInt_lt] at z9; exact z9); have u4 := (show y9_1.toInt < v_83377.toInt from by have z9 := (Int32.not_le.mp c_83397); rw [Int32.lt_iff_toInt_lt] at z9; exact z9); have u5 := hI.1; have u6 := hI.2.1; have u7 := hI.2.2.1; have u8 := hI.2.2.2.1; have u9 := eE_83425; have u10 := (la_add ex_83426 (rfl : y9_2.toInt = y9_2.toInt) (show (1 : Int32).toInt = 1 from rfl) B_83354 (show bn 1 1 (1 : Int32) from bn_k (by decide)) (by decide)); have u11 := hb9.1; have u12 := hb9.2; omega), (tk_at hq ht).2.2⟩ rfl Y (lv_sub hl [3, 1, 0] rfl)
              · have B_83412 : bn 1 1 r_83409 := bn_w (bn_nel c_83410 er_83409.1 (show bn 0 0 (0 : Int32) from bn_k (by decide))) (by decide)
                refine lv_aload_n hx hb dX5_cutTokens_55 rfl (lv_at hl 1 rfl) ?_
                refine lv_iload_n hx hb dX5_cutTokens_56 rfl (lv_at hl 2 rfl) ?_
                have hq : tkP (bI bT) nN ch = aT := hI.2.2.2.2.trans (skB_no (fun q => q.2.elim (fun q => c_83403 (Int32.toInt_inj.mp ((byA_in (a := aT) er_83402 hI.1 (by have u1 := tv_83377; have u2 := tv_83379; have u3 := (show y9_2.toInt < 300 from by have z9 := (Int32.not_le.mp c_83352); rw [Int32.lt_iff_toInt_lt] at z9; exact z9); have u4 := (show y9_1.toInt < v_83377.toInt from by have z9 := (Int32.not_le.mp c_83397); rw [Int32.lt_iff_toInt_lt] at z9; exact z9); have u5 := hI.1; omega)).trans (q.trans rfl)))) (fun q => c_83407 (Int32.toInt_inj.mp ((byA_in (a := aT) er_83402 hI.1 (by have u1 := tv_83377; have u2 := tv_83379; have u3 := (show y9_2.toInt < 300 from by have z9 := (Int32.not_le.mp c_83352); rw [Int32.lt_iff_toInt_lt] at z9; exact z9); have u4 := (show y9_1.toInt < v_83377.toInt from by have z9 := (Int32.not_le.mp c_83397); rw [Int32.lt_iff_toInt_lt] at z9; exact z9); have u5 := hI.1; omega)).trans (q.trans rfl))))))
                have hlt : aT < nN := (by have u1 := tv_83377; have u2 := tv_83379; have u3 := (show y9_2.toInt < 300 from by have z9 := (Int32.not_le.mp c_83352); rw [Int32.lt_iff_toInt_lt] at z9; exact z9); have u4 := (show y9_1.toInt < v_83377.toInt from by have z9 := (Int32.not_le.mp c_83397); rw [Int32.lt_iff_toInt_lt] at z9; exact z9); have u5 := hI.1; omega)
                have hlx : isLt (bI bT aT) := (show isLt (bI bT aT) from by rw [← (byA_in (a := aT) er_83402 hI.1 (by have u1 := tv_83377; have u2 := tv_83379; have u3 := (show y9_2.toInt < 300 from by have z9 := (Int32.not_le.mp c_83352); rw [Int32.lt_iff_toInt_lt] at z9; exact z9); have u4 := (show y9_1.toInt < v_83377.toInt from by have z9 := (Int32.not_le.mp c_83397); rw [Int32.lt_iff_toInt_lt] at z9; exact z9); have u5 := hI.1; omega))]; exact cls_t er_83409.2 c_83410)
                have ht := tk0_l hlt hlx
                have hb9 : aT + 1 ≤ ltE (bI bT) nN nN aT ∧ ltE (bI bT) nN nN aT ≤ nN := ⟨by rw [ltE_s ⟨hlt, hlx⟩]; exact ltE_ge _ _, ltE_le _ _ (by omega)⟩
                refine zVi (As := [.int y9_1]) (rest := []) S Y hz (x_X5_cutWord (l := l) I hW hT hQ (bn_w B_83399 (by decide)) hI.1 hlt hn3 (by have h9 := hI.2.2.2.1; have h8 := hlt; have h7 := hn3; omega) (show ((tkP (bI bT) nN ch : Nat) : Int) = (aT : Int) from by rw [hq]) (tk_at hq ht).2.1 (tk_at hq ht).1) cw_X5_cutWord km5_73 (recvO S Y (I.opo (k := 2) (j := 0) (by decide) rfl).choose_spec.1 ok_X5.1 rfl) rfl ⟨Nat.le_of_ble_eq_true rfl, Nat.le_of_ble_eq_true rfl⟩ hl.1 rfl (Nat.le_of_ble_eq_true rfl) ⟨Nat.le_of_ble_eq_true rfl, Nat.le_of_ble_eq_true rfl⟩ dX5_cutTokens_57 (fun r_83429 L_83427 f_83428 H locs hr_83429 Y => ?_)
                obtain ⟨er_83429, I, eE_83430⟩ := hr_83429
                refine lv_istore_n (lv' := [(1, .int r_83429), (3, .int r_83402), (0, .ref (ad 2 0)), (2, .int y9_2)]) hx hb dX5_cutTokens_60 rfl hl (by decide) rfl (fun ls hl => ?_)
                refine lv_goto (tgt := 86) hx hb dX5_cutTokens_61 (by decide) ?_
                obtain ⟨x_83431, ex_83431⟩ : ∃ z : Int32, z = y9_2 + 1 := ⟨_, rfl⟩
                refine lv_iinc (v := x_83431) (lv' := [(2, .int x_83431), (1, .int r_83429), (3, .int r_83402), (0, .ref (ad 2 0))]) hx hb dX5_cutTokens_86 hl (k := 3) rfl (by rw [ex_83431]; rfl) (by decide) rfl (fun ls hl => ?_)
                refine lv_goto (tgt := 9) hx hb dX5_cutTokens_89 (by decide) ?_
                exact ih9 _ (by rw [← hm9]; exact ms_up (m := 1) ex_83431 (show bn 1 1 (1 : Int32) from bn_k (by decide)) B_83354 (bn_w (bn_eq ex_83431 (bn_add B_83354 (show bn 1 1 (1 : Int32) from bn_k (by decide)) (by decide))) (by decide) : bn 0 300 x_83431) (by decide)) r_83429 x_83431 (ltE (bI bT) nN nN aT) (ch + 1) _ _  _ _ _ I (bn_w er_83429 (by decide)) (bn_w (bn_eq ex_83431 (bn_add B_83354 (show bn 1 1 (1 : Int32) from bn_k (by decide)) (by decide))) (by decide)) ⟨eE_83430, (by have u1 := tv_83377; have u2 := tv_83379; have u3 := (show y9_2.toInt < 300 from by have z9 := (Int32.not_le.mp c_83352); rw [Int32.lt_iff_toInt_lt] at z9; exact z9); have u4 := (show y9_1.toInt < v_83377.toInt from by have z9 := (Int32.not_le.mp c_83397); rw [Int32.lt_iff_toInt_lt] at z9; exact z9); have u5 := hI.1; have u6 := hI.2.1; have u7 := hI.2.2.1; have u8 := hI.2.2.2.1; have u9 := eE_83430; have u10 := (la_add ex_83431 (rfl : y9_2.toInt = y9_2.toInt) (show (1 : Int32).toInt = 1 from rfl) B_83354 (show bn 1 1 (1 : Int32) from bn_k (by decide)) (by decide)); have u11 := hb9.1; have u12 := hb9.2; omega), (by have u1 := tv_83377; have u2 := tv_83379; have u3 := (show y9_2.toInt < 300 from by have z9 := (Int32.not_le.mp c_83352); rw [Int32.lt_iff_toInt_lt] at z9; exact z9); have u4 := (show y9_1.toInt < v_83377.toInt from by have z9 := (Int32.not_le.mp c_83397); rw [Int32.lt_iff_toInt_lt] at z9; exact z9); have u5 := hI.1; have u6 := hI.2.1; have u7 := hI.2.2.1; have u8 := hI.2.2.2.1; have u9 := eE_83430; have u10 := (la_add ex_83431 (rfl : y9_2.toInt = y9_2.toInt) (show (1 : Int32).toInt = 1 from rfl) B_83354 (show bn 1 1 (1 : Int32) from bn_k (by decide)) (by decide)); have u11 := hb9.1; have u12 := hb9.2; omega), (by have u1 := tv_83377; have u2 := tv_83379; have u3 := (show y9_2.toInt < 300 from by have z9 := (Int32.not_le.mp c_83352); rw [Int32.lt_iff_toInt_lt] at z9; exact z9); have u4 := (show y9_1.toInt < v_83377.toInt from by have z9 := (Int32.not_le.mp c_83397); rw [Int32.lt_iff_toInt_lt] at z9; exact z9); have u5 := hI.1; have u6 := hI.2.1; have u7 := hI.2.2.1; have u8 := hI.2.2.2.1; have u9 := eE_83430; have u10 := (la_add ex_83431 (rfl : y9_2.toInt = y9_2.toInt) (show (1 : Int32).toInt = 1 from rfl) B_83354 (show bn 1 1 (1 : Int32) from bn_k (by decide)) (by decide)); have u11 := hb9.1; have u12 := hb9.2; omega), (tk_at hq ht).2.2⟩ rfl Y (lv_sub hl [3, 1, 0] rfl)
            · have B_83408 : bn 10 10 r_83402 := bn_w (bn_eq c_83407 (show bn 10 10 (10 : Int32) from bn_k (by decide))) (by decide)
              obtain ⟨x_83432, ex_83432⟩ : ∃ z : Int32, z = y9_1 + 1 := ⟨_, rfl⟩
              refine lv_iinc (v := x_83432) (lv' := [(1, .int x_83432), (3, .int r_83402), (0, .ref (ad 2 0)), (2, .int y9_2)]) hx hb dX5_cutTokens_42 hl (k := 2) rfl (by rw [ex_83432]; rfl) (by decide) rfl (fun ls hl => ?_)
              refine lv_goto (tgt := 86) hx hb dX5_cutTokens_45 (by decide) ?_
              obtain ⟨x_83433, ex_83433⟩ : ∃ z : Int32, z = y9_2 + 1 := ⟨_, rfl⟩
              refine lv_iinc (v := x_83433) (lv' := [(2, .int x_83433), (1, .int x_83432), (3, .int r_83402), (0, .ref (ad 2 0))]) hx hb dX5_cutTokens_86 hl (k := 3) rfl (by rw [ex_83433]; rfl) (by decide) rfl (fun ls hl => ?_)
              refine lv_goto (tgt := 9) hx hb dX5_cutTokens_89 (by decide) ?_
              exact ih9 _ (by rw [← hm9]; exact ms_up (m := 1) ex_83433 (show bn 1 1 (1 : Int32) from bn_k (by decide)) B_83354 (bn_w (bn_eq ex_83433 (bn_add B_83354 (show bn 1 1 (1 : Int32) from bn_k (by decide)) (by decide))) (by decide) : bn 0 300 x_83433) (by decide)) x_83432 x_83433 (aT + 1) ch _ _  _ _ _ I (bn_w (bn_eq ex_83432 (bn_add B_83399 (show bn 1 1 (1 : Int32) from bn_k (by decide)) (by decide))) (by decide)) (bn_w (bn_eq ex_83433 (bn_add B_83354 (show bn 1 1 (1 : Int32) from bn_k (by decide)) (by decide))) (by decide)) ⟨(by have u1 := tv_83377; have u2 := tv_83379; have u3 := (show y9_2.toInt < 300 from by have z9 := (Int32.not_le.mp c_83352); rw [Int32.lt_iff_toInt_lt] at z9; exact z9); have u4 := (show y9_1.toInt < v_83377.toInt from by have z9 := (Int32.not_le.mp c_83397); rw [Int32.lt_iff_toInt_lt] at z9; exact z9); have u5 := hI.1; have u6 := hI.2.1; have u7 := hI.2.2.1; have u8 := hI.2.2.2.1; have u9 := (la_add ex_83432 (rfl : y9_1.toInt = y9_1.toInt) (show (1 : Int32).toInt = 1 from rfl) B_83399 (show bn 1 1 (1 : Int32) from bn_k (by decide)) (by decide)); have u10 := (la_add ex_83433 (rfl : y9_2.toInt = y9_2.toInt) (show (1 : Int32).toInt = 1 from rfl) B_83354 (show bn 1 1 (1 : Int32) from bn_k (by decide)) (by decide)); omega), (by have u1 := tv_83377; have u2 := tv_83379; have u3 := (show y9_2.toInt < 300 from by have z9 := (Int32.not_le.mp c_83352); rw [Int32.lt_iff_toInt_lt] at z9; exact z9); have u4 := (show y9_1.toInt < v_83377.toInt from by have z9 := (Int32.not_le.mp c_83397); rw [Int32.lt_iff_toInt_lt] at z9; exact z9); have u5 := hI.1; have u6 := hI.2.1; have u7 := hI.2.2.1; have u8 := hI.2.2.2.1; have u9 := (la_add ex_83432 (rfl : y9_1.toInt = y9_1.toInt) (show (1 : Int32).toInt = 1 from rfl) B_83399 (show bn 1 1 (1 : Int32) from bn_k (by decide)) (by decide)); have u10 := (la_add ex_83433 (rfl : y9_2.toInt = y9_2.toInt) (show (1 : Int32).toInt = 1 from rfl) B_83354 (show bn 1 1 (1 : Int32) from bn_k (by decide)) (by decide)); omega), (by have u1 := tv_83377; have u2 := tv_83379; have u3 := (show y9_2.toInt < 300 from by have z9 := (Int32.not_le.mp c_83352); rw [Int32.lt_iff_toInt_lt] at z9; exact z9); have u4 := (show y9_1.toInt < v_83377.toInt from by have z9 := (Int32.not_le.mp c_83397); rw [Int32.lt_iff_toInt_lt] at z9; exact z9); have u5 := hI.1; have u6 := hI.2.1; have u7 := hI.2.2.1; have u8 := hI.2.2.2.1; have u9 := (la_add ex_83432 (rfl : y9_1.toInt = y9_1.toInt) (show (1 : Int32).toInt = 1 from rfl) B_83399 (show bn 1 1 (1 : Int32) from bn_k (by decide)) (by decide)); have u10 := (la_add ex_83433 (rfl : y9_2.toInt = y9_2.toInt) (show (1 : Int32).toInt = 1 from rfl) B_83354 (show bn 1 1 (1 : Int32) from bn_k (by decide)) (by decide)); omega), (by have u1 := tv_83377; have u2 := tv_83379; have u3 := (show y9_2.toInt < 300 from by have z9 := (Int32.not_le.mp c_83352); rw [Int32.lt_iff_toInt_lt] at z9; exact z9); have u4 := (show y9_1.toInt < v_83377.toInt from by have z9 := (Int32.not_le.mp c_83397); rw [Int32.lt_iff_toInt_lt] at z9; exact z9); have u5 := hI.1; have u6 := hI.2.1; have u7 := hI.2.2.1; have u8 := hI.2.2.2.1; have u9 := (la_add ex_83432 (rfl : y9_1.toInt = y9_1.toInt) (show (1 : Int32).toInt = 1 from rfl) B_83399 (show bn 1 1 (1 : Int32) from bn_k (by decide)) (by decide)); have u10 := (la_add ex_83433 (rfl : y9_2.toInt = y9_2.toInt) (show (1 : Int32).toInt = 1 from rfl) B_83354 (show bn 1 1 (1 : Int32) from bn_k (by decide)) (by decide)); omega), hI.2.2.2.2.trans (skB_s ⟨(by have u1 := tv_83377; have u2 := tv_83379; have u3 := (show y9_2.toInt < 300 from by have z9 := (Int32.not_le.mp c_83352); rw [Int32.lt_iff_toInt_lt] at z9; exact z9); have u4 := (show y9_1.toInt < v_83377.toInt from by have z9 := (Int32.not_le.mp c_83397); rw [Int32.lt_iff_toInt_lt] at z9; exact z9); have u5 := hI.1; have u6 := hI.2.1; have u7 := hI.2.2.1; have u8 := hI.2.2.2.1; have u9 := (la_add ex_83432 (rfl : y9_1.toInt = y9_1.toInt) (show (1 : Int32).toInt = 1 from rfl) B_83399 (show bn 1 1 (1 : Int32) from bn_k (by decide)) (by decide)); have u10 := (la_add ex_83433 (rfl : y9_2.toInt = y9_2.toInt) (show (1 : Int32).toInt = 1 from rfl) B_83354 (show bn 1 1 (1 : Int32) from bn_k (by decide)) (by decide)); omega), Or.inr ((byA_in (a := aT) er_83402 hI.1 (by have u1 := tv_83377; have u2 := tv_83379; have u3 := (show y9_2.toInt < 300 from by have z9 := (Int32.not_le.mp c_83352); rw [Int32.lt_iff_toInt_lt] at z9; exact z9); have u4 := (show y9_1.toInt < v_83377.toInt from by have z9 := (Int32.not_le.mp c_83397); rw [Int32.lt_iff_toInt_lt] at z9; exact z9); have u5 := hI.1; omega)).symm.trans (by rw [c_83407]; rfl))⟩)⟩ rfl Y (lv_sub hl [3, 1, 0] rfl)
  refine lv_aload_n hx hb dX5_cutTokens_0 rfl (lv_at hl 0 rfl) ?_
  refine lv_iconst (v := 0) hx hb dX5_cutTokens_1 (by decide) ?_
  obtain ⟨v_83434, v_83436, v_83438, v_83440, v_83442, v_83444, v_83446, v_83448, v_83450, v_83452, p_ad_2_0, b_83435, b_83437, b_83439, b_83441, b_83443, b_83445, b_83447, b_83449, b_83451, b_83453⟩ := opnC_2 (j := 0) I (by decide)
  have p_ad_2_0 : pt L f (ad 2 0) (.inr (5, [.ref (ad 50 0), .ref (ad 51 0), .ref (ad 52 0), .ref (ad 53 0), .int v_83434, .int v_83436, .int v_83438, .int v_83440, .int v_83442, .int v_83444, .int v_83446, v_83448, .int v_83450, .int v_83452])) := p_ad_2_0
  have tv_83434 : v_83434.toInt = (nN : Int) := lim_eq b_83435
  refine pg_put S Y ok_X5 5 (by decide) kf5_62 rfl (fs' := [.ref (ad 50 0), .ref (ad 51 0), .ref (ad 52 0), .ref (ad 53 0), .int v_83434, .int 0, .int v_83438, .int v_83440, .int v_83442, .int v_83444, .int v_83446, v_83448, .int v_83450, .int v_83452]) (v := .int 0) p_ad_2_0 rfl rfl rfl (Nat.le_of_ble_eq_true rfl) dX5_cutTokens_2 (fun f_83454 H locs ef_83454 Y => ?_)
  have p_ad_2_0 := p_ad_2_0.me ef_83454
  have I := I.upS (sp' := spC ((rf, fz (pp (nN : Int)) (pp 0) zR zK zP zV zW zF zQ, tz (EQ bT) tU tP tV, sc) : RS) fc tc w q) (k := 2) (j := 0) (by decide) ef_83454 (okE_o (okFs_c okV_r (okFs_c okV_r (okFs_c okV_r (okFs_c okV_r (okFs_c (okV_p b_83435) (okFs_c (okV_p (lim_mk (bn_w (show bn 0 0 (0 : Int32) from bn_k (by decide)) (by decide) : bn 0 301 (0 : Int32)) (show (0 : Int32).toInt = 0 from rfl))) (okFs_c (okV_p b_83439) (okFs_c (okV_p b_83441) (okFs_c (okV_p b_83443) (okFs_c (okV_p b_83445) (okFs_c (okV_p b_83447) (okFs_c b_83449 (okFs_c (okV_p b_83451) (okFs_c (okV_p b_83453) okFs_n))))))))))))))) rsC
  refine lv_iconst (v := 0) hx hb dX5_cutTokens_5 (by decide) ?_
  refine lv_istore_n (lv' := [(1, .int 0), (0, .ref (ad 2 0))]) hx hb dX5_cutTokens_6 rfl hl (by decide) rfl (fun ls hl => ?_)
  refine lv_iconst (v := 0) hx hb dX5_cutTokens_7 (by decide) ?_
  refine lv_istore_n (lv' := [(2, .int 0), (1, .int 0), (0, .ref (ad 2 0))]) hx hb dX5_cutTokens_8 rfl hl (by decide) rfl (fun ls hl => ?_)
  obtain ⟨g_83455, p_ad_51_0, o_83456⟩ := I.opi (k := 51) (j := 0) (by decide) rfl
  have p_ad_51_0 : pt L f_83454 (ad 51 0) (.inl (G.2 0, 301, .inl g_83455)) := p_ad_51_0
  have o_83457 : tU g_83455 := o_83456
  have o_83458 : (RW 0 (tkK (bI bT) nN)) g_83455 := RW_0
  have I := I.castS (sp' := spC ((rf, fz (pp (nN : Int)) (pp 0) zR zK zP zV zW zF zQ, tz (EQ bT) (RW 0 (tkK (bI bT) nN)) tP tV, sc) : RS) fc tc w q) (k := 51) (j := 0) (by decide) p_ad_51_0 (okE_a (g := g_83455) o_83458) tz51C
  obtain ⟨g_83459, p_ad_52_0, o_83460⟩ := I.opi (k := 52) (j := 0) (by decide) rfl
  have p_ad_52_0 : pt L f_83454 (ad 52 0) (.inl (G.2 0, 301, .inl g_83459)) := p_ad_52_0
  have o_83461 : tP g_83459 := o_83460
  have o_83462 : (RW 0 (tkPI (bI bT) nN)) g_83459 := RW_0
  have I := I.castS (sp' := spC ((rf, fz (pp (nN : Int)) (pp 0) zR zK zP zV zW zF zQ, tz (EQ bT) (RW 0 (tkK (bI bT) nN)) (RW 0 (tkPI (bI bT) nN)) tV, sc) : RS) fc tc w q) (k := 52) (j := 0) (by decide) p_ad_52_0 (okE_a (g := g_83459) o_83462) tz52C
  obtain ⟨g_83463, p_ad_53_0, o_83464⟩ := I.opi (k := 53) (j := 0) (by decide) rfl
  have p_ad_53_0 : pt L f_83454 (ad 53 0) (.inl (G.2 0, 301, .inl g_83463)) := p_ad_53_0
  have o_83465 : tV g_83463 := o_83464
  have o_83466 : (RW 0 (tkV (bI bT) nN)) g_83463 := RW_0
  have I := I.castS (sp' := spC ((rf, fz (pp (nN : Int)) (pp 0) zR zK zP zV zW zF zQ, tz (EQ bT) (RW 0 (tkK (bI bT) nN)) (RW 0 (tkPI (bI bT) nN)) (RW 0 (tkV (bI bT) nN)), sc) : RS) fc tc w q) (k := 53) (j := 0) (by decide) p_ad_53_0 (okE_a (g := g_83463) o_83466) tz53C
  exact J_9 _ 0 0 0 0 _ _  _ _ _ I (bn_w (show bn 0 0 (0 : Int32) from bn_k (by decide)) (by decide)) (bn_w (show bn 0 0 (0 : Int32) from bn_k (by decide)) (by decide)) ⟨rfl, Nat.zero_le _, Int.le_refl _, Nat.le_refl _, rfl⟩ rfl Y (lv_sub hl [2, 1, 0] rfl)
