theorem dX5_addToken_0 : decode cX5_addToken 0 = .ok (.aload_n 0, 1) := by decide +kernel
theorem dX5_addToken_1 : decode cX5_addToken 1 = .ok (.getfield 62, 3) := by decide +kernel
theorem dX5_addToken_4 : decode cX5_addToken 4 = .ok (.aload_n 0, 1) := by decide +kernel
theorem dX5_addToken_5 : decode cX5_addToken 5 = .ok (.getfield 15, 3) := by decide +kernel
theorem dX5_addToken_8 : decode cX5_addToken 8 = .ok (.arraylength, 1) := by decide +kernel
theorem dX5_addToken_9 : decode cX5_addToken 9 = .ok (.if_icmp .ge 43, 3) := by decide +kernel
theorem dX5_addToken_12 : decode cX5_addToken 12 = .ok (.aload_n 0, 1) := by decide +kernel
theorem dX5_addToken_13 : decode cX5_addToken 13 = .ok (.getfield 15, 3) := by decide +kernel
theorem dX5_addToken_16 : decode cX5_addToken 16 = .ok (.aload_n 0, 1) := by decide +kernel
theorem dX5_addToken_17 : decode cX5_addToken 17 = .ok (.getfield 62, 3) := by decide +kernel
theorem dX5_addToken_20 : decode cX5_addToken 20 = .ok (.iload_n 1, 1) := by decide +kernel
theorem dX5_addToken_21 : decode cX5_addToken 21 = .ok (.iastore, 1) := by decide +kernel
theorem dX5_addToken_22 : decode cX5_addToken 22 = .ok (.aload_n 0, 1) := by decide +kernel
theorem dX5_addToken_23 : decode cX5_addToken 23 = .ok (.getfield 18, 3) := by decide +kernel
theorem dX5_addToken_26 : decode cX5_addToken 26 = .ok (.aload_n 0, 1) := by decide +kernel
theorem dX5_addToken_27 : decode cX5_addToken 27 = .ok (.getfield 62, 3) := by decide +kernel
theorem dX5_addToken_30 : decode cX5_addToken 30 = .ok (.iload_n 2, 1) := by decide +kernel
theorem dX5_addToken_31 : decode cX5_addToken 31 = .ok (.iastore, 1) := by decide +kernel
theorem dX5_addToken_32 : decode cX5_addToken 32 = .ok (.aload_n 0, 1) := by decide +kernel
theorem dX5_addToken_33 : decode cX5_addToken 33 = .ok (.getfield 21, 3) := by decide +kernel
theorem dX5_addToken_36 : decode cX5_addToken 36 = .ok (.aload_n 0, 1) := by decide +kernel
theorem dX5_addToken_37 : decode cX5_addToken 37 = .ok (.getfield 62, 3) := by decide +kernel
theorem dX5_addToken_40 : decode cX5_addToken 40 = .ok (.iload_n 3, 1) := by decide +kernel
theorem dX5_addToken_41 : decode cX5_addToken 41 = .ok (.iastore, 1) := by decide +kernel
theorem dX5_addToken_42 : decode cX5_addToken 42 = .ok (.aload_n 0, 1) := by decide +kernel
theorem dX5_addToken_43 : decode cX5_addToken 43 = .ok (.dup, 1) := by decide +kernel
theorem dX5_addToken_44 : decode cX5_addToken 44 = .ok (.getfield 62, 3) := by decide +kernel
theorem dX5_addToken_47 : decode cX5_addToken 47 = .ok (.iconst 1, 1) := by decide +kernel
theorem dX5_addToken_48 : decode cX5_addToken 48 = .ok (.iadd, 1) := by decide +kernel
theorem dX5_addToken_49 : decode cX5_addToken 49 = .ok (.putfield 62, 3) := by decide +kernel
theorem dX5_addToken_52 : decode cX5_addToken 52 = .ok (.return_, 1) := by decide +kernel
theorem dX5_isWord_0 : decode cX5_isWord 0 = .ok (.iload_n 1, 1) := by decide +kernel
theorem dX5_isWord_1 : decode cX5_isWord 1 = .ok (.istore 4, 2) := by decide +kernel
theorem dX5_isWord_3 : decode cX5_isWord 3 = .ok (.iload 4, 2) := by decide +kernel
theorem dX5_isWord_5 : decode cX5_isWord 5 = .ok (.iload_n 2, 1) := by decide +kernel
theorem dX5_isWord_6 : decode cX5_isWord 6 = .ok (.if_icmp .ge 31, 3) := by decide +kernel
theorem dX5_isWord_37 : decode cX5_isWord 37 = .ok (.iconst 1, 1) := by decide +kernel
theorem dX5_isWord_38 : decode cX5_isWord 38 = .ok (.ireturn, 1) := by decide +kernel
theorem dX5_isWord_9 : decode cX5_isWord 9 = .ok (.ldc 93, 2) := by decide +kernel
theorem dX5_isWord_11 : decode cX5_isWord 11 = .ok (.iload 4, 2) := by decide +kernel
theorem dX5_isWord_13 : decode cX5_isWord 13 = .ok (.invokevirtual 100, 3) := by decide +kernel
theorem cw_X100_charAt_5068e : CWv yJ0_charAt_5068e cJ0_charAt_5068e 2 (some .char) 1 := ⟨⟨⟨List.mem_of_getElem? (i := 138) (by decide +kernel), by decide +kernel⟩, ⟨List.mem_of_getElem? (i := 617) (by decide +kernel), by decide +kernel⟩, by decide +kernel⟩, ⟨List.mem_of_getElem? (i := 615) (by decide +kernel), by decide +kernel⟩, ⟨List.mem_of_getElem? (i := 616) (by decide +kernel), by decide +kernel⟩⟩
theorem km5_100 : inW (Cond.methodLink RX5 100 yJ0_charAt_5068e) := ⟨List.mem_of_getElem? (i := 614) (by decide +kernel), by decide +kernel⟩
theorem dX5_isWord_16 : decode cX5_isWord 16 = .ok (.aload_n 0, 1) := by decide +kernel
theorem dX5_isWord_17 : decode cX5_isWord 17 = .ok (.iload_n 3, 1) := by decide +kernel
theorem dX5_isWord_18 : decode cX5_isWord 18 = .ok (.iload 4, 2) := by decide +kernel
theorem dX5_isWord_20 : decode cX5_isWord 20 = .ok (.iadd, 1) := by decide +kernel
theorem dX5_isWord_21 : decode cX5_isWord 21 = .ok (.iload_n 1, 1) := by decide +kernel
theorem dX5_isWord_22 : decode cX5_isWord 22 = .ok (.isub, 1) := by decide +kernel
theorem dX5_isWord_23 : decode cX5_isWord 23 = .ok (.invokevirtual 65, 3) := by decide +kernel
theorem cw_X5_byteAt : CWv yX5_byteAt cX5_byteAt 2 (some .int) 1 := ⟨⟨⟨List.mem_of_getElem? (i := 130) (by decide +kernel), by decide +kernel⟩, ⟨List.mem_of_getElem? (i := 591) (by decide +kernel), by decide +kernel⟩, by decide +kernel⟩, ⟨List.mem_of_getElem? (i := 590) (by decide +kernel), by decide +kernel⟩, ⟨List.mem_of_getElem? (i := 1) (by decide +kernel), by decide +kernel⟩⟩
theorem km5_65 : inW (Cond.methodLink RX5 65 yX5_byteAt) := ⟨List.mem_of_getElem? (i := 588) (by decide +kernel), by decide +kernel⟩
theorem dX5_isWord_26 : decode cX5_isWord 26 = .ok (.if_icmp .eq 5, 3) := by decide +kernel
theorem dX5_isWord_31 : decode cX5_isWord 31 = .ok (.iinc 4 1, 3) := by decide +kernel
theorem dX5_isWord_34 : decode cX5_isWord 34 = .ok (.goto (-31), 3) := by decide +kernel
theorem dX5_isWord_29 : decode cX5_isWord 29 = .ok (.iconst 0, 1) := by decide +kernel
theorem dX5_isWord_30 : decode cX5_isWord 30 = .ok (.ireturn, 1) := by decide +kernel
section CUTR
variable {B : Nat → Int} {n p a c N k f : Nat} {v : Int} {K : Nat → Int} {g : Nat → Int32} {i x r y z m : Int32} {q u : Int}
abbrev bI (bT : Nat → Int32) : Nat → Int := fun k => (bT k).toInt
def BYT (bT : Nat → Int32) : Prop := ∀ k, bn 0 255 (bT k)
theorem RW_up (h : RW c K g) (hi : i.toInt = (c : Int)) (hx : x.toInt = K c) : RW (c + 1) K (upd g i.toNatClampNeg x) := by
  intro k hk
  have e : i.toNatClampNeg = c := by show i.toInt.toNat = c; omega
  rw [e]
  by_cases z : k = c
  · subst z; rw [pk_us]; exact hx
  · rw [pk_un z]; exact h k (by omega)
theorem RW_0 : RW 0 K g := fun k hk => absurd hk (Nat.not_lt_zero k)
theorem byA_in {bT : Nat → Int32} {nL : Int} (e : r = byA bT nL i) (hi : i.toInt = (a : Int)) (h : (a : Int) < nL) : r.toInt = bI bT a := by
  have e2 : i.toInt.toNat = a := by omega
  rw [e]; unfold byA; rw [if_pos (by omega), e2]
theorem byA_out {bT : Nat → Int32} {nL : Int} (e : r = byA bT nL i) (h : ¬ (0 ≤ i.toInt ∧ i.toInt < nL)) : r = -1 := by
  rw [e]; unfold byA; rw [if_neg h]
theorem ltE_s (h : a < n ∧ isLt (B a)) : ltE B n n a = ltE B n n (a + 1) := by
  rw [ltE_go h (by omega)]
  exact ltE_f _ _ _ (by omega) (by omega)
theorem dgE_s (h : a < n ∧ isDg (B a)) : dgE B n n a v = dgE B n n (a + 1) (min 10000 (v * 10 + B a - 48)) := by
  rw [dgE_go h (by omega)]
  exact dgE_f _ _ _ _ (by omega) (by omega)
theorem skB_s (h : a < n ∧ (B a = 32 ∨ B a = 10)) : skB B n n a = skB B n n (a + 1) := by
  rw [skB_go h (by omega)]
  exact skB_f _ _ _ (by omega) (by omega)
theorem min_t (e : z = if m < y then m else y) (hy : y.toInt = q) (hm : m.toInt = u) : z.toInt = min q u := by
  rw [e]
  by_cases w : m < y
  · rw [if_pos w]; rw [Int32.lt_iff_toInt_lt] at w; omega
  · rw [if_neg w]; rw [Int32.lt_iff_toInt_lt] at w; omega
theorem cls_t {r : Int32} {P : Prop} (e : r = 1 ∧ P ∨ r = 0 ∧ ¬ P) (h : ¬ r = 0) : P := hasL_of e h
theorem cls_f {r : Int32} {P : Prop} (e : r = 1 ∧ P ∨ r = 0 ∧ ¬ P) (h : r = 0) : ¬ P := hasL_no e h
def c16T (n : Nat) : Bool := decide (((Int32.ofNat n).toUInt32 % 65536).toInt32 = Int32.ofNat n)
theorem c16_all : (List.range 256).all c16T = true := by decide +kernel
theorem c16 {s : Int32} (h : bn 0 255 s) (e : x = (s.toUInt32 % 65536).toInt32) : x = s := by
  obtain ⟨h1, h2⟩ := h
  have k := of_decide_eq_true (List.all_eq_true.mp c16_all s.toInt.toNat (List.mem_range.mpr (by omega)))
  have q : Int32.ofNat s.toInt.toNat = s := by
    apply Int32.toInt_inj.mp
    rw [Int32.toInt_ofNat_of_lt (by omega)]; omega
  rw [q] at k
  rw [e]; exact k
def sgT (B : Nat → Int) (n p : Nat) : Int × Nat := if (B p = 60 ∨ B p = 62) ∧ p + 1 < n ∧ B (p + 1) = 61 then (B p + 256, p + 2) else (if isSg (B p) then B p else 1001, p + 1)
theorem tk0_l (h : p < n) (hl : isLt (B p)) : tk0 B n p = (wdF wds 0 (sl B p (ltE B n n p)), 0, ltE B n n p) := by unfold tk0; rw [if_neg (by omega), if_pos hl]
theorem tk0_d (h : p < n) (hl : ¬ isLt (B p)) (hd : isDg (B p)) : tk0 B n p = (1000, (dgE B n n p 0).2, (dgE B n n p 0).1) := by unfold tk0; rw [if_neg (by omega), if_neg hl, if_pos hd]
theorem tk0_s (h : p < n) (hl : ¬ isLt (B p)) (hd : ¬ isDg (B p)) : tk0 B n p = ((sgT B n p).1, 0, (sgT B n p).2) := by
  unfold tk0 sgT; rw [if_neg (by omega), if_neg hl, if_neg hd]
  by_cases w : (B p = 60 ∨ B p = 62) ∧ p + 1 < n ∧ B (p + 1) = 61
  · rw [if_pos w, if_pos w]
  · rw [if_neg w, if_neg w]
theorem tk0_e (h : n ≤ p) : tk0 B n p = (1002, 0, p) := by unfold tk0; rw [if_pos h]
theorem tkP_n (h : tkP B n c = n) : ∀ k, c ≤ k → tkP B n k = n := by
  intro k
  induction k with
  | zero => intro hk; have : c = 0 := by omega
            subst this; exact h
  | succ k ih =>
    intro hk
    by_cases z : c = k + 1
    · subst z; exact h
    · have e := ih (by omega)
      show skB B n n (tk0 B n (tkP B n k)).2.2 = n
      rw [e, tk0_e (Nat.le_refl n)]
      show skB B n n n = n
      exact skB_no (fun q => absurd q.1 (Nat.lt_irrefl n))
theorem RDH_mk (h : tkP B n c = n) (hc : c ≤ 300) : RDH (tkK B n) (c + 1) := ⟨by omega, by omega, fun k hk => by
  show (tk0 B n (tkP B n k)).1 = 1002
  rw [tkP_n h k (by omega), tk0_e (Nat.le_refl n)]⟩
/-! the words' table: how many blanks ahead of a place, and behind the last of them -/
def wst : Nat → Nat × Nat
  | 0 => (0, 0)
  | i + 1 => if wB i = 32 then ((wst i).1 + 1, i + 1) else wst i
def slW (a z : Nat) : List Int := (List.range (z - a)).map (fun k => wB (a + k))
def wstT (i : Nat) : Bool := decide (wB i = 32 → (wst i).2 ≤ i ∧ wds.drop (wst i).1 = slW (wst i).2 i :: wds.drop ((wst i).1 + 1))
theorem wst_all : (List.range 153).all wstT = true := by decide +kernel
theorem wst_at {i : Nat} (h : i < 153) (hb : wB i = 32) : (wst i).2 ≤ i ∧ wds.drop (wst i).1 = slW (wst i).2 i :: wds.drop ((wst i).1 + 1) := of_decide_eq_true (List.all_eq_true.mp wst_all i (List.mem_range.mpr h)) hb
theorem wst_e : wst 153 = (31, 153) := by decide +kernel
theorem wst_le : ∀ i, (wst i).2 ≤ i ∧ (wst i).1 ≤ i := by
  intro i
  induction i with
  | zero => exact ⟨Nat.le_refl 0, Nat.le_refl 0⟩
  | succ i ih =>
    unfold wst
    by_cases z : wB i = 32
    · rw [if_pos z]; exact ⟨Nat.le_refl _, by show (wst i).1 + 1 ≤ i + 1; omega⟩
    · rw [if_neg z]; omega
theorem sl_eq {a z s e : Nat} (hl : z - a = e - s) : (slW s e = sl B a z) ↔ ∀ k, k < e - s → wB (s + k) = B (a + k) := by
  unfold slW sl
  rw [hl]
  constructor
  · intro h k hk
    have := congrArg (fun l => l[k]?) h
    simp [hk] at this
    exact this
  · intro h
    apply List.map_congr_left
    intro k hk
    exact h k (List.mem_range.mp hk)
theorem sl_len {a z s e : Nat} (hl : z - a ≠ e - s) : slW s e ≠ sl B a z := by
  intro h
  have := congrArg List.length h
  unfold slW sl at this
  simp at this
  omega
theorem wd_hit {i : Nat} {W : List Int} (h : i < 153) (hb : wB i = 32) (e : wdF wds 0 W = wdF (wds.drop (wst i).1) (wst i).1 W) (hw : slW (wst i).2 i = W) : wdF wds 0 W = ((wst i).1 : Int) := by
  rw [e, (wst_at h hb).2]
  unfold wdF
  rw [if_pos hw.symm]
theorem wd_miss {i : Nat} {W : List Int} (h : i < 153) (hb : wB i = 32) (e : wdF wds 0 W = wdF (wds.drop (wst i).1) (wst i).1 W) (hw : slW (wst i).2 i ≠ W) : wdF wds 0 W = wdF (wds.drop (wst (i + 1)).1) (wst (i + 1)).1 W := by
  rw [e, (wst_at h hb).2]
  have e2 : wst (i + 1) = ((wst i).1 + 1, i + 1) := by show (if wB i = 32 then ((wst i).1 + 1, i + 1) else wst i) = _; rw [if_pos hb]
  rw [e2]
  conv => lhs; unfold wdF
  rw [if_neg (fun q => hw q.symm)]
  rfl
theorem wd_same {i : Nat} {W : List Int} (hb : ¬ wB i = 32) (e : wdF wds 0 W = wdF (wds.drop (wst i).1) (wst i).1 W) : wdF wds 0 W = wdF (wds.drop (wst (i + 1)).1) (wst (i + 1)).1 W := by
  have e2 : wst (i + 1) = wst i := by show (if wB i = 32 then ((wst i).1 + 1, i + 1) else wst i) = _; rw [if_neg hb]
  rw [e2]; exact e
theorem wd_end {W : List Int} (e : wdF wds 0 W = wdF (wds.drop (wst 153).1) (wst 153).1 W) : wdF wds 0 W = 1001 := by
  rw [e, wst_e]; rfl
theorem wst_y {i : Nat} (hb : wB i = 32) : wst (i + 1) = ((wst i).1 + 1, i + 1) := by show (if wB i = 32 then ((wst i).1 + 1, i + 1) else wst i) = _; rw [if_pos hb]
theorem wst_n {i : Nat} (hb : ¬ wB i = 32) : wst (i + 1) = wst i := by show (if wB i = 32 then ((wst i).1 + 1, i + 1) else wst i) = _; rw [if_neg hb]
end CUTR
set_option maxHeartbeats 4000000 in
set_option maxRecDepth 100000 in
theorem x_X5_addToken {l : Launch} {G : GG}  {L : List Nat} {f : HF} {ad : Nat → Nat → Nat} {zR : Int × Int} {zK : Int × Int} {zP : Int × Int} {zV : Int × Int} {zW : Int × Int} {zF : Int × Int} {zQ : Int × Int} {rf : FS} {sc : Nat → SG} {kK : Nat → Int} {kP : Nat → Int} {kV : Nat → Int} {bT : Nat → Int32} {nN : Nat} {cT : Nat} {fc : Int × Int} {tc w : Nat → Int × Int} {q : Nat → (Nat → Int32) → Prop} {i1 i2 i3 : Int32} (I : SH (spC ((rf, fz (pp (nN : Int)) (pp (cT : Int)) zR zK zP zV zW zF zQ, tz (EQ bT) (RW cT kK) (RW cT kP) (RW cT kV), sc) : RS) fc tc w q) nnC G ad L f) (hW : WBp w 8) (hT : WBp tc 4) (hQ : QIp q) (hc : cT ≤ 300) (h1 : i1.toInt = kK cT) (h2 : i2.toInt = kP cT) (h3 : i3.toInt = kV cT) : PMv l yX5_addToken cX5_addToken 4 0 0 0 G [.ref (ad 2 0), .int i1, .int i2, .int i3] L f (fun L1 f1 => SH (spC ((rf, fz (pp (nN : Int)) (pp ((cT + 1 : Nat) : Int)) zR zK zP zV zW zF zQ, tz (EQ bT) (RW (cT + 1) kK) (RW (cT + 1) kP) (RW (cT + 1) kV), sc) : RS) fc tc w q) nnC G ad L1 f1) := by
  refine PMv.of (post := fun L1 f1 => SH (spC ((rf, fz (pp (nN : Int)) (pp ((cT + 1 : Nat) : Int)) zR zK zP zV zW zF zQ, tz (EQ bT) (RW (cT + 1) kK) (RW (cT + 1) kP) (RW (cT + 1) kV), sc) : RS) fc tc w q) nnC G ad L1 f1) (own := RX5) (by decide) rfl (Nat.le_of_ble_eq_true rfl) (fun sz p e s m args below meth c A ls hA1 hname S Y hl => ?_)
  have hx := S.hx
  have hb := S.hb
  have hl : lv_has ls 4 [(0, .ref (ad 2 0)), (1, .int i1), (2, .int i2), (3, .int i3)] := hl
  refine lv_aload_n hx hb dX5_addToken_0 rfl (lv_at hl 0 rfl) ?_
  obtain ⟨v_78575, v_78577, v_78579, v_78581, v_78583, v_78585, v_78587, v_78589, v_78591, v_78593, p_ad_2_0, b_78576, b_78578, b_78580, b_78582, b_78584, b_78586, b_78588, b_78590, b_78592, b_78594⟩ := opnC_2 (j := 0) I (by decide)
  have p_ad_2_0 : pt L f (ad 2 0) (.inr (5, [.ref (ad 50 0), .ref (ad 51 0), .ref (ad 52 0), .ref (ad 53 0), .int v_78575, .int v_78577, .int v_78579, .int v_78581, .int v_78583, .int v_78585, .int v_78587, v_78589, .int v_78591, .int v_78593])) := p_ad_2_0
  have tv_78575 : v_78575.toInt = (nN : Int) := lim_eq b_78576
  have tv_78577 : v_78577.toInt = (cT : Int) := lim_eq b_78578
  have B_78595 : bn 0 300 v_78577 := ⟨by have h9 := tv_78577; omega, by have h9 := tv_78577; have h8 := hc; omega⟩
  refine pg_get S Y ok_X5 5 (by decide) kf5_62 (v := .int v_78577) p_ad_2_0 rfl dX5_addToken_1 ?_
  refine lv_aload_n hx hb dX5_addToken_4 rfl (lv_at hl 0 rfl) ?_
  refine pg_get S Y ok_X5 1 (by decide) kf5_15 (v := .ref (ad 51 0)) p_ad_2_0 rfl dX5_addToken_5 ?_
  obtain ⟨g_78596, p_ad_51_0, o_78597⟩ := I.opi (k := 51) (j := 0) (by decide) rfl
  have p_ad_51_0 : pt L f (ad 51 0) (.inl (G.2 0, 301, .inl g_78596)) := p_ad_51_0
  have o_78598 : (RW cT kK) g_78596 := o_78597
  refine pg_alen S Y (k := 0) (v := 301) p_ad_51_0 rfl rfl dX5_addToken_8 ?_
  refine lv_icmp_ge (tgt := 52) hx hb dX5_addToken_9 (by decide) (fun h => absurd h (bd_nle (show bn 301 301 (301 : Int32) from bn_k (by decide)) B_78595 (by decide))) (fun _ => ?_)
  refine lv_aload_n hx hb dX5_addToken_12 rfl (lv_at hl 0 rfl) ?_
  refine pg_get S Y ok_X5 1 (by decide) kf5_15 (v := .ref (ad 51 0)) p_ad_2_0 rfl dX5_addToken_13 ?_
  refine lv_aload_n hx hb dX5_addToken_16 rfl (lv_at hl 0 rfl) ?_
  refine pg_get S Y ok_X5 5 (by decide) kf5_62 (v := .int v_78577) p_ad_2_0 rfl dX5_addToken_17 ?_
  refine lv_iload_n hx hb dX5_addToken_20 rfl (lv_at hl 1 rfl) ?_
  refine pg_iast S Y p_ad_51_0 (vp_bn B_78595 (by decide)) dX5_addToken_21 (fun f_78600 H locs ef_78600 Y => ?_)
  obtain ⟨g_78599, eg_78599⟩ : ∃ z, z = upd (g_78596) (v_78577 : Int32).toNatClampNeg i1 := ⟨_, rfl⟩
  rw [← eg_78599] at ef_78600
  have p_ad_2_0 := p_ad_2_0.up ef_78600 (I.ne (k := 2) (j := 0) (k' := 51) (j' := 0) (by decide) (by decide) (Or.inl (by decide)))
  have p_ad_51_0 := p_ad_51_0.me ef_78600
  have o_78601 : (RW (cT + 1) kK) g_78599 := (by rw [eg_78599]; exact RW_up o_78598 tv_78577 h1)
  have I := I.upS (sp' := spC ((rf, fz (pp (nN : Int)) (pp (cT : Int)) zR zK zP zV zW zF zQ, tz (EQ bT) (RW (cT + 1) kK) (RW cT kP) (RW cT kV), sc) : RS) fc tc w q) (k := 51) (j := 0) (by decide) ef_78600 (okE_a (g := g_78599) o_78601) tz51C
  refine lv_aload_n hx hb dX5_addToken_22 rfl (lv_at hl 0 rfl) ?_
  refine pg_get S Y ok_X5 2 (by decide) kf5_18 (v := .ref (ad 52 0)) p_ad_2_0 rfl dX5_addToken_23 ?_
  refine lv_aload_n hx hb dX5_addToken_26 rfl (lv_at hl 0 rfl) ?_
  refine pg_get S Y ok_X5 5 (by decide) kf5_62 (v := .int v_78577) p_ad_2_0 rfl dX5_addToken_27 ?_
  refine lv_iload_n hx hb dX5_addToken_30 rfl (lv_at hl 2 rfl) ?_
  obtain ⟨g_78602, p_ad_52_0, o_78603⟩ := I.opi (k := 52) (j := 0) (by decide) rfl
  have p_ad_52_0 : pt L f_78600 (ad 52 0) (.inl (G.2 0, 301, .inl g_78602)) := p_ad_52_0
  have o_78604 : (RW cT kP) g_78602 := o_78603
  refine pg_iast S Y p_ad_52_0 (vp_bn B_78595 (by decide)) dX5_addToken_31 (fun f_78606 H locs ef_78606 Y => ?_)
  obtain ⟨g_78605, eg_78605⟩ : ∃ z, z = upd (g_78602) (v_78577 : Int32).toNatClampNeg i2 := ⟨_, rfl⟩
  rw [← eg_78605] at ef_78606
  have p_ad_2_0 := p_ad_2_0.up ef_78606 (I.ne (k := 2) (j := 0) (k' := 52) (j' := 0) (by decide) (by decide) (Or.inl (by decide)))
  have p_ad_51_0 := p_ad_51_0.up ef_78606 (I.ne (k := 51) (j := 0) (k' := 52) (j' := 0) (by decide) (by decide) (Or.inl (by decide)))
  have p_ad_52_0 := p_ad_52_0.me ef_78606
  have o_78607 : (RW (cT + 1) kP) g_78605 := (by rw [eg_78605]; exact RW_up o_78604 tv_78577 h2)
  have I := I.upS (sp' := spC ((rf, fz (pp (nN : Int)) (pp (cT : Int)) zR zK zP zV zW zF zQ, tz (EQ bT) (RW (cT + 1) kK) (RW (cT + 1) kP) (RW cT kV), sc) : RS) fc tc w q) (k := 52) (j := 0) (by decide) ef_78606 (okE_a (g := g_78605) o_78607) tz52C
  refine lv_aload_n hx hb dX5_addToken_32 rfl (lv_at hl 0 rfl) ?_
  refine pg_get S Y ok_X5 3 (by decide) kf5_21 (v := .ref (ad 53 0)) p_ad_2_0 rfl dX5_addToken_33 ?_
  refine lv_aload_n hx hb dX5_addToken_36 rfl (lv_at hl 0 rfl) ?_
  refine pg_get S Y ok_X5 5 (by decide) kf5_62 (v := .int v_78577) p_ad_2_0 rfl dX5_addToken_37 ?_
  refine lv_iload_n hx hb dX5_addToken_40 rfl (lv_at hl 3 rfl) ?_
  obtain ⟨g_78608, p_ad_53_0, o_78609⟩ := I.opi (k := 53) (j := 0) (by decide) rfl
  have p_ad_53_0 : pt L f_78606 (ad 53 0) (.inl (G.2 0, 301, .inl g_78608)) := p_ad_53_0
  have o_78610 : (RW cT kV) g_78608 := o_78609
  refine pg_iast S Y p_ad_53_0 (vp_bn B_78595 (by decide)) dX5_addToken_41 (fun f_78612 H locs ef_78612 Y => ?_)
  obtain ⟨g_78611, eg_78611⟩ : ∃ z, z = upd (g_78608) (v_78577 : Int32).toNatClampNeg i3 := ⟨_, rfl⟩
  rw [← eg_78611] at ef_78612
  have p_ad_2_0 := p_ad_2_0.up ef_78612 (I.ne (k := 2) (j := 0) (k' := 53) (j' := 0) (by decide) (by decide) (Or.inl (by decide)))
  have p_ad_51_0 := p_ad_51_0.up ef_78612 (I.ne (k := 51) (j := 0) (k' := 53) (j' := 0) (by decide) (by decide) (Or.inl (by decide)))
  have p_ad_52_0 := p_ad_52_0.up ef_78612 (I.ne (k := 52) (j := 0) (k' := 53) (j' := 0) (by decide) (by decide) (Or.inl (by decide)))
  have p_ad_53_0 := p_ad_53_0.me ef_78612
  have o_78613 : (RW (cT + 1) kV) g_78611 := (by rw [eg_78611]; exact RW_up o_78610 tv_78577 h3)
  have I := I.upS (sp' := spC ((rf, fz (pp (nN : Int)) (pp (cT : Int)) zR zK zP zV zW zF zQ, tz (EQ bT) (RW (cT + 1) kK) (RW (cT + 1) kP) (RW (cT + 1) kV), sc) : RS) fc tc w q) (k := 53) (j := 0) (by decide) ef_78612 (okE_a (g := g_78611) o_78613) tz53C
  refine lv_aload_n hx hb dX5_addToken_42 rfl (lv_at hl 0 rfl) ?_
  refine lv_dup hx hb dX5_addToken_43 rfl ?_
  refine pg_get S Y ok_X5 5 (by decide) kf5_62 (v := .int v_78577) p_ad_2_0 rfl dX5_addToken_44 ?_
  refine lv_iconst (v := 1) hx hb dX5_addToken_47 (by decide) ?_
  refine lv_iadd hx hb dX5_addToken_48 ?_
  refine lv_topi (fun x_78614 ex_78614 => ?_)
  refine pg_put S Y ok_X5 5 (by decide) kf5_62 rfl (fs' := [.ref (ad 50 0), .ref (ad 51 0), .ref (ad 52 0), .ref (ad 53 0), .int v_78575, .int x_78614, .int v_78579, .int v_78581, .int v_78583, .int v_78585, .int v_78587, v_78589, .int v_78591, .int v_78593]) (v := .int x_78614) p_ad_2_0 rfl rfl rfl (Nat.le_of_ble_eq_true rfl) dX5_addToken_49 (fun f_78615 H locs ef_78615 Y => ?_)
  have p_ad_51_0 := p_ad_51_0.up ef_78615 (I.ne (k := 51) (j := 0) (k' := 2) (j' := 0) (by decide) (by decide) (Or.inl (by decide)))
  have p_ad_52_0 := p_ad_52_0.up ef_78615 (I.ne (k := 52) (j := 0) (k' := 2) (j' := 0) (by decide) (by decide) (Or.inl (by decide)))
  have p_ad_53_0 := p_ad_53_0.up ef_78615 (I.ne (k := 53) (j := 0) (k' := 2) (j' := 0) (by decide) (by decide) (Or.inl (by decide)))
  have p_ad_2_0 := p_ad_2_0.me ef_78615
  have I := I.upS (sp' := spC ((rf, fz (pp (nN : Int)) (pp ((cT : Int) + 1)) zR zK zP zV zW zF zQ, tz (EQ bT) (RW (cT + 1) kK) (RW (cT + 1) kP) (RW (cT + 1) kV), sc) : RS) fc tc w q) (k := 2) (j := 0) (by decide) ef_78615 (okE_o (okFs_c okV_r (okFs_c okV_r (okFs_c okV_r (okFs_c okV_r (okFs_c (okV_p b_78576) (okFs_c (okV_p (lim_mk (bn_w (bn_eq ex_78614 (bn_add B_78595 (show bn 1 1 (1 : Int32) from bn_k (by decide)) (by decide))) (by decide) : bn 0 301 x_78614) (la_add ex_78614 tv_78577 (show (1 : Int32).toInt = 1 from rfl) B_78595 (show bn 1 1 (1 : Int32) from bn_k (by decide)) (by decide)))) (okFs_c (okV_p b_78580) (okFs_c (okV_p b_78582) (okFs_c (okV_p b_78584) (okFs_c (okV_p b_78586) (okFs_c (okV_p b_78588) (okFs_c b_78590 (okFs_c (okV_p b_78592) (okFs_c (okV_p b_78594) okFs_n))))))))))))))) rsC
  exact prV (post := fun L1 f1 => SH (spC ((rf, fz (pp (nN : Int)) (pp ((cT + 1 : Nat) : Int)) zR zK zP zV zW zF zQ, tz (EQ bT) (RW (cT + 1) kK) (RW (cT + 1) kP) (RW (cT + 1) kV), sc) : RS) fc tc w q) nnC G ad L1 f1) S Y (by decide) (by decide) hA1 I dX5_addToken_52
section IWS
variable {B : Nat → Int} {aT zT fT : Nat} {y x : Int32}
def IWI (B : Nat → Int) (aT zT fT : Nat) (y : Int32) : Prop := ∃ m : Nat, y.toInt = (m : Int) ∧ aT ≤ m ∧ m ≤ zT ∧ ∀ k, aT ≤ k → k < m → wB k = B (fT + k - aT)
theorem iw_0 (h : y.toInt = (aT : Int)) (hl : aT ≤ zT) : IWI B aT zT fT y := ⟨aT, h, Nat.le_refl _, hl, fun k h1 h2 => absurd h2 (by omega)⟩
theorem iw_s (h : IWI B aT zT fT y) (ex : x.toInt = y.toInt + 1) (e : wB y.toInt.toNat = B (fT + y.toInt.toNat - aT)) (hl : y.toInt < (zT : Int)) : IWI B aT zT fT x := by
  obtain ⟨m, h1, h2, h3, h4⟩ := h
  refine ⟨m + 1, by omega, by omega, by omega, fun k k1 k2 => ?_⟩
  by_cases z : k = m
  · subst z; rw [show y.toInt.toNat = k by omega] at e; exact e
  · exact h4 k k1 (by omega)
theorem iw_e (h : IWI B aT zT fT y) (hl : ¬ y.toInt < (zT : Int)) : ∀ k, k < zT - aT → wB (aT + k) = B (fT + k) := by
  obtain ⟨m, h1, h2, h3, h4⟩ := h
  intro k hk
  have := h4 (aT + k) (by omega) (by omega)
  rw [show fT + (aT + k) - aT = fT + k by omega] at this
  exact this
theorem iw_n (h : IWI B aT zT fT y) (hl : y.toInt < (zT : Int)) (e : wB y.toInt.toNat ≠ B (fT + y.toInt.toNat - aT)) : ¬ ∀ k, k < zT - aT → wB (aT + k) = B (fT + k) := by
  obtain ⟨m, h1, h2, h3, h4⟩ := h
  intro q
  have := q (m - aT) (by omega)
  rw [show y.toInt.toNat = m by omega] at e
  rw [show aT + (m - aT) = m by omega, show fT + (m - aT) = fT + m - aT by omega] at this
  exact e this
end IWS
set_option maxHeartbeats 4000000 in
set_option maxRecDepth 100000 in
theorem x_X5_isWord {l : Launch} {G : GG}  {L : List Nat} {f : HF} {ad : Nat → Nat → Nat} {zC : Int × Int} {zR : Int × Int} {zK : Int × Int} {zP : Int × Int} {zV : Int × Int} {zW : Int × Int} {zF : Int × Int} {zQ : Int × Int} {tU : (Nat → Int32) → Prop} {tP : (Nat → Int32) → Prop} {tV : (Nat → Int32) → Prop} {rf : FS} {sc : Nat → SG} {bT : Nat → Int32} {nN : Nat} {fc : Int × Int} {tc w : Nat → Int × Int} {q : Nat → (Nat → Int32) → Prop} {aK aV : Nat → Nat} {z0 : Option Nat} {i1 i2 i3 : Int32} {aT zT fT : Nat} (I : SH (spC ((rf, fz (pp (nN : Int)) zC zR zK zP zV zW zF zQ, tz (EQ bT) tU tP tV, sc) : RS) fc tc w q) nnC G ad L f) (hW : WBp w 8) (hT : WBp tc 4) (hQ : QIp q) (b_i1 : bn 0 153 i1) (b_i2 : bn 0 152 i2) (b_i3 : bn 0 300 i3) (ha : i1.toInt = (aT : Int)) (hz : i2.toInt = (zT : Int)) (hf : i3.toInt = (fT : Int)) (hle : aT ≤ zT) (hlt : fT + (zT - aT) ≤ nN) : PMiZ aK aV z0 l yX5_isWord cX5_isWord 5 .boolean 4 0 0 G [.ref (ad 2 0), .int i1, .int i2, .int i3] L f (fun r L1 f1 => ((bn 0 1 r ∧ (r = 1 ∧ (∀ k, k < zT - aT → wB (aT + k) = bI bT (fT + k)) ∨ r = 0 ∧ ¬ ∀ k, k < zT - aT → wB (aT + k) = bI bT (fT + k)))) ∧ L1 = L ∧ f1 = f) := by
  refine PMiZ.of (post := fun r L1 f1 => ((bn 0 1 r ∧ (r = 1 ∧ (∀ k, k < zT - aT → wB (aT + k) = bI bT (fT + k)) ∨ r = 0 ∧ ¬ ∀ k, k < zT - aT → wB (aT + k) = bI bT (fT + k)))) ∧ L1 = L ∧ f1 = f) (own := RX5) (by decide) rfl (Nat.le_of_ble_eq_true rfl) (fun sz p e s m args below meth c A ls hA1 hname S Y hz hl => ?_)
  have hx := S.hx
  have hb := S.hb
  have hl : lv_has ls 5 [(0, .ref (ad 2 0)), (1, .int i1), (2, .int i2), (3, .int i3)] := hl
  have J_3 : ∀ (n3 : Nat) (y3_4 : Int32) (H : Heap) (locs : List Loc) (ls : Array Slot), (bn 0 153 y3_4) → (IWI (bI bT) aT zT fT y3_4) → (((153 : Int) - y3_4.toInt).toNat = n3) → (DY G A s [] L f H locs) → (lv_has ls 5 [(0, .ref (ad 2 0)), (1, .int i1), (2, .int i2), (3, .int i3), (4, .int y3_4)]) → W p l e (rmD 4 0 0) s m args below meth c H locs (0) (0) (MQ below (va_Qi (fun r (u : List Nat × HF) => (fun r L1 f1 => ((bn 0 1 r ∧ (r = 1 ∧ (∀ k, k < zT - aT → wB (aT + k) = bI bT (fT + k)) ∨ r = 0 ∧ ¬ ∀ k, k < zT - aT → wB (aT + k) = bI bT (fT + k)))) ∧ L1 = L ∧ f1 = f) r u.1 u.2) (fun u t => pOut G (va_A (va_pl L f) sz) u.1 u.2 t) (va_A (va_pl L f) sz)) args s 0 0 A) (F0 m 3 ls []) := by
    intro n3
    induction n3 using Nat.strongRecOn with
    | _ n3 ih3 =>
      intro y3_4 H locs ls b_y3_4 hI hm3 Y hl
      refine lv_iload hx hb dX5_isWord_3 (lv_at hl 4 rfl) ?_
      refine lv_iload_n hx hb dX5_isWord_5 rfl (lv_at hl 2 rfl) ?_
      refine lv_icmp_ge (tgt := 37) hx hb dX5_isWord_6 (by decide) (fun c_78640 => ?_) (fun c_78640 => ?_)
      · refine lv_iconst (v := 1) hx hb dX5_isWord_37 (by decide) ?_
        exact prI (post := fun r L1 f1 => ((bn 0 1 r ∧ (r = 1 ∧ (∀ k, k < zT - aT → wB (aT + k) = bI bT (fT + k)) ∨ r = 0 ∧ ¬ ∀ k, k < zT - aT → wB (aT + k) = bI bT (fT + k)))) ∧ L1 = L ∧ f1 = f) S Y rfl (by decide) (by decide) hA1 ⟨⟨bn_k (by decide), Or.inl ⟨rfl, iw_e hI (by have u1 := (show i2.toInt ≤ y3_4.toInt from by have z9 := c_78640; rw [Int32.le_iff_toInt_le] at z9; exact z9); have u2 := hz; omega)⟩⟩, rfl, rfl⟩ dX5_isWord_38
      · have B_78641 : bn 1 152 i2 := bn_w (bn_gtl c_78640 b_i2 b_y3_4) (by decide)
        have B_78642 : bn 0 151 y3_4 := bn_w (bn_gtr c_78640 b_i2 b_y3_4) (by decide)
        refine va_ldcS hx hb S.ow hz.2.2.2.1 dX5_isWord_9 ?_
        refine lv_iload hx hb dX5_isWord_11 (lv_at hl 4 rfl) ?_
        refine zVi (As := [.int y3_4]) (rest := []) S Y hz (x_J0_charAt (l := l) (bn_w B_78642 (by decide))) cw_X100_charAt_5068e km5_100 (recvK (i := 0) Y hz (by decide) rfl) rfl ⟨Nat.le_of_ble_eq_true rfl, Nat.le_of_ble_eq_true rfl⟩ hl.1 rfl (Nat.le_of_ble_eq_true rfl) ⟨Nat.le_of_ble_eq_true rfl, Nat.le_of_ble_eq_true rfl⟩ dX5_isWord_13 (fun r_78646 L_78643 f_78644 H locs h_78645 Y => ?_)
        rw [h_78645.2.1, h_78645.2.2] at Y
        have er_78646 := h_78645.1
        refine lv_aload_n hx hb dX5_isWord_16 rfl (lv_at hl 0 rfl) ?_
        refine lv_iload_n hx hb dX5_isWord_17 rfl (lv_at hl 3 rfl) ?_
        refine lv_iload hx hb dX5_isWord_18 (lv_at hl 4 rfl) ?_
        refine lv_iadd hx hb dX5_isWord_20 ?_
        refine lv_topi (fun x_78647 ex_78647 => ?_)
        refine lv_iload_n hx hb dX5_isWord_21 rfl (lv_at hl 1 rfl) ?_
        refine lv_isub hx hb dX5_isWord_22 ?_
        refine lv_topi (fun x_78648 ex_78648 => ?_)
        refine cVp (As := [.int x_78648]) (rest := [.int r_78646]) S Y (x_X5_byteAt (l := l) I hW hT hQ) cw_X5_byteAt km5_65 (I.opo (k := 2) (j := 0) (by decide) rfl).choose_spec.1 ok_X5.1 rfl rfl ⟨Nat.le_of_ble_eq_true rfl, Nat.le_of_ble_eq_true rfl⟩ hl.1 rfl (Nat.le_of_ble_eq_true rfl) ⟨Nat.le_of_ble_eq_true rfl, Nat.le_of_ble_eq_true rfl⟩ dX5_isWord_23 (fun r_78649 H locs er_78649 Y => ?_)
        refine lv_icmp_eq (tgt := 31) hx hb dX5_isWord_26 (by decide) (fun c_78650 => ?_) (fun c_78650 => ?_)
        · obtain ⟨x_78651, ex_78651⟩ : ∃ z : Int32, z = y3_4 + 1 := ⟨_, rfl⟩
          refine lv_iinc (v := x_78651) (lv' := [(4, .int x_78651), (0, .ref (ad 2 0)), (1, .int i1), (2, .int i2), (3, .int i3)]) hx hb dX5_isWord_31 hl (k := 4) rfl (by rw [ex_78651]; rfl) (by decide) rfl (fun ls hl => ?_)
          refine lv_goto (tgt := 3) hx hb dX5_isWord_34 (by decide) ?_
          exact ih3 _ (by rw [← hm3]; exact ms_up (m := 1) ex_78651 (show bn 1 1 (1 : Int32) from bn_k (by decide)) B_78642 (bn_w (bn_eq ex_78651 (bn_add B_78642 (show bn 1 1 (1 : Int32) from bn_k (by decide)) (by decide))) (by decide) : bn 0 153 x_78651) (by decide)) x_78651  _ _ _  (bn_w (bn_eq ex_78651 (bn_add B_78642 (show bn 1 1 (1 : Int32) from bn_k (by decide)) (by decide))) (by decide)) (iw_s hI (la_add ex_78651 (rfl : y3_4.toInt = y3_4.toInt) (show (1 : Int32).toInt = 1 from rfl) B_78642 (show bn 1 1 (1 : Int32) from bn_k (by decide)) (by decide)) (er_78646.2.symm.trans (((congrArg Int32.toInt c_78650)).trans (byA_in (a := fT + y3_4.toInt.toNat - aT) er_78649 (by have h9 := (la_sub ex_78648 (la_add ex_78647 (rfl : i3.toInt = i3.toInt) (rfl : y3_4.toInt = y3_4.toInt) b_i3 B_78642 (by decide)) (rfl : i1.toInt = i1.toInt) (bn_eq ex_78647 (bn_add b_i3 B_78642 (by decide))) b_i1 (by decide)); obtain ⟨m9, m1, m2, m3, _⟩ := hI; have h8 := ha; have h7 := hf; omega) (by obtain ⟨m9, m1, m2, m3, _⟩ := hI; have h8 := hlt; have u1 := er_78646.2; have u2 := (show y3_4.toInt < i2.toInt from by have z9 := (Int32.not_le.mp c_78640); rw [Int32.lt_iff_toInt_lt] at z9; exact z9); have u3 := hz; omega)))) (by have u1 := er_78646.2; have u2 := (show y3_4.toInt < i2.toInt from by have z9 := (Int32.not_le.mp c_78640); rw [Int32.lt_iff_toInt_lt] at z9; exact z9); have u3 := hz; omega)) rfl Y (lv_sub hl [1, 2, 3, 4, 0] rfl)
        · refine lv_iconst (v := 0) hx hb dX5_isWord_29 (by decide) ?_
          exact prI (post := fun r L1 f1 => ((bn 0 1 r ∧ (r = 1 ∧ (∀ k, k < zT - aT → wB (aT + k) = bI bT (fT + k)) ∨ r = 0 ∧ ¬ ∀ k, k < zT - aT → wB (aT + k) = bI bT (fT + k)))) ∧ L1 = L ∧ f1 = f) S Y rfl (by decide) (by decide) hA1 ⟨⟨bn_k (by decide), Or.inr ⟨rfl, iw_n hI (by have u1 := er_78646.2; have u2 := (show y3_4.toInt < i2.toInt from by have z9 := (Int32.not_le.mp c_78640); rw [Int32.lt_iff_toInt_lt] at z9; exact z9); have u3 := hz; omega) (fun q => c_78650 (Int32.toInt_inj.mp (er_78646.2.trans (q.trans (byA_in (a := fT + y3_4.toInt.toNat - aT) er_78649 (by have h9 := (la_sub ex_78648 (la_add ex_78647 (rfl : i3.toInt = i3.toInt) (rfl : y3_4.toInt = y3_4.toInt) b_i3 B_78642 (by decide)) (rfl : i1.toInt = i1.toInt) (bn_eq ex_78647 (bn_add b_i3 B_78642 (by decide))) b_i1 (by decide)); obtain ⟨m9, m1, m2, m3, _⟩ := hI; have h8 := ha; have h7 := hf; omega) (by obtain ⟨m9, m1, m2, m3, _⟩ := hI; have h8 := hlt; have u1 := er_78646.2; have u2 := (show y3_4.toInt < i2.toInt from by have z9 := (Int32.not_le.mp c_78640); rw [Int32.lt_iff_toInt_lt] at z9; exact z9); have u3 := hz; omega)).symm))))⟩⟩, rfl, rfl⟩ dX5_isWord_30
  refine lv_iload_n hx hb dX5_isWord_0 rfl (lv_at hl 1 rfl) ?_
  refine lv_istore (lv' := [(4, .int i1), (0, .ref (ad 2 0)), (1, .int i1), (2, .int i2), (3, .int i3)]) hx hb dX5_isWord_1 hl (by decide) rfl (fun ls hl => ?_)
  exact J_3 _ i1  _ _ _  (bn_w b_i1 (by decide)) (iw_0 ha hle) rfl Y (lv_sub hl [1, 2, 3, 4, 0] rfl)
