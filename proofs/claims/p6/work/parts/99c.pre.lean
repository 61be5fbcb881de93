def CI (G : GG) (ad : Nat → Nat → Nat) (nL : Int) (bT : Nat → Int32) (kF pF a a8 : Int) (L : List Nat) (f : HF) : Prop := ∃ (tc w : Nat → Int × Int) (q : Nat → (Nat → Int32) → Prop), SH (spC ((NR 30 0 4, fz (pp nL) FI FI FI FI FI FI (pp kF) (pp pF), tz (EQ bT) TA TA TA, sc0) : RS) ((0, 6) : Int × Int) tc w q) nnC G ad L f ∧ WBp w 8 ∧ WBp tc 4 ∧ QIp q ∧ ZZp w q ∧ (∀ j, (tc j).1 = (tc j).2) ∧ (w 2).1 = (w 2).2 ∧ (w 7).1 = (w 7).2 ∧ (∀ g, q 2 g) ∧ (∀ g, q 7 g) ∧ (tc 0).1 = a ∧ (tc 1).1 = a8 ∧ (0 ≤ nL ∧ nL ≤ 300) ∧ BYT bT
def MI (G : GG) (ad : Nat → Nat → Nat) (nL : Int) (bT : Nat → Int32) (kF pF a a8 : Int) (L : List Nat) (f : HF) : Prop := ∃ (wm wm2 : WW) (g0 : Nat → Int32), SH (spM (IA 0 0 14 9999 wm) (((IA 0 0 14 9999 wm2), (pp nL), (pp kF), (pp pF), (EQ bT)) : PIT) (EQ g0) LDa) nnM G ad L f ∧ BBp 0 0 14 9999 wm ∧ BBp 0 0 14 9999 wm2 ∧ TX g0 ∧ wm.1.1 = wm.1.2 ∧ wm2.1.1 = wm2.1.2 ∧ (wm.2 1).toInt = a ∧ (wm2.2 1).toInt = a8 ∧ (0 ≤ nL ∧ nL ≤ 300) ∧ BYT bT
theorem CI_n {G : GG} {ad : Nat → Nat → Nat} {nL : Int} {bT : Nat → Int32} {kF pF a a8 : Int} {L : List Nat} {f : HF} (h : CI G ad nL bT kF pF a a8 L f) : ∃ k : Nat, nL = (k : Int) := by
  obtain ⟨_, _, _, _, _, _, _, _, _, _, _, _, _, _, _, h, _⟩ := h
  exact ⟨nL.toNat, by omega⟩
theorem feN_b {n : Int} (h : 0 ≤ n ∧ n ≤ 300) : 0 ≤ feN n ∧ feN n ≤ 300 := by
  unfold feN; split <;> omega
theorem cuL_b {n k : Int} (h : 0 ≤ n ∧ n ≤ 300) : 0 ≤ cuL n k ∧ cuL n k ≤ 300 := by
  unfold cuL; split <;> omega
theorem txp_b {B : Nat → Int} {n : Nat} {cn cn2 n2 fk fp fk2 fp2 r : Int} (h : TXP B n cn cn2 n2 fk fp fk2 fp2 r) (hn : 0 ≤ (n : Int) ∧ (n : Int) ≤ 300) : 0 ≤ n2 ∧ n2 ≤ 300 := by
  rcases h with ⟨_, _, _, e, _⟩ | ⟨_, e, _⟩ <;> omega
theorem txp_one {B : Nat → Int} {n : Nat} {cn c2 d2 n2 m2 fk fp fk2 fp2 gk2 gp2 : Int} {r s : Int32} (h : TXP B n cn c2 n2 fk fp fk2 fp2 r.toInt) (k : TXP B n cn d2 m2 fk fp gk2 gp2 s.toInt) : c2 = d2 ∧ n2 = m2 ∧ fk2 = gk2 ∧ fp2 = gp2 ∧ r = s := by
  rcases h with ⟨a1, a2, a3, a4, a5, a6⟩ | ⟨a1, a2, rr, a3, a4⟩ <;> rcases k with ⟨b1, b2, b3, b4, b5, b6⟩ | ⟨b1, b2, ss, b3, b4⟩
  · exact ⟨a3.trans b3.symm, a4.trans b4.symm, a5.trans b5.symm, a6.trans b6.symm, Int32.toInt_inj.mp (a2.trans b2.symm)⟩
  · omega
  · omega
  · have e := LL_det a3 b3
    subst e
    rcases a4 with ⟨c1, c3, c4, c5, c6⟩ | ⟨c1, c3, c4, c5, c6⟩ <;> rcases b4 with ⟨d1, d3, d4, d5, d6⟩ | ⟨d1, d3, d4, d5, d6⟩
    · exact ⟨by omega, by omega, by omega, by omega, Int32.toInt_inj.mp (by omega)⟩
    · exact absurd c1 d1
    · exact absurd d1 c1
    · exact ⟨by omega, by omega, by omega, by omega, Int32.toInt_inj.mp (by omega)⟩
theorem wdX_1 {i1 i2 r : Int32} {w w2 : WW} (h : wdX i1 i2 r w w2) : w2.2 1 = w.2 1 := by
  rcases h with ⟨_, _, e⟩ | ⟨_, _, _, e⟩ | ⟨_, _, ⟨_, _, e⟩ | ⟨_, _, e⟩⟩
  · rw [e]
  · rw [e]
  · rw [e]
    show upd (upd w.2 _ i1) _ i2 1 = _
    rw [pk_un (by omega), pk_un (by omega)]
  · rw [e]
theorem ZZ_2 {w w2 : Nat → Int × Int} {q : Nat → (Nat → Int32) → Prop} (h : ZZp w q) (e : ∀ k, k ≠ 2 → w2 k = w k) : ZZp w2 q := fun j h1 h2 h3 => by rw [e j h2]; exact h j h1 h2 h3
theorem ZZ_c {w w2 : Nat → Int × Int} {q q2 : Nat → (Nat → Int32) → Prop} (h : ZZp w q) (c : ∀ j, j < 10 → j ≠ 2 → j ≠ 7 → ∃ i, i < 10 ∧ i ≠ 2 ∧ i ≠ 7 ∧ w2 j = w i ∧ q2 j = q i) : ZZp w2 q2 := fun j h1 h2 h3 => by
  obtain ⟨i, a, b, d, e1, e2⟩ := c j h1 h2 h3
  rw [e1, e2]
  exact h i a b d
theorem j10 {j : Nat} (h : j < 10) (h2 : j ≠ 2) (h7 : j ≠ 7) : j = 0 ∨ j = 1 ∨ j = 3 ∨ j = 4 ∨ j = 5 ∨ j = 6 ∨ j = 8 ∨ j = 9 := by omega
theorem tc_c {tc tc2 : Nat → Int × Int} (hE : ∀ j, (tc j).1 = (tc j).2) (c : ∀ j, ∃ i, tc2 j = tc i) : ∀ j, (tc2 j).1 = (tc2 j).2 := fun j => by
  obtain ⟨i, e⟩ := c j
  rw [e]; exact hE i
theorem pr_eq {a : Int × Int} {n : Int} (h : a.1 = a.2) (e : n = a.1) : a = (n, n) := Prod.ext e.symm (h.symm.trans e.symm)
theorem law_ix {i x k : Int32} {L : Nat} (e : x = i + k) (hi : 0 ≤ i.toInt ∧ i.toInt + 6 ≤ (L : Int)) (hL : L ≤ 3072) (hk : 0 ≤ k.toInt ∧ k.toInt ≤ 5) : x.toInt = i.toInt + k.toInt := by
  rw [e]; exact ti_add (by omega) (by omega)
theorem law_in {i x k : Int32} {L : Nat} (e : x = i + k) (hi : 0 ≤ i.toInt ∧ i.toInt + 6 ≤ (L : Int)) (hL : L ≤ 3072) (hk : 0 ≤ k.toInt ∧ k.toInt ≤ 5) : vp_in x L := by
  have h := law_ix e hi hL hk
  intro z
  rcases z with z | z
  · rw [Int32.lt_iff_toInt_lt] at z
    have z0 : (0 : Int32).toInt = 0 := rfl
    omega
  · rw [tnc] at z; omega
theorem law_rd {i x k : Int32} {L : Nat} {xs : Nat → Int32} (e : x = i + k) (hi : 0 ≤ i.toInt ∧ i.toInt + 6 ≤ (L : Int)) (hL : L ≤ 3072) (hk : 0 ≤ k.toInt ∧ k.toInt ≤ 5) : xs x.toNatClampNeg = xs (i.toInt.toNat + k.toInt.toNat) := by
  have h := law_ix e hi hL hk
  rw [tnc, show x.toInt.toNat = i.toInt.toNat + k.toInt.toNat by omega]
