def CI (G : GG) (ad : Nat → Nat → Nat) (n m : Int) (L : List Nat) (f : HF) : Prop := ∃ (tc w : Nat → Int × Int) (q : Nat → (Nat → Int32) → Prop), SH (spC (NR 30 0 4) ((0, 6) : Int × Int) tc w q) nnC G ad L f ∧ WBp w 8 ∧ WBp tc 4 ∧ QIp q ∧ ZZp w q ∧ (∀ j, (tc j).1 = (tc j).2) ∧ w 2 = (n, n) ∧ w 7 = (m, m) ∧ (∀ g, q 2 g) ∧ ∀ g, q 7 g
def MI (G : GG) (ad : Nat → Nat → Nat) (n m : Int) (L : List Nat) (f : HF) : Prop := ∃ (wm wm2 : Int × Int) (g0 : Nat → Int32), SH (spM (IA 0 0 14 9999 wm) (IA 0 0 14 9999 wm2) (EQ g0) LDa) nnM G ad L f ∧ BBp 0 0 14 9999 wm ∧ BBp 0 0 14 9999 wm2 ∧ TX g0 ∧ wm = (n, n) ∧ wm2 = (m, m)
theorem ZZ_2 {w w2 : Nat → Int × Int} {q : Nat → (Nat → Int32) → Prop} (h : ZZp w q) (e : ∀ k, k ≠ 2 → w2 k = w k) : ZZp w2 q := fun j h1 h2 h3 => by rw [e j h2]; exact h j h1 h2 h3
theorem ZZ_c {w w2 : Nat → Int × Int} {q q2 : Nat → (Nat → Int32) → Prop} (h : ZZp w q) (c : ∀ j, j < 10 → j ≠ 2 → j ≠ 7 → ∃ i, i < 10 ∧ i ≠ 2 ∧ i ≠ 7 ∧ w2 j = w i ∧ q2 j = q i) : ZZp w2 q2 := fun j h1 h2 h3 => by
  obtain ⟨i, a, b, d, e1, e2⟩ := c j h1 h2 h3
  rw [e1, e2]
  exact h i a b d
theorem j10 {j : Nat} (h : j < 10) (h2 : j ≠ 2) (h7 : j ≠ 7) : j = 0 ∨ j = 1 ∨ j = 3 ∨ j = 4 ∨ j = 5 ∨ j = 6 ∨ j = 8 ∨ j = 9 := by omega
theorem tc_c {tc tc2 : Nat → Int × Int} (hE : ∀ j, (tc j).1 = (tc j).2) (c : ∀ j, ∃ i, tc2 j = tc i) : ∀ j, (tc2 j).1 = (tc2 j).2 := fun j => by
  obtain ⟨i, e⟩ := c j
  rw [e]; exact hE i
theorem pr_eq {a : Int × Int} {n : Int} (h : a.1 = a.2) (e : n = a.1) : a = (n, n) := Prod.ext e.symm (h.symm.trans e.symm)
theorem law_ix {i x k : Int32} {L : Nat} (e : x = i + k) (hi : 0 ≤ i.toInt ∧ i.toInt + 6 ≤ (L : Int)) (hL : L ≤ 3072) (hk : 0 ≤ k.toInt ∧ k.toInt ≤ 5) : x.toInt = i.toInt + k.toInt := by
  rw [e]; exact ti_add (by omega) (by omega)
theorem law_in {i x k : Int32} {L : Nat} (e : x = i + k) (hi : 0 ≤ i.toInt ∧ i.toInt + 6 ≤ (L : Int)) (hL : L ≤ 3072) (hk : 0 ≤ k.toInt ∧ k.toInt ≤ 5) : vp_in x L := by
  have h := law_ix e hi hL hk
  intro z
  rcases z with z | z
  · rw [Int32.lt_iff_toInt_lt] at z
    have z0 : (0 : Int32).toInt = 0 := rfl
    omega
  · rw [tnc] at z; omega
theorem law_rd {i x k : Int32} {L : Nat} {xs : Nat → Int32} (e : x = i + k) (hi : 0 ≤ i.toInt ∧ i.toInt + 6 ≤ (L : Int)) (hL : L ≤ 3072) (hk : 0 ≤ k.toInt ∧ k.toInt ≤ 5) : xs x.toNatClampNeg = xs (i.toInt.toNat + k.toInt.toNat) := by
  have h := law_ix e hi hL hk
  rw [tnc, show x.toInt.toNat = i.toInt.toNat + k.toInt.toNat by omega]
