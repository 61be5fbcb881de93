def HT (g : Nat → Int32) (b : Nat) (fr i n t : Int32) : Prop := 0 ≤ fr.toInt ∧ fr.toInt ≤ i.toInt ∧ i.toInt ≤ 303 ∧ hts g b fr.toInt.toNat (i.toInt - fr.toInt).toNat = some (n.toInt.toNat, t.toInt.toNat) ∧ 0 ≤ n.toInt ∧ n.toInt ≤ i.toInt - fr.toInt ∧ 0 ≤ t.toInt ∧ t.toInt ≤ i.toInt - fr.toInt
section HTR
variable {g : Nat → Int32} {b : Nat} {fr to2 i n t i2 n2 t2 o v : Int32} {q : Nat × Nat}
theorem HT_5 (h : HT g b fr i n t) : bn 0 303 n := by
  obtain ⟨a1, a2, a3, a4, a5, a6, a7, a8⟩ := h; exact ⟨by omega, by omega⟩
theorem HT_6 (h : HT g b fr i n t) : bn 0 303 t := by
  obtain ⟨a1, a2, a3, a4, a5, a6, a7, a8⟩ := h; exact ⟨by omega, by omega⟩
theorem HT_7 (h : HT g b fr i n t) : bn 0 303 i := by
  obtain ⟨a1, a2, a3, a4, a5, a6, a7, a8⟩ := h; exact ⟨by omega, by omega⟩
theorem HT_0 (h : WFc g b fr to2) : HT g b fr fr 0 0 := by
  obtain ⟨h1, h2, h3, h4⟩ := h
  refine ⟨h1, Int.le_refl _, by omega, ?_, by decide, by rw [show (0 : Int32).toInt = 0 from rfl]; omega, by decide, by rw [show (0 : Int32).toInt = 0 from rfl]; omega⟩
  rw [Int.sub_self]; rfl
theorem HT_lt (h : HT g b fr i n t) (w : WFc g b fr to2) (c : i < to2) : bn 0 302 i ∧ bn 0 302 n ∧ bn 0 302 t := by
  obtain ⟨a1, a2, a3, a4, a5, a6, a7, a8⟩ := h; obtain ⟨w1, w2, w3, w4⟩ := w
  rw [Int32.lt_iff_toInt_lt] at c
  exact ⟨⟨by omega, by omega⟩, ⟨by omega, by omega⟩, ⟨by omega, by omega⟩⟩
theorem HT_st (h : HT g b fr i n t) (w : WFc g b fr to2) (c : i < to2) (eo : o = g (b + 2 * i.toInt.toNat)) (ev : v = g (b + 2 * i.toInt.toNat + 1)) : ∃ q, stH o.toInt v.toInt (n.toInt.toNat, t.toInt.toNat) = some q ∧ hts g b fr.toInt.toNat ((i.toInt - fr.toInt).toNat + 1) = some q := by
  obtain ⟨a1, a2, a3, a4, a5, a6, a7, a8⟩ := h; obtain ⟨w1, w2, w3, w4⟩ := w
  rw [Int32.lt_iff_toInt_lt] at c
  obtain ⟨q, hq⟩ := w4 ((i.toInt - fr.toInt).toNat + 1) (by omega)
  have e : fr.toInt.toNat + (i.toInt - fr.toInt).toNat = i.toInt.toNat := by omega
  have h2 := hq
  unfold hts at h2
  rw [a4] at h2
  simp only [e] at h2
  rw [← eo, ← ev] at h2
  exact ⟨q, h2, hq⟩
theorem HT_nx (h : HT g b fr i n t) (hq : hts g b fr.toInt.toNat ((i.toInt - fr.toInt).toNat + 1) = some q) (hi : i2.toInt = i.toInt + 1) (hl : i2.toInt ≤ 303) (e : q = (n2.toInt.toNat, t2.toInt.toNat)) (b1 : 0 ≤ n2.toInt) (b2 : n2.toInt ≤ n.toInt + 1) (b3 : 0 ≤ t2.toInt) (b4 : t2.toInt ≤ t.toInt + 1) : HT g b fr i2 n2 t2 := by
  obtain ⟨a1, a2, a3, a4, a5, a6, a7, a8⟩ := h
  refine ⟨a1, by omega, hl, ?_, b1, by omega, b3, by omega⟩
  rw [show (i2.toInt - fr.toInt).toNat = (i.toInt - fr.toInt).toNat + 1 from by omega, hq, e]
theorem sh1 {p : Nat × Nat} {o v : Int} (h : stH o v p = some q) (c : o ≤ 1) : 0 ≤ o ∧ (o = 1 → 0 ≤ v ∧ v ≤ 9) ∧ q = (p.1 + 1, p.2) := by
  unfold stH at h
  by_cases z : o < 0
  · rw [if_pos z] at h; cases h
  · rw [if_neg z, if_pos c] at h
    by_cases y : o = 1 ∧ ¬ (0 ≤ v ∧ v ≤ 9)
    · rw [if_pos y] at h; cases h
    · rw [if_neg y] at h
      exact ⟨by omega, fun e => by omega, (Option.some.inj h).symm⟩
theorem sh3 {p : Nat × Nat} {v : Int} (h : stH 3 v p = some q) : 2 ≤ p.1 ∧ 1 ≤ p.2 ∧ q = (p.1 - 1, p.2 - 1) := by
  unfold stH at h
  rw [if_neg (by decide), if_neg (by decide), if_pos rfl] at h
  by_cases y : 2 ≤ p.1 ∧ 1 ≤ p.2
  · rw [if_pos y] at h; exact ⟨y.1, y.2, (Option.some.inj h).symm⟩
  · rw [if_neg y] at h; cases h
theorem sh4 {p : Nat × Nat} {v : Int} (h : stH 4 v p = some q) : 0 ≤ v ∧ v ≤ p.2 ∧ q = (p.1, p.2 - v.toNat + 1) := by
  unfold stH at h
  rw [if_neg (by decide), if_neg (by decide), if_neg (by decide), if_pos rfl] at h
  by_cases y : 0 ≤ v ∧ v ≤ p.2
  · rw [if_pos y] at h; exact ⟨y.1, y.2, (Option.some.inj h).symm⟩
  · rw [if_neg y] at h; cases h
theorem sh5 {p : Nat × Nat} {o v : Int} (h : stH o v p = some q) (c : 2 ≤ o ∧ o ≤ 5 ∧ o ≠ 3 ∧ o ≠ 4) : 1 ≤ p.1 ∧ q = p := by
  unfold stH at h
  rw [if_neg (by omega), if_neg (by omega), if_neg (by omega), if_neg (by omega), if_pos (by omega)] at h
  by_cases y : 1 ≤ p.1
  · rw [if_pos y] at h; exact ⟨y, (Option.some.inj h).symm⟩
  · rw [if_neg y] at h; cases h
theorem sh6 {p : Nat × Nat} {o v : Int} (h : stH o v p = some q) (c : 6 ≤ o ∧ o < 10) : 2 ≤ p.1 ∧ q = (p.1 - 1, p.2) := by
  unfold stH at h
  rw [if_neg (by omega), if_neg (by omega), if_neg (by omega), if_neg (by omega), if_neg (by omega), if_pos (by omega)] at h
  by_cases y : 2 ≤ p.1
  · rw [if_pos y] at h; exact ⟨y, (Option.some.inj h).symm⟩
  · rw [if_neg y] at h; cases h
theorem sh10 {p : Nat × Nat} {o v : Int} (h : stH o v p = some q) (c : 10 ≤ o ∧ o < 20) : 2 ≤ p.1 ∧ q = (p.1 - 2, p.2 + 1) := by
  unfold stH at h
  rw [if_neg (by omega), if_neg (by omega), if_neg (by omega), if_neg (by omega), if_neg (by omega), if_neg (by omega), if_pos (by omega)] at h
  by_cases y : 2 ≤ p.1
  · rw [if_pos y] at h; exact ⟨y, (Option.some.inj h).symm⟩
  · rw [if_neg y] at h; cases h
theorem sh20 {p : Nat × Nat} {v : Int} (h : stH 20 v p = some q) : 1 ≤ p.2 ∧ q = p := by
  unfold stH at h
  rw [if_neg (by decide), if_neg (by decide), if_neg (by decide), if_neg (by decide), if_neg (by decide), if_neg (by decide), if_neg (by decide), if_pos rfl] at h
  by_cases y : 1 ≤ p.2
  · rw [if_pos y] at h; exact ⟨y, (Option.some.inj h).symm⟩
  · rw [if_neg y] at h; cases h
theorem sh21 {p : Nat × Nat} {o v : Int} (h : stH o v p = some q) (c : 21 ≤ o) : 2 ≤ p.2 ∧ q = (p.1, p.2 - 1) := by
  unfold stH at h
  rw [if_neg (by omega), if_neg (by omega), if_neg (by omega), if_neg (by omega), if_neg (by omega), if_neg (by omega), if_neg (by omega), if_neg (by omega)] at h
  by_cases y : 2 ≤ p.2
  · rw [if_pos y] at h; exact ⟨y, (Option.some.inj h).symm⟩
  · rw [if_neg y] at h; cases h
end HTR
