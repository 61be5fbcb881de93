/-! What closes or changes the innermost opener. -/
section PVU
variable {gp gc gp2 gc2 : Nat → Int} {gx gx2 : Nat → Int32} {b fr m i n t op ju least : Nat} {top opn o : Int} {cmp cur0 cmp0 : Bool}
/-- ) of a parenthesis -/
theorem PV_shut40 (h : SL gx b fr gp gc 1 40 cur0 cmp0 (i + 1) op ju m) (hc : cur0 = false → cmp0 = true) (hq : cmp0 = true → askd 40) (x : rk (gp i) < 1) : 1 ≤ op ∧ ∃ opn2 cmp2, PV gx b fr gp gc true i (op - 1) ju m opn2 cmp2 ∧ (i = 0 ∨ gp (i - 1) ≠ 16) := by
  obtain ⟨i', n, t, cmp, e1, e2, h1, h2⟩ := SL_one h hc (Or.inr (by rw [Nat.add_sub_cancel]; exact x)) (by omega)
  obtain rfl : i = i' := by omega
  obtain ⟨n', t', op', ju', top', opn', cmp', g1, g2, g3, g4⟩ := ps_40 h1 e2 (by omega)
  have k : n = n' ∧ t = t' ∧ ju = ju' := by
    rcases g4 with ⟨_, a⟩ | ⟨q, a⟩ | ⟨q, a⟩ | ⟨q, a⟩
    · exact a
    all_goals omega
  obtain ⟨rfl, rfl, rfl⟩ := k
  rcases h2 with ⟨a1, a2, a3⟩ | ⟨a1, a2⟩
  · refine ⟨by omega, opn', cmp', ⟨n, t, top', by rw [g3, Nat.add_sub_cancel]; exact g1, by simp, ?_⟩, ?_⟩
    · rw [if_pos rfl, if_neg g2]; exact a3
    · rcases Nat.eq_zero_or_pos i with z | z
      · exact Or.inl z
      · rw [← (ps_inv _ _ _ _ _ _ _ _ g1).2.2.2.2.2.2.1 z]; exact Or.inr g2
  · have := hq a2; unfold askd at this; omega
/-- then -/
theorem PV_then (h : SL gx b fr gp gc 1 41 cur0 true (i + 1) op ju m) (x : rk (gp i) < 1) (e : ∀ j, j < i → gp2 j = gp j) (z : gp2 i = 42) : PV gx b fr gp2 gc false (i + 1) op ju m 42 false := by
  obtain ⟨i', n, t, cmp, e1, e2, h1, h2⟩ := SL_one h (fun _ => rfl) (Or.inr (by rw [Nat.add_sub_cancel]; exact x)) (by omega)
  obtain rfl : i = i' := by omega
  obtain ⟨n', t', op', ju', top', opn', cmp', g1, g2, g3, g4⟩ := ps_40 h1 e2 (by omega)
  have k : n = n' ∧ t = t' ∧ ju = ju' := by
    rcases g4 with ⟨_, a⟩ | ⟨q, a⟩ | ⟨q, a⟩ | ⟨q, a⟩
    · exact a
    all_goals omega
  obtain ⟨rfl, rfl, rfl⟩ := k
  have g5 := ps_ext (gp2 := gp2) (gc2 := gc) _ _ _ _ _ _ _ _ g1 (fun j hj => (e j hj).symm) (fun _ _ => rfl)
  rcases h2 with ⟨a1, a2, a3⟩ | ⟨a1, a2⟩
  · exact absurd a2 (by simp)
  · refine ⟨n, t + 1, 42, ⟨n, t, op', ju, top', opn', cmp', g5, g2, ?_⟩, fun _ => by decide, a1⟩
    exact Or.inr (Or.inl ⟨z, by rw [z, g3]⟩)
/-- else -/
theorem PV_else (h : SL gx b fr gp gc 1 42 cur0 cmp0 (i + 1) op ju m) (hc : cur0 = false → cmp0 = true) (hq : cmp0 = true → askd 42) (x : rk (gp i) < 1) (e : ∀ j, j < i → gp2 j = gp j) (z : gp2 i = 43) : PV gx b fr gp2 gc false (i + 1) op ju m 43 false := by
  obtain ⟨i', n, t, cmp, e1, e2, h1, h2⟩ := SL_one h hc (Or.inr (by rw [Nat.add_sub_cancel]; exact x)) (by omega)
  obtain rfl : i = i' := by omega
  obtain ⟨n', t', op', ju', top', opn', cmp', g1, g2, g3, g4⟩ := ps_40 h1 e2 (by omega)
  have k : n = n' ∧ t = t' + 1 ∧ ju = ju' := by
    rcases g4 with ⟨q, a⟩ | ⟨q, a⟩ | ⟨q, a⟩ | ⟨q, a⟩
    · omega
    · exact a
    all_goals omega
  obtain ⟨rfl, rfl, rfl⟩ := k
  have g5 := ps_ext (gp2 := gp2) (gc2 := gc) _ _ _ _ _ _ _ _ g1 (fun j hj => (e j hj).symm) (fun _ _ => rfl)
  rcases h2 with ⟨a1, a2, a3⟩ | ⟨a1, a2⟩
  · refine ⟨n + 1, t' + 1, 43, ⟨n, t', op', ju, top', opn', cmp', g5, g2, ?_⟩, fun _ => by decide, a3⟩
    exact Or.inr (Or.inr (Or.inl ⟨z, by rw [z, g3]⟩))
  · have := hq a2; unfold askd at this; omega
/-- end -/
theorem PV_fi (h : SL gx b fr gp gc 1 43 cur0 cmp0 (i + 1) op ju m) (hc : cur0 = false → cmp0 = true) (hq : cmp0 = true → askd 43) (x : rk (gp i) < 1) : ∃ q q2, hts gx b fr m = some q ∧ stH 3 0 q = some q2 ∧ 1 ≤ op ∧ ∀ gx2 : Nat → Int32, hts gx2 b fr (m + 1) = some q2 → ∃ opn2 cmp2, PV gx2 b fr gp gc true i (op - 1) ju (m + 1) opn2 cmp2 ∧ (i = 0 ∨ gp (i - 1) ≠ 16) := by
  obtain ⟨i', n, t, cmp, e1, e2, h1, h2⟩ := SL_one h hc (Or.inr (by rw [Nat.add_sub_cancel]; exact x)) (by omega)
  obtain rfl : i = i' := by omega
  obtain ⟨n', t', op', ju', top', opn', cmp', g1, g2, g3, g4⟩ := ps_40 h1 e2 (by omega)
  have k : n = n' + 1 ∧ t = t' + 1 ∧ ju = ju' := by
    rcases g4 with ⟨q, a⟩ | ⟨q, a⟩ | ⟨q, a⟩ | ⟨q, a⟩
    · omega
    · omega
    · exact a
    · omega
  obtain ⟨rfl, rfl, rfl⟩ := k
  rcases h2 with ⟨a1, a2, a3⟩ | ⟨a1, a2⟩
  · refine ⟨_, (n' + 1, t'), a3, by unfold stH; simp, by omega, fun gx2 hg => ⟨opn', cmp', ⟨n', t', top', by rw [g3, Nat.add_sub_cancel]; exact g1, by simp, ?_⟩, ?_⟩⟩
    · rw [if_pos rfl, if_neg g2]; exact hg
    · rcases Nat.eq_zero_or_pos i with z | z
      · exact Or.inl z
      · rw [← (ps_inv _ _ _ _ _ _ _ _ g1).2.2.2.2.2.2.1 z]; exact Or.inr g2
  · have := hq a2; unfold askd at this; omega
/-- , of a just -/
theorem PV_comma (h : SL gx b fr gp gc 1 44 cur0 true (i + 1) op (ju + 1) m) (x : rk (gp i) < 1) (e : ∀ j, j < i → gp2 j = gp j) (z : gp2 i = 44) (ec : ∀ j, j < ju → gc2 j = gc j) (zc : gc2 ju = gc ju + 1) (h6 : gc ju ≠ 6) : PV gx b fr gp2 gc2 false (i + 1) op (ju + 1) m 44 false := by
  obtain ⟨i', n, t, cmp, e1, e2, h1, h2⟩ := SL_one h (fun _ => rfl) (Or.inr (by rw [Nat.add_sub_cancel]; exact x)) (by omega)
  obtain rfl : i = i' := by omega
  obtain ⟨n', t', op', ju', top', opn', cmp', g1, g2, g3, g4⟩ := ps_40 h1 e2 (by omega)
  have k : n = n' ∧ t = t' + (gc ju' - 1).toNat ∧ ju + 1 = ju' + 1 ∧ askd opn' ∧ rk top' ≤ 3 ∧ 1 ≤ gc ju' ∧ gc ju' ≤ 6 := by
    rcases g4 with ⟨q, a⟩ | ⟨q, a⟩ | ⟨q, a⟩ | ⟨q, a⟩
    · omega
    · omega
    · omega
    · exact a
  obtain ⟨rfl, rfl, k3, k4, k5, k6, k7⟩ := k
  obtain rfl : ju = ju' := by omega
  have g5 := ps_ext (gp2 := gp2) (gc2 := gc2) _ _ _ _ _ _ _ _ g1 (fun j hj => (e j hj).symm) (fun j hj => (ec j hj).symm)
  rcases h2 with ⟨a1, a2, a3⟩ | ⟨a1, a2⟩
  · exact absurd a2 (by simp)
  · refine ⟨n, t' + (gc2 ju - 1).toNat, 44, ⟨n, t', op', ju, top', opn', cmp', g5, g2, ?_⟩, fun _ => by decide, ?_⟩
    · iterate 3 right
      exact Or.inl ⟨z, k4, k5, by omega, by omega, by rw [z, g3]⟩
    · rw [if_neg (by decide), a1, zc]
      congr 2
      omega
/-- ) of a just -/
theorem PV_just (h : SL gx b fr gp gc 1 44 cur0 true (i + 1) op ju m) (x : rk (gp i) < 1) (e : ∀ j, j < i → gp2 j = gp j) (z : gp2 i = 16) : 1 ≤ op ∧ 1 ≤ ju ∧ 1 ≤ gc (ju - 1) ∧ gc (ju - 1) ≤ 6 ∧ ∃ q q2, hts gx b fr m = some q ∧ stH 4 (gc (ju - 1)) q = some q2 ∧ ∀ gx2 : Nat → Int32, hts gx2 b fr (m + 1) = some q2 → ∃ opn2, PV gx2 b fr gp2 gc true (i + 1) (op - 1) (ju - 1) (m + 1) opn2 true := by
  obtain ⟨i', n, t, cmp, e1, e2, h1, h2⟩ := SL_one h (fun _ => rfl) (Or.inr (by rw [Nat.add_sub_cancel]; exact x)) (by omega)
  obtain rfl : i = i' := by omega
  obtain ⟨n', t', op', ju', top', opn', cmp', g1, g2, g3, g4⟩ := ps_40 h1 e2 (by omega)
  have k : n = n' ∧ t = t' + (gc ju' - 1).toNat ∧ ju = ju' + 1 ∧ askd opn' ∧ rk top' ≤ 3 ∧ 1 ≤ gc ju' ∧ gc ju' ≤ 6 := by
    rcases g4 with ⟨q, a⟩ | ⟨q, a⟩ | ⟨q, a⟩ | ⟨q, a⟩
    · omega
    · omega
    · omega
    · exact a
  obtain ⟨rfl, rfl, rfl, k4, k5, k6, k7⟩ := k
  subst g3
  rw [Nat.add_sub_cancel, Nat.add_sub_cancel]
  have g5 := ps_ext (gp2 := gp2) (gc2 := gc) _ _ _ _ _ _ _ _ g1 (fun j hj => (e j hj).symm) (fun _ _ => rfl)
  rcases h2 with ⟨a1, a2, a3⟩ | ⟨a1, a2⟩
  · exact absurd a2 (by simp)
  · refine ⟨by omega, by omega, k6, k7, _, (n, t' + 1), a1, ?_, fun gx2 hg => ⟨opn', n, t', 16, ⟨n, t', op', ju', top', opn', cmp', g5, g2, ?_⟩, by simp, ?_⟩⟩
    · unfold stH
      rw [if_neg (by omega), if_neg (by omega), if_neg (by omega), if_pos (by omega), if_pos ⟨by omega, by show gc ju' ≤ ((t' + (gc ju' - 1).toNat + 1 : Nat) : Int); omega⟩]
      congr 2
      show t' + (gc ju' - 1).toNat + 1 - (gc ju').toNat + 1 = t' + 1
      omega
    · iterate 8 right
      exact Or.inl ⟨z, k4, k5, by rw [z]⟩
    · rw [if_pos rfl, if_pos rfl]; exact hg
end PVU
