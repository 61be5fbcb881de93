/-! The end of a sum, and what stands in the parser's room. -/
section PVF
variable {gp gc gp2 gc2 : Nat → Int} {gx gx2 : Nat → Int32} {b fr m i n t op ju least : Nat} {top opn o : Int} {cmp cur0 cmp0 wh : Bool}
/-- nothing opened, settled from one on: one number stands -/
theorem PV_fin (h : SL gx b fr gp gc 1 (-1) cur0 cmp0 i op ju m) (hc : cur0 = false → cmp0 = true) (hq : cmp0 = true → askd (-1)) (x : i = 0 ∨ rk (gp (i - 1)) < 1) : i = 0 ∧ hts gx b fr m = some (1, 0) := by
  obtain ⟨n, t, top, cmp, h1, h2, h3⟩ := SL_end h hc (by omega) x
  have v := ps_inv _ _ _ _ _ _ _ _ h1
  have r : rk top = 0 := by omega
  have hi : i = 0 := by
    rcases Nat.eq_zero_or_pos i with z | z
    · exact z
    · have := v.2.2.2.2.2.1 z r
      have := rk_z r
      omega
  obtain ⟨_, rfl, rfl, _⟩ := v.2.2.2.2.2.2.2.2.2.2.1 hi
  refine ⟨hi, ?_⟩
  rcases h3 with ⟨a1, a2, a3, a4, a5⟩ | ⟨a1, a2, a3, a4⟩ | ⟨a1, a2⟩
  · exact a5
  · have := hq a3; unfold askd at this; omega
  · omega
theorem hts_pre : ∀ (m k : Nat) (q : Nat × Nat), hts gx b fr (m + k) = some q → ∃ q2, hts gx b fr m = some q2 := by
  intro m k
  induction k with
  | zero => intro q h; exact ⟨q, h⟩
  | succ k ih =>
    intro q h
    rw [← Nat.add_assoc] at h
    unfold hts at h
    cases z : hts gx b fr (m + k) with
    | none => rw [z] at h; simp at h
    | some q2 => exact ih q2 z
/-- the pile and the counts in their room -/
theorem PV_room (h : PV gx b fr gp gc wh i op ju m opn cmp) : i ≤ 6 * op + 5 ∧ ju ≤ op ∧ (cmp = true → askd opn) ∧ (opn = -1 ∨ 40 ≤ opn ∧ opn ≤ 44) ∧ ((opk gp i = -1 ∧ opn = -1) ∨ (0 ≤ opk gp i ∧ opk gp i < i ∧ gp (opk gp i).toNat = opn ∧ 40 ≤ opn ∧ opn ≤ 44)) ∧ cmk gp i = cmp ∧ (wh = false → i = 0 ∨ gp (i - 1) ≠ 16) ∧ (i = 0 → op = 0 ∧ opn = -1) ∧ ∃ q, hts gx b fr m = some q := by
  obtain ⟨n, t, top, h1, h2, h3⟩ := h
  have v := ps_inv _ _ _ _ _ _ _ _ h1
  have k : ix5 top ≤ 5 := by unfold ix5; split <;> (try split) <;> (try split) <;> (try split) <;> (try split) <;> (try split) <;> (try split) <;> omega
  refine ⟨by omega, v.2.1, v.2.2.2.2.2.2.2.2.1, v.2.2.2.2.2.2.2.2.2.2.2, ps_opk _ _ _ _ _ _ _ _ h1, ps_cmk _ _ _ _ _ _ _ _ h1, fun hw => ?_, fun z => ⟨(v.2.2.2.2.2.2.2.2.2.2.1 z).1, (v.2.2.2.2.2.2.2.2.2.2.1 z).2.2.2.2⟩, _, h3⟩
  rcases Nat.eq_zero_or_pos i with z | z
  · exact Or.inl z
  · rw [← v.2.2.2.2.2.2.1 z]; exact Or.inr (h2 hw)
/-- only what stands counts -/
theorem PV_ext (h : PV gx b fr gp gc wh i op ju m opn cmp) (e : ∀ j, j < i → gp2 j = gp j) (ec : ∀ j, j < ju → gc2 j = gc j) (ex : ∀ k, k < b + 2 * (fr + m) → gx2 k = gx k) : PV gx2 b fr gp2 gc2 wh i op ju m opn cmp := by
  obtain ⟨n, t, top, h1, h2, h3⟩ := h
  exact ⟨n, t, top, ps_ext _ _ _ _ _ _ _ _ h1 (fun j hj => (e j hj).symm) (fun j hj => (ec j hj).symm), h2, by rw [hts_ext m (fun k hk => ⟨ex _ (by omega), ex _ (by omega)⟩)]; exact h3⟩
theorem PV_start : PV gx b fr gp gc false 0 0 0 0 (-1) false := ⟨0, 0, 40, rfl, fun _ => by decide, rfl⟩
end PVF
