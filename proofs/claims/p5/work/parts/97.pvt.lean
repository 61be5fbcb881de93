/-! One step of the parser each: what it keeps. -/
section PVT
variable {gp gc gp2 gc2 : Nat → Int} {gx gx2 : Nat → Int32} {b fr m i n t op ju least : Nat} {top opn o : Int} {cmp cur0 cmp0 : Bool}
theorem rk_z (h : rk o = 0) : 40 ≤ o := by
  unfold rk at h
  by_cases c1 : 40 ≤ o
  · exact c1
  · rw [if_neg c1] at h
    by_cases c2 : o = 22
    · rw [if_pos c2] at h; omega
    · rw [if_neg c2] at h
      by_cases c3 : o = 21
      · rw [if_pos c3] at h; omega
      · rw [if_neg c3] at h
        by_cases c4 : o = 20
        · rw [if_pos c4] at h; omega
        · rw [if_neg c4] at h
          by_cases c5 : 10 ≤ o
          · rw [if_pos c5] at h; omega
          · rw [if_neg c5] at h
            by_cases c6 : o = 5 ∨ o = 2
            · rw [if_pos c6] at h; omega
            · rw [if_neg c6] at h
              by_cases c7 : 8 ≤ o
              · rw [if_pos c7] at h; omega
              · rw [if_neg c7] at h; omega
/-- a number or a name is written -/
theorem PV_num (h : PV gx b fr gp gc false i op ju m opn cmp) (g : ∀ q, hts gx b fr m = some q → hts gx2 b fr (m + 1) = some (q.1 + 1, q.2)) : PV gx2 b fr gp gc true i op ju (m + 1) opn cmp := by
  obtain ⟨n, t, top, h1, h2, h3⟩ := h
  rw [if_neg (by decide)] at h3
  refine ⟨n, t, top, h1, by simp, ?_⟩
  rw [if_pos rfl, if_neg (h2 rfl)]
  exact g _ h3
/-- settled from five on: a number still -/
theorem PV_end5 (h : SL gx b fr gp gc least opn true cmp0 i op ju m) (l5 : 5 ≤ least) (x : i = 0 ∨ rk (gp (i - 1)) < least) : PV gx b fr gp gc true i op ju m opn cmp0 ∧ (i = 0 ∨ gp (i - 1) ≠ 16) := by
  obtain ⟨n, t, top, cmp, h1, h2, h3⟩ := SL_end h (by simp) (by omega) x
  have v := ps_inv _ _ _ _ _ _ _ _ h1
  rcases h3 with ⟨a1, a2, a3, a4, a5⟩ | ⟨a1, a2, a3, a4⟩ | ⟨a1, a2⟩
  · subst a3
    refine ⟨⟨n, t, top, h1, by simp, ?_⟩, ?_⟩
    · rw [if_pos rfl, if_neg a1]; exact a5
    · rcases Nat.eq_zero_or_pos i with z | z
      · exact Or.inl z
      · rw [← v.2.2.2.2.2.2.1 z]; exact Or.inr a1
  · rcases a4 with a | a
    · exact absurd a (by simp)
    · omega
  · omega
/-- one is opened -/
theorem PV_open (h : PV gx b fr gp gc false i op ju m opn cmp) (e : ∀ j, j < i → gp2 j = gp j) (z : gp2 i = 40 ∨ gp2 i = 41 ∨ gp2 i = 5 ∨ gp2 i = 2) : ∃ opn2 cmp2, PV gx b fr gp2 gc false (i + 1) (op + 1) ju m opn2 cmp2 := by
  obtain ⟨n, t, top, h1, h2, h3⟩ := h
  have h4 := ps_ext (gp2 := gp2) (gc2 := gc) _ _ _ _ _ _ _ _ h1 (fun j hj => (e j hj).symm) (fun _ _ => rfl)
  have h2 := h2 rfl
  rcases z with z | z | z | z
  · exact ⟨gp2 i, false, n, t, gp2 i, ⟨n, t, op, ju, top, opn, cmp, h4, h2, Or.inl ⟨Or.inl z, rfl⟩⟩, fun _ => by rw [z]; decide, h3⟩
  · exact ⟨gp2 i, false, n, t, gp2 i, ⟨n, t, op, ju, top, opn, cmp, h4, h2, Or.inl ⟨Or.inr z, rfl⟩⟩, fun _ => by rw [z]; decide, h3⟩
  · refine ⟨opn, cmp, n, t, gp2 i, ⟨n, t, op, ju, top, opn, cmp, h4, h2, ?_⟩, fun _ => by rw [z]; decide, h3⟩
    iterate 11 right
    exact ⟨Or.inl z, rfl⟩
  · refine ⟨opn, cmp, n, t, gp2 i, ⟨n, t, op, ju, top, opn, cmp, h4, h2, ?_⟩, fun _ => by rw [z]; decide, h3⟩
    iterate 11 right
    exact ⟨Or.inr z, rfl⟩
/-- not -/
theorem PV_not (h : PV gx b fr gp gc false i op ju m opn cmp) (a : askd opn) (r : rk (gp (i - 1)) ≤ 3) (hi : 0 < i) (e : ∀ j, j < i → gp2 j = gp j) (z : gp2 i = 20) : PV gx b fr gp2 gc false (i + 1) (op + 1) ju m opn cmp := by
  obtain ⟨n, t, top, h1, h2, h3⟩ := h
  have h4 := ps_ext (gp2 := gp2) (gc2 := gc) _ _ _ _ _ _ _ _ h1 (fun j hj => (e j hj).symm) (fun _ _ => rfl)
  have v := (ps_inv _ _ _ _ _ _ _ _ h1).2.2.2.2.2.2.1 hi
  refine ⟨n, t, gp2 i, ⟨n, t, op, ju, top, opn, cmp, h4, h2 rfl, ?_⟩, fun _ => by rw [z]; decide, h3⟩
  iterate 4 right
  exact Or.inl ⟨z, a, by rw [v]; exact r, rfl⟩
/-- just -/
theorem PV_just0 (h : PV gx b fr gp gc false i op ju m opn cmp) (a : askd opn) (r : rk (gp (i - 1)) ≤ 3) (hi : 0 < i) (e : ∀ j, j < i → gp2 j = gp j) (z : gp2 i = 44) (ec : ∀ j, j < ju → gc2 j = gc j) (zc : gc2 ju = 1) : PV gx b fr gp2 gc2 false (i + 1) (op + 1) (ju + 1) m 44 false := by
  obtain ⟨n, t, top, h1, h2, h3⟩ := h
  have h4 := ps_ext (gp2 := gp2) (gc2 := gc2) _ _ _ _ _ _ _ _ h1 (fun j hj => (e j hj).symm) (fun j hj => (ec j hj).symm)
  have v := (ps_inv _ _ _ _ _ _ _ _ h1).2.2.2.2.2.2.1 hi
  refine ⟨n, t, 44, ⟨n, t, op, ju, top, opn, cmp, h4, h2 rfl, ?_⟩, fun _ => by decide, h3⟩
  iterate 3 right
  refine Or.inl ⟨z, a, by rw [v]; exact r, by omega, by omega, ?_⟩
  rw [zc, z]; rfl
/-- + - * / -/
theorem PV_bin (h : SL gx b fr gp gc least opn true cmp0 i op ju m) (l5 : 5 ≤ least) (x : i = 0 ∨ rk (gp (i - 1)) < least) (e : ∀ j, j < i → gp2 j = gp j) (z : (gp2 i = 6 ∨ gp2 i = 7) ∧ least = 5 ∨ (gp2 i = 8 ∨ gp2 i = 9) ∧ least = 6) : PV gx b fr gp2 gc false (i + 1) op ju m opn cmp0 := by
  obtain ⟨n, t, top, cmp, h1, h2, h3⟩ := SL_end h (by simp) (by omega) x
  have h4 := ps_ext (gp2 := gp2) (gc2 := gc) _ _ _ _ _ _ _ _ h1 (fun j hj => (e j hj).symm) (fun _ _ => rfl)
  rcases h3 with ⟨a1, a2, a3, a4, a5⟩ | ⟨a1, a2, a3, a4⟩ | ⟨a1, a2⟩
  · subst a3
    rcases z with ⟨z, zl⟩ | ⟨z, zl⟩
    · refine ⟨n + 1, t, gp2 i, ⟨n, t, op, ju, top, opn, cmp, h4, a1, ?_⟩, fun _ => by omega, a5⟩
      iterate 9 right
      exact Or.inl ⟨z, by omega, rfl⟩
    · refine ⟨n + 1, t, gp2 i, ⟨n, t, op, ju, top, opn, cmp, h4, a1, ?_⟩, fun _ => by omega, a5⟩
      iterate 10 right
      exact Or.inl ⟨z, by omega, rfl⟩
  · rcases a4 with a | a
    · exact absurd a (by simp)
    · omega
  · omega
/-- a comparison is begun -/
theorem PV_cmpo (h : SL gx b fr gp gc 5 opn true false i op ju m) (x : i = 0 ∨ rk (gp (i - 1)) < 5) (a : askd opn) (e : ∀ j, j < i → gp2 j = gp j) (z : 10 ≤ gp2 i ∧ gp2 i ≤ 15) : PV gx b fr gp2 gc false (i + 1) op ju m opn true := by
  obtain ⟨n, t, top, cmp, h1, h2, h3⟩ := SL_end h (by simp) (by omega) x
  have h4 := ps_ext (gp2 := gp2) (gc2 := gc) _ _ _ _ _ _ _ _ h1 (fun j hj => (e j hj).symm) (fun _ _ => rfl)
  have v := (ps_inv _ _ _ _ _ _ _ _ h1).2.2.2.1
  rcases h3 with ⟨a1, a2, a3, a4, a5⟩ | ⟨a1, a2, a3, a4⟩ | ⟨a1, a2⟩
  · have r : rk top ≤ 3 := by
      by_cases y : rk top = 4
      · have := v y; rw [a3] at this; exact absurd this (by simp)
      · omega
    refine ⟨n + 1, t, gp2 i, ⟨n, t, op, ju, top, opn, cmp, h4, a1, ?_⟩, fun _ => by omega, a5⟩
    iterate 7 right
    exact Or.inl ⟨z, a, r, rfl⟩
  · exact absurd a3 (by simp)
  · omega
/-- and, or -/
theorem PV_andor (h : SL gx b fr gp gc least opn cur0 true i op ju m) (x : i = 0 ∨ rk (gp (i - 1)) < least) (a : askd opn) (e : ∀ j, j < i → gp2 j = gp j) (z : gp2 i = 21 ∧ least = 2 ∨ gp2 i = 22 ∧ least = 1) : ∃ cmp, PV gx b fr gp2 gc false (i + 1) op ju m opn cmp := by
  obtain ⟨n, t, top, cmp, h1, h2, h3⟩ := SL_end h (by simp) (by omega) x
  have h4 := ps_ext (gp2 := gp2) (gc2 := gc) _ _ _ _ _ _ _ _ h1 (fun j hj => (e j hj).symm) (fun _ _ => rfl)
  have v := (ps_inv _ _ _ _ _ _ _ _ h1).2.2.1
  have y : top ≠ 16 := fun y => by rw [y] at h2; have : rk 16 = 4 := by decide
                                   omega
  rcases h3 with ⟨a1, a2, a3, a4, a5⟩ | ⟨a1, a2, a3, a4⟩ | ⟨a1, a2⟩
  · have := v a3; omega
  · rcases z with ⟨z, zl⟩ | ⟨z, zl⟩
    · refine ⟨cmp, n, t + 1, gp2 i, ⟨n, t, op, ju, top, opn, cmp, h4, y, ?_⟩, fun _ => by omega, a1⟩
      iterate 5 right
      exact Or.inl ⟨z, a, by omega, rfl⟩
    · refine ⟨cmp, n, t + 1, gp2 i, ⟨n, t, op, ju, top, opn, cmp, h4, y, ?_⟩, fun _ => by omega, a1⟩
      iterate 6 right
      exact Or.inl ⟨z, a, by omega, rfl⟩
  · omega
/-- settled from one on: the opener stands on top -/
theorem SL_one (h : SL gx b fr gp gc 1 opn cur0 cmp0 i op ju m) (hc : cur0 = false → cmp0 = true) (x : i = 0 ∨ rk (gp (i - 1)) < 1) (ho : 40 ≤ opn) : ∃ (i' n t : Nat) (cmp : Bool), i = i' + 1 ∧ gp i' = opn ∧ ps gp gc (i' + 1) (n, t, op, ju, opn, opn, false) ∧ ((cur0 = true ∧ cmp0 = false ∧ hts gx b fr m = some (n + 1, t)) ∨ (hts gx b fr m = some (n, t + 1) ∧ cmp0 = true)) := by
  obtain ⟨n, t, top, cmp, h1, h2, h3⟩ := SL_end h hc (by omega) x
  have v := ps_inv _ _ _ _ _ _ _ _ h1
  have r : rk top = 0 := by omega
  have hi : 0 < i := by
    rcases Nat.eq_zero_or_pos i with z | z
    · have := (v.2.2.2.2.2.2.2.2.2.2.1 z).2.2.2.2; omega
    · exact z
  have e1 := v.2.2.2.2.2.1 hi r
  have e2 := v.2.2.2.2.2.2.1 hi
  have e3 := v.2.2.2.2.2.2.2.2.2.1 r
  subst e3
  obtain ⟨i', rfl⟩ : ∃ i', i = i' + 1 := ⟨i - 1, by omega⟩
  rw [Nat.add_sub_cancel] at e2
  refine ⟨i', n, t, false, rfl, by rw [← e2]; exact e1, by rw [← e1] at h1 ⊢; exact h1, ?_⟩
  rcases h3 with ⟨a1, a2, a3, a4, a5⟩ | ⟨a1, a2, a3, a4⟩ | ⟨a1, a2⟩
  · exact Or.inl ⟨a2, a3.symm, a5⟩
  · exact Or.inr ⟨a1, a3⟩
  · omega
/-- what opened it -/
theorem ps_40 (h : ps gp gc (i + 1) (n, t, op, ju, opn, opn, false)) (z : gp i = opn) (ho : opn = 40 ∨ opn = 41 ∨ opn = 42 ∨ opn = 43 ∨ opn = 44) : ∃ (n' t' op' ju' : Nat) (top' opn' : Int) (cmp' : Bool), ps gp gc i (n', t', op', ju', top', opn', cmp') ∧ top' ≠ 16 ∧ op = op' + 1 ∧ ((opn = 40 ∨ opn = 41) ∧ n = n' ∧ t = t' ∧ ju = ju' ∨ opn = 42 ∧ n = n' ∧ t = t' + 1 ∧ ju = ju' ∨ opn = 43 ∧ n = n' + 1 ∧ t = t' + 1 ∧ ju = ju' ∨ opn = 44 ∧ n = n' ∧ t = t' + (gc ju' - 1).toNat ∧ ju = ju' + 1 ∧ askd opn' ∧ rk top' ≤ 3 ∧ 1 ≤ gc ju' ∧ gc ju' ≤ 6) := by
  obtain ⟨n', t', op', ju', top', opn', cmp', h1, h2, h3⟩ := h
  rw [z] at h3
  rcases h3 with ⟨q, e⟩ | ⟨q, e⟩ | ⟨q, e⟩ | ⟨q, u1, u2, u3, u4, e⟩ | ⟨q, u1, u2, e⟩ | ⟨q, u1, u2, e⟩ | ⟨q, u1, u2, e⟩ | ⟨q, u1, u2, e⟩ | ⟨q, u1, u2, e⟩ | ⟨q, u1, e⟩ | ⟨q, u1, e⟩ | ⟨q, e⟩
  all_goals try omega
  all_goals simp only [Prod.mk.injEq] at e
  · exact ⟨n', t', op', ju', top', opn', cmp', h1, h2, e.2.2.1, Or.inl ⟨q, e.1, e.2.1, e.2.2.2.1⟩⟩
  · exact ⟨n', t', op', ju', top', opn', cmp', h1, h2, e.2.2.1, Or.inr (Or.inl ⟨q, e.1, e.2.1, e.2.2.2.1⟩)⟩
  · exact ⟨n', t', op', ju', top', opn', cmp', h1, h2, e.2.2.1, Or.inr (Or.inr (Or.inl ⟨q, e.1, e.2.1, e.2.2.2.1⟩))⟩
  · exact ⟨n', t', op', ju', top', opn', cmp', h1, h2, e.2.2.1, Or.inr (Or.inr (Or.inr ⟨q, e.1, e.2.1, e.2.2.2.1, u1, u2, u3, u4⟩))⟩
end PVT
