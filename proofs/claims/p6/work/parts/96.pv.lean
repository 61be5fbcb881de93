/-! The parser between two words: what the pile, the counts and what is written say of each other. -/
section PVR
variable {gp gc gp2 gc2 : Nat → Int} {gx gx2 : Nat → Int32} {b fr m i n t op ju least : Nat} {top opn o : Int} {cmp cur0 cmp0 : Bool}
def opk (gp : Nat → Int) : Nat → Int
  | 0 => -1
  | i + 1 => if gp i < 40 then opk gp i else (i : Int)
def cmk (gp : Nat → Int) : Nat → Bool
  | 0 => false
  | i + 1 => if 4 < rk (gp i) then cmk gp i else decide (rk (gp i) = 4)
theorem ps_opk : ∀ (i n t op ju : Nat) (top opn : Int) (cmp : Bool), ps gp gc i (n, t, op, ju, top, opn, cmp) → (opk gp i = -1 ∧ opn = -1) ∨ (0 ≤ opk gp i ∧ opk gp i < i ∧ gp (opk gp i).toNat = opn ∧ 40 ≤ opn ∧ opn ≤ 44) := by
  intro i
  induction i with
  | zero =>
    intro n t op ju top opn cmp h
    have h : (n, t, op, ju, top, opn, cmp) = (0, 0, 0, 0, 40, -1, false) := h
    simp only [Prod.mk.injEq] at h
    exact Or.inl ⟨rfl, h.2.2.2.2.2.1⟩
  | succ i ih =>
    intro n t op ju top opn cmp h
    obtain ⟨n', t', op', ju', top', opn', cmp', h1, h2, h3⟩ := h
    have a := ih _ _ _ _ _ _ _ h1
    have k0 : 40 ≤ gp i → gp i ≤ 44 → opn = gp i → (opk gp (i + 1) = -1 ∧ opn = -1) ∨ (0 ≤ opk gp (i + 1) ∧ opk gp (i + 1) < (i + 1 : Nat) ∧ gp (opk gp (i + 1)).toNat = opn ∧ 40 ≤ opn ∧ opn ≤ 44) := by
      intro q q2 e
      have z : opk gp (i + 1) = (i : Int) := by unfold opk; rw [if_neg (by omega)]
      rw [z]
      exact Or.inr ⟨by omega, by omega, by rw [Int.toNat_natCast]; exact e.symm, by omega, by omega⟩
    have k1 : gp i < 40 → opn = opn' → (opk gp (i + 1) = -1 ∧ opn = -1) ∨ (0 ≤ opk gp (i + 1) ∧ opk gp (i + 1) < (i + 1 : Nat) ∧ gp (opk gp (i + 1)).toNat = opn ∧ 40 ≤ opn ∧ opn ≤ 44) := by
      intro q e
      have z : opk gp (i + 1) = opk gp i := by conv => lhs; unfold opk
                                               rw [if_pos q]
      rw [z, e]
      rcases a with a | ⟨a1, a2, a3⟩
      · exact Or.inl a
      · exact Or.inr ⟨a1, by omega, a3⟩
    rcases h3 with ⟨q, e⟩ | ⟨q, e⟩ | ⟨q, e⟩ | ⟨q, u1, u2, u3, u4, e⟩ | ⟨q, u1, u2, e⟩ | ⟨q, u1, u2, e⟩ | ⟨q, u1, u2, e⟩ | ⟨q, u1, u2, e⟩ | ⟨q, u1, u2, e⟩ | ⟨q, u1, e⟩ | ⟨q, u1, e⟩ | ⟨q, e⟩
    all_goals simp only [Prod.mk.injEq] at e
    all_goals first | exact k0 (by omega) (by omega) e.2.2.2.2.2.1 | exact k1 (by omega) e.2.2.2.2.2.1
theorem ps_cmk : ∀ (i n t op ju : Nat) (top opn : Int) (cmp : Bool), ps gp gc i (n, t, op, ju, top, opn, cmp) → cmk gp i = cmp := by
  intro i
  induction i with
  | zero =>
    intro n t op ju top opn cmp h
    have h : (n, t, op, ju, top, opn, cmp) = (0, 0, 0, 0, 40, -1, false) := h
    simp only [Prod.mk.injEq] at h
    exact h.2.2.2.2.2.2.symm
  | succ i ih =>
    intro n t op ju top opn cmp h
    have v := ps_inv _ _ _ _ _ _ _ _ h
    have e := v.2.2.2.2.2.2.1 (by omega)
    rw [Nat.add_sub_cancel] at e
    have v3 := v.2.2.1; have v4 := v.2.2.2.1
    clear v
    obtain ⟨n', t', op', ju', top', opn', cmp', h1, h2, h3⟩ := h
    have a := ih _ _ _ _ _ _ _ h1
    rw [e] at v3 v4
    unfold cmk
    by_cases z : 4 < rk (gp i)
    · rw [if_pos z, a]
      rcases h3 with ⟨q, e⟩ | ⟨q, e⟩ | ⟨q, e⟩ | ⟨q, u1, u2, u3, u4, e⟩ | ⟨q, u1, u2, e⟩ | ⟨q, u1, u2, e⟩ | ⟨q, u1, u2, e⟩ | ⟨q, u1, u2, e⟩ | ⟨q, u1, u2, e⟩ | ⟨q, u1, e⟩ | ⟨q, u1, e⟩ | ⟨q, e⟩
      all_goals simp only [Prod.mk.injEq] at e
      all_goals first
        | exact e.2.2.2.2.2.2.symm
        | (have := rk0 (o := gp i) (by omega); omega)
        | (have := rk_cmp (o := gp i) (by omega); omega)
        | (rw [q] at z; exact absurd z (by decide))
    · rw [if_neg z]
      by_cases y : rk (gp i) = 4
      · rw [v4 y]; simp [y]
      · have : ¬ cmp = true := fun h => by have := v3 h; omega
        simp [y, this]
def PV (gx : Nat → Int32) (b fr : Nat) (gp gc : Nat → Int) (wh : Bool) (i op ju m : Nat) (opn : Int) (cmp : Bool) : Prop := ∃ (n t : Nat) (top : Int), ps gp gc i (n, t, op, ju, top, opn, cmp) ∧ (wh = false → top ≠ 16) ∧ hts gx b fr m = some (if wh = true then (if top = 16 then (n, t + 1) else (n + 1, t)) else (n, t))
/-- a whole one is to be settled -/
theorem PV_SL (h : PV gx b fr gp gc true i op ju m opn cmp) (w : 3 < least ∨ cmp = true ∨ ¬ askd opn) : ∃ cur0 : Bool, SL gx b fr gp gc least opn cur0 cmp i op ju m ∧ (cur0 = false → cmp = true) ∧ (0 < i → gp (i - 1) ≠ 16 → cur0 = true) ∧ (i = 0 → cur0 = true) := by
  obtain ⟨n, t, top, h1, _, h3⟩ := h
  have v := ps_inv _ _ _ _ _ _ _ _ h1
  rw [if_pos rfl] at h3
  by_cases z : top = 16
  · rw [if_pos z] at h3
    refine ⟨false, ⟨false, n, t, top, cmp, h1, h3, by simp, fun _ => Or.inr z, by simp, fun _ => Or.inl rfl, by simp⟩, fun _ => v.2.2.2.2.2.2.2.1 z, fun h h2 => ?_, fun h => ?_⟩
    · exact absurd ((v.2.2.2.2.2.2.1 h).symm.trans z) h2
    · have := (v.2.2.2.2.2.2.2.2.2.2.1 h).2.2.2.1; omega
  · rw [if_neg z] at h3
    exact ⟨true, ⟨true, n, t, top, cmp, h1, h3, fun _ => z, by simp, fun _ => ⟨rfl, rfl⟩, by simp, fun _ => w⟩, by simp, fun _ _ => rfl, fun _ => rfl⟩
/-- settled: what stands on top is below the least -/
theorem SL_end (h : SL gx b fr gp gc least opn cur0 cmp0 i op ju m) (hc : cur0 = false → cmp0 = true) (l1 : 1 ≤ least) (x : i = 0 ∨ rk (gp (i - 1)) < least) : ∃ (n t : Nat) (top : Int) (cmp : Bool), ps gp gc i (n, t, op, ju, top, opn, cmp) ∧ rk top < least ∧ ((top ≠ 16 ∧ cur0 = true ∧ cmp = cmp0 ∧ (5 ≤ least ∨ ¬ askd opn) ∧ hts gx b fr m = some (n + 1, t)) ∨ (hts gx b fr m = some (n, t + 1) ∧ (rk top ≤ 3 ∨ top = 16) ∧ cmp0 = true ∧ (cur0 = false ∨ least ≤ 4)) ∨ (cur0 = true ∧ least = 4)) := by
  obtain ⟨cur, n, t, top, cmp, h1, h2, h3, h4, h5, h6, h7⟩ := h
  have v := ps_inv _ _ _ _ _ _ _ _ h1
  have r : rk top < least := by
    rcases Nat.eq_zero_or_pos i with z | z
    · rw [(v.2.2.2.2.2.2.2.2.2.2.1 z).2.2.2.1]; exact l1
    · rw [v.2.2.2.2.2.2.1 z]; omega
  refine ⟨n, t, top, cmp, h1, r, ?_⟩
  cases cur with
  | true =>
    obtain ⟨c1, c2⟩ := h5 rfl
    by_cases z4 : least = 4
    · exact Or.inr (Or.inr ⟨c1, z4⟩)
    · refine Or.inl ⟨h3 rfl, c1, c2, ?_, h2⟩
      rcases h7 c1 with a | a | a
      · exact Or.inl (by omega)
      · have := v.2.2.1 (c2.trans a); exact Or.inl (by omega)
      · exact Or.inr a
  | false =>
    refine Or.inr (Or.inl ⟨h2, h4 rfl, ?_, ?_⟩)
    · rcases h6 rfl with a | a
      · exact hc a
      · exact a.1
    · rcases h6 rfl with a | a
      · exact Or.inl a
      · exact Or.inr a.2
end PVR
