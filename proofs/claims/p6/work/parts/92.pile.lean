/-! The reference's pile, as a row of ints: what stands on it says how many numbers and truths wait below, how many are opened, whether it is asked and compared. -/
abbrev PSt : Type := Nat × Nat × Nat × Nat × Int × Int × Bool
def rk (o : Int) : Nat := if 40 ≤ o then 0 else if o = 22 then 1 else if o = 21 then 2 else if o = 20 then 3 else if 10 ≤ o then 4 else if o = 5 ∨ o = 2 then 7 else if 8 ≤ o then 6 else 5
def askd (opn : Int) : Prop := opn = 41 ∨ opn = 44
def ix5 (o : Int) : Nat := if 40 ≤ o then 0 else if o = 22 then 1 else if o = 21 then 2 else if o = 20 then 2 else if 10 ≤ o then 3 else if o = 5 ∨ o = 2 then 5 else if 8 ≤ o then 5 else 4
/-- o is laid on a pile of which (n, t, op, ju, top, opn, cmp) is said: it may be, and then this is said -/
def psh (gc : Nat → Int) (n t op ju : Nat) (top opn : Int) (cmp : Bool) (o : Int) (s : PSt) : Prop := top ≠ 16 ∧ (
  ((o = 40 ∨ o = 41) ∧ s = (n, t, op + 1, ju, o, o, false)) ∨
  (o = 42 ∧ s = (n, t + 1, op + 1, ju, o, o, false)) ∨
  (o = 43 ∧ s = (n + 1, t + 1, op + 1, ju, o, o, false)) ∨
  (o = 44 ∧ askd opn ∧ rk top ≤ 3 ∧ 1 ≤ gc ju ∧ gc ju ≤ 6 ∧ s = (n, t + (gc ju - 1).toNat, op + 1, ju + 1, o, o, false)) ∨
  (o = 20 ∧ askd opn ∧ rk top ≤ 3 ∧ s = (n, t, op + 1, ju, o, opn, cmp)) ∨
  (o = 21 ∧ askd opn ∧ rk top ≤ 1 ∧ s = (n, t + 1, op, ju, o, opn, cmp)) ∨
  (o = 22 ∧ askd opn ∧ rk top = 0 ∧ s = (n, t + 1, op, ju, o, opn, cmp)) ∨
  ((10 ≤ o ∧ o ≤ 15) ∧ askd opn ∧ rk top ≤ 3 ∧ s = (n + 1, t, op, ju, o, opn, true)) ∨
  (o = 16 ∧ askd opn ∧ rk top ≤ 3 ∧ s = (n, t, op, ju, o, opn, true)) ∨
  ((o = 6 ∨ o = 7) ∧ rk top ≤ 4 ∧ s = (n + 1, t, op, ju, o, opn, cmp)) ∨
  ((o = 8 ∨ o = 9) ∧ rk top ≤ 5 ∧ s = (n + 1, t, op, ju, o, opn, cmp)) ∨
  ((o = 5 ∨ o = 2) ∧ s = (n, t, op + 1, ju, o, opn, cmp)))
def ps (gp gc : Nat → Int) : Nat → PSt → Prop
  | 0, s => s = (0, 0, 0, 0, 40, -1, false)
  | i + 1, s => ∃ n t op ju top opn cmp, ps gp gc i (n, t, op, ju, top, opn, cmp) ∧ psh gc n t op ju top opn cmp (gp i) s
section PSR
variable {gp gc gp2 gc2 : Nat → Int} {i n t op ju : Nat} {top opn o : Int} {cmp : Bool} {s : PSt}
theorem rk0 (h : 40 ≤ o) : rk o = 0 := by unfold rk; rw [if_pos h]
theorem ps_inv : ∀ (i n t op ju : Nat) (top opn : Int) (cmp : Bool), ps gp gc i (n, t, op, ju, top, opn, cmp) → i ≤ 6 * op + ix5 top ∧ ju ≤ op ∧ (cmp = true → 4 ≤ rk top) ∧ (rk top = 4 → cmp = true) ∧ (¬ askd opn → rk top = 0 ∨ 5 ≤ rk top) ∧ (0 < i → rk top = 0 → top = opn) ∧ (0 < i → top = gp (i - 1)) ∧ (top = 16 → cmp = true) ∧ (cmp = true → askd opn) ∧ (rk top = 0 → cmp = false) ∧ (i = 0 → op = 0 ∧ n = 0 ∧ t = 0 ∧ top = 40 ∧ opn = -1) ∧ (opn = -1 ∨ 40 ≤ opn ∧ opn ≤ 44) := by
  intro i
  induction i with
  | zero =>
    intro n t op ju top opn cmp h
    have h : (n, t, op, ju, top, opn, cmp) = (0, 0, 0, 0, 40, -1, false) := h
    simp only [Prod.mk.injEq] at h
    obtain ⟨rfl, rfl, rfl, rfl, rfl, rfl, rfl⟩ := h
    refine ⟨by decide, by decide, by decide, by decide, fun _ => Or.inl (by decide), fun h => absurd h (by decide), fun h => absurd h (by decide), by decide, fun h => absurd h (by decide), by decide, by decide, Or.inl rfl⟩
  | succ i ih =>
    intro n t op ju top opn cmp h
    obtain ⟨n', t', op', ju', top', opn', cmp', h1, h2, h3⟩ := h
    obtain ⟨a1, a2, a3, a4, a5, a6, a7, a8, a9, a10, a11, a12⟩ := ih _ _ _ _ _ _ _ h1
    have k5 : ix5 top' ≤ 5 := by unfold ix5; split <;> (try split) <;> (try split) <;> (try split) <;> (try split) <;> (try split) <;> (try split) <;> omega
    have kr : ∀ x : Int, ix5 x = (if rk x = 0 then 0 else if rk x = 1 then 1 else if rk x = 2 then 2 else if rk x = 3 then 2 else if rk x = 4 then 3 else if rk x = 5 then 4 else 5) := by
      intro x
      unfold ix5 rk
      by_cases c1 : 40 ≤ x
      · simp [c1]
      · by_cases c2 : x = 22
        · simp [c2]
        · by_cases c3 : x = 21
          · simp [c3]
          · by_cases c4 : x = 20
            · simp [c4]
            · by_cases c5 : 10 ≤ x
              · simp [c1, c2, c3, c4, c5]
              · by_cases c6 : x = 5 ∨ x = 2
                · simp [c1, c2, c3, c4, c5, c6]
                · by_cases c7 : 8 ≤ x
                  · simp [c1, c2, c3, c4, c5, c6, c7]
                  · simp [c1, c2, c3, c4, c5, c6, c7]
    have e1 := kr top'
    rcases h3 with ⟨q, e⟩ | ⟨q, e⟩ | ⟨q, e⟩ | ⟨q, u1, u2, u3, u4, e⟩ | ⟨q, u1, u2, e⟩ | ⟨q, u1, u2, e⟩ | ⟨q, u1, u2, e⟩ | ⟨q, u1, u2, e⟩ | ⟨q, u1, u2, e⟩ | ⟨q, u1, e⟩ | ⟨q, u1, e⟩ | ⟨q, e⟩
    all_goals simp only [Prod.mk.injEq] at e
    all_goals obtain ⟨rfl, rfl, rfl, rfl, rfl, rfl, rfl⟩ := e
    · have r : rk (gp i) = 0 := rk0 (by omega)
      have e2 : ix5 (gp i) = 0 := by rw [kr, r]; rfl
      exact ⟨by omega, by omega, by simp, by omega, fun _ => Or.inl r, fun _ _ => rfl, fun _ => rfl, by omega, by simp, fun _ => rfl, fun h => absurd h (by omega), Or.inr (by omega)⟩
    · have r : rk (gp i) = 0 := rk0 (by omega)
      have e2 : ix5 (gp i) = 0 := by rw [kr, r]; rfl
      exact ⟨by omega, by omega, by simp, by omega, fun _ => Or.inl r, fun _ _ => rfl, fun _ => rfl, by omega, by simp, fun _ => rfl, fun h => absurd h (by omega), Or.inr (by omega)⟩
    · have r : rk (gp i) = 0 := rk0 (by omega)
      have e2 : ix5 (gp i) = 0 := by rw [kr, r]; rfl
      exact ⟨by omega, by omega, by simp, by omega, fun _ => Or.inl r, fun _ _ => rfl, fun _ => rfl, by omega, by simp, fun _ => rfl, fun h => absurd h (by omega), Or.inr (by omega)⟩
    · have r : rk (gp i) = 0 := rk0 (by omega)
      have e2 : ix5 (gp i) = 0 := by rw [kr, r]; rfl
      exact ⟨by omega, by omega, by simp, by omega, fun _ => Or.inl r, fun _ _ => rfl, fun _ => rfl, by omega, by simp, fun _ => rfl, fun h => absurd h (by omega), Or.inr (by omega)⟩
    · have r : rk (gp i) = 3 := by rw [q]; decide
      have e2 : ix5 (gp i) = 2 := by rw [kr, r]; rfl
      exact ⟨by omega, by omega, fun h => by have := a3 h; omega, by omega, fun h => absurd u1 h, by omega, fun _ => rfl, by omega, fun _ => u1, by omega, fun h => absurd h (by omega), a12⟩
    · have r : rk (gp i) = 2 := by rw [q]; decide
      have e2 : ix5 (gp i) = 2 := by rw [kr, r]; rfl
      have e3 : ix5 top' ≤ 1 := by rw [e1]; split <;> (try split) <;> omega
      exact ⟨by omega, by omega, fun h => by have := a3 h; omega, by omega, fun h => absurd u1 h, by omega, fun _ => rfl, by omega, fun _ => u1, by omega, fun h => absurd h (by omega), a12⟩
    · have r : rk (gp i) = 1 := by rw [q]; decide
      have e2 : ix5 (gp i) = 1 := by rw [kr, r]; rfl
      have e3 : ix5 top' ≤ 0 := by rw [e1, u2]; decide
      exact ⟨by omega, by omega, fun h => by have := a3 h; omega, by omega, fun h => absurd u1 h, by omega, fun _ => rfl, by omega, fun _ => u1, by omega, fun h => absurd h (by omega), a12⟩
    · have r : rk (gp i) = 4 := by unfold rk; rw [if_neg (by omega), if_neg (by omega), if_neg (by omega), if_neg (by omega), if_pos (by omega)]
      have e2 : ix5 (gp i) = 3 := by rw [kr, r]; rfl
      have e3 : ix5 top' ≤ 2 := by rw [e1]; split <;> (try split) <;> (try split) <;> (try split) <;> omega
      exact ⟨by omega, by omega, fun h => by omega, fun _ => rfl, fun h => absurd u1 h, by omega, fun _ => rfl, fun _ => rfl, fun _ => u1, by omega, fun h => absurd h (by omega), a12⟩
    · have r : rk (gp i) = 4 := by rw [q]; decide
      have e2 : ix5 (gp i) = 3 := by rw [kr, r]; rfl
      have e3 : ix5 top' ≤ 2 := by rw [e1]; split <;> (try split) <;> (try split) <;> (try split) <;> omega
      exact ⟨by omega, by omega, fun h => by omega, fun _ => rfl, fun h => absurd u1 h, by omega, fun _ => rfl, fun _ => rfl, fun _ => u1, by omega, fun h => absurd h (by omega), a12⟩
    · have r : rk (gp i) = 5 := by rcases q with q | q <;> rw [q] <;> decide
      have e2 : ix5 (gp i) = 4 := by rw [kr, r]; rfl
      have e3 : ix5 top' ≤ 3 := by rw [e1]; split <;> (try split) <;> (try split) <;> (try split) <;> (try split) <;> omega
      exact ⟨by omega, by omega, fun h => by omega, by omega, fun h => Or.inr (by omega), by omega, fun _ => rfl, by omega, a9, by omega, fun h => absurd h (by omega), a12⟩
    · have r : rk (gp i) = 6 := by rcases q with q | q <;> rw [q] <;> decide
      have e2 : ix5 (gp i) = 5 := by rw [kr, r]; rfl
      have e3 : ix5 top' ≤ 4 := by rw [e1]; split <;> (try split) <;> (try split) <;> (try split) <;> (try split) <;> (try split) <;> omega
      exact ⟨by omega, by omega, fun h => by omega, by omega, fun h => Or.inr (by omega), by omega, fun _ => rfl, by omega, a9, by omega, fun h => absurd h (by omega), a12⟩
    · have r : rk (gp i) = 7 := by rcases q with q | q <;> rw [q] <;> decide
      have e2 : ix5 (gp i) = 5 := by rw [kr, r]; rfl
      exact ⟨by omega, by omega, fun h => by omega, by omega, fun h => Or.inr (by omega), by omega, fun _ => rfl, by omega, a9, by omega, fun h => absurd h (by omega), a12⟩
/-- only what lies below counts -/
theorem psh_gc {gc gc2 : Nat → Int} (e : gc ju = gc2 ju) (h : psh gc n t op ju top opn cmp o s) : psh gc2 n t op ju top opn cmp o s := by
  unfold psh at h ⊢; rw [← e]; exact h
theorem ps_ext : ∀ (i n t op ju : Nat) (top opn : Int) (cmp : Bool), ps gp gc i (n, t, op, ju, top, opn, cmp) → (∀ j, j < i → gp j = gp2 j) → (∀ j, j < ju → gc j = gc2 j) → ps gp2 gc2 i (n, t, op, ju, top, opn, cmp) := by
  intro i
  induction i with
  | zero => intro n t op ju top opn cmp h _ _; exact h
  | succ i ih =>
    intro n t op ju top opn cmp h e1 e2
    obtain ⟨n', t', op', ju', top', opn', cmp', h1, h2⟩ := h
    have hj : ju' ≤ ju ∧ (gp i = 44 → ju' < ju) := by
      have h3 := h2.2
      rcases h3 with ⟨q, e⟩ | ⟨q, e⟩ | ⟨q, e⟩ | ⟨q, u1, u2, u3, u4, e⟩ | ⟨q, u1, u2, e⟩ | ⟨q, u1, u2, e⟩ | ⟨q, u1, u2, e⟩ | ⟨q, u1, u2, e⟩ | ⟨q, u1, u2, e⟩ | ⟨q, u1, e⟩ | ⟨q, u1, e⟩ | ⟨q, e⟩
      all_goals simp only [Prod.mk.injEq] at e
      all_goals omega
    refine ⟨n', t', op', ju', top', opn', cmp', ih _ _ _ _ _ _ _ h1 (fun j hj => e1 j (by omega)) (fun j hj' => e2 j (by omega)), ?_⟩
    rw [← e1 i (by omega)]
    by_cases z : gp i = 44
    · exact psh_gc (e2 ju' (hj.2 z)) h2
    · unfold psh at h2 ⊢
      obtain ⟨g1, g2⟩ := h2
      refine ⟨g1, ?_⟩
      rcases g2 with g | g | g | g | g
      · exact Or.inl g
      · exact Or.inr (Or.inl g)
      · exact Or.inr (Or.inr (Or.inl g))
      · exact absurd g.1 z
      · exact Or.inr (Or.inr (Or.inr (Or.inr g)))
/-- while a pile is settled: cur: what stands whole is a number -/
def SL (gx : Nat → Int32) (b fr : Nat) (gp gc : Nat → Int) (least : Nat) (opn : Int) (cur0 cmp0 : Bool) (i op ju m : Nat) : Prop := ∃ (cur : Bool) (n t : Nat) (top : Int) (cmp : Bool), ps gp gc i (n, t, op, ju, top, opn, cmp) ∧ hts gx b fr m = some (n + (if cur then 1 else 0), t + (if cur then 0 else 1)) ∧ (cur = true → top ≠ 16) ∧ (cur = false → rk top ≤ 3 ∨ top = 16) ∧ (cur = true → cur0 = true ∧ cmp = cmp0) ∧ (cur = false → cur0 = false ∨ (cmp0 = true ∧ least ≤ 4)) ∧ (cur0 = true → 3 < least ∨ cmp0 = true ∨ ¬ askd opn)
theorem hts_ext {g g' : Nat → Int32} {b i0 : Nat} : ∀ m : Nat, (∀ k, k < m → g' (b + 2 * (i0 + k)) = g (b + 2 * (i0 + k)) ∧ g' (b + 2 * (i0 + k) + 1) = g (b + 2 * (i0 + k) + 1)) → hts g' b i0 m = hts g b i0 m := by
  intro m
  induction m with
  | zero => intro _; rfl
  | succ m ih =>
    intro h
    unfold hts
    rw [ih (fun k hk => h k (by omega)), (h m (by omega)).1, (h m (by omega)).2]
theorem hts_emit {g g' : Nat → Int32} {b i0 m : Nat} {q q2 : Nat × Nat} {o v : Int32} (h : hts g b i0 m = some q) (e : ∀ k, k < b + 2 * (i0 + m) → g' k = g k) (e1 : g' (b + 2 * (i0 + m)) = o) (e2 : g' (b + 2 * (i0 + m) + 1) = v) (st : stH o.toInt v.toInt q = some q2) : hts g' b i0 (m + 1) = some q2 := by
  have h0 : hts g' b i0 m = some q := by rw [hts_ext m (fun k hk => ⟨e _ (by omega), e _ (by omega)⟩)]; exact h
  unfold hts
  rw [h0]
  simp only [e1, e2]
  exact st
variable {gx : Nat → Int32} {b fr least m : Nat} {cur0 cmp0 : Bool}
theorem SL_16 (h : SL gx b fr gp gc least opn cur0 cmp0 (i + 1) op ju m) (z : gp i = 16) : SL gx b fr gp gc least opn cur0 cmp0 i op ju m := by
  obtain ⟨cur, n, t, top, cmp, h1, h2, h3, h4, h5, h6, h7⟩ := h
  have v := ps_inv _ _ _ _ _ _ _ _ h1
  have e := v.2.2.2.2.2.2.1 (by omega)
  have e : top = 16 := by rw [e, Nat.add_sub_cancel]; exact z
  obtain ⟨n', t', op', ju', top', opn', cmp', g1, g2, g3⟩ := h1
  have hc : cur = false := by cases cur with | true => exact absurd e (h3 rfl) | false => rfl
  subst hc
  rw [z] at g3
  have g : askd opn' ∧ rk top' ≤ 3 ∧ (n, t, op, ju, top, opn, cmp) = (n', t', op', ju', (16 : Int), opn', true) := by
    rcases g3 with ⟨q, _⟩ | ⟨q, _⟩ | ⟨q, _⟩ | ⟨q, _⟩ | ⟨q, _⟩ | ⟨q, _⟩ | ⟨q, _⟩ | ⟨q, _⟩ | ⟨q, u1, u2, u3⟩ | ⟨q, _⟩ | ⟨q, _⟩ | ⟨q, _⟩
    all_goals first | omega | exact ⟨u1, u2, u3⟩
  obtain ⟨k1, k2, k3⟩ := g
  simp only [Prod.mk.injEq] at k3
  obtain ⟨rfl, rfl, rfl, rfl, rfl, rfl, rfl⟩ := k3
  exact ⟨false, n, t, top', cmp', g1, h2, by simp, fun _ => Or.inl k2, by simp, h6, h7⟩
theorem st_cmp {n t : Nat} {v : Int} (q : 10 ≤ o ∧ o ≤ 15) : stH o v (n + 1 + 1, t) = some (n, t + 1) := by
  unfold stH
  rw [if_neg (by omega), if_neg (by omega), if_neg (by omega), if_neg (by omega), if_neg (by omega), if_neg (by omega), if_pos (by omega)]
  simp
theorem st_bin {n t : Nat} {v : Int} (q : 6 ≤ o ∧ o ≤ 9) : stH o v (n + 1 + 1, t) = some (n + 1, t) := by
  unfold stH
  rw [if_neg (by omega), if_neg (by omega), if_neg (by omega), if_neg (by omega), if_neg (by omega), if_pos (by omega)]
  simp
theorem st_un {n t : Nat} {v : Int} (q : o = 5 ∨ o = 2) : stH o v (n + 1, t) = some (n + 1, t) := by
  unfold stH
  rw [if_neg (by omega), if_neg (by omega), if_neg (by omega), if_neg (by omega), if_pos (by omega)]
  simp
theorem st_not {n t : Nat} {v : Int} : stH 20 v (n, t + 1) = some (n, t + 1) := by unfold stH; simp
theorem st_and {n t : Nat} {v : Int} (q : o = 21 ∨ o = 22) : stH o v (n, t + 1 + 1) = some (n, t + 1) := by
  rcases q with q | q <;> rw [q] <;> unfold stH <;> simp
theorem rk_cmp (q : 10 ≤ o ∧ o ≤ 15) : rk o = 4 := by unfold rk; rw [if_neg (by omega), if_neg (by omega), if_neg (by omega), if_neg (by omega), if_pos (by omega)]
/-- one that isn't WAS_ASKED taken off: what it does can be done, and the pile below stands so -/
theorem SL_pop (h : SL gx b fr gp gc least opn cur0 cmp0 (i + 1) op ju m) (z : gp i ≠ 16) (hl : least ≤ rk (gp i)) (h1l : 1 ≤ least) : ∃ q q2, hts gx b fr m = some q ∧ stH (gp i) 0 q = some q2 ∧ (rk (gp i) = 7 ∨ gp i = 20 → 1 ≤ op) ∧ ∀ gx' : Nat → Int32, hts gx' b fr (m + 1) = some q2 → SL gx' b fr gp gc least opn cur0 cmp0 i (if rk (gp i) = 7 ∨ gp i = 20 then op - 1 else op) ju (m + 1) := by
  obtain ⟨cur, n, t, top, cmp, h1, h2, h3, h4, h5, h6, h7⟩ := h
  have v := ps_inv _ _ _ _ _ _ _ _ h1
  have e := v.2.2.2.2.2.2.1 (by omega)
  rw [Nat.add_sub_cancel] at e
  have v3 := v.2.2.1; have v5 := v.2.2.2.2.1; have v9 := v.2.2.2.2.2.2.2.2.1
  obtain ⟨n', t', op', ju', top', opn', cmp', g1, g2, g3⟩ := h1
  have w := ps_inv _ _ _ _ _ _ _ _ g1
  have w3 := w.2.2.1; have w4 := w.2.2.2.1
  clear v w
  rcases g3 with ⟨q, _⟩ | ⟨q, _⟩ | ⟨q, _⟩ | ⟨q, _⟩ | ⟨q, u1, u2, k3⟩ | ⟨q, u1, u2, k3⟩ | ⟨q, u1, u2, k3⟩ | ⟨q, u1, u2, k3⟩ | ⟨q, _⟩ | ⟨q, u1, k3⟩ | ⟨q, u1, k3⟩ | ⟨q, k3⟩
  · have := rk0 (o := gp i) (by omega); omega
  · have := rk0 (o := gp i) (by omega); omega
  · have := rk0 (o := gp i) (by omega); omega
  · have := rk0 (o := gp i) (by omega); omega
  all_goals first | omega | skip
  all_goals simp only [Prod.mk.injEq] at k3
  all_goals obtain ⟨rfl, rfl, rfl, rfl, e9, rfl, rfl⟩ := k3
  · -- NOT
    have r : rk (gp i) = 3 := by rw [q]; decide
    have hc : cur = false := by
      cases cur with
      | false => rfl
      | true =>
        rcases h7 (h5 rfl).1 with a | a | a
        · omega
        · have := v3 ((h5 rfl).2.trans a); rw [e9, r] at this; omega
        · exact absurd u1 a
    subst hc
    refine ⟨_, (n + 0, t + 1), h2, ?_, fun _ => by omega, fun gx' hg => ?_⟩
    · rw [q]; exact st_not
    · rw [if_pos (Or.inr q)]
      exact ⟨false, n, t, top', cmp, by rw [Nat.add_sub_cancel]; exact g1, hg, by simp, fun _ => Or.inl u2, by simp, h6, h7⟩
  · -- AND
    have r : rk (gp i) = 2 := by rw [q]; decide
    have hc : cur = false := by
      cases cur with
      | false => rfl
      | true =>
        rcases h7 (h5 rfl).1 with a | a | a
        · omega
        · have := v3 ((h5 rfl).2.trans a); rw [e9, r] at this; omega
        · exact absurd u1 a
    subst hc
    refine ⟨_, (n + 0, t' + 1), h2, ?_, fun h => by omega, fun gx' hg => ?_⟩
    · exact st_and (by omega)
    · rw [if_neg (by omega)]
      exact ⟨false, n, t', top', cmp, g1, hg, by simp, fun _ => Or.inl (by omega), by simp, h6, h7⟩
  · -- OR
    have r : rk (gp i) = 1 := by rw [q]; decide
    have hc : cur = false := by
      cases cur with
      | false => rfl
      | true =>
        rcases h7 (h5 rfl).1 with a | a | a
        · omega
        · have := v3 ((h5 rfl).2.trans a); rw [e9, r] at this; omega
        · exact absurd u1 a
    subst hc
    refine ⟨_, (n + 0, t' + 1), h2, ?_, fun h => by omega, fun gx' hg => ?_⟩
    · exact st_and (by omega)
    · rw [if_neg (by omega)]
      exact ⟨false, n, t', top', cmp, g1, hg, by simp, fun _ => Or.inl (by omega), by simp, h6, h7⟩
  · -- a comparison
    have r : rk (gp i) = 4 := rk_cmp q
    have hc : cur = true := by
      cases cur with
      | true => rfl
      | false => rcases h4 rfl with a | a <;> rw [e9] at a <;> omega
    subst hc
    refine ⟨_, (n', t + 1), h2, ?_, fun h => by omega, fun gx' hg => ?_⟩
    · exact st_cmp q
    · rw [if_neg (by omega)]
      exact ⟨false, n', t, top', cmp', g1, hg, by simp, fun _ => Or.inl u2, by simp, fun _ => Or.inr ⟨(h5 rfl).2.symm, by omega⟩, h7⟩
  · -- PLUS, LESS
    have r : rk (gp i) = 5 := by rcases q with q | q <;> rw [q] <;> decide
    have hc : cur = true := by
      cases cur with
      | true => rfl
      | false => rcases h4 rfl with a | a <;> rw [e9] at a <;> omega
    subst hc
    refine ⟨_, (n' + 1, t + 0), h2, ?_, fun h => by omega, fun gx' hg => ?_⟩
    · exact st_bin (by omega)
    · rw [if_neg (by omega)]
      exact ⟨true, n', t, top', cmp, g1, hg, fun _ => g2, by simp, h5, by simp, h7⟩
  · -- TIMES, OVER
    have r : rk (gp i) = 6 := by rcases q with q | q <;> rw [q] <;> decide
    have hc : cur = true := by
      cases cur with
      | true => rfl
      | false => rcases h4 rfl with a | a <;> rw [e9] at a <;> omega
    subst hc
    refine ⟨_, (n' + 1, t + 0), h2, ?_, fun h => by omega, fun gx' hg => ?_⟩
    · exact st_bin (by omega)
    · rw [if_neg (by omega)]
      exact ⟨true, n', t, top', cmp, g1, hg, fun _ => g2, by simp, h5, by simp, h7⟩
  · -- MINUS, MARKS
    have r : rk (gp i) = 7 := by rcases q with q | q <;> rw [q] <;> decide
    have hc : cur = true := by
      cases cur with
      | true => rfl
      | false => rcases h4 rfl with a | a <;> rw [e9] at a <;> omega
    subst hc
    refine ⟨_, (n + 1, t + 0), h2, ?_, fun _ => by omega, fun gx' hg => ?_⟩
    · exact st_un q
    · rw [if_pos (Or.inl r)]
      exact ⟨true, n, t, top', cmp, by rw [Nat.add_sub_cancel]; exact g1, hg, fun _ => g2, by simp, h5, by simp, h7⟩
end PSR
