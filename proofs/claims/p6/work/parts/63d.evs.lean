/-! The pile's shape: its run of arithmetic (stp drops it), its run of asks (bs drops it). -/
def stp : List Int → List Int
  | [] => []
  | t :: p => if 2 ≤ t ∧ t ≤ 9 then stp p else t :: p
def nng : List Int → Prop
  | [] => True
  | t :: p => 2 ≤ t ∧ t ≤ 9 → 6 ≤ t ∧ nng p
def bs : List Int → List Int
  | [] => []
  | t :: p => if 20 ≤ t ∧ t ≤ 22 then bs p else t :: p
def askW : List Int → Prop
  | [] => False
  | t :: p => t = 41 ∨ t = 44 ∨ ((t = 20 ∨ t = 21 ∨ t = 22) ∧ askW p)
section EVS
variable {K V : Nat → Int} {S : List LI} {i o : Nat} {b : Bool} {cn cn2 : Nat → Int} {p q q2 : List Int} {c : Nat} {r : Int × Nat} {t u : Int}
theorem stp_y (z : 2 ≤ t ∧ t ≤ 9) : stp (t :: p) = stp p := by
  show (if 2 ≤ t ∧ t ≤ 9 then stp p else t :: p) = stp p
  rw [if_pos z]
theorem CA_stp : ∀ p : List Int, CA b cn (stp p) c = CA b cn p c := by
  intro p
  induction p with
  | nil => rfl
  | cons t p ih =>
    by_cases z : 2 ≤ t ∧ t ≤ 9
    · rw [CA_op z, ← ih, stp_y z]
    · unfold stp; rw [if_neg z]
theorem lvl_stp : ∀ p : List Int, nng p → lvl (stp p) = lvl p := by
  intro p
  induction p with
  | nil => intro _; rfl
  | cons t p ih =>
    intro h
    by_cases z : 2 ≤ t ∧ t ≤ 9
    · rw [lvl_n (show ¬ isOpn t from by have := (h z).1; unfold isOpn; omega), ← ih (h z).2, stp_y z]
    · unfold stp; rw [if_neg z]
theorem CA_hd (h : p = [] ∨ ∃ t q, p = t :: q ∧ 10 ≤ t ∧ t ≠ 16 ∧ (t ≤ 15 ∨ 20 ≤ t ∧ t ≤ 22 ∨ 40 ≤ t ∧ t ≤ 44)) : ∃ R, (CA b cn p c).1 = (kProT, lvl p, b) :: (kSumT, lvl p, b) :: R := by
  rcases h with rfl | ⟨t, q, rfl, h1, h2, h3⟩
  · exact ⟨[], rfl⟩
  · by_cases y : isOpn t
    · rw [lvl_o y]
      unfold CA
      rw [if_neg (by omega), if_neg (by omega), if_neg h2]
      by_cases a : t ≤ 22
      · rw [if_pos a, lvl_o y]; exact ⟨_, rfl⟩
      · rw [if_neg a]
        repeat' split
        all_goals exact ⟨_, rfl⟩
    · rw [lvl_n y]
      unfold CA
      rw [if_neg (by omega)]
      by_cases a : t ≤ 15
      · rw [if_pos a]; exact ⟨_, rfl⟩
      · have z : t ≤ 22 := by unfold isOpn at y; omega
        rw [if_neg a, if_neg h2, if_pos z, lvl_n y]; exact ⟨_, rfl⟩
/-- the run of arithmetic may begin again -/
def hdW (p : List Int) : Prop := stp p = [] ∨ ∃ t q, stp p = t :: q ∧ 10 ≤ t ∧ t ≠ 16 ∧ (t ≤ 15 ∨ 20 ≤ t ∧ t ≤ 22 ∨ 40 ≤ t ∧ t ≤ 44)
theorem ev_mul (h : LL K V ((CA b cn p c).1 ++ S) i r) (w : hdW p) (hk : K i = 42 ∨ K i = 47) (ht : t = 8 ∨ t = 9) (e : stp q = stp p) (n : nng q) : Bg K V b cn (t :: q) c S (i + 1) r := by
  obtain ⟨R, g⟩ := CA_hd (b := b) (cn := cn) (c := c) w
  rw [← CA_stp p, g] at h
  have a := pT_go h hk
  refine ⟨fun z => absurd z (by unfold askT; omega), fun _ => ?_⟩
  rw [CA_op (by omega), ← CA_stp q, e, g, lvl_n (show ¬ isOpn t from by unfold isOpn; omega), ← lvl_stp q n, e]
  exact a
theorem ev_add (h : LL K V ((CA b cn p c).1 ++ S) i r) (w : hdW p) (hk : K i = 43 ∨ K i = 45) (ht : t = 6 ∨ t = 7) (e : stp q = stp p) (n : nng q) : Bg K V b cn (t :: q) c S (i + 1) r := by
  obtain ⟨R, g⟩ := CA_hd (b := b) (cn := cn) (c := c) w
  rw [← CA_stp p, g] at h
  have a := sT_go (pT_no h (by omega)) hk
  refine ⟨fun z => absurd z (by unfold askT; omega), fun _ => ?_⟩
  rw [CA_op (by omega), ← CA_stp q, e, g, lvl_n (show ¬ isOpn t from by unfold isOpn; omega), ← lvl_stp q n, e]
  exact a
theorem cmp_n (hk : isCmp (K i)) : ¬ (K i = 42 ∨ K i = 47) ∧ ¬ (K i = 43 ∨ K i = 45) := by unfold isCmp at hk; omega
theorem ev_cmp (h : LL K V ((CA b cn p c).1 ++ S) i r) (w : askT (stp p)) (hk : isCmp (K i)) (ht : 10 ≤ t ∧ t ≤ 15) : Bg K V b cn (t :: stp p) c S (i + 1) r := by
  rw [← CA_stp p, CA_ask w] at h
  have a := cm_go (sT_no (pT_no (by simpa [lay] using h) (cmp_n hk).1) (cmp_n hk).2) hk
  refine ⟨fun z => absurd z (by unfold askT; omega), fun _ => ?_⟩
  rw [lvl_n (show ¬ isOpn t from by unfold isOpn; omega)]
  unfold CA
  rw [if_neg (by omega), if_pos (by omega)]
  exact a
theorem CA_bs : ∀ q : List Int, askW q → (CA b cn q c).2 = (CA b cn (bs q) c).2 ∧ ∃ t q2, bs q = t :: q2 ∧ (t = 41 ∨ t = 44) := by
  intro q
  induction q with
  | nil => intro h; exact h.elim
  | cons t q ih =>
    intro h
    by_cases z : 20 ≤ t ∧ t ≤ 22
    · have e : bs (t :: q) = bs q := by conv => lhs; unfold bs
                                        rw [if_pos z]
      have hq : askW q := by
        rcases h with h | h | ⟨_, h⟩
        · omega
        · omega
        · exact h
      rw [e, CA_2 (by omega)]
      exact ih hq
    · have e : bs (t :: q) = t :: q := by unfold bs; rw [if_neg z]
      rw [e]
      refine ⟨rfl, t, q, rfl, ?_⟩
      rcases h with h | h | ⟨h, _⟩
      · exact Or.inl h
      · exact Or.inr h
      · omega
/-- compared: behind it the asks go on -/
def cpd (p q : List Int) : Prop := ∃ t, stp p = t :: q ∧ 10 ≤ t ∧ t ≤ 16 ∧ askW q
theorem cp_A (h : LL K V ((CA b cn p c).1 ++ S) i r) (w : cpd p q) (h1 : (¬ (K i = 42 ∨ K i = 47) ∧ ¬ (K i = 43 ∨ K i = 45)) ∨ ∃ q, stp p = 16 :: q) : LL K V ((CA b cn (bs q) c).2 ++ S) i r := by
  obtain ⟨t, e, a1, a2, aw⟩ := w
  rw [← CA_stp p, e] at h
  rw [← (CA_bs q aw).1]
  by_cases z : t = 16
  · subst z
    have g : (CA b cn (16 :: q) c).1 = (CA b cn q c).2 := by
      conv => lhs; unfold CA
      rfl
    rw [g] at h; exact h
  · have h1 : ¬ (K i = 42 ∨ K i = 47) ∧ ¬ (K i = 43 ∨ K i = 45) := by
      rcases h1 with h1 | ⟨q2, e2⟩
      · exact h1
      · rw [e] at e2; exact absurd (List.cons.inj e2).1 z
    have g : (CA b cn (t :: q) c).1 = lay (lvl q) b [kProT, kSumT] ++ (CA b cn q c).2 := by
      conv => lhs; unfold CA
      rw [if_neg (by omega), if_pos (by omega)]
    rw [g] at h
    exact sT_no (pT_no (by simpa [lay] using h) h1.1) h1.2
end EVS
