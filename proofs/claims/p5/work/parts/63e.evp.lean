/-! Behind a whole operand: and, or, the parts of an if, of a just, a closed (. -/
/-- the justs in a pile -/
def jn : List Int → Nat
  | [] => 0
  | t :: p => jn p + (if 23 ≤ t ∧ ¬ (40 ≤ t ∧ t ≤ 43) then 1 else 0)
section EVP
variable {K V : Nat → Int} {S : List LI} {i o : Nat} {b : Bool} {cn cn2 : Nat → Int} {p q q2 p2 : List Int} {c : Nat} {r : Int × Nat} {t u : Int}
theorem jn_y (h : 23 ≤ t ∧ ¬ (40 ≤ t ∧ t ≤ 43)) : jn (t :: p) = jn p + 1 := by
  show jn p + (if 23 ≤ t ∧ ¬ (40 ≤ t ∧ t ≤ 43) then 1 else 0) = jn p + 1
  rw [if_pos h]
theorem jn_n (h : ¬ (23 ≤ t ∧ ¬ (40 ≤ t ∧ t ≤ 43))) : jn (t :: p) = jn p := by
  show jn p + (if 23 ≤ t ∧ ¬ (40 ≤ t ∧ t ≤ 43) then 1 else 0) = jn p
  rw [if_neg h]; rfl
theorem CA_41 : CA b cn (41 :: q) c = (lay (lvl q + 1) b [kProT, kSumT, kCmp, kBoT, kEiT, kEx 24, kSum, kEx 25, kSum, kEx 26] ++ (CA b cn q c).1, lay (lvl q + 1) b [kBoT, kEiT, kEx 24, kSum, kEx 25, kSum, kEx 26] ++ (CA b cn q c).1) := by
  conv => lhs; unfold CA
  rfl
theorem CA_44 : CA b cn (44 :: q) c = (lay (lvl q + 1) b [kProT, kSumT, kCmp, kBoT, kEiT, kJT (cn (c - 1))] ++ (CA b cn q (c - 1)).2, lay (lvl q + 1) b [kBoT, kEiT, kJT (cn (c - 1))] ++ (CA b cn q (c - 1)).2) := by
  conv => lhs; unfold CA
  rfl
theorem CA_40 : (CA b cn (40 :: q) c).1 = lay (lvl q + 1) b [kProT, kSumT, kEx 41] ++ (CA b cn q c).1 := by
  conv => lhs; unfold CA
  rfl
theorem CA_42 : (CA b cn (42 :: q) c).1 = lay (lvl q + 1) b [kProT, kSumT, kEx 25, kSum, kEx 26] ++ (CA b cn q c).1 := by
  conv => lhs; unfold CA
  rfl
theorem CA_43 : (CA b cn (43 :: q) c).1 = lay (lvl q + 1) b [kProT, kSumT, kEx 26] ++ (CA b cn q c).1 := by
  conv => lhs; unfold CA
  rfl
theorem CA_16 : (CA b cn (16 :: q) c).1 = (CA b cn q c).2 := by
  conv => lhs; unfold CA
  rfl
/-- arithmetic can't go on: no sign of it, or the ask behind it is a just's -/
abbrev noAr (K : Nat → Int) (i : Nat) (p : List Int) : Prop := (¬ (K i = 42 ∨ K i = 47) ∧ ¬ (K i = 43 ∨ K i = 45)) ∨ ∃ q, stp p = 16 :: q
theorem bs_hd (w : cpd p q) : ∃ t q2, bs q = t :: q2 ∧ (t = 41 ∨ t = 44) ∧ ∃ R, (CA b cn (bs q) c).2 = (kBoT, lvl (bs q), b) :: (kEiT, lvl (bs q), b) :: R := by
  obtain ⟨t, e, a1, a2, aw⟩ := w
  obtain ⟨_, u, q2, e2, h⟩ := CA_bs (b := b) (cn := cn) (c := c) q aw
  refine ⟨u, q2, e2, h, ?_⟩
  rcases h with rfl | rfl
  · rw [e2, CA_41, lvl_o (by decide)]; exact ⟨_, rfl⟩
  · rw [e2, CA_44, lvl_o (by decide)]; exact ⟨_, rfl⟩
theorem ev_and (h : LL K V ((CA b cn p c).1 ++ S) i r) (w : cpd p q) (hk : K i = 28) (e1 : lvl p2 = lvl (bs q)) (e2 : (CA b cn p2 c).2 = (CA b cn (bs q) c).2) : Bg K V b cn (21 :: p2) c S (i + 1) r := by
  have a := cp_A h w (Or.inl ⟨by omega, by omega⟩)
  obtain ⟨_, _, _, _, R, g⟩ := bs_hd (b := b) (cn := cn) (c := c) w
  rw [g] at a
  have a := bT_go a hk
  refine ⟨fun _ => ?_, fun z => absurd (Or.inr (Or.inr (Or.inr (Or.inl rfl)))) z⟩
  rw [CA_2 (by decide), lvl_n (by decide), e1, e2, g]
  exact a
theorem ev_or (h : LL K V ((CA b cn p c).1 ++ S) i r) (w : cpd p q) (hk : K i = 27) (e1 : lvl p2 = lvl (bs q)) (e2 : (CA b cn p2 c).2 = (CA b cn (bs q) c).2) : Bg K V b cn (22 :: p2) c S (i + 1) r := by
  have a := cp_A h w (Or.inl ⟨by omega, by omega⟩)
  obtain ⟨_, _, _, _, R, g⟩ := bs_hd (b := b) (cn := cn) (c := c) w
  rw [g] at a
  have a := eT_go (bT_no a (by omega)) hk
  refine ⟨fun _ => ?_, fun z => absurd (Or.inr (Or.inr (Or.inr (Or.inr rfl)))) z⟩
  rw [CA_2 (by decide), lvl_n (by decide), e1, e2, g]
  exact a
theorem ev_par (h : LL K V ((CA b cn p c).1 ++ S) i r) (w : stp p = 40 :: q) (hk : K i = 41) : LL K V ((CA b cn q c).1 ++ S) (i + 1) r := by
  rw [← CA_stp p, w, CA_40] at h
  have a := sT_no (pT_no (by simpa [lay] using h) (by omega)) (by omega)
  rcases LL_ex a with ⟨_, a⟩ | ⟨z, _⟩
  · exact a
  · exact absurd hk z
theorem ev_then (h : LL K V ((CA b cn p c).1 ++ S) i r) (w : cpd p q) (e : bs q = 41 :: q2) (hk : K i = 24) : Bg K V b cn (42 :: q2) c S (i + 1) r := by
  have a := cp_A h w (Or.inl ⟨by omega, by omega⟩)
  rw [e, CA_41] at a
  have a := eT_no (bT_no (by simpa [lay] using a) (by omega)) (by omega)
  rcases LL_ex a with ⟨_, a⟩ | ⟨z, _⟩
  · have a := LL_sum a
    refine ⟨fun z => absurd z (show ¬ ((42 : Int) = 41 ∨ (42 : Int) = 44 ∨ (42 : Int) = 20 ∨ (42 : Int) = 21 ∨ (42 : Int) = 22) by decide), fun _ => ?_⟩
    rw [CA_42, lvl_o (by decide)]
    exact a
  · exact absurd hk z
theorem ev_else (h : LL K V ((CA b cn p c).1 ++ S) i r) (w : stp p = 42 :: q) (hk : K i = 25) : Bg K V b cn (43 :: q) c S (i + 1) r := by
  rw [← CA_stp p, w, CA_42] at h
  have a := sT_no (pT_no (by simpa [lay] using h) (by omega)) (by omega)
  rcases LL_ex a with ⟨_, a⟩ | ⟨z, _⟩
  · have a := LL_sum a
    refine ⟨fun z => absurd z (show ¬ ((43 : Int) = 41 ∨ (43 : Int) = 44 ∨ (43 : Int) = 20 ∨ (43 : Int) = 21 ∨ (43 : Int) = 22) by decide), fun _ => ?_⟩
    rw [CA_43, lvl_o (by decide)]
    exact a
  · exact absurd hk z
theorem ev_end (h : LL K V ((CA b cn p c).1 ++ S) i r) (w : stp p = 43 :: q) (hk : K i = 26) : LL K V ((CA b cn q c).1 ++ S) (i + 1) r := by
  rw [← CA_stp p, w, CA_43] at h
  have a := sT_no (pT_no (by simpa [lay] using h) (by omega)) (by omega)
  rcases LL_ex a with ⟨_, a⟩ | ⟨z, _⟩
  · exact a
  · exact absurd hk z
theorem ev_just (h : LL K V ((CA b cn p c).1 ++ S) i r) (w : cpd p q) (e : bs q = 44 :: q2) (hk : K i = 41) : LL K V ((CA b cn (16 :: q2) (c - 1)).1 ++ S) (i + 1) r := by
  have a := cp_A h w (Or.inl ⟨by omega, by omega⟩)
  rw [e, CA_44] at a
  have a := eT_no (bT_no (by simpa [lay] using a) (by omega)) (by omega)
  rcases jT_no a (by omega) with ⟨_, a⟩ | ⟨z, _⟩
  · rw [CA_16]; exact a
  · exact absurd hk z
theorem ev_six (h : LL K V ((CA b cn p c).1 ++ S) i r) (w : cpd p q) (e : bs q = 44 :: q2) (hk : K i = 44) (h6 : cn (c - 1) = 6) : r = (7, i) := by
  have a := cp_A h w (Or.inl ⟨by omega, by omega⟩)
  rw [e, CA_44, h6] at a
  exact jT_6 (eT_no (bT_no (by simpa [lay] using a) (by omega)) (by omega)) hk
theorem CA_cn : ∀ (p : List Int) (c : Nat), (∀ k, k < c → cn2 k = cn k) → jn p ≤ c → CA b cn2 p c = CA b cn p c := by
  intro p
  induction p with
  | nil => intro _ _ _; rfl
  | cons t p ih =>
    intro c h hj
    by_cases y : 23 ≤ t ∧ ¬ (40 ≤ t ∧ t ≤ 43)
    · rw [jn_y y] at hj
      have e := ih (c - 1) (fun k hk => h k (by omega)) (by omega)
      have e2 := h (c - 1) (by omega)
      unfold CA
      rw [e, e2]
      repeat' split
      all_goals first | rfl | (exfalso; omega)
    · rw [jn_n y] at hj
      have e := ih c h hj
      unfold CA
      rw [e]
      repeat' split
      all_goals first | rfl | (exfalso; omega)
theorem ev_comma (h : LL K V ((CA b cn p c).1 ++ S) i r) (w : cpd p q) (e : bs q = 44 :: q2) (hk : K i = 44) (h6 : cn (c - 1) ≠ 6) (g1 : cn2 (c - 1) = cn (c - 1) + 1) (g2 : ∀ k, k < c - 1 → cn2 k = cn k) (hj : jn q2 ≤ c - 1) : Bg K V b cn2 (44 :: q2) c S (i + 1) r := by
  have a := cp_A h w (Or.inl ⟨by omega, by omega⟩)
  rw [e, CA_44] at a
  have a := jT_go (eT_no (bT_no (by simpa [lay] using a) (by omega)) (by omega)) hk h6
  refine ⟨fun _ => ?_, fun z => absurd (Or.inr (Or.inl rfl)) z⟩
  rw [CA_44, lvl_o (by decide), g1, CA_cn q2 (c - 1) g2 hj]
  exact a
theorem ev_done (h : LL K V ((CA b cn p c).1 ++ S) i r) (w : stp p = []) (h1 : ¬ (K i = 42 ∨ K i = 47)) (h2 : ¬ (K i = 43 ∨ K i = 45)) : LL K V S i r := by
  rw [← CA_stp p, w] at h
  exact sT_no (pT_no h h1) h2
theorem ex_no {k : Int} (h : LL K V ((kEx k, o, b) :: S) i r) (hk : K i ≠ k) : r = (1, i) := by
  rcases LL_ex h with ⟨z, _⟩ | ⟨_, z⟩
  · exact absurd z hk
  · exact z
theorem no_par (h : LL K V ((CA b cn p c).1 ++ S) i r) (w : stp p = 40 :: q) (hk : K i ≠ 41) (h1 : ¬ (K i = 42 ∨ K i = 47)) (h2 : ¬ (K i = 43 ∨ K i = 45)) : r = (1, i) := by
  rw [← CA_stp p, w, CA_40] at h
  exact ex_no (sT_no (pT_no (by simpa [lay] using h) h1) h2) hk
theorem no_then (h : LL K V ((CA b cn p c).1 ++ S) i r) (w : stp p = 42 :: q) (hk : K i ≠ 25) (h1 : ¬ (K i = 42 ∨ K i = 47)) (h2 : ¬ (K i = 43 ∨ K i = 45)) : r = (1, i) := by
  rw [← CA_stp p, w, CA_42] at h
  exact ex_no (sT_no (pT_no (by simpa [lay] using h) h1) h2) hk
theorem no_else (h : LL K V ((CA b cn p c).1 ++ S) i r) (w : stp p = 43 :: q) (hk : K i ≠ 26) (h1 : ¬ (K i = 42 ∨ K i = 47)) (h2 : ¬ (K i = 43 ∨ K i = 45)) : r = (1, i) := by
  rw [← CA_stp p, w, CA_43] at h
  exact ex_no (sT_no (pT_no (by simpa [lay] using h) h1) h2) hk
theorem no_cmp (h : LL K V ((CA b cn p c).1 ++ S) i r) (w : askT (stp p)) (hk : ¬ isCmp (K i)) (h1 : ¬ (K i = 42 ∨ K i = 47)) (h2 : ¬ (K i = 43 ∨ K i = 45)) : r = (1, i) := by
  rw [← CA_stp p, CA_ask w] at h
  exact cm_no (sT_no (pT_no (by simpa [lay] using h) h1) h2) hk
theorem no_if (h : LL K V ((CA b cn p c).1 ++ S) i r) (w : cpd p q) (e : bs q = 41 :: q2) (n : noAr K i p) (h1 : K i ≠ 28) (h2 : K i ≠ 27) (h3 : K i ≠ 24) : r = (1, i) := by
  have a := cp_A h w n
  rw [e, CA_41] at a
  exact ex_no (eT_no (bT_no (by simpa [lay] using a) h1) h2) h3
theorem no_just (h : LL K V ((CA b cn p c).1 ++ S) i r) (w : cpd p q) (e : bs q = 44 :: q2) (n : noAr K i p) (h1 : K i ≠ 28) (h2 : K i ≠ 27) (h3 : K i ≠ 44) (h4 : K i ≠ 41) : r = (1, i) := by
  have a := cp_A h w n
  rw [e, CA_44] at a
  rcases jT_no (eT_no (bT_no (by simpa [lay] using a) h1) h2) h3 with ⟨z, _⟩ | ⟨_, z⟩
  · exact absurd z h4
  · exact z
end EVP
