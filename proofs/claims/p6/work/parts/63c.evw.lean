/-! What stands behind a whole operand. -/
section EVW
variable {K V : Nat → Int} {S : List LI} {i o : Nat} {b : Bool} {cn : Nat → Int} {p : List Int} {c : Nat} {r : Int × Nat} {t : Int}
theorem CA_op (h : 2 ≤ t ∧ t ≤ 9) : CA b cn (t :: p) c = CA b cn p c := by
  conv => lhs; unfold CA
  rw [if_pos h]
theorem CA_2 (h : 2 ≤ t ∧ t ≤ 22) : (CA b cn (t :: p) c).2 = (CA b cn p c).2 := by
  conv => lhs; unfold CA
  repeat' split
  all_goals first | rfl | omega
theorem pT_no (h : LL K V ((kProT, o, b) :: S) i r) (h1 : ¬ (K i = 42 ∨ K i = 47)) : LL K V S i r := LL_go h (a := 0) (its := []) (d := 0) (by unfold gx; simp only; rw [if_neg h1])
theorem sT_no (h : LL K V ((kSumT, o, b) :: S) i r) (h1 : ¬ (K i = 43 ∨ K i = 45)) : LL K V S i r := LL_go h (a := 0) (its := []) (d := 0) (by unfold gx; simp only; rw [if_neg h1])
theorem bT_no (h : LL K V ((kBoT, o, b) :: S) i r) (h1 : ¬ K i = 28) : LL K V S i r := LL_go h (a := 0) (its := []) (d := 0) (by unfold gx; simp only; rw [if_neg h1])
theorem eT_no (h : LL K V ((kEiT, o, b) :: S) i r) (h1 : ¬ K i = 27) : LL K V S i r := LL_go h (a := 0) (its := []) (d := 0) (by unfold gx; simp only; rw [if_neg h1])
theorem pT_go (h : LL K V ((kProT, o, b) :: S) i r) (h1 : K i = 42 ∨ K i = 47) : LL K V ((kOne, o, b) :: (kProT, o, b) :: S) (i + 1) r := LL_go h (a := 1) (its := [kOne, kProT]) (d := 0) (by unfold gx; simp only; rw [if_pos h1])
theorem sT_go (h : LL K V ((kSumT, o, b) :: S) i r) (h1 : K i = 43 ∨ K i = 45) : LL K V ((kOne, o, b) :: (kProT, o, b) :: (kSumT, o, b) :: S) (i + 1) r := by
  have a := LL_go h (a := 1) (its := [kPro, kSumT]) (d := 0) (by unfold gx; simp only; rw [if_pos h1])
  rw [lay_c, List.cons_append] at a
  exact LL_go a (a := 0) (its := [kOne, kProT]) (d := 0) (by unfold gx; rfl)
theorem cm_go (h : LL K V ((kCmp, o, b) :: S) i r) (h1 : isCmp (K i)) : LL K V ((kOne, o, b) :: (kProT, o, b) :: (kSumT, o, b) :: S) (i + 1) r := by
  have a := LL_go h (a := 1) (its := [kSum]) (d := 0) (by unfold gx; simp only; rw [if_pos h1])
  rw [lay_c, List.cons_append] at a
  exact LL_sum a
theorem cm_no (h : LL K V ((kCmp, o, b) :: S) i r) (h1 : ¬ isCmp (K i)) : r = (1, i) := LL_bad h (f := 1) (a := 0) (its := []) (d := 0) (by unfold gx; simp only; rw [if_neg h1]) (by decide)
theorem bT_go (h : LL K V ((kBoT, o, b) :: S) i r) (h1 : K i = 28) : LL K V ((kAsk, o, b) :: (kBoT, o, b) :: S) (i + 1) r := LL_go h (a := 1) (its := [kAsk, kBoT]) (d := 0) (by unfold gx; simp only; rw [if_pos h1])
theorem eT_go (h : LL K V ((kEiT, o, b) :: S) i r) (h1 : K i = 27) : LL K V ((kAsk, o, b) :: (kBoT, o, b) :: (kEiT, o, b) :: S) (i + 1) r := by
  have a := LL_go h (a := 1) (its := [kBo, kEiT]) (d := 0) (by unfold gx; simp only; rw [if_pos h1])
  rw [lay_c, List.cons_append] at a
  exact LL_go a (a := 0) (its := [kAsk, kBoT]) (d := 0) (by unfold gx; rfl)
theorem jT_6 (h : LL K V ((kJT 6, o, b) :: S) i r) (h1 : K i = 44) : r = (7, i) := LL_bad h (f := 7) (a := 0) (its := []) (d := 0) (by unfold gx; simp [h1]) (by decide)
theorem jT_go {n : Int} (h : LL K V ((kJT n, o, b) :: S) i r) (h1 : K i = 44) (h6 : n ≠ 6) : LL K V ((kAsk, o, b) :: (kBoT, o, b) :: (kEiT, o, b) :: (kJT (n + 1), o, b) :: S) (i + 1) r := by
  have a := LL_go h (a := 1) (its := [kEi, kJT (n + 1)]) (d := 0) (by unfold gx; simp [h1, h6])
  rw [lay_c, List.cons_append] at a
  exact LL_ei a
theorem jT_no {n : Int} (h : LL K V ((kJT n, o, b) :: S) i r) (h1 : ¬ K i = 44) : (K i = 41 ∧ LL K V S (i + 1) r) ∨ (K i ≠ 41 ∧ r = (1, i)) := by
  have a := LL_go h (a := 0) (its := [kEx 41]) (d := 0) (by unfold gx; simp [h1])
  exact LL_ex a
end EVW
