/-! What one operand's begin does to the stack. -/
section EVB
variable {K V : Nat → Int} {S : List LI} {i o : Nat} {b : Bool} {cn : Nat → Int} {p : List Int} {c : Nat} {r : Int × Nat} {t : Int}
theorem lay_c {x : IT} {its : List IT} : lay o b (x :: its) = (x, o, b) :: lay o b its := rfl
def askT : List Int → Prop
  | [] => False
  | t :: _ => t = 41 ∨ t = 44 ∨ t = 20 ∨ t = 21 ∨ t = 22
def Bg (K V : Nat → Int) (b : Bool) (cn : Nat → Int) (p : List Int) (c : Nat) (S : List LI) (i : Nat) (r : Int × Nat) : Prop :=
  (askT p → LL K V ((kAsk, lvl p, b) :: ((CA b cn p c).2 ++ S)) i r) ∧ (¬ askT p → LL K V ((kOne, lvl p, b) :: ((CA b cn p c).1 ++ S)) i r)
theorem CA_ask (h : askT p) : (CA b cn p c).1 = lay (lvl p) b [kProT, kSumT, kCmp] ++ (CA b cn p c).2 := by
  cases p with
  | nil => exact h.elim
  | cons t p =>
    rcases h with rfl | rfl | rfl | rfl | rfl
    · unfold CA; simp [lvl, lay]
    · unfold CA; simp [lvl, lay]
    · unfold CA; simp [lvl, lay]
    · unfold CA; simp [lvl, lay]
    · unfold CA; simp [lvl, lay]
theorem lvl_o (h : isOpn t) : lvl (t :: p) = lvl p + 1 := by
  show lvl p + (if isOpn t then 1 else 0) = lvl p + 1
  rw [if_pos h]
theorem lvl_n (h : ¬ isOpn t) : lvl (t :: p) = lvl p := by
  show lvl p + (if isOpn t then 1 else 0) = lvl p
  rw [if_neg h]; rfl
theorem LL_sum (h : LL K V ((kSum, o, b) :: S) i r) : LL K V ((kOne, o, b) :: (kProT, o, b) :: (kSumT, o, b) :: S) i r := by
  have a := LL_go h (a := 0) (its := [kPro, kSumT]) (d := 0) (by unfold gx; rfl)
  rw [lay_c, List.cons_append] at a
  exact LL_go a (a := 0) (its := [kOne, kProT]) (d := 0) (by unfold gx; rfl)
theorem LL_ei (h : LL K V ((kEi, o, b) :: S) i r) : LL K V ((kAsk, o, b) :: (kBoT, o, b) :: (kEiT, o, b) :: S) i r := by
  have a := LL_go h (a := 0) (its := [kBo, kEiT]) (d := 0) (by unfold gx; rfl)
  rw [lay_c, List.cons_append] at a
  exact LL_go a (a := 0) (its := [kAsk, kBoT]) (d := 0) (by unfold gx; rfl)
theorem Bg_one (h : Bg K V b cn p c S i r) (h1 : K i ≠ 29) (h2 : K i ≠ 30) : LL K V ((kOne, lvl p, b) :: ((CA b cn p c).1 ++ S)) i r := by
  by_cases z : askT p
  · have a := LL_go (h.1 z) (a := 0) (its := [kSum, kCmp]) (d := 0) (by unfold gx; simp [h1, h2])
    rw [lay_c, List.cons_append] at a
    have a := LL_sum a
    rw [CA_ask z]
    simpa [lay] using a
  · exact h.2 z
theorem one_big (h : LL K V ((kOne, o, b) :: S) i r) (hk : K i = 1000) (hv : ¬ V i ≤ 9999) : r = (2, i) := LL_bad h (f := 2) (a := 0) (its := []) (d := 0) (by unfold gx; simp [hk, hv]) (by decide)
theorem one_num (h : LL K V ((kOne, o, b) :: S) i r) (hk : K i = 1000) (hv : V i ≤ 9999) : LL K V S (i + 1) r := LL_go h (a := 1) (its := []) (d := 0) (by unfold gx; simp [hk, hv])
theorem one_risk (h : LL K V ((kOne, o, true) :: S) i r) (hk : 14 ≤ K i ∧ K i ≤ 18) : r = (5, i) := LL_bad h (f := 5) (a := 0) (its := []) (d := 0) (by unfold gx; simp only; rw [if_neg (by omega), if_pos (by omega), if_pos ⟨trivial, hk.1⟩]) (by decide)
theorem one_name (h : LL K V ((kOne, o, b) :: S) i r) (hk : 9 ≤ K i ∧ K i ≤ 18) (hb : ¬ (b = true ∧ 14 ≤ K i)) : LL K V S (i + 1) r := LL_go h (a := 1) (its := []) (d := 0) (by unfold gx; simp only; rw [if_neg (by omega), if_pos hk, if_neg hb])
theorem one_no (h : LL K V ((kOne, o, b) :: S) i r) (h1 : K i ≠ 1000) (h2 : ¬ (9 ≤ K i ∧ K i ≤ 18)) (h3 : ¬ (K i = 40 ∨ K i = 45 ∨ K i = 22 ∨ K i = 23)) : r = (1, i) := LL_bad h (f := 1) (a := 0) (its := []) (d := 0) (by unfold gx; simp only; rw [if_neg h1, if_neg h2, if_neg h3]) (by decide)
theorem one_full (h : LL K V ((kOne, o, b) :: S) i r) (h3 : K i = 40 ∨ K i = 45 ∨ K i = 22 ∨ K i = 23) (h8 : 8 ≤ o) : r = (3, i) := LL_bad h (f := 3) (a := 0) (its := []) (d := 0) (by unfold gx; simp only; rw [if_neg (by omega), if_neg (by omega), if_pos h3, if_pos h8]) (by decide)
theorem one_par (h : LL K V ((kOne, lvl p, b) :: ((CA b cn p c).1 ++ S)) i r) (hk : K i = 40) (h8 : ¬ 8 ≤ lvl p) : Bg K V b cn (40 :: p) c S (i + 1) r := by
  have a := LL_go h (a := 1) (its := [kSum, kEx 41]) (d := 1) (by unfold gx; simp [hk, h8])
  rw [lay_c, List.cons_append] at a
  have a := LL_sum a
  refine ⟨fun z => absurd z (show ¬ ((40 : Int) = 41 ∨ (40 : Int) = 44 ∨ (40 : Int) = 20 ∨ (40 : Int) = 21 ∨ (40 : Int) = 22) by decide), fun _ => ?_⟩
  unfold CA
  rw [lvl_o (by decide)]
  simpa [lay] using a
theorem one_neg (h : LL K V ((kOne, lvl p, b) :: ((CA b cn p c).1 ++ S)) i r) (hk : (K i = 45 ∧ t = 5) ∨ (K i = 22 ∧ t = 2)) (h8 : ¬ 8 ≤ lvl p) : Bg K V b cn (t :: p) c S (i + 1) r := by
  have a := LL_go h (a := 1) (its := [kOne]) (d := 1) (by unfold gx; rcases hk with ⟨z, _⟩ | ⟨z, _⟩ <;> simp [z, h8])
  have e : t = 5 ∨ t = 2 := by omega
  refine ⟨fun z => absurd z (by unfold askT; omega), fun _ => ?_⟩
  unfold CA
  rw [if_pos (by omega)]
  rw [lvl_o (show isOpn t from by unfold isOpn; omega)]
  simpa [lay] using a
theorem one_if (h : LL K V ((kOne, lvl p, b) :: ((CA b cn p c).1 ++ S)) i r) (hk : K i = 23) (h8 : ¬ 8 ≤ lvl p) : Bg K V b cn (41 :: p) c S (i + 1) r := by
  have a := LL_go h (a := 1) (its := [kEi, kEx 24, kSum, kEx 25, kSum, kEx 26]) (d := 1) (by unfold gx; simp [hk, h8])
  rw [lay_c, List.cons_append] at a
  have a := LL_ei a
  refine ⟨fun _ => ?_, fun z => absurd (Or.inl rfl) z⟩
  unfold CA
  rw [lvl_o (by decide)]
  simpa [lay] using a
theorem ask_full (h : LL K V ((kAsk, o, b) :: S) i r) (h3 : K i = 29 ∨ K i = 30) (h8 : 8 ≤ o) : r = (3, i) := LL_bad h (f := 3) (a := 0) (its := []) (d := 0) (by unfold gx; rcases h3 with z | z <;> simp [z, h8]) (by decide)
theorem ask_not (h : LL K V ((kAsk, lvl p, b) :: ((CA b cn p c).2 ++ S)) i r) (hk : K i = 29) (h8 : ¬ 8 ≤ lvl p) : Bg K V b cn (20 :: p) c S (i + 1) r := by
  have a := LL_go h (a := 1) (its := [kAsk]) (d := 1) (by unfold gx; simp [hk, h8])
  refine ⟨fun _ => ?_, fun z => absurd (Or.inr (Or.inr (Or.inl rfl))) z⟩
  unfold CA
  rw [lvl_o (by decide)]
  simpa [lay] using a
theorem ask_just (h : LL K V ((kAsk, lvl p, b) :: ((CA b cn p c).2 ++ S)) i r) (hk : K i = 30) (h8 : ¬ 8 ≤ lvl p) : (K (i + 1) ≠ 40 ∧ r = (1, i + 1)) ∨ (K (i + 1) = 40 ∧ (cn c = 1 → Bg K V b cn (44 :: p) (c + 1) S (i + 2) r)) := by
  have a := LL_go h (a := 1) (its := [kEx 40, kEi, kJT 1]) (d := 1) (by unfold gx; simp [hk, h8])
  rw [lay_c, List.cons_append] at a
  rcases LL_ex a with ⟨q, a⟩ | ⟨q, e⟩
  · refine Or.inr ⟨q, fun hc => ?_⟩
    rw [lay_c, List.cons_append] at a
    have a := LL_ei a
    refine ⟨fun _ => ?_, fun z => absurd (Or.inr (Or.inl rfl)) z⟩
    unfold CA
    rw [lvl_o (by decide)]
    simpa [lay, hc] using a
  · exact Or.inl ⟨q, e⟩
end EVB
