/-! Clauses and deeds on the stack. -/
section CLS
variable {K V : Nat → Int} {S : List LI} {i o : Nat} {b : Bool} {r : Int × Nat} {a e : Int}
theorem num_no (h : LL K V ((kNum a, o, b) :: S) i r) (hk : K i ≠ 1000) : r = (1, i) := LL_bad h (f := 1) (a := 0) (its := []) (d := 0) (by unfold gx; simp only; rw [if_neg hk]) (by decide)
theorem num_bad (h : LL K V ((kNum a, o, b) :: S) i r) (hk : K i = 1000) (hv : ¬ (a / 1000 ≤ V i ∧ V i ≤ a % 1000)) : r = (2, i) := LL_bad h (f := 2) (a := 0) (its := []) (d := 0) (by unfold gx; simp only; rw [if_pos hk, if_neg hv]) (by decide)
theorem num_go (h : LL K V ((kNum a, o, b) :: S) i r) (hk : K i = 1000) (hv : a / 1000 ≤ V i ∧ V i ≤ a % 1000) : LL K V S (i + 1) r := LL_go h (a := 1) (its := []) (d := 0) (by unfold gx; simp only; rw [if_pos hk, if_pos hv])
theorem knee_no (h : LL K V ((kKnee, o, b) :: S) i r) (hk : ¬ (K i = 20 ∨ K i = 21)) : r = (1, i) := LL_bad h (f := 1) (a := 0) (its := []) (d := 0) (by unfold gx; simp only; rw [if_neg hk]) (by decide)
theorem knee_go (h : LL K V ((kKnee, o, b) :: S) i r) (hk : K i = 20 ∨ K i = 21) : LL K V S (i + 1) r := LL_go h (a := 1) (its := []) (d := 0) (by unfold gx; simp only; rw [if_pos hk])
/-- a law's sum stands at level 0 with an empty pile -/
theorem law_go (h : LL K V ((kLaw e, 0, false) :: S) i r) : LL K V ((kOne, 0, decide (e = 2)) :: ((CA (decide (e = 2)) (fun _ => 0) [] 0).1 ++ S)) i r := by
  by_cases z : e = 2
  · have q := LL_goR h (a := 0) (its := [kSum]) (d := 100) (by unfold gx; simp only; rw [if_pos z])
    rw [lay_c, List.cons_append] at q
    have q := LL_sum q
    rw [decide_eq_true z]
    exact q
  · have q := LL_go h (a := 0) (its := [kSum]) (d := 0) (by unfold gx; simp only; rw [if_neg z])
    rw [lay_c, List.cons_append] at q
    have q := LL_sum q
    rw [decide_eq_false z]
    exact q
theorem cls_end (h : LL K V [(kCls a, o, b)] i r) (hk : K i = 1002) : r = (0, i) := by
  have q := LL_go h (a := 0) (its := []) (d := 0) (by unfold gx; simp only; rw [if_pos hk])
  exact LL_nil q
theorem cls_no (h : LL K V ((kCls a, o, b) :: S) i r) (hk : K i ≠ 1002) (h2 : K i < 0 ∨ 9 < K i) : r = (1, i) := LL_bad h (f := 1) (a := 0) (its := []) (d := 0) (by unfold gx; simp only; rw [if_neg hk, if_pos h2]) (by decide)
theorem cls_two (h : LL K V ((kCls a, o, b) :: S) i r) (h1 : 0 ≤ K i ∧ K i ≤ 9) (ht : (onceM (a / 100) (K i) ≠ a / 100 ∧ (if K i = 0 then a / 100 % 2 = 1 else if K i = 1 then a / 100 / 2 % 2 = 1 else a / 100 / 4 % 2 = 1))) : r = (4, i) := LL_bad h (f := 4) (a := 0) (its := []) (d := 0) (by unfold gx; simp only; rw [if_neg (by omega), if_neg (by omega), if_pos ht]) (by decide)
theorem cls_full (h : LL K V ((kCls a, o, b) :: S) i r) (h1 : 0 ≤ K i ∧ K i ≤ 9) (ht : ¬ (onceM (a / 100) (K i) ≠ a / 100 ∧ (if K i = 0 then a / 100 % 2 = 1 else if K i = 1 then a / 100 / 2 % 2 = 1 else a / 100 / 4 % 2 = 1))) (hf : a % 100 = 24) : r = (6, i) := LL_bad h (f := 6) (a := 0) (its := []) (d := 0) (by unfold gx; simp only; rw [if_neg (by omega), if_neg (by omega), if_neg ht, if_pos hf]) (by decide)
theorem cls_go (h : LL K V ((kCls a, o, b) :: S) i r) (h1 : 0 ≤ K i ∧ K i ≤ 9) (ht : ¬ (onceM (a / 100) (K i) ≠ a / 100 ∧ (if K i = 0 then a / 100 % 2 = 1 else if K i = 1 then a / 100 / 2 % 2 = 1 else a / 100 / 4 % 2 = 1))) (hf : ¬ a % 100 = 24) : LL K V (lay o b (cbody (K i) ++ [kEx 59, kCls (onceM (a / 100) (K i) * 100 + a % 100 + 1)]) ++ S) (i + 1) r := LL_go h (a := 1) (its := cbody (K i) ++ [kEx 59, kCls (onceM (a / 100) (K i) * 100 + a % 100 + 1)]) (d := 0) (by unfold gx; simp only; rw [if_neg (by omega), if_neg (by omega), if_neg ht, if_neg hf])
end CLS
