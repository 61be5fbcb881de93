/-! The TEXT's grammar as a stack that looks one token ahead: an item is (what, with), its level and whether it stands in a risk law. -/
abbrev IT := Nat × Int
abbrev LI := IT × Nat × Bool
abbrev kEx (k : Int) : IT := (0, k)
abbrev kSum : IT := (1, 0)
abbrev kSumT : IT := (2, 0)
abbrev kPro : IT := (3, 0)
abbrev kProT : IT := (4, 0)
abbrev kOne : IT := (5, 0)
abbrev kEi : IT := (6, 0)
abbrev kEiT : IT := (7, 0)
abbrev kBo : IT := (8, 0)
abbrev kBoT : IT := (9, 0)
abbrev kAsk : IT := (10, 0)
abbrev kCmp : IT := (11, 0)
abbrev kJT (n : Int) : IT := (12, n)
/-- a number from a / 1000 to a % 1000; left or right; a law's sum; clauses: laws so far (bits) * 100 + clauses so far -/
abbrev kNum (a : Int) : IT := (13, a)
abbrev kKnee : IT := (14, 0)
abbrev kLaw (k : Int) : IT := (15, k)
abbrev kCls (a : Int) : IT := (16, a)
/-- what stands in a clause of this word -/
def cbody (k : Int) : List IT :=
  if k < 3 then [kLaw k]
  else if k = 3 then [kNum 9, kEx 12, kNum 99]
  else if k = 4 then [kNum 5, kEx 19, kNum 5, kKnee, kNum 1009]
  else if k = 5 ∨ k = 6 then [kNum 13]
  else if k = 9 then [kNum 1060]
  else [kNum 5]
/-- the laws (bits m) with this word's among them -/
def onceM (m k : Int) : Int := if k = 0 then m + 1 else if k = 1 then m + 2 else if k = 2 then m + 4 else m
abbrev isCmp (k : Int) : Prop := k = 60 ∨ k = 316 ∨ k = 62 ∨ k = 318 ∨ k = 61 ∨ k = 35
/-- what an item becomes at a token: a fault or 0, tokens taken, items, levels more -/
def gx (x : IT) (o : Nat) (b : Bool) (k v : Int) : Int × Nat × List IT × Nat := match x with
  | (0, e) => if k = e then (0, 1, [], 0) else (1, 0, [], 0)
  | (1, _) => (0, 0, [kPro, kSumT], 0)
  | (2, _) => if k = 43 ∨ k = 45 then (0, 1, [kPro, kSumT], 0) else (0, 0, [], 0)
  | (3, _) => (0, 0, [kOne, kProT], 0)
  | (4, _) => if k = 42 ∨ k = 47 then (0, 1, [kOne, kProT], 0) else (0, 0, [], 0)
  | (5, _) => if k = 1000 then (if v ≤ 9999 then (0, 1, [], 0) else (2, 0, [], 0))
    else if 9 ≤ k ∧ k ≤ 18 then (if b = true ∧ 14 ≤ k then (5, 0, [], 0) else (0, 1, [], 0))
    else if k = 40 ∨ k = 45 ∨ k = 22 ∨ k = 23 then
      (if 8 ≤ o then (3, 0, [], 0) else if k = 40 then (0, 1, [kSum, kEx 41], 1)
        else if k = 23 then (0, 1, [kEi, kEx 24, kSum, kEx 25, kSum, kEx 26], 1) else (0, 1, [kOne], 1))
    else (1, 0, [], 0)
  | (6, _) => (0, 0, [kBo, kEiT], 0)
  | (7, _) => if k = 27 then (0, 1, [kBo, kEiT], 0) else (0, 0, [], 0)
  | (8, _) => (0, 0, [kAsk, kBoT], 0)
  | (9, _) => if k = 28 then (0, 1, [kAsk, kBoT], 0) else (0, 0, [], 0)
  | (10, _) => if k = 29 then (if 8 ≤ o then (3, 0, [], 0) else (0, 1, [kAsk], 1))
    else if k = 30 then (if 8 ≤ o then (3, 0, [], 0) else (0, 1, [kEx 40, kEi, kJT 1], 1))
    else (0, 0, [kSum, kCmp], 0)
  | (11, _) => if isCmp k then (0, 1, [kSum], 0) else (1, 0, [], 0)
  | (13, a) => if k = 1000 then (if a / 1000 ≤ v ∧ v ≤ a % 1000 then (0, 1, [], 0) else (2, 0, [], 0)) else (1, 0, [], 0)
  | (14, _) => if k = 20 ∨ k = 21 then (0, 1, [], 0) else (1, 0, [], 0)
  | (15, e) => (0, 0, [kSum], if e = 2 then 100 else 0)
  | (16, a) => if k = 1002 then (0, 0, [], 0) else if k < 0 ∨ 9 < k then (1, 0, [], 0)
    else if onceM (a / 100) k ≠ a / 100 ∧ (if k = 0 then a / 100 % 2 = 1 else if k = 1 then a / 100 / 2 % 2 = 1 else a / 100 / 4 % 2 = 1) then (4, 0, [], 0)
    else if a % 100 = 24 then (6, 0, [], 0) else (0, 1, cbody k ++ [kEx 59, kCls (onceM (a / 100) k * 100 + a % 100 + 1)], 0)
  | (_, n) => if k = 44 then (if n = 6 then (7, 0, [], 0) else (0, 1, [kEi, kJT (n + 1)], 0)) else (0, 0, [kEx 41], 0)
def lay (o : Nat) (b : Bool) (its : List IT) : List LI := its.map (fun t => (t, o, b))
def llr (K V : Nat → Int) : Nat → List LI → Nat → Option (Int × Nat)
  | 0, _, _ => none
  | _ + 1, [], i => some (0, i)
  | n + 1, (x, o, b) :: S, i => if (gx x o b (K i) (V i)).1 = 0 then llr K V n (lay (o + (gx x o b (K i) (V i)).2.2.2 % 100) (decide (100 ≤ (gx x o b (K i) (V i)).2.2.2) || b) (gx x o b (K i) (V i)).2.2.1 ++ S) (i + (gx x o b (K i) (V i)).2.1) else some ((gx x o b (K i) (V i)).1, i)
/-- from this stack at this token the reading ends so: a fault (or 0) and the token -/
def LL (K V : Nat → Int) (S : List LI) (i : Nat) (r : Int × Nat) : Prop := ∃ n, llr K V n S i = some r
section LLR
variable {K V : Nat → Int} {S S1 S2 S3 : List LI} {i i1 i2 i3 a : Nat} {k f : Int} {o d : Nat} {b : Bool} {x : IT} {r r2 : Int × Nat} {its : List IT}
theorem LL_goR (h : LL K V ((x, o, b) :: S) i r) (e : gx x o b (K i) (V i) = (0, a, its, d)) : LL K V (lay (o + d % 100) (decide (100 ≤ d) || b) its ++ S) (i + a) r := by
  obtain ⟨n, h⟩ := h
  cases n with
  | zero => exact absurd h (by unfold llr; exact fun z => by cases z)
  | succ n =>
    unfold llr at h
    rw [e, if_pos rfl] at h
    exact ⟨n, h⟩
theorem LL_go (h : LL K V ((x, o, b) :: S) i r) (e : gx x o b (K i) (V i) = (0, a, its, d)) (hd : d < 100 := by decide) : LL K V (lay (o + d) b its ++ S) (i + a) r := by
  have q := LL_goR h e
  rw [Nat.mod_eq_of_lt hd, decide_eq_false (by omega), Bool.false_or] at q
  exact q
theorem LL_bad (h : LL K V ((x, o, b) :: S) i r) (e : gx x o b (K i) (V i) = (f, a, its, d)) (z : f ≠ 0) : r = (f, i) := by
  obtain ⟨n, h⟩ := h
  cases n with
  | zero => exact absurd h (by unfold llr; exact fun z => by cases z)
  | succ n =>
    unfold llr at h
    rw [e, if_neg z] at h
    exact (Option.some.inj h).symm
/-- from one stack to another -/
def Tr (K V : Nat → Int) (S1 : List LI) (i1 : Nat) (S2 : List LI) (i2 : Nat) : Prop := ∀ r, LL K V S2 i2 r → LL K V S1 i1 r
theorem Tr_0 : Tr K V S i S i := fun _ h => h
theorem Tr_t (h1 : Tr K V S1 i1 S2 i2) (h2 : Tr K V S2 i2 S3 i3) : Tr K V S1 i1 S3 i3 := fun r h => h1 r (h2 r h)
theorem Tr_goR (e : gx x o b (K i) (V i) = (0, a, its, d)) : Tr K V ((x, o, b) :: S) i (lay (o + d % 100) (decide (100 ≤ d) || b) its ++ S) (i + a) := fun r h => by
  obtain ⟨n, h⟩ := h
  refine ⟨n + 1, ?_⟩
  unfold llr
  rw [e, if_pos rfl]
  exact h
theorem Tr_go (e : gx x o b (K i) (V i) = (0, a, its, d)) (hd : d < 100 := by decide) : Tr K V ((x, o, b) :: S) i (lay (o + d) b its ++ S) (i + a) := by
  have q := Tr_goR (S := S) e
  rw [Nat.mod_eq_of_lt hd, decide_eq_false (by omega), Bool.false_or] at q
  exact q
theorem LL_no (e : gx x o b (K i) (V i) = (f, a, its, d)) (z : f ≠ 0) : LL K V ((x, o, b) :: S) i (f, i) := by
  refine ⟨1, ?_⟩
  unfold llr
  rw [e, if_neg z]
theorem llr_up : ∀ (n : Nat) (S : List LI) (i : Nat), llr K V n S i = some r → llr K V (n + 1) S i = some r := by
  intro n
  induction n with
  | zero => intro S i h; exact absurd h (by unfold llr; exact fun z => by cases z)
  | succ n ih =>
    intro S i h
    match S, h with
    | [], h => exact h
    | (x, o, b) :: S, h =>
      unfold llr at h ⊢
      by_cases z : (gx x o b (K i) (V i)).1 = 0
      · rw [if_pos z] at h ⊢; exact ih _ _ h
      · rw [if_neg z] at h ⊢; exact h
theorem llr_ge (m : Nat) : ∀ n, llr K V n S i = some r → llr K V (n + m) S i = some r := by
  induction m with
  | zero => intro n h; exact h
  | succ m ih => intro n h; exact llr_up _ _ _ (ih n h)
theorem LL_det (h : LL K V S i r) (h2 : LL K V S i r2) : r = r2 := by
  obtain ⟨n, h⟩ := h
  obtain ⟨m, h2⟩ := h2
  have a := llr_ge m n h
  have c := llr_ge n m h2
  rw [Nat.add_comm, c] at a
  exact (Option.some.inj a).symm
theorem LL_nil (h : LL K V [] i r) : r = (0, i) := by
  obtain ⟨n, h⟩ := h
  cases n with
  | zero => exact absurd h (by unfold llr; exact fun z => by cases z)
  | succ n => unfold llr at h; exact (Option.some.inj h).symm
theorem LL_ex (h : LL K V ((kEx k, o, b) :: S) i r) : (K i = k ∧ LL K V S (i + 1) r) ∨ (K i ≠ k ∧ r = (1, i)) := by
  by_cases z : K i = k
  · exact Or.inl ⟨z, LL_go h (a := 1) (its := []) (d := 0) (by unfold gx; simp [z])⟩
  · exact Or.inr ⟨z, LL_bad h (f := 1) (a := 0) (its := []) (d := 0) (by unfold gx; simp [z]) (by decide)⟩
end LLR
/-! The stack as the pile has it: what follows behind one whole operand (first), behind one whole ask (second). -/
abbrev isOpn (t : Int) : Prop := 40 ≤ t ∨ t = 5 ∨ t = 2 ∨ t = 20
def lvl : List Int → Nat
  | [] => 0
  | t :: p => lvl p + (if isOpn t then 1 else 0)
def CA (b : Bool) (cn : Nat → Int) : List Int → Nat → List LI × List LI
  | [], _ => (lay 0 b [kProT, kSumT], [])
  | t :: p, c =>
    if 2 ≤ t ∧ t ≤ 9 then CA b cn p c
    else if t ≤ 15 then (lay (lvl p) b [kProT, kSumT] ++ (CA b cn p c).2, (CA b cn p c).2)
    else if t = 16 then ((CA b cn p c).2, (CA b cn p c).2)
    else if t ≤ 22 then (lay (lvl (t :: p)) b [kProT, kSumT, kCmp] ++ (CA b cn p c).2, (CA b cn p c).2)
    else if t = 40 then (lay (lvl p + 1) b [kProT, kSumT, kEx 41] ++ (CA b cn p c).1, [])
    else if t = 41 then (lay (lvl p + 1) b [kProT, kSumT, kCmp, kBoT, kEiT, kEx 24, kSum, kEx 25, kSum, kEx 26] ++ (CA b cn p c).1, lay (lvl p + 1) b [kBoT, kEiT, kEx 24, kSum, kEx 25, kSum, kEx 26] ++ (CA b cn p c).1)
    else if t = 42 then (lay (lvl p + 1) b [kProT, kSumT, kEx 25, kSum, kEx 26] ++ (CA b cn p c).1, [])
    else if t = 43 then (lay (lvl p + 1) b [kProT, kSumT, kEx 26] ++ (CA b cn p c).1, [])
    else (lay (lvl p + 1) b [kProT, kSumT, kCmp, kBoT, kEiT, kJT (cn (c - 1))] ++ (CA b cn p (c - 1)).2, lay (lvl p + 1) b [kBoT, kEiT, kJT (cn (c - 1))] ++ (CA b cn p (c - 1)).2)
