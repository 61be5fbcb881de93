/-! Tokens out of bytes: B the tape's bytes, n how many. -/
abbrev isLt (x : Int) : Prop := 97 ≤ x ∧ x ≤ 122 ∨ 65 ≤ x ∧ x ≤ 90
abbrev isDg (x : Int) : Prop := 48 ≤ x ∧ x ≤ 57
/-- the first place from a on that is not blank, in at most f steps -/
def skB (B : Nat → Int) (n : Nat) : Nat → Nat → Nat
  | 0, a => a
  | f + 1, a => if a < n ∧ (B a = 32 ∨ B a = 10) then skB B n f (a + 1) else a
/-- behind the letters from a on -/
def ltE (B : Nat → Int) (n : Nat) : Nat → Nat → Nat
  | 0, a => a
  | f + 1, a => if a < n ∧ isLt (B a) then ltE B n f (a + 1) else a
/-- behind the figures from a on, and their value, held at 10000 -/
def dgE (B : Nat → Int) (n : Nat) : Nat → Nat → Int → Nat × Int
  | 0, a, v => (a, v)
  | f + 1, a, v => if a < n ∧ isDg (B a) then dgE B n f (a + 1) (min 10000 (v * 10 + B a - 48)) else (a, v)
section LEX
variable {B : Nat → Int} {n f a : Nat} {v : Int}
theorem skB_ge : ∀ f a, a ≤ skB B n f a := by
  intro f
  induction f with
  | zero => intro a; exact Nat.le_refl _
  | succ f ih =>
    intro a
    unfold skB
    split
    · have := ih (a + 1); omega
    · exact Nat.le_refl _
theorem skB_st : ∀ f a, n - a ≤ f → ¬ (skB B n f a < n ∧ (B (skB B n f a) = 32 ∨ B (skB B n f a) = 10)) := by
  intro f
  induction f with
  | zero =>
    intro a h z
    have : skB B n 0 a = a := rfl
    rw [this] at z
    omega
  | succ f ih =>
    intro a h
    unfold skB
    by_cases z : a < n ∧ (B a = 32 ∨ B a = 10)
    · rw [if_pos z]; exact ih (a + 1) (by omega)
    · rw [if_neg z]; exact z
theorem skB_go (h : a < n ∧ (B a = 32 ∨ B a = 10)) (hf : n - a ≤ f) : skB B n f a = skB B n (f - 1) (a + 1) := by
  cases f with
  | zero => omega
  | succ f =>
    conv => lhs; unfold skB
    rw [if_pos h]; rfl
theorem skB_no (h : ¬ (a < n ∧ (B a = 32 ∨ B a = 10))) : skB B n f a = a := by
  cases f with
  | zero => rfl
  | succ f => unfold skB; rw [if_neg h]
end LEX
theorem end66 : True := trivial
