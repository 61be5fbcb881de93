/-! Tokens out of bytes: B the tape's bytes, n how many. -/
abbrev isLt (x : Int) : Prop := 97 ≤ x ∧ x ≤ 122 ∨ 65 ≤ x ∧ x ≤ 90
abbrev isDg (x : Int) : Prop := 48 ≤ x ∧ x ≤ 57
/-- the first place from a on that is not blank, in at most f steps -/
def skB (B : Nat → Int) (n : Nat) : Nat → Nat → Nat
  | 0, a => a
  | f + 1, a => if a < n ∧ (B a = 32 ∨ B a = 10) then skB B n f (a + 1) else a
/-- behind the letters from a on -/
def ltE (B : Nat → Int) (n : Nat) : Nat → Nat → Nat
  | 0, a => a
  | f + 1, a => if a < n ∧ isLt (B a) then ltE B n f (a + 1) else a
/-- behind the figures from a on, and their value, held at 10000 -/
def dgE (B : Nat → Int) (n : Nat) : Nat → Nat → Int → Nat × Int
  | 0, a, v => (a, v)
  | f + 1, a, v => if a < n ∧ isDg (B a) then dgE B n f (a + 1) (min 10000 (v * 10 + B a - 48)) else (a, v)
section LEX
variable {B : Nat → Int} {n f a : Nat} {v : Int}
theorem skB_ge : ∀ f a, a ≤ skB B n f a := by
  intro f
  induction f with
  | zero => intro a; exact Nat.le_refl _
  | succ f ih =>
    intro a
    unfold skB
    split
    · have := ih (a + 1); omega
    · exact Nat.le_refl _
theorem skB_st : ∀ f a, n - a ≤ f → ¬ (skB B n f a < n ∧ (B (skB B n f a) = 32 ∨ B (skB B n f a) = 10)) := by
  intro f
  induction f with
  | zero =>
    intro a h z
    have : skB B n 0 a = a := rfl
    rw [this] at z
    omega
  | succ f ih =>
    intro a h
    unfold skB
    by_cases z : a < n ∧ (B a = 32 ∨ B a = 10)
    · rw [if_pos z]; exact ih (a + 1) (by omega)
    · rw [if_neg z]; exact z
theorem skB_go (h : a < n ∧ (B a = 32 ∨ B a = 10)) (hf : n - a ≤ f) : skB B n f a = skB B n (f - 1) (a + 1) := by
  cases f with
  | zero => omega
  | succ f =>
    conv => lhs; unfold skB
    rw [if_pos h]; rfl
theorem skB_no (h : ¬ (a < n ∧ (B a = 32 ∨ B a = 10))) : skB B n f a = a := by
  cases f with
  | zero => rfl
  | succ f => unfold skB; rw [if_neg h]
theorem ltE_ge : ∀ f a, a ≤ ltE B n f a := by
  intro f
  induction f with
  | zero => intro a; exact Nat.le_refl _
  | succ f ih =>
    intro a
    unfold ltE
    split
    · have := ih (a + 1); omega
    · exact Nat.le_refl _
theorem ltE_le : ∀ f a, a ≤ n → ltE B n f a ≤ n := by
  intro f
  induction f with
  | zero => intro a h; exact h
  | succ f ih =>
    intro a h
    unfold ltE
    split
    · exact ih (a + 1) (by omega)
    · exact h
theorem ltE_go (h : a < n ∧ isLt (B a)) (hf : n - a ≤ f) : ltE B n f a = ltE B n (f - 1) (a + 1) := by
  cases f with
  | zero => omega
  | succ f =>
    conv => lhs; unfold ltE
    rw [if_pos h]; rfl
theorem ltE_no (h : ¬ (a < n ∧ isLt (B a))) : ltE B n f a = a := by
  cases f with
  | zero => rfl
  | succ f => unfold ltE; rw [if_neg h]
theorem dgE_go (h : a < n ∧ isDg (B a)) (hf : n - a ≤ f) : dgE B n f a v = dgE B n (f - 1) (a + 1) (min 10000 (v * 10 + B a - 48)) := by
  cases f with
  | zero => omega
  | succ f =>
    conv => lhs; unfold dgE
    rw [if_pos h]; rfl
theorem dgE_no (h : ¬ (a < n ∧ isDg (B a))) : dgE B n f a v = (a, v) := by
  cases f with
  | zero => rfl
  | succ f => unfold dgE; rw [if_neg h]
/-- more steps than places change nothing -/
theorem ltE_f : ∀ f a g, n - a ≤ f → n - a ≤ g → ltE B n f a = ltE B n g a := by
  intro f
  induction f with
  | zero =>
    intro a g h1 h2
    rw [ltE_no (f := 0) (by omega), ltE_no (f := g) (by omega)]
  | succ f ih =>
    intro a g h1 h2
    by_cases z : a < n ∧ isLt (B a)
    · rw [ltE_go z h1, ltE_go z h2]; exact ih (a + 1) (g - 1) (by omega) (by omega)
    · rw [ltE_no z, ltE_no z]
theorem dgE_f : ∀ f a g v, n - a ≤ f → n - a ≤ g → dgE B n f a v = dgE B n g a v := by
  intro f
  induction f with
  | zero =>
    intro a g v h1 h2
    rw [dgE_no (f := 0) (by omega), dgE_no (f := g) (by omega)]
  | succ f ih =>
    intro a g v h1 h2
    by_cases z : a < n ∧ isDg (B a)
    · rw [dgE_go z h1, dgE_go z h2]; exact ih (a + 1) (g - 1) _ (by omega) (by omega)
    · rw [dgE_no z, dgE_no z]
theorem skB_f : ∀ f a g, n - a ≤ f → n - a ≤ g → skB B n f a = skB B n g a := by
  intro f
  induction f with
  | zero =>
    intro a g h1 h2
    rw [skB_no (f := 0) (by omega), skB_no (f := g) (by omega)]
  | succ f ih =>
    intro a g h1 h2
    by_cases z : a < n ∧ (B a = 32 ∨ B a = 10)
    · rw [skB_go z h1, skB_go z h2]; exact ih (a + 1) (g - 1) (by omega) (by omega)
    · rw [skB_no z, skB_no z]
end LEX
def wds : List (List Int) := [[119, 101, 97, 114, 115], [97, 99, 104, 101, 115], [114, 105, 115, 107], [111, 110, 101], [115, 119, 101, 97, 114], [98, 114, 101, 97, 107], [114, 101, 108, 101, 97, 115, 101], [107, 110, 101, 101, 108], [115, 107, 97, 116, 101], [100, 97, 121], [114, 97, 105, 110], [116, 111, 117, 103, 104], [97, 103, 101], [119, 104, 111], [115, 105, 122, 101], [107, 110, 101, 101], [119, 101, 97, 114], [115, 105, 110, 99, 101], [98, 121], [116, 111], [108, 101, 102, 116], [114, 105, 103, 104, 116], [109, 97, 114, 107, 115], [105, 102], [116, 104, 101, 110], [101, 108, 115, 101], [101, 110, 100], [111, 114], [97, 110, 100], [110, 111, 116], [106, 117, 115, 116]]
def wdF : List (List Int) → Int → List Int → Int
  | [], _, _ => 1001
  | u :: us, k, w => if w = u then k else wdF us (k + 1) w
def sl (B : Nat → Int) (a z : Nat) : List Int := (List.range (z - a)).map (fun k => B (a + k))
abbrev isSg (x : Int) : Prop := x = 60 ∨ x = 62 ∨ x = 61 ∨ x = 35 ∨ x = 43 ∨ x = 45 ∨ x = 42 ∨ x = 47 ∨ x = 40 ∨ x = 41 ∨ x = 44 ∨ x = 59
/-- the token from p on, where p is not blank: kind, value, the place behind it -/
def tk0 (B : Nat → Int) (n p : Nat) : Int × Int × Nat :=
  if n ≤ p then (1002, 0, p)
  else if isLt (B p) then (wdF wds 0 (sl B p (ltE B n n p)), 0, ltE B n n p)
  else if isDg (B p) then (1000, (dgE B n n p 0).2, (dgE B n n p 0).1)
  else if (B p = 60 ∨ B p = 62) ∧ p + 1 < n ∧ B (p + 1) = 61 then (B p + 256, 0, p + 2)
  else (if isSg (B p) then B p else 1001, 0, p + 1)
/-- where the i-th token begins; its kind and value -/
def tkP (B : Nat → Int) (n : Nat) : Nat → Nat
  | 0 => skB B n n 0
  | i + 1 => skB B n n (tk0 B n (tkP B n i)).2.2
def tkK (B : Nat → Int) (n i : Nat) : Int := (tk0 B n (tkP B n i)).1
def tkV (B : Nat → Int) (n i : Nat) : Int := (tk0 B n (tkP B n i)).2.1
/-- the whole text's reading: a fault or 0, and the token where it stands -/
def TXR (B : Nat → Int) (n : Nat) (r : Int × Nat) : Prop := LL (tkK B n) (tkV B n) [(kCls 0, 0, false)] 0 r
