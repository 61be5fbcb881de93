/-! Words kept in time, as rows of ints: what both sides search. -/
section WDS
variable {wk du wk2 du2 : Nat → Int32} {s s2 n m k : Nat} {d d2 : Int}
def wko (wk du : Nat → Int32) (s : Nat) (d : Int) : Nat → Int
  | 0 => 0
  | k + 1 => wko wk du s d k + (if s.testBit k = true ∧ (du k).toInt ≤ d then (wk k).toInt else 0)
def itm (wk du : Nat → Int32) (n s : Nat) : Nat → Bool
  | 0 => true
  | k + 1 => itm wk du n s k && (if s.testBit k = true then decide (wko wk du s (du k).toInt n ≤ (du k).toInt) else true)
def pcn (s : Nat) : Nat := (if s.testBit 0 = true then 1 else 0) + (if s.testBit 1 = true then 1 else 0) + (if s.testBit 2 = true then 1 else 0) + (if s.testBit 3 = true then 1 else 0) + (if s.testBit 4 = true then 1 else 0) + (if s.testBit 5 = true then 1 else 0) + (if s.testBit 6 = true then 1 else 0) + (if s.testBit 7 = true then 1 else 0)
def mst (wk du : Nat → Int32) (n : Nat) : Nat → Nat
  | 0 => 0
  | s + 1 => if pcn (mst wk du n s) < pcn s ∧ itm wk du n s n = true then s else mst wk du n s
def inT (wk du : Nat → Int32) (n : Nat) (what : Int32) : Int := if what.toInt = 0 then (pcn (mst wk du n (2 ^ n)) : Int) else if what.toInt = 1 then (mst wk du n (2 ^ n) : Int) else if what.toInt = 2 then wko wk du (mst wk du n (2 ^ n)) 999 n else -1
def WBd (wk du : Nat → Int32) (n : Nat) : Prop := n ≤ 8 ∧ ∀ k, k < n → (1 ≤ (wk k).toInt ∧ (wk k).toInt ≤ 99) ∧ 0 ≤ (du k).toInt ∧ (du k).toInt ≤ 999
theorem wko_bd (h : ∀ k, k < m → 0 ≤ (wk k).toInt ∧ (wk k).toInt ≤ 99) : 0 ≤ wko wk du s d m ∧ wko wk du s d m ≤ 99 * (m : Int) := by
  induction m with
  | zero => exact ⟨Int.le_refl _, Int.le_refl _⟩
  | succ m ih =>
    have a := ih (fun k hk => h k (by omega))
    have b := h m (by omega)
    unfold wko
    split
    · exact ⟨by omega, by omega⟩
    · exact ⟨by omega, by omega⟩
theorem wko_ext (h1 : ∀ k, k < m → wk k = wk2 k) (h2 : ∀ k, k < m → du k = du2 k) : wko wk du s d m = wko wk2 du2 s d m := by
  induction m with
  | zero => rfl
  | succ m ih =>
    unfold wko
    rw [ih (fun k hk => h1 k (by omega)) (fun k hk => h2 k (by omega)), h1 m (by omega), h2 m (by omega)]
theorem wko_all (h : ∀ k, k < m → (du k).toInt ≤ d ∧ (du k).toInt ≤ d2) : wko wk du s d m = wko wk du s d2 m := by
  induction m with
  | zero => rfl
  | succ m ih =>
    have a := h m (by omega)
    unfold wko
    rw [ih (fun k hk => h k (by omega))]
    by_cases z : s.testBit m = true
    · rw [if_pos ⟨z, a.1⟩, if_pos ⟨z, a.2⟩]
    · rw [if_neg (fun q => z q.1), if_neg (fun q => z q.1)]
theorem pcn_le : pcn s ≤ 8 := by
  unfold pcn
  repeat' split
  all_goals omega
theorem mst_lt : mst wk du n m < m ∨ mst wk du n m = 0 := by
  induction m with
  | zero => exact Or.inr rfl
  | succ m ih =>
    unfold mst
    split
    · exact Or.inl (by omega)
    · rcases ih with h | h
      · exact Or.inl (by omega)
      · exact Or.inr h
theorem mst_1 : mst wk du n 1 = 0 := by
  unfold mst mst
  rw [if_neg]
  intro h
  exact absurd h.1 (by decide)
theorem pow8 (h : n ≤ 8) : 2 ^ n ≤ 256 := by
  have e : n = 0 ∨ n = 1 ∨ n = 2 ∨ n = 3 ∨ n = 4 ∨ n = 5 ∨ n = 6 ∨ n = 7 ∨ n = 8 := by omega
  rcases e with rfl | rfl | rfl | rfl | rfl | rfl | rfl | rfl | rfl <;> decide
theorem hasF : ∀ s : Fin 256, ∀ k : Fin 8, ((Int32.ofNat s.1 >>> (Int32.ofNat k.1 &&& 31)) &&& 1) = (if s.1.testBit k.1 = true then 1 else 0) := by decide +kernel
theorem ofN {x : Int32} (h : bn 0 2147483647 x) : x = Int32.ofNat x.toInt.toNat := by
  apply Int32.toInt_inj.mp
  rw [Int32.toInt_ofNat_of_lt (by have := h.2; omega)]
  have := h.1
  omega
theorem has_bit {x y : Int32} (hx : bn 0 255 x) (hy : bn 0 7 y) : ((x >>> (y &&& 31)) &&& 1) = (if x.toInt.toNat.testBit y.toInt.toNat = true then 1 else 0) := by
  have a := hasF ⟨x.toInt.toNat, by have := hx.1; have := hx.2; omega⟩ ⟨y.toInt.toNat, by have := hy.1; have := hy.2; omega⟩
  rw [← ofN (bn_w hx (by decide)), ← ofN (bn_w hy (by decide))] at a
  exact a
theorem lowF : ∀ s : Fin 256, 0 < s.1 → pcn ((Int32.ofNat s.1 &&& (Int32.ofNat s.1 - 1)).toInt.toNat) + 1 = pcn s.1 ∧ bn 0 255 (Int32.ofNat s.1 &&& (Int32.ofNat s.1 - 1)) := by unfold bn; decide +kernel
theorem low_bit {x : Int32} (hx : bn 1 255 x) : pcn ((x &&& (x - 1)).toInt.toNat) + 1 = pcn x.toInt.toNat ∧ bn 0 255 (x &&& (x - 1)) := by
  have a := lowF ⟨x.toInt.toNat, by have := hx.1; have := hx.2; omega⟩ (by show 0 < x.toInt.toNat; have := hx.1; omega)
  rw [← ofN (bn_w hx (by decide))] at a
  exact a
theorem inT_0 {x f r : Int32} (e : x.toInt = 0) (hf : f.toInt = (mst wk du n (2 ^ n) : Int)) (hr : r.toInt = (pcn f.toInt.toNat : Int)) : r.toInt = inT wk du n x := by
  unfold inT
  rw [if_pos e, hr, show f.toInt.toNat = mst wk du n (2 ^ n) by omega]
theorem inT_1 {x f : Int32} (e : x.toInt = 1) (hf : f.toInt = (mst wk du n (2 ^ n) : Int)) : f.toInt = inT wk du n x := by
  unfold inT
  rw [if_neg (by omega), if_pos e]; exact hf
theorem inT_2 {x f r : Int32} (e : x.toInt = 2) (hf : f.toInt = (mst wk du n (2 ^ n) : Int)) (hr : r.toInt = wko wk du f.toInt.toNat 999 n) : r.toInt = inT wk du n x := by
  unfold inT
  rw [if_neg (by omega), if_neg (by omega), if_pos e, hr, show f.toInt.toNat = mst wk du n (2 ^ n) by omega]
theorem inT_n {x : Int32} (h : ¬ (0 ≤ x.toInt ∧ x.toInt ≤ 2)) : (-1 : Int32).toInt = inT wk du n x := by
  unfold inT
  rw [if_neg (by omega), if_neg (by omega), if_neg (by omega)]
  rfl
theorem inT_w {x : Int32} (h : 0 ≤ x.toInt ∧ x.toInt ≤ 2) (h0 : ¬ x = 0) (h1 : ¬ x = 1) : x.toInt = 2 := by
  have a : ¬ x.toInt = 0 := fun z => h0 (Int32.toInt_inj.mp (z.trans rfl))
  have b : ¬ x.toInt = 1 := fun z => h1 (Int32.toInt_inj.mp (z.trans rfl))
  omega
end WDS
theorem la_add {x y z : Int32} {a b a1 b1 a2 b2 : Int} (e : z = x + y) (hx : x.toInt = a) (hy : y.toInt = b) (bx : bn a1 b1 x) (b_y : bn a2 b2 y) (q : -2147483648 ≤ a1 + a2 ∧ b1 + b2 ≤ 2147483647) : z.toInt = a + b := by
  obtain ⟨h1, h2⟩ := bx; obtain ⟨g1, g2⟩ := b_y; obtain ⟨q1, q2⟩ := q
  rw [e, ti_add (by omega) (by omega), hx, hy]
theorem la_sub {x y z : Int32} {a b a1 b1 a2 b2 : Int} (e : z = x - y) (hx : x.toInt = a) (hy : y.toInt = b) (bx : bn a1 b1 x) (b_y : bn a2 b2 y) (q : -2147483648 ≤ a1 - b2 ∧ b1 - a2 ≤ 2147483647) : z.toInt = a - b := by
  obtain ⟨h1, h2⟩ := bx; obtain ⟨g1, g2⟩ := b_y; obtain ⟨q1, q2⟩ := q
  rw [e, ti_sub (by omega) (by omega), hx, hy]
theorem la_mul {x y z : Int32} {a b a1 b1 a2 b2 : Int} (e : z = x * y) (hx : x.toInt = a) (hy : y.toInt = b) (bx : bn a1 b1 x) (b_y : bn a2 b2 y) (q : 0 ≤ a1 ∧ 0 ≤ a2 ∧ b1 * b2 ≤ 2147483647) : z.toInt = a * b := by
  obtain ⟨h1, h2⟩ := bx; obtain ⟨g1, g2⟩ := b_y; obtain ⟨q1, q2, q3⟩ := q
  have m2 : x.toInt * y.toInt ≤ b1 * b2 := Int.mul_le_mul h2 g2 (by omega) (by omega)
  have m3 : 0 ≤ x.toInt * y.toInt := Int.mul_nonneg (by omega) (by omega)
  rw [e, ti_mul (by omega) (by omega), hx, hy]
