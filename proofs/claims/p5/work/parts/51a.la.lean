theorem la_add {x y z : Int32} {a b a1 b1 a2 b2 : Int} (e : z = x + y) (hx : x.toInt = a) (hy : y.toInt = b) (bx : bn a1 b1 x) (b_y : bn a2 b2 y) (q : -2147483648 ≤ a1 + a2 ∧ b1 + b2 ≤ 2147483647) : z.toInt = a + b := by
  obtain ⟨h1, h2⟩ := bx; obtain ⟨g1, g2⟩ := b_y; obtain ⟨q1, q2⟩ := q
  rw [e, ti_add (by omega) (by omega), hx, hy]
theorem la_sub {x y z : Int32} {a b a1 b1 a2 b2 : Int} (e : z = x - y) (hx : x.toInt = a) (hy : y.toInt = b) (bx : bn a1 b1 x) (b_y : bn a2 b2 y) (q : -2147483648 ≤ a1 - b2 ∧ b1 - a2 ≤ 2147483647) : z.toInt = a - b := by
  obtain ⟨h1, h2⟩ := bx; obtain ⟨g1, g2⟩ := b_y; obtain ⟨q1, q2⟩ := q
  rw [e, ti_sub (by omega) (by omega), hx, hy]
theorem la_mul {x y z : Int32} {a b a1 b1 a2 b2 : Int} (e : z = x * y) (hx : x.toInt = a) (hy : y.toInt = b) (bx : bn a1 b1 x) (b_y : bn a2 b2 y) (q : 0 ≤ a1 ∧ 0 ≤ a2 ∧ b1 * b2 ≤ 2147483647) : z.toInt = a * b := by
  obtain ⟨h1, h2⟩ := bx; obtain ⟨g1, g2⟩ := b_y; obtain ⟨q1, q2, q3⟩ := q
  have m2 : x.toInt * y.toInt ≤ b1 * b2 := Int.mul_le_mul h2 g2 (by omega) (by omega)
  have m3 : 0 ≤ x.toInt * y.toInt := Int.mul_nonneg (by omega) (by omega)
  rw [e, ti_mul (by omega) (by omega), hx, hy]
