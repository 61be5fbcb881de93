def FI : Int × Int := (-2147483648, 2147483647)
def TA : (Nat → Int32) → Prop := fun _ => True
def EQ (g0 : Nat → Int32) : (Nat → Int32) → Prop := fun z => z = g0
abbrev SG : Type := (Int × Int) × (Int × Int) × ((Nat → Int32) → Prop) × ((Nat → Int32) → Prop)
abbrev RS : Type := FS × (Nat → Int × Int) × (Nat → (Nat → Int32) → Prop) × (Nat → SG)
def lim (a b : Int) (q : Int × Int) : Int × Int := (max a q.1, min b q.2)
abbrev pp (v : Int) : Int × Int := (v, v)
def fz (zL zC zR zK zP zV zW zF zQ : Int × Int) : Nat → Int × Int := fun k => match k with
  | 4 => zL | 5 => zC | 6 => zR | 7 => zK | 8 => zP | 9 => zV | 10 => zW | 12 => zF | 13 => zQ | _ => FI
def tz (tT tU tP tV : (Nat → Int32) → Prop) : Nat → (Nat → Int32) → Prop := fun k => match k with
  | 50 => tT | 51 => tU | 52 => tP | 53 => tV | _ => TA
def sc0 : Nat → SG := fun _ => (FI, FI, TA, TA)
theorem lim_b (a b : Int) (q : Int × Int) : a ≤ (lim a b q).1 ∧ (lim a b q).2 ≤ b := ⟨Int.le_max_left a q.1, Int.min_le_left b q.2⟩
theorem lim_eq {a b v : Int} {x : Int32} (h : bn (lim a b (v, v)).1 (lim a b (v, v)).2 x) : x.toInt = v := by
  obtain ⟨h1, h2⟩ := h
  have h1 : max a v ≤ x.toInt := h1
  have h2 : x.toInt ≤ min b v := h2
  omega
theorem lim_eq2 {a b v : Int} {q : Int × Int} {x : Int32} (h : bn (lim a b q).1 (lim a b q).2 x) (e : q = (v, v)) : x.toInt = v := by
  subst e; exact lim_eq h
theorem lim_mk {a b v : Int} {x : Int32} (h : bn a b x) (e : x.toInt = v) : bn (lim a b (v, v)).1 (lim a b (v, v)).2 x := by
  obtain ⟨h1, h2⟩ := h
  refine ⟨?_, ?_⟩
  · show max a v ≤ x.toInt; omega
  · show x.toInt ≤ min b v; omega
theorem lim_F {a b : Int} {x : Int32} (h : bn a b x) : bn (lim a b FI).1 (lim a b FI).2 x := by
  obtain ⟨h1, h2⟩ := h
  have k1 := ti_lo x
  have k2 := ti_hi x
  refine ⟨?_, ?_⟩
  · show max a (-2147483648) ≤ x.toInt; omega
  · show x.toInt ≤ min b 2147483647; omega
theorem lim_up {a b : Int} {q : Int × Int} {x : Int32} (h : bn (lim a b q).1 (lim a b q).2 x) : bn (lim a b FI).1 (lim a b FI).2 x := lim_F (bn_w h (lim_b a b q))
def lmt (j : Nat) : Int × Int := if j % 5 = 0 then (6, 6) else (8, 8)
theorem lmt_b (j : Nat) : 0 ≤ (lmt j).1 ∧ (lmt j).2 ≤ 8 := by
  unfold lmt; split <;> decide
def QIp (q : Nat → (Nat → Int32) → Prop) : Prop := ∀ (j : Nat) (g g2 : Nat → Int32), (∀ k, k < 24 → g k = g2 k) → q j g → q j g2
def WBp (w : Nat → Int × Int) (c : Int) : Prop := ∀ j, 0 ≤ (w j).1 ∧ (w j).2 ≤ c
def spC (rs : RS) (fc : Int × Int) (tc w : Nat → Int × Int) (q : Nat → (Nat → Int32) → Prop) : Nat → Nat → SP := fun k j => match k with
  | 0 => .inl (11, [RF 1 (0), RF 1 (1), RF 2 (0), RF 3 (0), RF 4 (0), RF 5 (0), RF 6 (0), RF 7 (0), RF 8 (0)])
  | 1 => .inl (10, [RF 40 (j), RF 41 (j), RF 42 (j), RF 10 ((31 * j)), RF 43 (j), RF 20 ((5 * j)), RF 20 (((5 * j) + 1)), RF 20 (((5 * j) + 2)), RF 20 (((5 * j) + 3)), RF 20 (((5 * j) + 4)), IN 0 6, .inl (tc j), IN (-2147483648) 2147483647, IN 0 29, IN 0 30])
  | 2 => .inl (5, [RF 50 (0), RF 51 (0), RF 52 (0), RF 53 (0), .inl (lim 0 300 (rs.2.1 4)), .inl (lim 0 301 (rs.2.1 5)), .inl (lim (-2147483648) 2147483647 (rs.2.1 6)), .inl (lim (-2147483648) 2147483647 (rs.2.1 7)), .inl (lim (-2147483648) 2147483647 (rs.2.1 8)), .inl (lim (-2147483648) 2147483647 (rs.2.1 9)), .inl (lim (-2147483648) 2147483647 (rs.2.1 10)), rs.1, .inl (lim (-2147483648) 2147483647 (rs.2.1 12)), .inl (lim (-2147483648) 2147483647 (rs.2.1 13))])
  | 3 => .inl (3, [RF 1 (0), RF 54 (0), IN (-2147483648) 2147483647])
  | 4 => .inl (6, [RF 1 (0), IN (-2147483648) 2147483647])
  | 5 => .inl (1, [RF 1 (0), RF 3 (0), RF 4 (0), RF 55 (0), IN 0 1])
  | 6 => .inl (2, [RF 1 (0), RF 3 (0), RF 5 (0), RF 10 (62)])
  | 7 => .inl (8, [RF 1 (0), RF 3 (0), RF 10 (62), RF 56 (0), RF 57 (0), RF 58 (0), RF 59 (0), IN 0 14, .inl fc, IN (-2147483648) 2147483647])
  | 8 => .inl (0, [RF 1 (0), RF 60 (0), RF 61 (0)])
  | 10 => .inl (4, [RF 11 (j), RF 12 (j), IN 0 14, IN 0 30, IN (-2147483648) 2147483647, IN (-2147483648) 2147483647, IN (-2147483648) 2147483647])
  | 11 => .inr (.inl (0, 98, fun _ => True))
  | 12 => .inr (.inl (0, 90, fun _ => True))
  | 20 => .inl (9, [RF 21 (j), .inl (lmt j), .inl (w j)])
  | 21 => .inr (.inl (0, 24, q j))
  | 30 => .inl (7, [RF 31 (j), RF 32 (j), RF 33 (j), RF 34 (j), RF 35 (j), .inl (lim 0 300 (rs.2.2.2 j).1), .inl (lim 0 24 (rs.2.2.2 j).2.1)])
  | 31 => .inr (.inl (0, 300, fun _ => True))
  | 32 => .inr (.inl (0, 300, fun _ => True))
  | 33 => .inr (.inl (0, 3, (rs.2.2.2 j).2.2.1))
  | 34 => .inr (.inl (0, 3, (rs.2.2.2 j).2.2.2))
  | 35 => .inr (.inl (0, 120, fun _ => True))
  | 40 => .inr (.inl (0, 6, fun _ => True))
  | 41 => .inr (.inl (0, 6, fun _ => True))
  | 42 => .inr (.inr (.inl (4, 4, 30, (4 * j))))
  | 43 => .inr (.inr (.inl (3, 30, 10, ((31 * j) + 1))))
  | 50 => .inr (.inl (0, 300, rs.2.2.1 50))
  | 51 => .inr (.inl (0, 301, rs.2.2.1 51))
  | 52 => .inr (.inl (0, 301, rs.2.2.1 52))
  | 53 => .inr (.inl (0, 301, rs.2.2.1 53))
  | 54 => .inr (.inl (0, 300, fun _ => True))
  | 55 => .inr (.inl (0, 14, fun _ => True))
  | 56 => .inr (.inl (0, 14, fun _ => True))
  | 57 => .inr (.inl (0, 14, fun _ => True))
  | 58 => .inr (.inl (0, 84, fun _ => True))
  | 59 => .inr (.inl (0, 6, fun _ => True))
  | 60 => .inr (.inl (0, 8, fun _ => True))
  | 61 => .inr (.inl (0, 6, fun _ => True))
  | _ => .inr (.inr (.inr 0))
def nnC : Nat → Nat := fun k => match k with
  | 0 => 1
  | 1 => 2
  | 2 => 1
  | 3 => 1
  | 4 => 1
  | 5 => 1
  | 6 => 1
  | 7 => 1
  | 8 => 1
  | 10 => 63
  | 11 => 63
  | 12 => 63
  | 20 => 10
  | 21 => 10
  | 30 => 8
  | 31 => 8
  | 32 => 8
  | 33 => 8
  | 34 => 8
  | 35 => 8
  | 40 => 2
  | 41 => 2
  | 42 => 2
  | 43 => 2
  | 50 => 1
  | 51 => 1
  | 52 => 1
  | 53 => 1
  | 54 => 1
  | 55 => 1
  | 56 => 1
  | 57 => 1
  | 58 => 1
  | 59 => 1
  | 60 => 1
  | 61 => 1
  | _ => 0
section OPN
variable {G : GG} {L : List Nat} {f : HF} {ad : Nat → Nat → Nat} {rs : RS} {fa : Nat → Int × Int} {ft : Nat → (Nat → Int32) → Prop} {sc : Nat → SG} {fc : Int × Int} {tc w : Nat → Int × Int} {q : Nat → (Nat → Int32) → Prop} {j t : Nat}
theorem opnC_0 (I : SH (spC rs fc tc w q) nnC G ad L f) (hj : j < 1) : pt L f (ad 0 j) (.inr (11, [.ref (ad 1 (0)), .ref (ad 1 (1)), .ref (ad 2 (0)), .ref (ad 3 (0)), .ref (ad 4 (0)), .ref (ad 5 (0)), .ref (ad 6 (0)), .ref (ad 7 (0)), .ref (ad 8 (0))])) := by
  obtain ⟨vs, p, h0⟩ := I.opo (k := 0) (j := j) hj rfl
  obtain ⟨_, vt0, rfl, a0, h1⟩ := okFs_c' h0
  obtain rfl := okV_r' a0
  obtain ⟨_, vt1, rfl, a1, h2⟩ := okFs_c' h1
  obtain rfl := okV_r' a1
  obtain ⟨_, vt2, rfl, a2, h3⟩ := okFs_c' h2
  obtain rfl := okV_r' a2
  obtain ⟨_, vt3, rfl, a3, h4⟩ := okFs_c' h3
  obtain rfl := okV_r' a3
  obtain ⟨_, vt4, rfl, a4, h5⟩ := okFs_c' h4
  obtain rfl := okV_r' a4
  obtain ⟨_, vt5, rfl, a5, h6⟩ := okFs_c' h5
  obtain rfl := okV_r' a5
  obtain ⟨_, vt6, rfl, a6, h7⟩ := okFs_c' h6
  obtain rfl := okV_r' a6
  obtain ⟨_, vt7, rfl, a7, h8⟩ := okFs_c' h7
  obtain rfl := okV_r' a7
  obtain ⟨_, vt8, rfl, a8, h9⟩ := okFs_c' h8
  obtain rfl := okV_r' a8
  obtain rfl := okFs_n' h9
  exact p
theorem opnC_1 (I : SH (spC rs fc tc w q) nnC G ad L f) (hj : j < 2) : ∃ x10 : Int32, ∃ x11 : Int32, ∃ x12 : Int32, ∃ x13 : Int32, ∃ x14 : Int32, pt L f (ad 1 j) (.inr (10, [.ref (ad 40 (j)), .ref (ad 41 (j)), .ref (ad 42 (j)), .ref (ad 10 ((31 * j))), .ref (ad 43 (j)), .ref (ad 20 ((5 * j))), .ref (ad 20 (((5 * j) + 1))), .ref (ad 20 (((5 * j) + 2))), .ref (ad 20 (((5 * j) + 3))), .ref (ad 20 (((5 * j) + 4))), .int x10, .int x11, .int x12, .int x13, .int x14])) ∧ bn 0 6 x10 ∧ bn (tc j).1 (tc j).2 x11 ∧ bn (-2147483648) 2147483647 x12 ∧ bn 0 29 x13 ∧ bn 0 30 x14 := by
  obtain ⟨vs, p, h0⟩ := I.opo (k := 1) (j := j) hj rfl
  obtain ⟨_, vt0, rfl, a0, h1⟩ := okFs_c' h0
  obtain rfl := okV_r' a0
  obtain ⟨_, vt1, rfl, a1, h2⟩ := okFs_c' h1
  obtain rfl := okV_r' a1
  obtain ⟨_, vt2, rfl, a2, h3⟩ := okFs_c' h2
  obtain rfl := okV_r' a2
  obtain ⟨_, vt3, rfl, a3, h4⟩ := okFs_c' h3
  obtain rfl := okV_r' a3
  obtain ⟨_, vt4, rfl, a4, h5⟩ := okFs_c' h4
  obtain rfl := okV_r' a4
  obtain ⟨_, vt5, rfl, a5, h6⟩ := okFs_c' h5
  obtain rfl := okV_r' a5
  obtain ⟨_, vt6, rfl, a6, h7⟩ := okFs_c' h6
  obtain rfl := okV_r' a6
  obtain ⟨_, vt7, rfl, a7, h8⟩ := okFs_c' h7
  obtain rfl := okV_r' a7
  obtain ⟨_, vt8, rfl, a8, h9⟩ := okFs_c' h8
  obtain rfl := okV_r' a8
  obtain ⟨_, vt9, rfl, a9, h10⟩ := okFs_c' h9
  obtain rfl := okV_r' a9
  obtain ⟨_, vt10, rfl, a10, h11⟩ := okFs_c' h10
  obtain ⟨x10, rfl, b10⟩ := okV_i' a10
  obtain ⟨_, vt11, rfl, a11, h12⟩ := okFs_c' h11
  obtain ⟨x11, rfl, b11⟩ := okV_p' a11
  obtain ⟨_, vt12, rfl, a12, h13⟩ := okFs_c' h12
  obtain ⟨x12, rfl, b12⟩ := okV_i' a12
  obtain ⟨_, vt13, rfl, a13, h14⟩ := okFs_c' h13
  obtain ⟨x13, rfl, b13⟩ := okV_i' a13
  obtain ⟨_, vt14, rfl, a14, h15⟩ := okFs_c' h14
  obtain ⟨x14, rfl, b14⟩ := okV_i' a14
  obtain rfl := okFs_n' h15
  exact ⟨x10, x11, x12, x13, x14, p, b10, b11, b12, b13, b14⟩
theorem opnC_2 (I : SH (spC rs fc tc w q) nnC G ad L f) (hj : j < 1) : ∃ x4 : Int32, ∃ x5 : Int32, ∃ x6 : Int32, ∃ x7 : Int32, ∃ x8 : Int32, ∃ x9 : Int32, ∃ x10 : Int32, ∃ x11 : Value, ∃ x12 : Int32, ∃ x13 : Int32, pt L f (ad 2 j) (.inr (5, [.ref (ad 50 (0)), .ref (ad 51 (0)), .ref (ad 52 (0)), .ref (ad 53 (0)), .int x4, .int x5, .int x6, .int x7, .int x8, .int x9, .int x10, x11, .int x12, .int x13])) ∧ bn (lim 0 300 (rs.2.1 4)).1 (lim 0 300 (rs.2.1 4)).2 x4 ∧ bn (lim 0 301 (rs.2.1 5)).1 (lim 0 301 (rs.2.1 5)).2 x5 ∧ bn (lim (-2147483648) 2147483647 (rs.2.1 6)).1 (lim (-2147483648) 2147483647 (rs.2.1 6)).2 x6 ∧ bn (lim (-2147483648) 2147483647 (rs.2.1 7)).1 (lim (-2147483648) 2147483647 (rs.2.1 7)).2 x7 ∧ bn (lim (-2147483648) 2147483647 (rs.2.1 8)).1 (lim (-2147483648) 2147483647 (rs.2.1 8)).2 x8 ∧ bn (lim (-2147483648) 2147483647 (rs.2.1 9)).1 (lim (-2147483648) 2147483647 (rs.2.1 9)).2 x9 ∧ bn (lim (-2147483648) 2147483647 (rs.2.1 10)).1 (lim (-2147483648) 2147483647 (rs.2.1 10)).2 x10 ∧ okV ad rs.1 x11 ∧ bn (lim (-2147483648) 2147483647 (rs.2.1 12)).1 (lim (-2147483648) 2147483647 (rs.2.1 12)).2 x12 ∧ bn (lim (-2147483648) 2147483647 (rs.2.1 13)).1 (lim (-2147483648) 2147483647 (rs.2.1 13)).2 x13 := by
  obtain ⟨vs, p, h0⟩ := I.opo (k := 2) (j := j) hj rfl
  obtain ⟨_, vt0, rfl, a0, h1⟩ := okFs_c' h0
  obtain rfl := okV_r' a0
  obtain ⟨_, vt1, rfl, a1, h2⟩ := okFs_c' h1
  obtain rfl := okV_r' a1
  obtain ⟨_, vt2, rfl, a2, h3⟩ := okFs_c' h2
  obtain rfl := okV_r' a2
  obtain ⟨_, vt3, rfl, a3, h4⟩ := okFs_c' h3
  obtain rfl := okV_r' a3
  obtain ⟨_, vt4, rfl, a4, h5⟩ := okFs_c' h4
  obtain ⟨x4, rfl, b4⟩ := okV_p' a4
  obtain ⟨_, vt5, rfl, a5, h6⟩ := okFs_c' h5
  obtain ⟨x5, rfl, b5⟩ := okV_p' a5
  obtain ⟨_, vt6, rfl, a6, h7⟩ := okFs_c' h6
  obtain ⟨x6, rfl, b6⟩ := okV_p' a6
  obtain ⟨_, vt7, rfl, a7, h8⟩ := okFs_c' h7
  obtain ⟨x7, rfl, b7⟩ := okV_p' a7
  obtain ⟨_, vt8, rfl, a8, h9⟩ := okFs_c' h8
  obtain ⟨x8, rfl, b8⟩ := okV_p' a8
  obtain ⟨_, vt9, rfl, a9, h10⟩ := okFs_c' h9
  obtain ⟨x9, rfl, b9⟩ := okV_p' a9
  obtain ⟨_, vt10, rfl, a10, h11⟩ := okFs_c' h10
  obtain ⟨x10, rfl, b10⟩ := okV_p' a10
  obtain ⟨x11, vt11, rfl, b11, h12⟩ := okFs_c' h11
  obtain ⟨_, vt12, rfl, a12, h13⟩ := okFs_c' h12
  obtain ⟨x12, rfl, b12⟩ := okV_p' a12
  obtain ⟨_, vt13, rfl, a13, h14⟩ := okFs_c' h13
  obtain ⟨x13, rfl, b13⟩ := okV_p' a13
  obtain rfl := okFs_n' h14
  exact ⟨x4, x5, x6, x7, x8, x9, x10, x11, x12, x13, p, b4, b5, b6, b7, b8, b9, b10, b11, b12, b13⟩
theorem opnC_2r (I : SH (spC ((RF 30 t, fa, ft, sc) : RS) fc tc w q) nnC G ad L f) (hj : j < 1) : ∃ x4 : Int32, ∃ x5 : Int32, ∃ x6 : Int32, ∃ x7 : Int32, ∃ x8 : Int32, ∃ x9 : Int32, ∃ x10 : Int32, ∃ x12 : Int32, ∃ x13 : Int32, pt L f (ad 2 j) (.inr (5, [.ref (ad 50 (0)), .ref (ad 51 (0)), .ref (ad 52 (0)), .ref (ad 53 (0)), .int x4, .int x5, .int x6, .int x7, .int x8, .int x9, .int x10, .ref (ad 30 (t)), .int x12, .int x13])) ∧ bn (lim 0 300 (fa 4)).1 (lim 0 300 (fa 4)).2 x4 ∧ bn (lim 0 301 (fa 5)).1 (lim 0 301 (fa 5)).2 x5 ∧ bn (lim (-2147483648) 2147483647 (fa 6)).1 (lim (-2147483648) 2147483647 (fa 6)).2 x6 ∧ bn (lim (-2147483648) 2147483647 (fa 7)).1 (lim (-2147483648) 2147483647 (fa 7)).2 x7 ∧ bn (lim (-2147483648) 2147483647 (fa 8)).1 (lim (-2147483648) 2147483647 (fa 8)).2 x8 ∧ bn (lim (-2147483648) 2147483647 (fa 9)).1 (lim (-2147483648) 2147483647 (fa 9)).2 x9 ∧ bn (lim (-2147483648) 2147483647 (fa 10)).1 (lim (-2147483648) 2147483647 (fa 10)).2 x10 ∧ bn (lim (-2147483648) 2147483647 (fa 12)).1 (lim (-2147483648) 2147483647 (fa 12)).2 x12 ∧ bn (lim (-2147483648) 2147483647 (fa 13)).1 (lim (-2147483648) 2147483647 (fa 13)).2 x13 := by
  obtain ⟨vs, p, h0⟩ := I.opo (k := 2) (j := j) hj rfl
  obtain ⟨_, vt0, rfl, a0, h1⟩ := okFs_c' h0
  obtain rfl := okV_r' a0
  obtain ⟨_, vt1, rfl, a1, h2⟩ := okFs_c' h1
  obtain rfl := okV_r' a1
  obtain ⟨_, vt2, rfl, a2, h3⟩ := okFs_c' h2
  obtain rfl := okV_r' a2
  obtain ⟨_, vt3, rfl, a3, h4⟩ := okFs_c' h3
  obtain rfl := okV_r' a3
  obtain ⟨_, vt4, rfl, a4, h5⟩ := okFs_c' h4
  obtain ⟨x4, rfl, b4⟩ := okV_p' a4
  obtain ⟨_, vt5, rfl, a5, h6⟩ := okFs_c' h5
  obtain ⟨x5, rfl, b5⟩ := okV_p' a5
  obtain ⟨_, vt6, rfl, a6, h7⟩ := okFs_c' h6
  obtain ⟨x6, rfl, b6⟩ := okV_p' a6
  obtain ⟨_, vt7, rfl, a7, h8⟩ := okFs_c' h7
  obtain ⟨x7, rfl, b7⟩ := okV_p' a7
  obtain ⟨_, vt8, rfl, a8, h9⟩ := okFs_c' h8
  obtain ⟨x8, rfl, b8⟩ := okV_p' a8
  obtain ⟨_, vt9, rfl, a9, h10⟩ := okFs_c' h9
  obtain ⟨x9, rfl, b9⟩ := okV_p' a9
  obtain ⟨_, vt10, rfl, a10, h11⟩ := okFs_c' h10
  obtain ⟨x10, rfl, b10⟩ := okV_p' a10
  obtain ⟨_, vt11, rfl, a11, h12⟩ := okFs_c' h11
  obtain rfl := okV_r' a11
  obtain ⟨_, vt12, rfl, a12, h13⟩ := okFs_c' h12
  obtain ⟨x12, rfl, b12⟩ := okV_p' a12
  obtain ⟨_, vt13, rfl, a13, h14⟩ := okFs_c' h13
  obtain ⟨x13, rfl, b13⟩ := okV_p' a13
  obtain rfl := okFs_n' h14
  exact ⟨x4, x5, x6, x7, x8, x9, x10, x12, x13, p, b4, b5, b6, b7, b8, b9, b10, b12, b13⟩
theorem opnC_3 (I : SH (spC rs fc tc w q) nnC G ad L f) (hj : j < 1) : ∃ x2 : Int32, pt L f (ad 3 j) (.inr (3, [.ref (ad 1 (0)), .ref (ad 54 (0)), .int x2])) ∧ bn (-2147483648) 2147483647 x2 := by
  obtain ⟨vs, p, h0⟩ := I.opo (k := 3) (j := j) hj rfl
  obtain ⟨_, vt0, rfl, a0, h1⟩ := okFs_c' h0
  obtain rfl := okV_r' a0
  obtain ⟨_, vt1, rfl, a1, h2⟩ := okFs_c' h1
  obtain rfl := okV_r' a1
  obtain ⟨_, vt2, rfl, a2, h3⟩ := okFs_c' h2
  obtain ⟨x2, rfl, b2⟩ := okV_i' a2
  obtain rfl := okFs_n' h3
  exact ⟨x2, p, b2⟩
theorem opnC_4 (I : SH (spC rs fc tc w q) nnC G ad L f) (hj : j < 1) : ∃ x1 : Int32, pt L f (ad 4 j) (.inr (6, [.ref (ad 1 (0)), .int x1])) ∧ bn (-2147483648) 2147483647 x1 := by
  obtain ⟨vs, p, h0⟩ := I.opo (k := 4) (j := j) hj rfl
  obtain ⟨_, vt0, rfl, a0, h1⟩ := okFs_c' h0
  obtain rfl := okV_r' a0
  obtain ⟨_, vt1, rfl, a1, h2⟩ := okFs_c' h1
  obtain ⟨x1, rfl, b1⟩ := okV_i' a1
  obtain rfl := okFs_n' h2
  exact ⟨x1, p, b1⟩
theorem opnC_5 (I : SH (spC rs fc tc w q) nnC G ad L f) (hj : j < 1) : ∃ x4 : Int32, pt L f (ad 5 j) (.inr (1, [.ref (ad 1 (0)), .ref (ad 3 (0)), .ref (ad 4 (0)), .ref (ad 55 (0)), .int x4])) ∧ bn 0 1 x4 := by
  obtain ⟨vs, p, h0⟩ := I.opo (k := 5) (j := j) hj rfl
  obtain ⟨_, vt0, rfl, a0, h1⟩ := okFs_c' h0
  obtain rfl := okV_r' a0
  obtain ⟨_, vt1, rfl, a1, h2⟩ := okFs_c' h1
  obtain rfl := okV_r' a1
  obtain ⟨_, vt2, rfl, a2, h3⟩ := okFs_c' h2
  obtain rfl := okV_r' a2
  obtain ⟨_, vt3, rfl, a3, h4⟩ := okFs_c' h3
  obtain rfl := okV_r' a3
  obtain ⟨_, vt4, rfl, a4, h5⟩ := okFs_c' h4
  obtain ⟨x4, rfl, b4⟩ := okV_i' a4
  obtain rfl := okFs_n' h5
  exact ⟨x4, p, b4⟩
theorem opnC_6 (I : SH (spC rs fc tc w q) nnC G ad L f) (hj : j < 1) : pt L f (ad 6 j) (.inr (2, [.ref (ad 1 (0)), .ref (ad 3 (0)), .ref (ad 5 (0)), .ref (ad 10 (62))])) := by
  obtain ⟨vs, p, h0⟩ := I.opo (k := 6) (j := j) hj rfl
  obtain ⟨_, vt0, rfl, a0, h1⟩ := okFs_c' h0
  obtain rfl := okV_r' a0
  obtain ⟨_, vt1, rfl, a1, h2⟩ := okFs_c' h1
  obtain rfl := okV_r' a1
  obtain ⟨_, vt2, rfl, a2, h3⟩ := okFs_c' h2
  obtain rfl := okV_r' a2
  obtain ⟨_, vt3, rfl, a3, h4⟩ := okFs_c' h3
  obtain rfl := okV_r' a3
  obtain rfl := okFs_n' h4
  exact p
theorem opnC_7 (I : SH (spC rs fc tc w q) nnC G ad L f) (hj : j < 1) : ∃ x7 : Int32, ∃ x8 : Int32, ∃ x9 : Int32, pt L f (ad 7 j) (.inr (8, [.ref (ad 1 (0)), .ref (ad 3 (0)), .ref (ad 10 (62)), .ref (ad 56 (0)), .ref (ad 57 (0)), .ref (ad 58 (0)), .ref (ad 59 (0)), .int x7, .int x8, .int x9])) ∧ bn 0 14 x7 ∧ bn fc.1 fc.2 x8 ∧ bn (-2147483648) 2147483647 x9 := by
  obtain ⟨vs, p, h0⟩ := I.opo (k := 7) (j := j) hj rfl
  obtain ⟨_, vt0, rfl, a0, h1⟩ := okFs_c' h0
  obtain rfl := okV_r' a0
  obtain ⟨_, vt1, rfl, a1, h2⟩ := okFs_c' h1
  obtain rfl := okV_r' a1
  obtain ⟨_, vt2, rfl, a2, h3⟩ := okFs_c' h2
  obtain rfl := okV_r' a2
  obtain ⟨_, vt3, rfl, a3, h4⟩ := okFs_c' h3
  obtain rfl := okV_r' a3
  obtain ⟨_, vt4, rfl, a4, h5⟩ := okFs_c' h4
  obtain rfl := okV_r' a4
  obtain ⟨_, vt5, rfl, a5, h6⟩ := okFs_c' h5
  obtain rfl := okV_r' a5
  obtain ⟨_, vt6, rfl, a6, h7⟩ := okFs_c' h6
  obtain rfl := okV_r' a6
  obtain ⟨_, vt7, rfl, a7, h8⟩ := okFs_c' h7
  obtain ⟨x7, rfl, b7⟩ := okV_i' a7
  obtain ⟨_, vt8, rfl, a8, h9⟩ := okFs_c' h8
  obtain ⟨x8, rfl, b8⟩ := okV_p' a8
  obtain ⟨_, vt9, rfl, a9, h10⟩ := okFs_c' h9
  obtain ⟨x9, rfl, b9⟩ := okV_i' a9
  obtain rfl := okFs_n' h10
  exact ⟨x7, x8, x9, p, b7, b8, b9⟩
theorem opnC_8 (I : SH (spC rs fc tc w q) nnC G ad L f) (hj : j < 1) : pt L f (ad 8 j) (.inr (0, [.ref (ad 1 (0)), .ref (ad 60 (0)), .ref (ad 61 (0))])) := by
  obtain ⟨vs, p, h0⟩ := I.opo (k := 8) (j := j) hj rfl
  obtain ⟨_, vt0, rfl, a0, h1⟩ := okFs_c' h0
  obtain rfl := okV_r' a0
  obtain ⟨_, vt1, rfl, a1, h2⟩ := okFs_c' h1
  obtain rfl := okV_r' a1
  obtain ⟨_, vt2, rfl, a2, h3⟩ := okFs_c' h2
  obtain rfl := okV_r' a2
  obtain rfl := okFs_n' h3
  exact p
theorem opnC_10 (I : SH (spC rs fc tc w q) nnC G ad L f) (hj : j < 63) : ∃ x2 : Int32, ∃ x3 : Int32, ∃ x4 : Int32, ∃ x5 : Int32, ∃ x6 : Int32, pt L f (ad 10 j) (.inr (4, [.ref (ad 11 (j)), .ref (ad 12 (j)), .int x2, .int x3, .int x4, .int x5, .int x6])) ∧ bn 0 14 x2 ∧ bn 0 30 x3 ∧ bn (-2147483648) 2147483647 x4 ∧ bn (-2147483648) 2147483647 x5 ∧ bn (-2147483648) 2147483647 x6 := by
  obtain ⟨vs, p, h0⟩ := I.opo (k := 10) (j := j) hj rfl
  obtain ⟨_, vt0, rfl, a0, h1⟩ := okFs_c' h0
  obtain rfl := okV_r' a0
  obtain ⟨_, vt1, rfl, a1, h2⟩ := okFs_c' h1
  obtain rfl := okV_r' a1
  obtain ⟨_, vt2, rfl, a2, h3⟩ := okFs_c' h2
  obtain ⟨x2, rfl, b2⟩ := okV_i' a2
  obtain ⟨_, vt3, rfl, a3, h4⟩ := okFs_c' h3
  obtain ⟨x3, rfl, b3⟩ := okV_i' a3
  obtain ⟨_, vt4, rfl, a4, h5⟩ := okFs_c' h4
  obtain ⟨x4, rfl, b4⟩ := okV_i' a4
  obtain ⟨_, vt5, rfl, a5, h6⟩ := okFs_c' h5
  obtain ⟨x5, rfl, b5⟩ := okV_i' a5
  obtain ⟨_, vt6, rfl, a6, h7⟩ := okFs_c' h6
  obtain ⟨x6, rfl, b6⟩ := okV_i' a6
  obtain rfl := okFs_n' h7
  exact ⟨x2, x3, x4, x5, x6, p, b2, b3, b4, b5, b6⟩
theorem opnC_20 (I : SH (spC rs fc tc w q) nnC G ad L f) (hj : j < 10) : ∃ x1 : Int32, ∃ x2 : Int32, pt L f (ad 20 j) (.inr (9, [.ref (ad 21 (j)), .int x1, .int x2])) ∧ bn (lmt j).1 (lmt j).2 x1 ∧ bn (w j).1 (w j).2 x2 := by
  obtain ⟨vs, p, h0⟩ := I.opo (k := 20) (j := j) hj rfl
  obtain ⟨_, vt0, rfl, a0, h1⟩ := okFs_c' h0
  obtain rfl := okV_r' a0
  obtain ⟨_, vt1, rfl, a1, h2⟩ := okFs_c' h1
  obtain ⟨x1, rfl, b1⟩ := okV_p' a1
  obtain ⟨_, vt2, rfl, a2, h3⟩ := okFs_c' h2
  obtain ⟨x2, rfl, b2⟩ := okV_p' a2
  obtain rfl := okFs_n' h3
  exact ⟨x1, x2, p, b1, b2⟩
theorem opnC_30 (I : SH (spC rs fc tc w q) nnC G ad L f) (hj : j < 8) : ∃ x5 : Int32, ∃ x6 : Int32, pt L f (ad 30 j) (.inr (7, [.ref (ad 31 (j)), .ref (ad 32 (j)), .ref (ad 33 (j)), .ref (ad 34 (j)), .ref (ad 35 (j)), .int x5, .int x6])) ∧ bn (lim 0 300 (rs.2.2.2 j).1).1 (lim 0 300 (rs.2.2.2 j).1).2 x5 ∧ bn (lim 0 24 (rs.2.2.2 j).2.1).1 (lim 0 24 (rs.2.2.2 j).2.1).2 x6 := by
  obtain ⟨vs, p, h0⟩ := I.opo (k := 30) (j := j) hj rfl
  obtain ⟨_, vt0, rfl, a0, h1⟩ := okFs_c' h0
  obtain rfl := okV_r' a0
  obtain ⟨_, vt1, rfl, a1, h2⟩ := okFs_c' h1
  obtain rfl := okV_r' a1
  obtain ⟨_, vt2, rfl, a2, h3⟩ := okFs_c' h2
  obtain rfl := okV_r' a2
  obtain ⟨_, vt3, rfl, a3, h4⟩ := okFs_c' h3
  obtain rfl := okV_r' a3
  obtain ⟨_, vt4, rfl, a4, h5⟩ := okFs_c' h4
  obtain rfl := okV_r' a4
  obtain ⟨_, vt5, rfl, a5, h6⟩ := okFs_c' h5
  obtain ⟨x5, rfl, b5⟩ := okV_p' a5
  obtain ⟨_, vt6, rfl, a6, h7⟩ := okFs_c' h6
  obtain ⟨x6, rfl, b6⟩ := okV_p' a6
  obtain rfl := okFs_n' h7
  exact ⟨x5, x6, p, b5, b6⟩
theorem rsC {r r' : FS} {fa' : Nat → Int × Int} : ∀ a b, b < nnC a → (a ≠ 2 ∨ b ≠ 0) → spC ((r', fa', ft, sc) : RS) fc tc w q a b = spC ((r, fa, ft, sc) : RS) fc tc w q a b := by
  intro a b hb h
  by_cases z : a = 2
  · subst z
    have hb : b < 1 := hb
    exact absurd h (by omega)
  · unfold spC; split <;> first | rfl | exact absurd rfl z
theorem fcC {fc' : Int × Int} : ∀ a b, b < nnC a → (a ≠ 7 ∨ b ≠ 0) → spC rs fc' tc w q a b = spC rs fc tc w q a b := by
  intro a b hb h
  by_cases z : a = 7
  · subst z
    have hb : b < 1 := hb
    exact absurd h (by omega)
  · unfold spC; split <;> first | rfl | exact absurd rfl z
def stf {α : Type} (g : Nat → α) (j : Nat) (v : α) : Nat → α := fun k => if k = j then v else g k
theorem stf_s {α : Type} {g : Nat → α} {j : Nat} {v : α} : stf g j v j = v := if_pos rfl
theorem stf_n {α : Type} {g : Nat → α} {j k : Nat} {v : α} (h : k ≠ j) : stf g j v k = g k := if_neg h
theorem tcC {v : Int × Int} : ∀ a b, b < nnC a → (a ≠ 1 ∨ b ≠ j) → spC rs fc (stf tc j v) w q a b = spC rs fc tc w q a b := by
  intro a b hb h
  by_cases z : a = 1
  · subst z
    have hj : b ≠ j := by rcases h with h | h; exact absurd rfl h; exact h
    unfold spC; rw [stf_n hj]
  · unfold spC; split <;> first | rfl | exact absurd rfl z
theorem wC {v : Int × Int} : ∀ a b, b < nnC a → (a ≠ 20 ∨ b ≠ j) → spC rs fc tc (stf w j v) q a b = spC rs fc tc w q a b := by
  intro a b hb h
  by_cases z : a = 20
  · subst z
    have hj : b ≠ j := by rcases h with h | h; exact absurd rfl h; exact h
    unfold spC; rw [stf_n hj]
  · unfold spC; split <;> first | rfl | exact absurd rfl z
theorem qC {v : (Nat → Int32) → Prop} : ∀ a b, b < nnC a → (a ≠ 21 ∨ b ≠ j) → spC rs fc tc w (stf q j v) a b = spC rs fc tc w q a b := by
  intro a b hb h
  by_cases z : a = 21
  · subst z
    have hj : b ≠ j := by rcases h with h | h; exact absurd rfl h; exact h
    unfold spC; rw [stf_n hj]
  · unfold spC; split <;> first | rfl | exact absurd rfl z
theorem tz50C {r : FS} {t0 t0' t1 t2 t3 : (Nat → Int32) → Prop} : ∀ a b, b < nnC a → (a ≠ 50 ∨ b ≠ 0) → spC ((r, fa, tz t0' t1 t2 t3, sc) : RS) fc tc w q a b = spC ((r, fa, tz t0 t1 t2 t3, sc) : RS) fc tc w q a b := by
  intro a b hb h
  by_cases z : a = 50
  · subst z
    have hb : b < 1 := hb
    exact absurd h (by omega)
  · unfold spC; split <;> first | rfl | exact absurd rfl z
theorem tz51C {r : FS} {t0 t1 t1' t2 t3 : (Nat → Int32) → Prop} : ∀ a b, b < nnC a → (a ≠ 51 ∨ b ≠ 0) → spC ((r, fa, tz t0 t1' t2 t3, sc) : RS) fc tc w q a b = spC ((r, fa, tz t0 t1 t2 t3, sc) : RS) fc tc w q a b := by
  intro a b hb h
  by_cases z : a = 51
  · subst z
    have hb : b < 1 := hb
    exact absurd h (by omega)
  · unfold spC; split <;> first | rfl | exact absurd rfl z
theorem tz52C {r : FS} {t0 t1 t2 t2' t3 : (Nat → Int32) → Prop} : ∀ a b, b < nnC a → (a ≠ 52 ∨ b ≠ 0) → spC ((r, fa, tz t0 t1 t2' t3, sc) : RS) fc tc w q a b = spC ((r, fa, tz t0 t1 t2 t3, sc) : RS) fc tc w q a b := by
  intro a b hb h
  by_cases z : a = 52
  · subst z
    have hb : b < 1 := hb
    exact absurd h (by omega)
  · unfold spC; split <;> first | rfl | exact absurd rfl z
theorem tz53C {r : FS} {t0 t1 t2 t3 t3' : (Nat → Int32) → Prop} : ∀ a b, b < nnC a → (a ≠ 53 ∨ b ≠ 0) → spC ((r, fa, tz t0 t1 t2 t3', sc) : RS) fc tc w q a b = spC ((r, fa, tz t0 t1 t2 t3, sc) : RS) fc tc w q a b := by
  intro a b hb h
  by_cases z : a = 53
  · subst z
    have hb : b < 1 := hb
    exact absurd h (by omega)
  · unfold spC; split <;> first | rfl | exact absurd rfl z
/-- a script's ghost: its length and its count of clauses -/
theorem sc30C {r : FS} {s' : SG} (h' : s'.2.2 = (sc j).2.2) : ∀ a b, b < nnC a → (a ≠ 30 ∨ b ≠ j) → spC ((r, fa, ft, stf sc j s') : RS) fc tc w q a b = spC ((r, fa, ft, sc) : RS) fc tc w q a b := by
  intro a b hb h
  have e1 : (stf sc j s' b).2.2 = (sc b).2.2 := by
    by_cases y : b = j
    · subst y; rw [stf_s]; exact h'
    · rw [stf_n y]
  by_cases z : a = 30
  · subst z
    have y : b ≠ j := by rcases h with h | h; exact absurd rfl h; exact h
    exact congrArg (fun z : SG => (Sum.inl (7, [RF 31 b, RF 32 b, RF 33 b, RF 34 b, RF 35 b, .inl (lim 0 300 z.1), .inl (lim 0 24 z.2.1)]) : SP)) (stf_n (g := sc) (v := s') y)
  · unfold spC; split <;> first | rfl | exact absurd rfl z | exact congrArg (fun p => Sum.inr (Sum.inl (0, 3, p.1))) e1 | exact congrArg (fun p => Sum.inr (Sum.inl (0, 3, p.2))) e1
theorem sc33C {r : FS} {s' : SG} (h1 : s'.1 = (sc j).1) (h2 : s'.2.1 = (sc j).2.1) (h3 : s'.2.2.2 = (sc j).2.2.2) : ∀ a b, b < nnC a → (a ≠ 33 ∨ b ≠ j) → spC ((r, fa, ft, stf sc j s') : RS) fc tc w q a b = spC ((r, fa, ft, sc) : RS) fc tc w q a b := by
  intro a b hb h
  have e1 : (stf sc j s' b).1 = (sc b).1 ∧ (stf sc j s' b).2.1 = (sc b).2.1 ∧ (stf sc j s' b).2.2.2 = (sc b).2.2.2 := by
    by_cases y : b = j
    · subst y; rw [stf_s]; exact ⟨h1, h2, h3⟩
    · rw [stf_n y]; exact ⟨rfl, rfl, rfl⟩
  obtain ⟨e1, e2, e3⟩ := e1
  by_cases z : a = 33
  · subst z
    have y : b ≠ j := by rcases h with h | h; exact absurd rfl h; exact h
    exact congrArg (fun z : SG => (Sum.inr (Sum.inl (0, 3, z.2.2.1)) : SP)) (stf_n (g := sc) (v := s') y)
  · unfold spC; split <;> first | rfl | exact absurd rfl z | (show _ = _; simp only [e1, e2, e3]) | exact congrArg (fun p => Sum.inr (Sum.inl (0, 3, p))) e3
theorem sc34C {r : FS} {s' : SG} (h1 : s'.1 = (sc j).1) (h2 : s'.2.1 = (sc j).2.1) (h3 : s'.2.2.1 = (sc j).2.2.1) : ∀ a b, b < nnC a → (a ≠ 34 ∨ b ≠ j) → spC ((r, fa, ft, stf sc j s') : RS) fc tc w q a b = spC ((r, fa, ft, sc) : RS) fc tc w q a b := by
  intro a b hb h
  have e1 : (stf sc j s' b).1 = (sc b).1 ∧ (stf sc j s' b).2.1 = (sc b).2.1 ∧ (stf sc j s' b).2.2.1 = (sc b).2.2.1 := by
    by_cases y : b = j
    · subst y; rw [stf_s]; exact ⟨h1, h2, h3⟩
    · rw [stf_n y]; exact ⟨rfl, rfl, rfl⟩
  obtain ⟨e1, e2, e3⟩ := e1
  by_cases z : a = 34
  · subst z
    have y : b ≠ j := by rcases h with h | h; exact absurd rfl h; exact h
    exact congrArg (fun z : SG => (Sum.inr (Sum.inl (0, 3, z.2.2.2)) : SP)) (stf_n (g := sc) (v := s') y)
  · unfold spC; split <;> first | rfl | exact absurd rfl z | (show _ = _; simp only [e1, e2, e3]) | exact congrArg (fun p => Sum.inr (Sum.inl (0, 3, p))) e3
theorem lim_st1 {s' : SG} {lo hi : Int} {x : Int32} (h : bn (lim lo hi s'.1).1 (lim lo hi s'.1).2 x) : bn (lim lo hi (stf sc j s' j).1).1 (lim lo hi (stf sc j s' j).1).2 x := by rw [stf_s]; exact h
theorem lim_st2 {s' : SG} {lo hi : Int} {x : Int32} (h : bn (lim lo hi s'.2.1).1 (lim lo hi s'.2.1).2 x) : bn (lim lo hi (stf sc j s' j).2.1).1 (lim lo hi (stf sc j s' j).2.1).2 x := by rw [stf_s]; exact h
theorem lim_rw1 {s1 s' : SG} {lo hi : Int} {x : Int32} (h : bn (lim lo hi s1.1).1 (lim lo hi s1.1).2 x) (e : s1 = s') : bn (lim lo hi s'.1).1 (lim lo hi s'.1).2 x := by subst e; exact h
theorem lim_rw2 {s1 s' : SG} {lo hi : Int} {x : Int32} (h : bn (lim lo hi s1.2.1).1 (lim lo hi s1.2.1).2 x) (e : s1 = s') : bn (lim lo hi s'.2.1).1 (lim lo hi s'.2.1).2 x := by subst e; exact h
theorem rswC (I : SH (spC ((RF 30 t, fa, ft, sc) : RS) fc tc w q) nnC G ad L f) (ht : t < 4) : SH (spC ((NR 30 0 4, fa, ft, sc) : RS) fc tc w q) nnC G ad L f := by
  obtain ⟨x4, x5, x6, x7, x8, x9, x10, x12, x13, p, b4, b5, b6, b7, b8, b9, b10, b12, b13⟩ := opnC_2r (j := 0) I (by decide)
  refine I.castS (k := 2) (j := 0) (by decide) p ?_ rsC
  have e : ad 30 t = ad 30 (0 + t) := by rw [Nat.zero_add]
  rw [e]
  exact okE_o (okFs_c okV_r (okFs_c okV_r (okFs_c okV_r (okFs_c okV_r (okFs_c (okV_p b4) (okFs_c (okV_p b5) (okFs_c (okV_p b6) (okFs_c (okV_p b7) (okFs_c (okV_p b8) (okFs_c (okV_p b9) (okFs_c (okV_p b10) (okFs_c (okV_nr ht) (okFs_c (okV_p b12) (okFs_c (okV_p b13) okFs_n))))))))))))))
/-- out of the reading: what is of no use any more is anything -/
theorem rdOut {r : FS} {zL zC zR zK zP zV zW zF zQ : Int × Int} {t0 t1 t2 t3 : (Nat → Int32) → Prop} (I : SH (spC ((r, fz zL zC zR zK zP zV zW zF zQ, tz t0 t1 t2 t3, sc) : RS) fc tc w q) nnC G ad L f) : SH (spC ((r, fz zL FI FI FI FI FI FI zF zQ, tz t0 TA TA TA, sc0) : RS) fc tc w q) nnC G ad L f := I.cast (fun a b hab h => by
  by_cases z : a = 2
  · subst z
    obtain ⟨vs, e, h⟩ := h
    refine ⟨vs, e, ?_⟩
    obtain ⟨_, _, rfl, a1, h1⟩ := okFs_c' h
    obtain ⟨_, _, rfl, a2, h2⟩ := okFs_c' h1
    obtain ⟨_, _, rfl, a3, h3⟩ := okFs_c' h2
    obtain ⟨_, _, rfl, a4, h4⟩ := okFs_c' h3
    obtain ⟨_, _, rfl, a5, h5⟩ := okFs_c' h4
    obtain ⟨_, _, rfl, ⟨y1, rfl, a6⟩, h6⟩ := okFs_c' h5
    obtain ⟨_, _, rfl, ⟨y2, rfl, a7⟩, h7⟩ := okFs_c' h6
    obtain ⟨_, _, rfl, ⟨y3, rfl, a8⟩, h8⟩ := okFs_c' h7
    obtain ⟨_, _, rfl, ⟨y4, rfl, a9⟩, h9⟩ := okFs_c' h8
    obtain ⟨_, _, rfl, ⟨y5, rfl, a10⟩, h10⟩ := okFs_c' h9
    obtain ⟨_, _, rfl, ⟨y6, rfl, a11⟩, h11⟩ := okFs_c' h10
    exact okFs_c a1 (okFs_c a2 (okFs_c a3 (okFs_c a4 (okFs_c a5 (okFs_c (okV_p (lim_up a6)) (okFs_c (okV_p (lim_up a7)) (okFs_c (okV_p (lim_up a8)) (okFs_c (okV_p (lim_up a9)) (okFs_c (okV_p (lim_up a10)) (okFs_c (okV_p (lim_up a11)) h11))))))))))
  by_cases z1 : a = 51
  · subst z1; obtain ⟨g, e, _⟩ := h; exact ⟨g, e, trivial⟩
  by_cases z2 : a = 52
  · subst z2; obtain ⟨g, e, _⟩ := h; exact ⟨g, e, trivial⟩
  by_cases z3 : a = 53
  · subst z3; obtain ⟨g, e, _⟩ := h; exact ⟨g, e, trivial⟩
  by_cases z4 : a = 33
  · subst z4; obtain ⟨g, e, _⟩ := h; exact ⟨g, e, trivial⟩
  by_cases z5 : a = 34
  · subst z5; obtain ⟨g, e, _⟩ := h; exact ⟨g, e, trivial⟩
  by_cases z6 : a = 30
  · subst z6
    obtain ⟨vs, e, h⟩ := h
    refine ⟨vs, e, ?_⟩
    obtain ⟨_, _, rfl, a1, h1⟩ := okFs_c' h
    obtain ⟨_, _, rfl, a2, h2⟩ := okFs_c' h1
    obtain ⟨_, _, rfl, a3, h3⟩ := okFs_c' h2
    obtain ⟨_, _, rfl, a4, h4⟩ := okFs_c' h3
    obtain ⟨_, _, rfl, a5, h5⟩ := okFs_c' h4
    obtain ⟨_, _, rfl, ⟨y1, rfl, a6⟩, h6⟩ := okFs_c' h5
    obtain ⟨_, _, rfl, ⟨y2, rfl, a7⟩, h7⟩ := okFs_c' h6
    exact okFs_c a1 (okFs_c a2 (okFs_c a3 (okFs_c a4 (okFs_c a5 (okFs_c (okV_p (lim_up a6)) (okFs_c (okV_p (lim_up a7)) h7))))))
  have e : spC ((r, fz zL FI FI FI FI FI FI zF zQ, tz t0 TA TA TA, sc0) : RS) fc tc w q a b = spC ((r, fz zL zC zR zK zP zV zW zF zQ, tz t0 t1 t2 t3, sc) : RS) fc tc w q a b := by
    unfold spC; split <;> first | rfl | exact absurd rfl z | exact absurd rfl z1 | exact absurd rfl z2 | exact absurd rfl z3 | exact absurd rfl z4 | exact absurd rfl z5 | exact absurd rfl z6
  rw [e]; exact h)
end OPN
