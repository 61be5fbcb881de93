theorem bn_mulL {a b c : Int} {x y : Int32} (g : bn c c y) (h : bn a b x) (q : 0 ≤ c ∧ -2147483648 ≤ c * a ∧ c * b ≤ 2147483647) : bn (c * a) (c * b) (y * x) := by
  obtain ⟨h1, h2⟩ := h; obtain ⟨g1, g2⟩ := g; obtain ⟨q1, q2, q3⟩ := q
  have e : y.toInt = c := by omega
  have m1 : c * a ≤ c * x.toInt := Int.mul_le_mul_of_nonneg_left h1 q1
  have m2 : c * x.toInt ≤ c * b := Int.mul_le_mul_of_nonneg_left h2 q1
  have e2 : (y * x).toInt = c * x.toInt := by rw [ti_mul (by rw [e]; omega) (by rw [e]; omega), e]
  exact ⟨by omega, by omega⟩
theorem bn_mulR {a b c : Int} {x y : Int32} (h : bn a b x) (g : bn c c y) (q : 0 ≤ c ∧ -2147483648 ≤ c * a ∧ c * b ≤ 2147483647) : bn (c * a) (c * b) (x * y) := by rw [Int32.mul_comm]; exact bn_mulL g h q
theorem nq_of {n : Int32} {a b : Int} {x : Int32} (h : bn a b x) (q : 0 ≤ a ∧ 0 ≤ n.toInt ∧ (n.toInt < a ∨ b < n.toInt)) : n.toNatClampNeg ≠ x.toNatClampNeg := by
  obtain ⟨h1, h2⟩ := h
  have e : x.toNatClampNeg = x.toInt.toNat := rfl
  have e2 : n.toNatClampNeg = n.toInt.toNat := rfl
  rw [e, e2]; omega
def LD (s oh dh : Int) (b : Nat) (g : Nat → Int32) : Prop := bn 0 dh (g b) ∧ bn 0 oh (g (b + 3)) ∧ 0 ≤ (g (b + 4)).toInt ∧ (g (b + 4)).toInt ≤ 6 * (g b).toInt + s ∧ (∀ o, o < 14 → bn 0 5 (g (b + 7 + 7 * o))) ∧ bn 0 30448 (g (b + 2))
abbrev WW : Type := (Int × Int) × (Nat → Int32)
def IA (s pl oh dh : Int) (w : WW) (g : Nat → Int32) : Prop := bn pl 6 (g 0) ∧ (bn 0 4 (g 1) ∧ g 1 = w.2 1) ∧ bn (-1) 3 (g 2) ∧ bn 0 30 (g 3) ∧ bn 0 6 (g 4) ∧ bn 0 8 (g 5) ∧ bn w.1.1 w.1.2 (g 6) ∧ bn 0 8 (g 7) ∧ bn 0 8 (g 8) ∧ LD s oh dh 10 g ∧ (∀ k, 160 ≤ k → k < 176 → g k = w.2 k) ∧ ∀ t, t < 30 → LD 0 14 9999 (208 + 104 * t) g
def BBp (s pl oh dh : Int) (w : WW) : Prop := 0 ≤ pl ∧ oh ≤ 14 ∧ dh ≤ 9999 ∧ s ≤ 6 ∧ 0 ≤ w.1.1 ∧ w.1.2 ≤ 8
section IAR
variable {s pl oh dh : Int} {w : WW} {g : Nat → Int32}
theorem IA_0 (h : IA s pl oh dh w g) : bn pl 6 (g 0) := h.1
theorem IA_1 (h : IA s pl oh dh w g) : bn 0 4 (g 1) := h.2.1.1
theorem IA_c (h : IA s pl oh dh w g) : g 1 = w.2 1 := h.2.1.2
theorem IA_2 (h : IA s pl oh dh w g) : bn (-1) 3 (g 2) := h.2.2.1
theorem IA_3 (h : IA s pl oh dh w g) : bn 0 30 (g 3) := h.2.2.2.1
theorem IA_4 (h : IA s pl oh dh w g) : bn 0 6 (g 4) := h.2.2.2.2.1
theorem IA_5 (h : IA s pl oh dh w g) : bn 0 8 (g 5) := h.2.2.2.2.2.1
theorem IA_6 (h : IA s pl oh dh w g) : bn w.1.1 w.1.2 (g 6) := h.2.2.2.2.2.2.1
theorem IA_7 (h : IA s pl oh dh w g) : bn 0 8 (g 7) := h.2.2.2.2.2.2.2.1
theorem IA_8 (h : IA s pl oh dh w g) : bn 0 8 (g 8) := h.2.2.2.2.2.2.2.2.1
theorem IA_ld (h : IA s pl oh dh w g) : LD s oh dh 10 g := h.2.2.2.2.2.2.2.2.2.1
theorem IA_st (h : IA s pl oh dh w g) : ∀ t, t < 30 → LD 0 14 9999 (208 + 104 * t) g := h.2.2.2.2.2.2.2.2.2.2.2
theorem IA_wd (h : IA s pl oh dh w g) : ∀ k, 160 ≤ k → k < 176 → g k = w.2 k := h.2.2.2.2.2.2.2.2.2.2.1
theorem IA_10 (h : IA s pl oh dh w g) : bn 0 dh (g 10) := (IA_ld h).1
theorem IA_13 (h : IA s pl oh dh w g) : bn 0 oh (g 13) := (IA_ld h).2.1
theorem IA_14 (h : IA s pl oh dh w g) (hd : dh ≤ 9999) (hs : s ≤ 6) : bn 0 60000 (g 14) := by
  have a : 0 ≤ (g 14).toInt := (IA_ld h).2.2.1; have b : (g 14).toInt ≤ 6 * (g 10).toInt + s := (IA_ld h).2.2.2.1; have c := (IA_ld h).1.2
  exact ⟨a, by omega⟩
theorem IA_on (h : IA s pl oh dh w g) {o : Nat} (ho : o < 14) : bn 0 5 (g (17 + 7 * o)) := (IA_ld h).2.2.2.2.1 o ho
def ldc (b i : Nat) : Prop := i = b ∨ i = b + 3 ∨ i = b + 4 ∨ i = b + 2 ∨ (b + 7 ≤ i ∧ i < b + 105 ∧ (i - (b + 7)) % 7 = 0)
theorem LD_ext {b : Nat} {g' : Nat → Int32} (h : LD s oh dh b g) (e : ∀ i, ldc b i → g' i = g i) : LD s oh dh b g' := by
  obtain ⟨h1, h2, h3, h4, h5, h6⟩ := h
  have e0 := e b (Or.inl rfl); have e3 := e (b + 3) (Or.inr (Or.inl rfl)); have e4 := e (b + 4) (Or.inr (Or.inr (Or.inl rfl))); have e2 := e (b + 2) (Or.inr (Or.inr (Or.inr (Or.inl rfl))))
  refine ⟨by rw [e0]; exact h1, by rw [e3]; exact h2, by rw [e4]; exact h3, by rw [e4, e0]; exact h4, fun o ho => ?_, by rw [e2]; exact h6⟩
  rw [e (b + 7 + 7 * o) (Or.inr (Or.inr (Or.inr (Or.inr ⟨by omega, by omega, by omega⟩))))]
  exact h5 o ho
theorem LD_un {b k : Nat} {x : Int32} (h : LD s oh dh b g) (hk : ¬ ldc b k) : LD s oh dh b (upd g k x) := LD_ext h (fun i hi => pk_un (fun z => hk (z ▸ hi)))
theorem IA_ext {g' : Nat → Int32} (h : IA s pl oh dh w g) (e0 : ∀ i, i < 9 ∨ 160 ≤ i ∧ i < 176 → g' i = g i) (e1 : ∀ i, ldc 10 i → g' i = g i) (e2 : ∀ t, t < 30 → ∀ i, ldc (208 + 104 * t) i → g' i = g i) : IA s pl oh dh w g' := by
  obtain ⟨h0, h1, h2, h3, h4, h5, h6, h7, h8, h9, hw9, h10⟩ := h
  exact ⟨by rw [e0 0 (by decide)]; exact h0, by rw [e0 1 (by decide)]; exact h1, by rw [e0 2 (by decide)]; exact h2, by rw [e0 3 (by decide)]; exact h3, by rw [e0 4 (by decide)]; exact h4, by rw [e0 5 (by decide)]; exact h5, by rw [e0 6 (by decide)]; exact h6, by rw [e0 7 (by decide)]; exact h7, by rw [e0 8 (by decide)]; exact h8, LD_ext h9 e1, fun k k1 k2 => by rw [e0 k (Or.inr ⟨k1, k2⟩)]; exact hw9 k k1 k2, fun t ht => LD_ext (h10 t ht) (e2 t ht)⟩
def frC (k : Nat) : Prop := k = 11 ∨ (114 ≤ k ∧ k < 160) ∨ (176 ≤ k ∧ k < 208) ∨ 3328 ≤ k
theorem IA_free {k : Nat} {x : Int32} (h : IA s pl oh dh w g) (hk : frC k) : IA s pl oh dh w (upd g k x) := by
  unfold frC at hk
  refine IA_ext h (fun i hi => pk_un (by omega)) (fun i hi => pk_un ?_) (fun t ht i hi => pk_un ?_)
  · unfold ldc at hi; omega
  · unfold ldc at hi; omega
theorem fr_of {a b : Int} {x : Int32} (h : bn a b x) (q : (114 ≤ a ∧ b ≤ 159) ∨ (176 ≤ a ∧ b ≤ 207) ∨ 3328 ≤ a) : frC x.toNatClampNeg := by
  obtain ⟨h1, h2⟩ := h
  have e : x.toNatClampNeg = x.toInt.toNat := rfl
  unfold frC; rw [e]; omega
theorem IA_s0 {x : Int32} (h : IA s pl oh dh w g) (hx : bn pl 6 x) : IA s pl oh dh w (upd g 0 x) := by
  obtain ⟨h0, h1, h2, h3, h4, h5, h6, h7, h8, h9, hw9, h10⟩ := h
  exact ⟨by rw [pk_us]; exact hx, by rw [pk_un (by decide)]; exact h1, by rw [pk_un (by decide)]; exact h2, by rw [pk_un (by decide)]; exact h3, by rw [pk_un (by decide)]; exact h4, by rw [pk_un (by decide)]; exact h5, by rw [pk_un (by decide)]; exact h6, by rw [pk_un (by decide)]; exact h7, by rw [pk_un (by decide)]; exact h8, LD_un h9 (by unfold ldc; omega), fun k k1 k2 => by rw [pk_un (by omega)]; exact hw9 k k1 k2, fun t ht => LD_un (h10 t ht) (by unfold ldc; omega)⟩
theorem IA_s2 {x : Int32} (h : IA s pl oh dh w g) (hx : bn (-1) 3 x) : IA s pl oh dh w (upd g 2 x) := by
  obtain ⟨h0, h1, h2, h3, h4, h5, h6, h7, h8, h9, hw9, h10⟩ := h
  exact ⟨by rw [pk_un (by decide)]; exact h0, by rw [pk_un (by decide)]; exact h1, by rw [pk_us]; exact hx, by rw [pk_un (by decide)]; exact h3, by rw [pk_un (by decide)]; exact h4, by rw [pk_un (by decide)]; exact h5, by rw [pk_un (by decide)]; exact h6, by rw [pk_un (by decide)]; exact h7, by rw [pk_un (by decide)]; exact h8, LD_un h9 (by unfold ldc; omega), fun k k1 k2 => by rw [pk_un (by omega)]; exact hw9 k k1 k2, fun t ht => LD_un (h10 t ht) (by unfold ldc; omega)⟩
theorem IA_s3 {x : Int32} (h : IA s pl oh dh w g) (hx : bn 0 30 x) : IA s pl oh dh w (upd g 3 x) := by
  obtain ⟨h0, h1, h2, h3, h4, h5, h6, h7, h8, h9, hw9, h10⟩ := h
  exact ⟨by rw [pk_un (by decide)]; exact h0, by rw [pk_un (by decide)]; exact h1, by rw [pk_un (by decide)]; exact h2, by rw [pk_us]; exact hx, by rw [pk_un (by decide)]; exact h4, by rw [pk_un (by decide)]; exact h5, by rw [pk_un (by decide)]; exact h6, by rw [pk_un (by decide)]; exact h7, by rw [pk_un (by decide)]; exact h8, LD_un h9 (by unfold ldc; omega), fun k k1 k2 => by rw [pk_un (by omega)]; exact hw9 k k1 k2, fun t ht => LD_un (h10 t ht) (by unfold ldc; omega)⟩
theorem IA_s4 {x : Int32} (h : IA s pl oh dh w g) (hx : bn 0 6 x) : IA s pl oh dh w (upd g 4 x) := by
  obtain ⟨h0, h1, h2, h3, h4, h5, h6, h7, h8, h9, hw9, h10⟩ := h
  exact ⟨by rw [pk_un (by decide)]; exact h0, by rw [pk_un (by decide)]; exact h1, by rw [pk_un (by decide)]; exact h2, by rw [pk_un (by decide)]; exact h3, by rw [pk_us]; exact hx, by rw [pk_un (by decide)]; exact h5, by rw [pk_un (by decide)]; exact h6, by rw [pk_un (by decide)]; exact h7, by rw [pk_un (by decide)]; exact h8, LD_un h9 (by unfold ldc; omega), fun k k1 k2 => by rw [pk_un (by omega)]; exact hw9 k k1 k2, fun t ht => LD_un (h10 t ht) (by unfold ldc; omega)⟩
theorem IA_s5 {x : Int32} (h : IA s pl oh dh w g) (hx : bn 0 8 x) : IA s pl oh dh w (upd g 5 x) := by
  obtain ⟨h0, h1, h2, h3, h4, h5, h6, h7, h8, h9, hw9, h10⟩ := h
  exact ⟨by rw [pk_un (by decide)]; exact h0, by rw [pk_un (by decide)]; exact h1, by rw [pk_un (by decide)]; exact h2, by rw [pk_un (by decide)]; exact h3, by rw [pk_un (by decide)]; exact h4, by rw [pk_us]; exact hx, by rw [pk_un (by decide)]; exact h6, by rw [pk_un (by decide)]; exact h7, by rw [pk_un (by decide)]; exact h8, LD_un h9 (by unfold ldc; omega), fun k k1 k2 => by rw [pk_un (by omega)]; exact hw9 k k1 k2, fun t ht => LD_un (h10 t ht) (by unfold ldc; omega)⟩
theorem IA_s6 {x : Int32} (h : IA s pl oh dh w g) (hx : bn w.1.1 w.1.2 x) : IA s pl oh dh w (upd g 6 x) := by
  obtain ⟨h0, h1, h2, h3, h4, h5, h6, h7, h8, h9, hw9, h10⟩ := h
  exact ⟨by rw [pk_un (by decide)]; exact h0, by rw [pk_un (by decide)]; exact h1, by rw [pk_un (by decide)]; exact h2, by rw [pk_un (by decide)]; exact h3, by rw [pk_un (by decide)]; exact h4, by rw [pk_un (by decide)]; exact h5, by rw [pk_us]; exact hx, by rw [pk_un (by decide)]; exact h7, by rw [pk_un (by decide)]; exact h8, LD_un h9 (by unfold ldc; omega), fun k k1 k2 => by rw [pk_un (by omega)]; exact hw9 k k1 k2, fun t ht => LD_un (h10 t ht) (by unfold ldc; omega)⟩
theorem IA_s7 {x : Int32} (h : IA s pl oh dh w g) (hx : bn 0 8 x) : IA s pl oh dh w (upd g 7 x) := by
  obtain ⟨h0, h1, h2, h3, h4, h5, h6, h7, h8, h9, hw9, h10⟩ := h
  exact ⟨by rw [pk_un (by decide)]; exact h0, by rw [pk_un (by decide)]; exact h1, by rw [pk_un (by decide)]; exact h2, by rw [pk_un (by decide)]; exact h3, by rw [pk_un (by decide)]; exact h4, by rw [pk_un (by decide)]; exact h5, by rw [pk_un (by decide)]; exact h6, by rw [pk_us]; exact hx, by rw [pk_un (by decide)]; exact h8, LD_un h9 (by unfold ldc; omega), fun k k1 k2 => by rw [pk_un (by omega)]; exact hw9 k k1 k2, fun t ht => LD_un (h10 t ht) (by unfold ldc; omega)⟩
theorem IA_s8 {x : Int32} (h : IA s pl oh dh w g) (hx : bn 0 8 x) : IA s pl oh dh w (upd g 8 x) := by
  obtain ⟨h0, h1, h2, h3, h4, h5, h6, h7, h8, h9, hw9, h10⟩ := h
  exact ⟨by rw [pk_un (by decide)]; exact h0, by rw [pk_un (by decide)]; exact h1, by rw [pk_un (by decide)]; exact h2, by rw [pk_un (by decide)]; exact h3, by rw [pk_un (by decide)]; exact h4, by rw [pk_un (by decide)]; exact h5, by rw [pk_un (by decide)]; exact h6, by rw [pk_un (by decide)]; exact h7, by rw [pk_us]; exact hx, LD_un h9 (by unfold ldc; omega), fun k k1 k2 => by rw [pk_un (by omega)]; exact hw9 k k1 k2, fun t ht => LD_un (h10 t ht) (by unfold ldc; omega)⟩
theorem IA_s1 {x : Int32} (h : IA s pl oh dh w g) (hx : bn 0 4 x) : IA s pl oh dh (w.1, upd w.2 1 x) (upd g 1 x) := by
  obtain ⟨h0, h1, h2, h3, h4, h5, h6, h7, h8, h9, hw9, h10⟩ := h
  exact ⟨by rw [pk_un (by decide)]; exact h0, ⟨by rw [pk_us]; exact hx, by show upd g 1 x 1 = upd w.2 1 x 1; rw [pk_us, pk_us]⟩, by rw [pk_un (by decide)]; exact h2, by rw [pk_un (by decide)]; exact h3, by rw [pk_un (by decide)]; exact h4, by rw [pk_un (by decide)]; exact h5, by rw [pk_un (by decide)]; exact h6, by rw [pk_un (by decide)]; exact h7, by rw [pk_un (by decide)]; exact h8, LD_un h9 (by unfold ldc; omega), fun k k1 k2 => by show upd g 1 x k = upd w.2 1 x k; rw [pk_un (by omega), pk_un (by omega)]; exact hw9 k k1 k2, fun t ht => LD_un (h10 t ht) (by unfold ldc; omega)⟩
theorem IA_w6 {x : Int32} {w2 : WW} (h : IA s pl oh dh w g) (hx : bn w2.1.1 w2.1.2 x) (hw : ∀ k, w2.2 k = w.2 k) : IA s pl oh dh w2 (upd g 6 x) := by
  obtain ⟨h0, h1, h2, h3, h4, h5, h6, h7, h8, h9, hw9, h10⟩ := h
  exact ⟨by rw [pk_un (by decide)]; exact h0, ⟨by rw [pk_un (by decide)]; exact h1.1, by rw [pk_un (by decide), hw 1]; exact h1.2⟩, by rw [pk_un (by decide)]; exact h2, by rw [pk_un (by decide)]; exact h3, by rw [pk_un (by decide)]; exact h4, by rw [pk_un (by decide)]; exact h5, by rw [pk_us]; exact hx, by rw [pk_un (by decide)]; exact h7, by rw [pk_un (by decide)]; exact h8, LD_un h9 (by unfold ldc; omega), fun k k1 k2 => by rw [pk_un (by omega), hw k]; exact hw9 k k1 k2, fun t ht => LD_un (h10 t ht) (by unfold ldc; omega)⟩
theorem IA_wdst {k : Nat} {x : Int32} (h : IA s pl oh dh w g) (hk : 160 ≤ k ∧ k < 176) : IA s pl oh dh (w.1, upd w.2 k x) (upd g k x) := by
  obtain ⟨h0, h1, h2, h3, h4, h5, h6, h7, h8, h9, hw9, h10⟩ := h
  exact ⟨by rw [pk_un (by omega)]; exact h0, ⟨by rw [pk_un (by omega)]; exact h1.1, by show upd g k x 1 = upd w.2 k x 1; rw [pk_un (by omega), pk_un (by omega)]; exact h1.2⟩, by rw [pk_un (by omega)]; exact h2, by rw [pk_un (by omega)]; exact h3, by rw [pk_un (by omega)]; exact h4, by rw [pk_un (by omega)]; exact h5, by rw [pk_un (by omega)]; exact h6, by rw [pk_un (by omega)]; exact h7, by rw [pk_un (by omega)]; exact h8, LD_un h9 (by unfold ldc; omega), fun i k1 k2 => by
    by_cases z : i = k
    · subst z; show upd g i x i = upd w.2 i x i; rw [pk_us, pk_us]
    · show upd g k x i = upd w.2 k x i; rw [pk_un z, pk_un z]; exact hw9 i k1 k2, fun t ht => LD_un (h10 t ht) (by unfold ldc; omega)⟩
theorem IA_b {s2 oh2 dh2 : Int} {g' : Nat → Int32} (h : IA s pl oh dh w g) (e0 : ∀ i, i < 9 ∨ 160 ≤ i ∧ i < 176 → g' i = g i) (e2 : ∀ t, t < 30 → ∀ i, ldc (208 + 104 * t) i → g' i = g i) (hl : LD s2 oh2 dh2 10 g') : IA s2 pl oh2 dh2 w g' := by
  obtain ⟨h0, h1, h2, h3, h4, h5, h6, h7, h8, h9, hw9, h10⟩ := h
  exact ⟨by rw [e0 0 (by decide)]; exact h0, by rw [e0 1 (by decide)]; exact h1, by rw [e0 2 (by decide)]; exact h2, by rw [e0 3 (by decide)]; exact h3, by rw [e0 4 (by decide)]; exact h4, by rw [e0 5 (by decide)]; exact h5, by rw [e0 6 (by decide)]; exact h6, by rw [e0 7 (by decide)]; exact h7, by rw [e0 8 (by decide)]; exact h8, hl, fun k k1 k2 => by rw [e0 k (Or.inr ⟨k1, k2⟩)]; exact hw9 k k1 k2, fun t ht => LD_ext (h10 t ht) (e2 t ht)⟩
theorem IA_bu {s2 oh2 dh2 : Int} {k : Nat} {x : Int32} (h : IA s pl oh dh w g) (hk : 9 ≤ k ∧ k < 160) (hl : LD s2 oh2 dh2 10 (upd g k x)) : IA s2 pl oh2 dh2 w (upd g k x) :=
  IA_b h (fun i hi => pk_un (by omega)) (fun t ht i hi => pk_un (by unfold ldc at hi; omega)) hl
theorem IA_day {s2 dh2 : Int} {x : Int32} (h : IA s pl oh dh w g) (hx : bn 0 dh2 x) (hq : 6 * (g 10).toInt + s ≤ 6 * x.toInt + s2) : IA s2 pl oh dh2 w (upd g 10 x) := by
  refine IA_bu h ⟨by decide, by decide⟩ ?_
  obtain ⟨h1, h2, h3, h4, h5, h6⟩ := IA_ld h
  exact ⟨by rw [pk_us]; exact hx, by rw [pk_un (by decide)]; exact h2, by rw [pk_un (by decide)]; exact h3, by rw [pk_un (by decide), pk_us]; omega, fun o ho => by rw [pk_un (by omega)]; exact h5 o ho, by rw [pk_un (by decide)]; exact h6⟩
theorem IA_wr {s2 : Int} {x : Int32} (h : IA s pl oh dh w g) (h0 : 0 ≤ x.toInt) (hq : x.toInt ≤ 6 * (g 10).toInt + s2) : IA s2 pl oh dh w (upd g 14 x) := by
  refine IA_bu h ⟨by decide, by decide⟩ ?_
  obtain ⟨h1, h2, h3, h4, h5, h6⟩ := IA_ld h
  exact ⟨by rw [pk_un (by decide)]; exact h1, by rw [pk_un (by decide)]; exact h2, by rw [pk_us]; exact h0, by rw [pk_us, pk_un (by decide)]; exact hq, fun o ho => by rw [pk_un (by omega)]; exact h5 o ho, by rw [pk_un (by decide)]; exact h6⟩
theorem IA_oc {oh2 : Int} {x : Int32} (h : IA s pl oh dh w g) (hx : bn 0 oh2 x) : IA s pl oh2 dh w (upd g 13 x) := by
  refine IA_bu h ⟨by decide, by decide⟩ ?_
  obtain ⟨h1, h2, h3, h4, h5, h6⟩ := IA_ld h
  exact ⟨by rw [pk_un (by decide)]; exact h1, by rw [pk_us]; exact hx, by rw [pk_un (by decide)]; exact h3, by rw [pk_un (by decide), pk_un (by decide)]; exact h4, fun o ho => by rw [pk_un (by omega)]; exact h5 o ho, by rw [pk_un (by decide)]; exact h6⟩
theorem IA_oa {k : Nat} {x : Int32} (h : IA s pl oh dh w g) (hk : 16 ≤ k ∧ k < 114) (hx : (k - 16) % 7 = 1 → bn 0 5 x) : IA s pl oh dh w (upd g k x) := by
  refine IA_bu h ⟨by omega, by omega⟩ ?_
  obtain ⟨h1, h2, h3, h4, h5, h6⟩ := IA_ld h
  refine ⟨by rw [pk_un (by omega)]; exact h1, by rw [pk_un (by omega)]; exact h2, by rw [pk_un (by omega)]; exact h3, by rw [pk_un (by omega), pk_un (by omega)]; exact h4, fun o ho => ?_, by rw [pk_un (by omega)]; exact h6⟩
  by_cases z : 10 + 7 + 7 * o = k
  · subst z; rw [pk_us]; exact hx (by omega)
  · rw [pk_un z]; exact h5 o ho
theorem IA_12 (h : IA s pl oh dh w g) : bn 0 30448 (g 12) := (IA_ld h).2.2.2.2.2
theorem IA_dr {x : Int32} (h : IA s pl oh dh w g) (hx : bn 0 30448 x) : IA s pl oh dh w (upd g 12 x) := by
  refine IA_bu h ⟨by decide, by decide⟩ ?_
  obtain ⟨h1, h2, h3, h4, h5, h6⟩ := IA_ld h
  exact ⟨by rw [pk_un (by decide)]; exact h1, by rw [pk_un (by decide)]; exact h2, by rw [pk_un (by decide)]; exact h3, by rw [pk_un (by decide), pk_un (by decide)]; exact h4, fun o ho => by rw [pk_un (by omega)]; exact h5 o ho, by rw [pk_us]; exact hx⟩
theorem IA_oh {oh2 : Int} (h : IA s pl oh dh w g) (hx : bn 0 oh2 (g 13)) : IA s pl oh2 dh w g := IA_b h (fun _ _ => rfl) (fun _ _ _ _ => rfl) ⟨(IA_ld h).1, hx, (IA_ld h).2.2⟩
theorem IA_dh {dh2 : Int} (h : IA s pl oh dh w g) (hx : bn 0 dh2 (g 10)) : IA s pl oh dh2 w g := IA_b h (fun _ _ => rfl) (fun _ _ _ _ => rfl) ⟨hx, (IA_ld h).2⟩
theorem IA_sm {s2 : Int} (h : IA s pl oh dh w g) (hq : s ≤ s2) : IA s2 pl oh dh w g := IA_b h (fun _ _ => rfl) (fun _ _ _ _ => rfl) ⟨(IA_ld h).1, (IA_ld h).2.1, (IA_ld h).2.2.1, by have := (IA_ld h).2.2.2.1; omega, (IA_ld h).2.2.2.2⟩
theorem IA_pl {pl2 : Int} (h : IA s pl oh dh w g) (hx : bn pl2 6 (g 0)) : IA s pl2 oh dh w g := by
  obtain ⟨h0, h1, h2, h3, h4, h5, h6, h7, h8, h9, hw9, h10⟩ := h
  exact ⟨hx, h1, h2, h3, h4, h5, h6, h7, h8, h9, hw9, h10⟩
end IAR
def stH (o v : Int) (q : Nat × Nat) : Option (Nat × Nat) :=
  if o < 0 then none
  else if o ≤ 1 then (if o = 1 ∧ ¬ (0 ≤ v ∧ v ≤ 9) then none else some (q.1 + 1, q.2))
  else if o = 3 then (if 2 ≤ q.1 ∧ 1 ≤ q.2 then some (q.1 - 1, q.2 - 1) else none)
  else if o = 4 then (if 0 ≤ v ∧ v ≤ q.2 then some (q.1, q.2 - v.toNat + 1) else none)
  else if o ≤ 5 then (if 1 ≤ q.1 then some q else none)
  else if o < 10 then (if 2 ≤ q.1 then some (q.1 - 1, q.2) else none)
  else if o < 20 then (if 2 ≤ q.1 then some (q.1 - 2, q.2 + 1) else none)
  else if o = 20 then (if 1 ≤ q.2 then some q else none)
  else (if 2 ≤ q.2 then some (q.1, q.2 - 1) else none)
def hts (g : Nat → Int32) (b i0 : Nat) : Nat → Option (Nat × Nat)
  | 0 => some (0, 0)
  | m + 1 => match hts g b i0 m with
    | none => none
    | some q => stH (g (b + 2 * (i0 + m))).toInt (g (b + 2 * (i0 + m) + 1)).toInt q
def WFc (g : Nat → Int32) (b : Nat) (fr to2 : Int32) : Prop := 0 ≤ fr.toInt ∧ fr.toInt ≤ to2.toInt ∧ to2.toInt ≤ 303 ∧ ∀ m : Nat, fr.toInt + m ≤ to2.toInt → ∃ q, hts g b fr.toInt.toNat m = some q
def TX (g : Nat → Int32) : Prop := ∀ t, t < 4 → bn 0 24 (g (729 * t)) ∧ ∀ k : Nat, (k : Int) < (g (729 * t)).toInt → bn 0 2 (g (729 * t + 1 + 5 * k)) → WFc g (729 * t + 121) (g (729 * t + 1 + 5 * k + 1)) (g (729 * t + 1 + 5 * k + 2))

abbrev PIT : Type := ((Nat → Int32) → Prop) × (Int × Int) × (Int × Int) × (Int × Int) × ((Nat → Int32) → Prop)
def spM (PA : (Nat → Int32) → Prop) (PI : PIT) (PX pa : (Nat → Int32) → Prop) : Nat → Nat → SP := fun k j => match k with
  | 0 => .inl (12, [RF 1 0, RF 2 0, RF 3 0, RF 4 0, .inl (lim 0 300 PI.2.1), .inl (lim (-2147483648) 2147483647 PI.2.2.1), .inl (lim (-2147483648) 2147483647 PI.2.2.2.1), IN 0 300, IN 0 300, IN (-2147483648) 2147483647, IN (-2147483648) 2147483647, LG, IN 0 2187, IN 0 300, IN (-2147483648) 2147483647, RF 5 0, RF 6 0, IN 0 160, IN 0 8, IN 0 8, IN 0 1, IN (-2147483648) 2147483647, RF 7 0, RF 8 0, RF 9 0, IN 0 1, RF 10 0, RF 11 0, RF 12 0, RF 13 0, IN (-2147483648) 2147483647, RF 14 0])
  | 1 => .inr (.inl (0, 10568, PA))
  | 2 => .inr (.inl (0, 10568, PI.1))
  | 3 => .inr (.inl (0, 2916, PX))
  | 4 => .inr (.inl (0, 300, PI.2.2.2.2))
  | 5 => .inr (.inl (0, 160, fun _ => True))
  | 6 => .inr (.inl (0, 9, fun _ => True))
  | 7 => .inr (.inl (0, 10, fun _ => True))
  | 9 => .inr (.inl (2, 330, fun g => ∀ i, bn 0 1 (g i)))
  | 10 => .inr (.inl (0, 6, fun _ => True))
  | 11 => .inr (.inl (0, 114, pa))
  | 12 => .inr (.inl (0, 84, fun _ => True))
  | 13 => .inr (.inl (0, 14, fun _ => True))
  | 14 => .inr (.inl (0, 6, fun _ => True))
  | 8 => .inr (.inr (.inr 330))
  | _ => .inr (.inr (.inr 0))
def nnM : Nat → Nat := fun k => if k < 15 then 1 else 0
section OPM
variable {G : GG} {L : List Nat} {f : HF} {ad : Nat → Nat → Nat} {PA PX pa PA2 PX2 pa2 gp2 gp3 zT zT2 : (Nat → Int32) → Prop} {PI : PIT} {zL zF zQ zL2 zF2 zQ2 : Int × Int} {j : Nat}
theorem opnM_0 (I : SH (spM PA PI PX pa) nnM G ad L f) (hj : j < 1) : ∃ x4 : Int32, ∃ x5 : Int32, ∃ x6 : Int32, ∃ x7 : Int32, ∃ x8 : Int32, ∃ x9 : Int32, ∃ x10 : Int32, ∃ x11 : Int64, ∃ x12 : Int32, ∃ x13 : Int32, ∃ x14 : Int32, ∃ x17 : Int32, ∃ x18 : Int32, ∃ x19 : Int32, ∃ x20 : Int32, ∃ x21 : Int32, ∃ x25 : Int32, ∃ x30 : Int32, pt L f (ad 0 j) (.inr (12, [.ref (ad 1 0), .ref (ad 2 0), .ref (ad 3 0), .ref (ad 4 0), .int x4, .int x5, .int x6, .int x7, .int x8, .int x9, .int x10, .long x11, .int x12, .int x13, .int x14, .ref (ad 5 0), .ref (ad 6 0), .int x17, .int x18, .int x19, .int x20, .int x21, .ref (ad 7 0), .ref (ad 8 0), .ref (ad 9 0), .int x25, .ref (ad 10 0), .ref (ad 11 0), .ref (ad 12 0), .ref (ad 13 0), .int x30, .ref (ad 14 0)])) ∧ bn (lim 0 300 PI.2.1).1 (lim 0 300 PI.2.1).2 x4 ∧ bn (lim (-2147483648) 2147483647 PI.2.2.1).1 (lim (-2147483648) 2147483647 PI.2.2.1).2 x5 ∧ bn (lim (-2147483648) 2147483647 PI.2.2.2.1).1 (lim (-2147483648) 2147483647 PI.2.2.2.1).2 x6 ∧ bn 0 300 x7 ∧ bn 0 300 x8 ∧ bn (-2147483648) 2147483647 x9 ∧ bn (-2147483648) 2147483647 x10 ∧ bn 0 2187 x12 ∧ bn 0 300 x13 ∧ bn (-2147483648) 2147483647 x14 ∧ bn 0 160 x17 ∧ bn 0 8 x18 ∧ bn 0 8 x19 ∧ bn 0 1 x20 ∧ bn (-2147483648) 2147483647 x21 ∧ bn 0 1 x25 ∧ bn (-2147483648) 2147483647 x30 := by
  obtain ⟨vs, p, h0⟩ := I.opo (k := 0) (j := j) hj rfl
  obtain ⟨_, vt0, rfl, a0, h1⟩ := okFs_c' h0
  obtain rfl := okV_r' a0
  obtain ⟨_, vt1, rfl, a1, h2⟩ := okFs_c' h1
  obtain rfl := okV_r' a1
  obtain ⟨_, vt2, rfl, a2, h3⟩ := okFs_c' h2
  obtain rfl := okV_r' a2
  obtain ⟨_, vt3, rfl, a3, h4⟩ := okFs_c' h3
  obtain rfl := okV_r' a3
  obtain ⟨_, vt4, rfl, a4, h5⟩ := okFs_c' h4
  obtain ⟨x4, rfl, b4⟩ := okV_p' a4
  obtain ⟨_, vt5, rfl, a5, h6⟩ := okFs_c' h5
  obtain ⟨x5, rfl, b5⟩ := okV_p' a5
  obtain ⟨_, vt6, rfl, a6, h7⟩ := okFs_c' h6
  obtain ⟨x6, rfl, b6⟩ := okV_p' a6
  obtain ⟨_, vt7, rfl, a7, h8⟩ := okFs_c' h7
  obtain ⟨x7, rfl, b7⟩ := okV_i' a7
  obtain ⟨_, vt8, rfl, a8, h9⟩ := okFs_c' h8
  obtain ⟨x8, rfl, b8⟩ := okV_i' a8
  obtain ⟨_, vt9, rfl, a9, h10⟩ := okFs_c' h9
  obtain ⟨x9, rfl, b9⟩ := okV_i' a9
  obtain ⟨_, vt10, rfl, a10, h11⟩ := okFs_c' h10
  obtain ⟨x10, rfl, b10⟩ := okV_i' a10
  obtain ⟨_, vt11, rfl, a11, h12⟩ := okFs_c' h11
  obtain ⟨x11, rfl⟩ := okV_l' a11
  obtain ⟨_, vt12, rfl, a12, h13⟩ := okFs_c' h12
  obtain ⟨x12, rfl, b12⟩ := okV_i' a12
  obtain ⟨_, vt13, rfl, a13, h14⟩ := okFs_c' h13
  obtain ⟨x13, rfl, b13⟩ := okV_i' a13
  obtain ⟨_, vt14, rfl, a14, h15⟩ := okFs_c' h14
  obtain ⟨x14, rfl, b14⟩ := okV_i' a14
  obtain ⟨_, vt15, rfl, a15, h16⟩ := okFs_c' h15
  obtain rfl := okV_r' a15
  obtain ⟨_, vt16, rfl, a16, h17⟩ := okFs_c' h16
  obtain rfl := okV_r' a16
  obtain ⟨_, vt17, rfl, a17, h18⟩ := okFs_c' h17
  obtain ⟨x17, rfl, b17⟩ := okV_i' a17
  obtain ⟨_, vt18, rfl, a18, h19⟩ := okFs_c' h18
  obtain ⟨x18, rfl, b18⟩ := okV_i' a18
  obtain ⟨_, vt19, rfl, a19, h20⟩ := okFs_c' h19
  obtain ⟨x19, rfl, b19⟩ := okV_i' a19
  obtain ⟨_, vt20, rfl, a20, h21⟩ := okFs_c' h20
  obtain ⟨x20, rfl, b20⟩ := okV_i' a20
  obtain ⟨_, vt21, rfl, a21, h22⟩ := okFs_c' h21
  obtain ⟨x21, rfl, b21⟩ := okV_i' a21
  obtain ⟨_, vt22, rfl, a22, h23⟩ := okFs_c' h22
  obtain rfl := okV_r' a22
  obtain ⟨_, vt23, rfl, a23, h24⟩ := okFs_c' h23
  obtain rfl := okV_r' a23
  obtain ⟨_, vt24, rfl, a24, h25⟩ := okFs_c' h24
  obtain rfl := okV_r' a24
  obtain ⟨_, vt25, rfl, a25, h26⟩ := okFs_c' h25
  obtain ⟨x25, rfl, b25⟩ := okV_i' a25
  obtain ⟨_, vt26, rfl, a26, h27⟩ := okFs_c' h26
  obtain rfl := okV_r' a26
  obtain ⟨_, vt27, rfl, a27, h28⟩ := okFs_c' h27
  obtain rfl := okV_r' a27
  obtain ⟨_, vt28, rfl, a28, h29⟩ := okFs_c' h28
  obtain rfl := okV_r' a28
  obtain ⟨_, vt29, rfl, a29, h30⟩ := okFs_c' h29
  obtain rfl := okV_r' a29
  obtain ⟨_, vt30, rfl, a30, h31⟩ := okFs_c' h30
  obtain ⟨x30, rfl, b30⟩ := okV_i' a30
  obtain ⟨_, vt31, rfl, a31, h32⟩ := okFs_c' h31
  obtain rfl := okV_r' a31
  obtain rfl := okFs_n' h32
  exact ⟨x4, x5, x6, x7, x8, x9, x10, x11, x12, x13, x14, x17, x18, x19, x20, x21, x25, x30, p, b4, b5, b6, b7, b8, b9, b10, b12, b13, b14, b17, b18, b19, b20, b21, b25, b30⟩
theorem nnM_k {k j : Nat} (h : j < nnM k) : k < 15 ∧ j = 0 := by
  unfold nnM at h
  by_cases z : k < 15
  · rw [if_pos z] at h; exact ⟨z, by omega⟩
  · rw [if_neg z] at h; omega
theorem pAC : ∀ a b, b < nnM a → (a ≠ 1 ∨ b ≠ 0) → spM PA2 PI PX pa a b = spM PA PI PX pa a b := by
  intro a b hb h
  obtain ⟨-, rfl⟩ := nnM_k hb
  have z : a ≠ 1 := by rcases h with h | h; exact h; exact absurd rfl h
  unfold spM; split <;> first | rfl | exact absurd rfl z
theorem pIC : ∀ a b, b < nnM a → (a ≠ 2 ∨ b ≠ 0) → spM PA ((gp3, zL, zF, zQ, zT) : PIT) PX pa a b = spM PA ((gp2, zL, zF, zQ, zT) : PIT) PX pa a b := by
  intro a b hb h
  obtain ⟨-, rfl⟩ := nnM_k hb
  have z : a ≠ 2 := by rcases h with h | h; exact h; exact absurd rfl h
  unfold spM; split <;> first | rfl | exact absurd rfl z
theorem pXC : ∀ a b, b < nnM a → (a ≠ 3 ∨ b ≠ 0) → spM PA PI PX2 pa a b = spM PA PI PX pa a b := by
  intro a b hb h
  obtain ⟨-, rfl⟩ := nnM_k hb
  have z : a ≠ 3 := by rcases h with h | h; exact h; exact absurd rfl h
  unfold spM; split <;> first | rfl | exact absurd rfl z
theorem paC : ∀ a b, b < nnM a → (a ≠ 11 ∨ b ≠ 0) → spM PA PI PX pa2 a b = spM PA PI PX pa a b := by
  intro a b hb h
  obtain ⟨-, rfl⟩ := nnM_k hb
  have z : a ≠ 11 := by rcases h with h | h; exact h; exact absurd rfl h
  unfold spM; split <;> first | rfl | exact absurd rfl z
theorem pVC : ∀ a b, b < nnM a → (a ≠ 0 ∨ b ≠ 0) → spM PA ((gp2, zL2, zF2, zQ2, zT) : PIT) PX pa a b = spM PA ((gp2, zL, zF, zQ, zT) : PIT) PX pa a b := by
  intro a b hb h
  obtain ⟨-, rfl⟩ := nnM_k hb
  have z : a ≠ 0 := by rcases h with h | h; exact h; exact absurd rfl h
  unfold spM; split <;> first | rfl | exact absurd rfl z
theorem pTC : ∀ a b, b < nnM a → (a ≠ 4 ∨ b ≠ 0) → spM PA ((gp2, zL, zF, zQ, zT2) : PIT) PX pa a b = spM PA ((gp2, zL, zF, zQ, zT) : PIT) PX pa a b := by
  intro a b hb h
  obtain ⟨-, rfl⟩ := nnM_k hb
  have z : a ≠ 4 := by rcases h with h | h; exact h; exact absurd rfl h
  unfold spM; split <;> first | rfl | exact absurd rfl z
theorem SHpA (I : SH (spM PA PI PX pa) nnM G ad L f) (h : ∀ g, PA g → PA2 g) : SH (spM PA2 PI PX pa) nnM G ad L f := by
  obtain ⟨g, p, o⟩ := I.opi (k := 1) (j := 0) (by decide) rfl
  exact I.castS (k := 1) (j := 0) (by decide) p (okE_a (g := g) (h g o)) pAC
end OPM
section ZROWS
variable {p : Program} {l : Launch} {e : Env} {R : Room} {s : State} {m : MethodId} {args : Array Value} {below : List Frame} {meth : Method} {c : Code} {H : Heap} {locs : List Loc} {cells slots : Nat} {Q : State → Prop}
variable {G : GG} {A : Nat → Prop} {own : String} {cc : ByteArray} {nL : Nat} {rt : Option FieldType} {X : va_W} {L : List Nat} {f : HF} {pc : Nat} {ls : Array Slot} {rest : List Value} {a : Nat}
theorem pg_zald (S : SX G A p s m meth c own cc nL rt) (Y : DY G A s X L f H locs) {n : Nat} {g : Nat → Int32} {i : Int32} (h : pt L f a (.inl (G.2 2, n, .inl g))) (hin : vp_in i n) (hdg : decode cc pc = .ok (.baload, 1))
    (kk : W p l e R s m args below meth c H locs cells slots Q (F0 m (pc + 1) ls (.int (g i.toNatClampNeg) :: rest))) : W p l e R s m args below meth c H locs cells slots Q (F0 m pc ls (.int i :: .ref a :: rest)) := by
  obtain ⟨hx, hb, hml, hown, hr, hlo, hw, hK, hA⟩ := S
  obtain ⟨hP, hD, hS⟩ := Y
  obtain ⟨ha, he⟩ := h
  obtain ⟨j, hj⟩ := va_pl_get (X := X) (f := f) ha
  rw [he] at hj
  exact va_zald hx hb hK hP j 2 hj rfl hin hdg kk
theorem pg_zast (S : SX G A p s m meth c own cc nL rt) (Y : DY G A s X L f H locs) {n : Nat} {g : Nat → Int32} {i x : Int32} (h : pt L f a (.inl (G.2 2, n, .inl g))) (hin : vp_in i n) (hdg : decode cc pc = .ok (.bastore, 1))
    (kk : ∀ (f1 : HF) (H1 : Heap) (locs1 : List Loc), f1 = va_up f a (.inl (G.2 2, n, .inl (upd g i.toNatClampNeg (vp_nar .boolean x)))) → DY G A s X L f1 H1 locs1 → W p l e R s m args below meth c H1 locs1 cells slots Q (F0 m (pc + 1) ls rest)) : W p l e R s m args below meth c H locs cells slots Q (F0 m pc ls (.int x :: .int i :: .ref a :: rest)) := by
  obtain ⟨hx, hb, hml, hown, hr, hlo, hw, hK, hA⟩ := S
  obtain ⟨hP, hD, hS⟩ := Y
  obtain ⟨ha, he⟩ := h
  obtain ⟨j, hj⟩ := va_pl_get (X := X) (f := f) ha
  have hj2 := hj
  rw [he] at hj2
  refine va_zast hx hb hK hP hD hS j 2 hj2 rfl hin hdg (fun H1 locs1 hP1 hD1 hS1 => ?_)
  rw [va_pl_set hD ha hj] at hP1 hD1
  exact kk _ H1 locs1 rfl ⟨hP1, hD1, hS1⟩
theorem pg_lald (S : SX G A p s m meth c own cc nL rt) (Y : DY G A s X L f H locs) {n : Nat} {g : Nat → Int64} {i : Int32} (h : pt L f a (.inl (G.2 1, n, .inr (.inl g)))) (hin : vp_in i n) (hdg : decode cc pc = .ok (.laload, 1))
    (kk : W p l e R s m args below meth c H locs cells slots Q (F0 m (pc + 1) ls (.long (g i.toNatClampNeg) :: rest))) : W p l e R s m args below meth c H locs cells slots Q (F0 m pc ls (.int i :: .ref a :: rest)) := by
  obtain ⟨hx, hb, hml, hown, hr, hlo, hw, hK, hA⟩ := S
  obtain ⟨hP, hD, hS⟩ := Y
  obtain ⟨ha, he⟩ := h
  obtain ⟨j, hj⟩ := va_pl_get (X := X) (f := f) ha
  rw [he] at hj
  exact va_lald hx hb hK hP j 1 hj rfl hin hdg kk
theorem pg_last (S : SX G A p s m meth c own cc nL rt) (Y : DY G A s X L f H locs) {n : Nat} {g : Nat → Int64} {i : Int32} {x : Int64} (h : pt L f a (.inl (G.2 1, n, .inr (.inl g)))) (hin : vp_in i n) (hdg : decode cc pc = .ok (.lastore, 1))
    (kk : ∀ (f1 : HF) (H1 : Heap) (locs1 : List Loc), f1 = va_up f a (.inl (G.2 1, n, .inr (.inl (vp_updL g i.toNatClampNeg x)))) → DY G A s X L f1 H1 locs1 → W p l e R s m args below meth c H1 locs1 cells slots Q (F0 m (pc + 1) ls rest)) : W p l e R s m args below meth c H locs cells slots Q (F0 m pc ls (.long x :: .int i :: .ref a :: rest)) := by
  obtain ⟨hx, hb, hml, hown, hr, hlo, hw, hK, hA⟩ := S
  obtain ⟨hP, hD, hS⟩ := Y
  obtain ⟨ha, he⟩ := h
  obtain ⟨j, hj⟩ := va_pl_get (X := X) (f := f) ha
  have hj2 := hj
  rw [he] at hj2
  refine va_last hx hb hK hP hD hS j 1 hj2 rfl hin hdg (fun H1 locs1 hP1 hD1 hS1 => ?_)
  rw [va_pl_set hD ha hj] at hP1 hD1
  exact kk _ H1 locs1 rfl ⟨hP1, hD1, hS1⟩
theorem nar01 {x : Int32} (h : bn 0 1 x) : bn 0 1 (vp_nar .boolean x) := by
  rcases bn01 h with rfl | rfl
  · exact ⟨by decide, by decide⟩
  · exact ⟨by decide, by decide⟩
theorem upz {g : Nat → Int32} {k : Nat} {x : Int32} (h : ∀ i, bn 0 1 (g i)) (hx : bn 0 1 x) : ∀ i, bn 0 1 (upd g k x i) := by
  intro i
  by_cases z : i = k
  · subst z; rw [pk_us]; exact hx
  · rw [pk_un z]; exact h i
end ZROWS
