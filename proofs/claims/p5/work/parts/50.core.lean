/-! The graph by kinds: ad k j is the address of the j-th cell of kind k; sp k j says what may stand there; nn k how many there are. -/
abbrev FS : Type := (Int × Int) ⊕ ((Nat × Nat) ⊕ ((Nat × Nat × Nat) ⊕ Unit))
abbrev IN (a b : Int) : FS := .inl (a, b)
abbrev RF (k j : Nat) : FS := .inr (.inl (k, j))
abbrev NR (k b n : Nat) : FS := .inr (.inr (.inl (k, b, n)))
abbrev LG : FS := .inr (.inr (.inr ()))
def bn (a b : Int) (x : Int32) : Prop := a ≤ x.toInt ∧ x.toInt ≤ b
def okV (ad : Nat → Nat → Nat) (s : FS) (v : Value) : Prop := match s with
  | .inl q => ∃ x : Int32, v = .int x ∧ bn q.1 q.2 x
  | .inr (.inl q) => v = .ref (ad q.1 q.2)
  | .inr (.inr (.inl q)) => v = .null ∨ ∃ t, t < q.2.2 ∧ v = .ref (ad q.1 (q.2.1 + t))
  | .inr (.inr (.inr _)) => ∃ x : Int64, v = .long x
def okFs (ad : Nat → Nat → Nat) : List FS → List Value → Prop
  | [], vs => vs = []
  | s :: ss, vs => ∃ v vt, vs = v :: vt ∧ okV ad s v ∧ okFs ad ss vt
abbrev SP : Type := (Nat × List FS) ⊕ ((Nat × Nat × ((Nat → Int32) → Prop)) ⊕ ((Nat × Nat × Nat × Nat) ⊕ Nat))
def okE (G : GG) (ad : Nat → Nat → Nat) (s : SP) (e : va_E) : Prop := match s with
  | .inl q => ∃ vs, e = .inr (q.1, vs) ∧ okFs ad q.2 vs
  | .inr (.inl q) => ∃ g, e = .inl (G.2 q.1, q.2.1, .inl g) ∧ q.2.2 g
  | .inr (.inr (.inl q)) => ∃ g, e = .inl (G.2 q.1, q.2.1, .inr (.inr (.inr (.inr g)))) ∧ ∀ t, t < q.2.1 → g t = some (ad q.2.2.1 (q.2.2.2 + t))
  | .inr (.inr (.inr n)) => ∃ g, e = .inl (G.2 1, n, .inr (.inl g))
def SH (sp : Nat → Nat → SP) (nn : Nat → Nat) (G : GG) (ad : Nat → Nat → Nat) (L : List Nat) (f : HF) : Prop :=
  (∀ k j, j < nn k → ad k j ∈ L ∧ okE G ad (sp k j) (f (ad k j))) ∧ ∀ k j k' j', j < nn k → j' < nn k' → ad k j = ad k' j' → k = k' ∧ j = j'
section SHR
variable {sp sp' : Nat → Nat → SP} {nn : Nat → Nat} {G : GG} {ad : Nat → Nat → Nat} {L : List Nat} {f f1 : HF} {e1 : va_E} {k j k' j' : Nat}
theorem SH.at_ (I : SH sp nn G ad L f) (hj : j < nn k) {e : va_E} (h : f (ad k j) = e) : pt L f (ad k j) e := ⟨(I.1 k j hj).1, h⟩
theorem SH.opo (I : SH sp nn G ad L f) (hj : j < nn k) {ci : Nat} {fs : List FS} (hs : sp k j = .inl (ci, fs)) : ∃ vs, pt L f (ad k j) (.inr (ci, vs)) ∧ okFs ad fs vs := by
  have h := (I.1 k j hj).2
  rw [hs] at h
  obtain ⟨vs, h1, h2⟩ := h
  exact ⟨vs, I.at_ hj h1, h2⟩
theorem SH.opi (I : SH sp nn G ad L f) (hj : j < nn k) {tk n : Nat} {P : (Nat → Int32) → Prop} (hs : sp k j = .inr (.inl (tk, n, P))) : ∃ g, pt L f (ad k j) (.inl (G.2 tk, n, .inl g)) ∧ P g := by
  have h := (I.1 k j hj).2
  rw [hs] at h
  obtain ⟨g, h1, h2⟩ := h
  exact ⟨g, I.at_ hj h1, h2⟩
theorem SH.opr (I : SH sp nn G ad L f) (hj : j < nn k) {tk n k2 b : Nat} (hs : sp k j = .inr (.inr (.inl (tk, n, k2, b)))) : ∃ g, pt L f (ad k j) (.inl (G.2 tk, n, .inr (.inr (.inr (.inr g))))) ∧ ∀ t, t < n → g t = some (ad k2 (b + t)) := by
  have h := (I.1 k j hj).2
  rw [hs] at h
  obtain ⟨g, h1, h2⟩ := h
  exact ⟨g, I.at_ hj h1, h2⟩
theorem SH.opl (I : SH sp nn G ad L f) (hj : j < nn k) {n : Nat} (hs : sp k j = .inr (.inr (.inr n))) : ∃ g, pt L f (ad k j) (.inl (G.2 1, n, .inr (.inl g))) := by
  have h := (I.1 k j hj).2
  rw [hs] at h
  obtain ⟨g, h1⟩ := h
  exact ⟨g, I.at_ hj h1⟩
theorem SH.upS (I : SH sp nn G ad L f) (hj : j < nn k) (hf : f1 = va_up f (ad k j) e1) (h : okE G ad (sp' k j) e1) (hs : ∀ a b, b < nn a → (a ≠ k ∨ b ≠ j) → sp' a b = sp a b) : SH sp' nn G ad L f1 := by
  refine ⟨fun a b hab => ⟨(I.1 a b hab).1, ?_⟩, I.2⟩
  by_cases q : a = k ∧ b = j
  · obtain ⟨rfl, rfl⟩ := q; rw [hf, va_up_self]; exact h
  · have q2 : a ≠ k ∨ b ≠ j := by
      by_cases z : a = k
      · exact Or.inr (fun y => q ⟨z, y⟩)
      · exact Or.inl z
    rw [hf, va_up_ne f e1 (fun z => q (I.2 a b k j hab hj z)), hs a b hab q2]; exact (I.1 a b hab).2
theorem SH.up (I : SH sp nn G ad L f) (hj : j < nn k) (hf : f1 = va_up f (ad k j) e1) (h : okE G ad (sp k j) e1) : SH sp nn G ad L f1 := I.upS hj hf h (fun _ _ _ _ => rfl)
theorem SH.ne (I : SH sp nn G ad L f) (hj : j < nn k) (hj' : j' < nn k') (h : k ≠ k' ∨ j ≠ j') : ad k j ≠ ad k' j' := fun z => by
  have := I.2 k j k' j' hj hj' z
  rcases h with h | h
  · exact h this.1
  · exact h this.2
/-- what stands in a cell is as sp' says: then sp' serves there as well as sp -/
theorem SH.cast (I : SH sp nn G ad L f) (h : ∀ a b, b < nn a → okE G ad (sp a b) (f (ad a b)) → okE G ad (sp' a b) (f (ad a b))) : SH sp' nn G ad L f := ⟨fun a b hab => ⟨(I.1 a b hab).1, h a b hab (I.1 a b hab).2⟩, I.2⟩
theorem SH.castS (I : SH sp nn G ad L f) (hj : j < nn k) {e : va_E} (p : pt L f (ad k j) e) (h : okE G ad (sp' k j) e) (hs : ∀ a b, b < nn a → (a ≠ k ∨ b ≠ j) → sp' a b = sp a b) : SH sp' nn G ad L f := I.cast (fun a b hab q => by
  by_cases z : a = k ∧ b = j
  · obtain ⟨rfl, rfl⟩ := z; rw [p.2]; exact h
  · have q2 : a ≠ k ∨ b ≠ j := by
      by_cases z2 : a = k
      · exact Or.inr (fun y => z ⟨z2, y⟩)
      · exact Or.inl z2
    rw [hs a b hab q2]; exact q)
end SHR
section OKR
variable {ad : Nat → Nat → Nat} {a b : Int} {x : Int32} {v : Value} {vs vt : List Value} {s : FS} {ss : List FS} {k j n : Nat}
theorem okV_i (h : bn a b x) : okV ad (IN a b) (.int x) := ⟨x, rfl, h⟩
theorem okV_p {q : Int × Int} (h : bn q.1 q.2 x) : okV ad (.inl q) (.int x) := ⟨x, rfl, h⟩
theorem okV_r : okV ad (RF k j) (.ref (ad k j)) := rfl
theorem okV_r2 {i : Nat} (h : i = j) : okV ad (RF k j) (.ref (ad k i)) := by subst h; rfl
theorem okV_l {z : Int64} : okV ad LG (.long z) := ⟨z, rfl⟩
theorem okV_n0 : okV ad (NR k j n) .null := Or.inl rfl
theorem okV_nr {t : Nat} (h : t < n) : okV ad (NR k j n) (.ref (ad k (j + t))) := Or.inr ⟨t, h, rfl⟩
theorem okV_i' (h : okV ad (IN a b) v) : ∃ x : Int32, v = .int x ∧ bn a b x := h
theorem okV_p' {q : Int × Int} (h : okV ad (.inl q) v) : ∃ x : Int32, v = .int x ∧ bn q.1 q.2 x := h
theorem okV_r' (h : okV ad (RF k j) v) : v = .ref (ad k j) := h
theorem okV_l' (h : okV ad LG v) : ∃ x : Int64, v = .long x := h
theorem okFs_c' (h : okFs ad (s :: ss) vs) : ∃ v vt, vs = v :: vt ∧ okV ad s v ∧ okFs ad ss vt := h
theorem okFs_n' (h : okFs ad [] vs) : vs = [] := h
theorem okFs_c (h1 : okV ad s v) (h2 : okFs ad ss vt) : okFs ad (s :: ss) (v :: vt) := ⟨v, vt, rfl, h1, h2⟩
theorem okFs_n : okFs ad [] [] := rfl
theorem okE_o {G : GG} {ci : Nat} (h : okFs ad ss vs) : okE G ad (.inl (ci, ss)) (.inr (ci, vs)) := ⟨vs, rfl, h⟩
theorem okE_a {G : GG} {tk : Nat} {P : (Nat → Int32) → Prop} {g : Nat → Int32} (h : P g) : okE G ad (.inr (.inl (tk, n, P))) (.inl (G.2 tk, n, .inl g)) := ⟨g, rfl, h⟩
theorem okE_l {G : GG} {g : Nat → Int64} : okE G ad (.inr (.inr (.inr n))) (.inl (G.2 1, n, .inr (.inl g))) := ⟨g, rfl⟩
end OKR
theorem ti_mul {a b : Int32} (h1 : -2147483648 ≤ a.toInt * b.toInt) (h2 : a.toInt * b.toInt < 2147483648) : (a * b).toInt = a.toInt * b.toInt := by
  rw [Int32.toInt_mul]; exact Int.bmod_eq_of_le (by omega) (by omega)
theorem ti_add {a b : Int32} (h1 : -2147483648 ≤ a.toInt + b.toInt) (h2 : a.toInt + b.toInt < 2147483648) : (a + b).toInt = a.toInt + b.toInt := by
  rw [Int32.toInt_add]; exact Int.bmod_eq_of_le (by omega) (by omega)
theorem ti_sub {a b : Int32} (h1 : -2147483648 ≤ a.toInt - b.toInt) (h2 : a.toInt - b.toInt < 2147483648) : (a - b).toInt = a.toInt - b.toInt := by
  rw [Int32.toInt_sub]; exact Int.bmod_eq_of_le (by omega) (by omega)
section BN
variable {a b c d a' b' : Int} {x y z : Int32}
theorem bn_k (h : a ≤ x.toInt ∧ x.toInt ≤ b) : bn a b x := h
theorem ti_lo (x : Int32) : -2147483648 ≤ x.toInt := Int32.le_toInt x
theorem ti_hi (x : Int32) : x.toInt ≤ 2147483647 := by
  have h := Int32.toInt_le x
  rw [show Int32.maxValue.toInt = 2147483647 from by decide] at h; exact h
theorem bn_any (x : Int32) : bn (-2147483648) 2147483647 x := ⟨ti_lo x, ti_hi x⟩
theorem bn_eq (e : x = y) (h : bn a b y) : bn a b x := e ▸ h
theorem bn_w (h : bn a b x) (q : a' ≤ a ∧ b ≤ b') : bn a' b' x := ⟨Int.le_trans q.1 h.1, Int.le_trans h.2 q.2⟩
theorem bn_add (h : bn a b x) (g : bn c d y) (q : -2147483648 ≤ a + c ∧ b + d ≤ 2147483647) : bn (a + c) (b + d) (x + y) := by
  obtain ⟨h1, h2⟩ := h; obtain ⟨g1, g2⟩ := g; obtain ⟨q1, q2⟩ := q
  have e := ti_add (a := x) (b := y) (by omega) (by omega)
  exact ⟨by omega, by omega⟩
theorem bn_sub (h : bn a b x) (g : bn c d y) (q : -2147483648 ≤ a - d ∧ b - c ≤ 2147483647) : bn (a - d) (b - c) (x - y) := by
  obtain ⟨h1, h2⟩ := h; obtain ⟨g1, g2⟩ := g; obtain ⟨q1, q2⟩ := q
  have e := ti_sub (a := x) (b := y) (by omega) (by omega)
  exact ⟨by omega, by omega⟩
theorem bn_mul (h : bn a b x) (g : bn c d y) (q : 0 ≤ a ∧ 0 ≤ c ∧ b * d ≤ 2147483647) : bn (a * c) (b * d) (x * y) := by
  obtain ⟨h1, h2⟩ := h; obtain ⟨g1, g2⟩ := g; obtain ⟨q1, q2, q3⟩ := q
  have m1 : a * c ≤ x.toInt * y.toInt := Int.mul_le_mul h1 g1 q2 (by omega)
  have m2 : x.toInt * y.toInt ≤ b * d := Int.mul_le_mul h2 g2 (by omega) (by omega)
  have m3 : 0 ≤ a * c := Int.mul_nonneg q1 q2
  have e := ti_mul (a := x) (b := y) (by omega) (by omega)
  exact ⟨by omega, by omega⟩
theorem bn_neg (h : bn a b x) (q : -2147483647 ≤ a) : bn (-b) (-a) (-x) := by
  obtain ⟨h1, h2⟩ := h
  have hx := ti_hi x
  have e : (-x).toInt = -x.toInt := by
    rw [Int32.toInt_neg]; exact Int.bmod_eq_of_le (by omega) (by omega)
  exact ⟨by omega, by omega⟩
theorem bn_ltl (k : x < y) (h : bn a b x) (g : bn c d y) : bn a (d - 1) x := by
  rw [Int32.lt_iff_toInt_lt] at k; obtain ⟨h1, h2⟩ := h; obtain ⟨g1, g2⟩ := g; exact ⟨by omega, by omega⟩
theorem bn_ltr (k : x < y) (h : bn a b x) (g : bn c d y) : bn (a + 1) d y := by
  rw [Int32.lt_iff_toInt_lt] at k; obtain ⟨h1, h2⟩ := h; obtain ⟨g1, g2⟩ := g; exact ⟨by omega, by omega⟩
theorem bn_gel (k : ¬ x < y) (h : bn a b x) (g : bn c d y) : bn c b x := by
  rw [Int32.lt_iff_toInt_lt] at k; obtain ⟨h1, h2⟩ := h; obtain ⟨g1, g2⟩ := g; exact ⟨by omega, by omega⟩
theorem bn_ger (k : ¬ x < y) (h : bn a b x) (g : bn c d y) : bn c b y := by
  rw [Int32.lt_iff_toInt_lt] at k; obtain ⟨h1, h2⟩ := h; obtain ⟨g1, g2⟩ := g; exact ⟨by omega, by omega⟩
theorem bn_lel (k : x ≤ y) (h : bn a b x) (g : bn c d y) : bn a d x := by
  rw [Int32.le_iff_toInt_le] at k; obtain ⟨h1, h2⟩ := h; obtain ⟨g1, g2⟩ := g; exact ⟨by omega, by omega⟩
theorem bn_ler (k : x ≤ y) (h : bn a b x) (g : bn c d y) : bn a d y := by
  rw [Int32.le_iff_toInt_le] at k; obtain ⟨h1, h2⟩ := h; obtain ⟨g1, g2⟩ := g; exact ⟨by omega, by omega⟩
theorem bn_gtl (k : ¬ x ≤ y) (h : bn a b x) (g : bn c d y) : bn (c + 1) b x := by
  rw [Int32.le_iff_toInt_le] at k; obtain ⟨h1, h2⟩ := h; obtain ⟨g1, g2⟩ := g; exact ⟨by omega, by omega⟩
theorem bn_gtr (k : ¬ x ≤ y) (h : bn a b x) (g : bn c d y) : bn c (b - 1) y := by
  rw [Int32.le_iff_toInt_le] at k; obtain ⟨h1, h2⟩ := h; obtain ⟨g1, g2⟩ := g; exact ⟨by omega, by omega⟩
theorem bn_i (h : bn a b x) (g : bn c d x) : bn (max a c) (min b d) x := by
  obtain ⟨h1, h2⟩ := h; obtain ⟨g1, g2⟩ := g; exact ⟨by omega, by omega⟩
theorem bn_nel (k : ¬ x = y) (h : bn a b x) (g : bn a a y) : bn (a + 1) b x := by
  have k : ¬ x.toInt = y.toInt := fun q => k (Int32.toInt_inj.mp q)
  obtain ⟨h1, h2⟩ := h; obtain ⟨g1, g2⟩ := g; exact ⟨by omega, by omega⟩
theorem bn_neu (k : ¬ x = y) (h : bn a b x) (g : bn b b y) : bn a (b - 1) x := by
  have k : ¬ x.toInt = y.toInt := fun q => k (Int32.toInt_inj.mp q)
  obtain ⟨h1, h2⟩ := h; obtain ⟨g1, g2⟩ := g; exact ⟨by omega, by omega⟩
theorem bd_lt (h : bn a b x) (g : bn c d y) (q : b < c) : x < y := by
  rw [Int32.lt_iff_toInt_lt]; obtain ⟨h1, h2⟩ := h; obtain ⟨g1, g2⟩ := g; omega
theorem bd_nlt (h : bn a b x) (g : bn c d y) (q : d ≤ a) : ¬ x < y := by
  rw [Int32.lt_iff_toInt_lt]; obtain ⟨h1, h2⟩ := h; obtain ⟨g1, g2⟩ := g; omega
theorem bd_le (h : bn a b x) (g : bn c d y) (q : b ≤ c) : x ≤ y := by
  rw [Int32.le_iff_toInt_le]; obtain ⟨h1, h2⟩ := h; obtain ⟨g1, g2⟩ := g; omega
theorem bd_nle (h : bn a b x) (g : bn c d y) (q : d < a) : ¬ x ≤ y := by
  rw [Int32.le_iff_toInt_le]; obtain ⟨h1, h2⟩ := h; obtain ⟨g1, g2⟩ := g; omega
theorem bd_ne (h : bn a b x) (g : bn c d y) (q : b < c ∨ d < a) : ¬ x = y := by
  intro e; subst e; obtain ⟨h1, h2⟩ := h; obtain ⟨g1, g2⟩ := g; omega
theorem bn_min (h : bn a b x) (g : bn c d y) : bn (min a c) (min b d) (if y < x then y else x) := by
  by_cases q : y < x
  · rw [if_pos q]; rw [Int32.lt_iff_toInt_lt] at q; obtain ⟨h1, h2⟩ := h; obtain ⟨g1, g2⟩ := g; exact ⟨by omega, by omega⟩
  · rw [if_neg q]; rw [Int32.lt_iff_toInt_lt] at q; obtain ⟨h1, h2⟩ := h; obtain ⟨g1, g2⟩ := g; exact ⟨by omega, by omega⟩
theorem bn_max (h : bn a b x) (g : bn c d y) : bn (max a c) (max b d) (if x < y then y else x) := by
  by_cases q : x < y
  · rw [if_pos q]; rw [Int32.lt_iff_toInt_lt] at q; obtain ⟨h1, h2⟩ := h; obtain ⟨g1, g2⟩ := g; exact ⟨by omega, by omega⟩
  · rw [if_neg q]; rw [Int32.lt_iff_toInt_lt] at q; obtain ⟨h1, h2⟩ := h; obtain ⟨g1, g2⟩ := g; exact ⟨by omega, by omega⟩
theorem vp_bn {n : Nat} (h : bn a b x) (q : 0 ≤ a ∧ b < n) : vp_in x n := by
  obtain ⟨h1, h2⟩ := h
  unfold vp_in
  intro t
  rcases t with t | t
  · rw [Int32.lt_iff_toInt_lt, show (0 : Int32).toInt = 0 from rfl] at t; omega
  · have e : x.toNatClampNeg = x.toInt.toNat := rfl
    rw [e] at t; omega
theorem tn_bn {n : Nat} (h : bn a b x) (q : 0 ≤ a ∧ b < n) : x.toNatClampNeg < n := by
  obtain ⟨h1, h2⟩ := h
  have e : x.toNatClampNeg = x.toInt.toNat := rfl
  rw [e]; omega
theorem ms_up {m : Int} (e : x = y + z) (hz : bn 1 m z) (h : bn c d y) (g : bn a b x) (q : d + m ≤ 2147483647 ∧ -2147483648 ≤ c + 1) : (b - x.toInt).toNat < (b - y.toInt).toNat := by
  obtain ⟨h1, h2⟩ := h; obtain ⟨g1, g2⟩ := g; obtain ⟨z1, z2⟩ := hz; obtain ⟨q1, q2⟩ := q
  have e2 : x.toInt = y.toInt + z.toInt := by rw [e]; exact ti_add (by omega) (by omega)
  omega
theorem ms_dn {m : Int} (e : x = y + z) (hz : bn m (-1) z) (h : bn c d y) (g : bn a b x) (q : -2147483648 ≤ c + m ∧ d ≤ 2147483647) : (x.toInt - a).toNat < (y.toInt - a).toNat := by
  obtain ⟨h1, h2⟩ := h; obtain ⟨g1, g2⟩ := g; obtain ⟨z1, z2⟩ := hz; obtain ⟨q1, q2⟩ := q
  have e2 : x.toInt = y.toInt + z.toInt := by rw [e]; exact ti_add (by omega) (by omega)
  omega
theorem td_b {x m : Int} (h : 1 ≤ m) : (0 ≤ x → 0 ≤ x.tdiv m ∧ x.tdiv m ≤ x ∧ 0 ≤ m * x.tdiv m ∧ m * x.tdiv m ≤ x ∧ x = m * x.tdiv m + x.tmod m) ∧ (x < 0 → x ≤ x.tdiv m ∧ x.tdiv m ≤ 0 ∧ m * x.tdiv m ≤ 0 ∧ x ≤ m * x.tdiv m ∧ x = m * x.tdiv m + x.tmod m) := by
  have e := Int.mul_tdiv_add_tmod x m
  have key : ∀ y : Int, 0 ≤ y → 0 ≤ y.tdiv m ∧ y.tdiv m ≤ y ∧ 0 ≤ m * y.tdiv m ∧ m * y.tdiv m ≤ y := by
    intro y hy
    have e := Int.mul_tdiv_add_tmod y m
    have a1 := Int.tmod_nonneg (a := y) m hy
    have a2 : 0 ≤ y.tdiv m := Int.tdiv_nonneg hy (by omega)
    have a3 : 1 * y.tdiv m ≤ m * y.tdiv m := Int.mul_le_mul_of_nonneg_right h a2
    rw [Int.one_mul] at a3
    exact ⟨a2, by omega, by omega, by omega⟩
  refine ⟨fun hx => ?_, fun hx => ?_⟩
  · obtain ⟨a, b, c, d⟩ := key x hx
    exact ⟨a, b, c, d, by omega⟩
  · obtain ⟨a, b, c, d⟩ := key (-x) (by omega)
    rw [Int.neg_tdiv] at a b c d
    rw [Int.mul_neg] at c d
    exact ⟨by omega, by omega, by omega, by omega, by omega⟩
theorem ti_div {x m : Int32} (h : bn 1 d m) : (x / m).toInt = x.toInt.tdiv m.toInt := by
  obtain ⟨h1, h2⟩ := h
  have x1 := ti_lo x; have x2 := ti_hi x
  obtain ⟨k1, k2⟩ := td_b (x := x.toInt) h1
  rw [Int32.toInt_div]
  by_cases q : 0 ≤ x.toInt
  · obtain ⟨a, b, _⟩ := k1 q
    exact Int.bmod_eq_of_le (by omega) (by omega)
  · obtain ⟨a, b, _⟩ := k2 (by omega)
    exact Int.bmod_eq_of_le (by omega) (by omega)
theorem ti_rem {x m : Int32} (h : bn 1 d m) : (x - x / m * m).toInt = x.toInt.tmod m.toInt := by
  have e := ti_div (x := x) h
  obtain ⟨h1, h2⟩ := h
  have x1 := ti_lo x; have x2 := ti_hi x
  obtain ⟨k1, k2⟩ := td_b (x := x.toInt) h1
  have t : (x / m).toInt * m.toInt = m.toInt * x.toInt.tdiv m.toInt := by rw [e, Int.mul_comm]
  by_cases q : 0 ≤ x.toInt
  · obtain ⟨_, _, a, b, c⟩ := k1 q
    have e2 : (x / m * m).toInt = m.toInt * x.toInt.tdiv m.toInt := by rw [ti_mul (by omega) (by omega), t]
    rw [ti_sub (by rw [e2]; omega) (by rw [e2]; omega), e2]; omega
  · obtain ⟨_, _, a, b, c⟩ := k2 (by omega)
    have e2 : (x / m * m).toInt = m.toInt * x.toInt.tdiv m.toInt := by rw [ti_mul (by omega) (by omega), t]
    rw [ti_sub (by rw [e2]; omega) (by rw [e2]; omega), e2]; omega
theorem bn_rem {m : Int32} (h : bn a b x) (g : bn c d m) (q : 1 ≤ c ∧ 0 ≤ a) : bn 0 (d - 1) (x - x / m * m) := by
  have g' : bn 1 d m := bn_w g ⟨q.1, Int.le_refl _⟩
  have e := ti_rem (x := x) g'
  obtain ⟨h1, h2⟩ := h; obtain ⟨g1, g2⟩ := g'
  have b1 : x.toInt.tmod m.toInt < m.toInt := Int.tmod_lt_of_pos _ (by omega)
  have b2 := Int.tmod_nonneg (a := x.toInt) m.toInt (by omega)
  exact ⟨by omega, by omega⟩
theorem bn_rems {m : Int32} (g : bn c d m) (q : 1 ≤ c) : bn (1 - d) (d - 1) (x - x / m * m) := by
  have g' : bn 1 d m := bn_w g ⟨q, Int.le_refl _⟩
  have e := ti_rem (x := x) g'
  obtain ⟨g1, g2⟩ := g'
  have b1 : x.toInt.tmod m.toInt < m.toInt := Int.tmod_lt_of_pos _ (by omega)
  have b2 : -m.toInt < x.toInt.tmod m.toInt := Int.lt_tmod_of_pos _ (by omega)
  exact ⟨by omega, by omega⟩
theorem bn_div {m : Int32} (h : bn a b x) (g : bn c d m) (q : 1 ≤ c ∧ 0 ≤ a) : bn 0 b (x / m) := by
  have g' : bn 1 d m := bn_w g ⟨q.1, Int.le_refl _⟩
  have e := ti_div (x := x) g'
  obtain ⟨h1, h2⟩ := h; obtain ⟨g1, g2⟩ := g'
  obtain ⟨k1, _⟩ := (td_b (x := x.toInt) g1).1 (by omega)
  exact ⟨by omega, by omega⟩
theorem nz_bn {m : Int32} (g : bn c d m) (q : 1 ≤ c ∨ d ≤ -1) : ¬ m = 0 := by
  intro e; subst e; obtain ⟨g1, g2⟩ := g
  rw [show (0 : Int32).toInt = 0 from rfl] at g1 g2; omega
theorem bn_shl {n : Nat} (h : bn 0 b x) (hn : n ≤ 30) (q : b = n) : bn 1 (2 ^ n) (1 <<< (x &&& 31)) := by
  obtain ⟨h1, h2⟩ := h
  have e : x = Int32.ofNat x.toInt.toNat := by
    apply Int32.toInt_inj.mp
    rw [Int32.toInt_ofNat_of_lt (by omega)]; omega
  have key : ∀ k : Nat, k < 31 → (1 <<< ((Int32.ofNat k) &&& 31) : Int32).toInt = 2 ^ k := by decide
  have k2 := key x.toInt.toNat (by omega)
  rw [← e] at k2
  have p1 : (2 : Nat) ^ x.toInt.toNat ≤ 2 ^ n := Nat.pow_le_pow_right (by decide) (by omega)
  have p2 : 1 ≤ (2 : Nat) ^ x.toInt.toNat := Nat.one_le_two_pow
  have c1 : ((2 : Nat) ^ x.toInt.toNat : Nat) = ((2 : Int) ^ x.toInt.toNat) := by simp
  have c2 : ((2 : Nat) ^ n : Nat) = ((2 : Int) ^ n) := by simp
  exact ⟨by omega, by omega⟩
theorem bn_or {n : Nat} (h : bn 0 a x) (g : bn 0 b y) (hn : n ≤ 30) (q : a < 2 ^ n ∧ b < 2 ^ n) : bn 0 (2 ^ n - 1) (x ||| y) := by
  obtain ⟨h1, h2⟩ := h; obtain ⟨g1, g2⟩ := g
  have c2 : ((2 : Nat) ^ n : Nat) = ((2 : Int) ^ n) := by simp
  have p1 : (2 : Nat) ^ n ≤ 2 ^ 30 := Nat.pow_le_pow_right (by decide) hn
  have ex : x.toBitVec.toNat = x.toInt.toNat := by
    have : x.toInt = x.toBitVec.toInt := rfl
    rw [this, BitVec.toInt_eq_toNat_cond] at h1 ⊢
    split at h1 <;> rename_i z <;> simp only [z, if_true, if_false, ite_true, ite_false] at * <;> omega
  have ey : y.toBitVec.toNat = y.toInt.toNat := by
    have : y.toInt = y.toBitVec.toInt := rfl
    rw [this, BitVec.toInt_eq_toNat_cond] at g1 ⊢
    split at g1 <;> rename_i z <;> simp only [z, if_true, if_false, ite_true, ite_false] at * <;> omega
  have l := Nat.or_lt_two_pow (n := n) (x := x.toBitVec.toNat) (y := y.toBitVec.toNat) (by omega) (by omega)
  have eo : (x ||| y).toInt = (x.toBitVec.toNat ||| y.toBitVec.toNat : Nat) := by
    have : (x ||| y).toInt = (x.toBitVec ||| y.toBitVec).toInt := rfl
    rw [this, BitVec.toInt_eq_toNat_of_lt (by rw [BitVec.toNat_or]; omega), BitVec.toNat_or]
  exact ⟨by omega, by omega⟩
end BN
theorem bn01 {v : Int32} (h : bn 0 1 v) : v = 0 ∨ v = 1 := by
  obtain ⟨h1, h2⟩ := h
  by_cases q : v.toInt = 0
  · exact Or.inl (Int32.toInt_inj.mp (by rw [q]; rfl))
  · exact Or.inr (Int32.toInt_inj.mp (by rw [show (1 : Int32).toInt = 1 from rfl]; omega))
theorem nw_b {v : Int32} (h : bn 0 1 v) : narrow .boolean (.int v) = .int v := by
  rcases bn01 h with rfl | rfl <;> rfl
theorem aal0 {ad : Nat → Nat → Nat} {k t : Nat} {x : Option Nat} (h : x = some (ad k (0 + t))) : x = some (ad k t) := by rw [Nat.zero_add] at h; exact h
section LROWS
variable {p : Program} {l : Launch} {e : Env} {R : Room} {s : State} {m : MethodId} {args : Array Value} {below : List Frame} {meth : Method} {c : Code} {H : Heap} {locs : List Loc} {cells slots : Nat} {Q : State → Prop}
variable {G : GG} {A : Nat → Prop} {own : String} {cc : ByteArray} {nL : Nat} {rt : Option FieldType} {X : va_W} {L : List Nat} {f : HF} {pc : Nat} {ls : Array Slot} {rest st0 As : List Value} {b index : Nat}
variable {y : MethodName} {bytes : ByteArray} {maxL n d mc ms : Nat} {ty : FieldType}
theorem cSl {post : Int64 → List Nat → HF → Prop} (S : SX G A p s m meth c own cc nL rt) (Y : DY G A s X L f H locs) (hM : PMl l y bytes maxL d mc ms G As L f post) (cw : CWs y bytes maxL (some .long) n) (hl : inW (.methodLink own index y)) (hn : As.length = n) (hR : d + 1 ≤ R.frames ∧ 8 + (maxL + 11) + 64 * d ≤ R.locals) (hls : ls.size = nL) (hst : st0 = As.reverse ++ rest) (hrest : (rest.map fun v => v.category).sum ≤ 8) (hf : cells + mc ≤ R.cells ∧ slots + ms ≤ R.slots) (hdg : decode cc pc = .ok (.invokestatic index, 3))
    (kk : ∀ (r : Int64) (L1 : List Nat) (f1 : HF) (H1 : Heap) (locs1 : List Loc), post r L1 f1 → DY G A s X L1 f1 H1 locs1 → W p l e R s m args below meth c H1 locs1 (cells + mc) (slots + ms) Q (F0 m (pc + 3) ls (.long r :: rest))) : W p l e R s m args below meth c H locs cells slots Q (F0 m pc ls st0) :=
  pcl (rnS (Qc := fun sz => va_Ql (fun r (u : List Nat × HF) => post r u.1 u.2) (fun u t => pOut G (va_A (va_pl L f) sz) u.1 u.2 t) (va_A (va_pl L f) sz)) S Y hM cw hl hn hR hls hst hrest hf hdg) S Y kk
theorem cSlp {φ : Int64 → Prop} (S : SX G A p s m meth c own cc nL rt) (Y : DY G A s X L f H locs) (hM : PMl l y bytes maxL d mc ms G As L f (fun r L1 f1 => φ r ∧ L1 = L ∧ f1 = f)) (cw : CWs y bytes maxL (some .long) n) (hl : inW (.methodLink own index y)) (hn : As.length = n) (hR : d + 1 ≤ R.frames ∧ 8 + (maxL + 11) + 64 * d ≤ R.locals) (hls : ls.size = nL) (hst : st0 = As.reverse ++ rest) (hrest : (rest.map fun v => v.category).sum ≤ 8) (hf : cells + mc ≤ R.cells ∧ slots + ms ≤ R.slots) (hdg : decode cc pc = .ok (.invokestatic index, 3))
    (kk : ∀ (r : Int64) (H1 : Heap) (locs1 : List Loc), φ r → DY G A s X L f H1 locs1 → W p l e R s m args below meth c H1 locs1 (cells + mc) (slots + ms) Q (F0 m (pc + 3) ls (.long r :: rest))) : W p l e R s m args below meth c H locs cells slots Q (F0 m pc ls st0) :=
  cSl S Y hM cw hl hn hR hls hst hrest hf hdg (fun r L1 f1 H1 locs1 hp Y1 => kk r H1 locs1 hp.1 (by rw [hp.2.1, hp.2.2] at Y1; exact Y1))
theorem cVlp {φ : Int64 → Prop} (S : SX G A p s m meth c own cc nL rt) (Y : DY G A s X L f H locs) (hM : PMl l y bytes maxL d mc ms G (.ref b :: As) L f (fun r L1 f1 => φ r ∧ L1 = L ∧ f1 = f)) (cw : CWv y bytes maxL (some .long) n) (hl : inW (.methodLink own index y)) {ci : Nat} {fs : List Value} {q : vw_C} (hb : pt L f b (.inr (ci, fs))) (hcl : CL[ci]? = some q) (hq : q.1 = y.cls) (hn : As.length = n) (hR : d + 1 ≤ R.frames ∧ 8 + (maxL + 11) + 64 * d ≤ R.locals) (hls : ls.size = nL) (hst : st0 = As.reverse ++ .ref b :: rest) (hrest : (rest.map fun v => v.category).sum ≤ 8) (hf : cells + mc ≤ R.cells ∧ slots + ms ≤ R.slots) (hdg : decode cc pc = .ok (.invokevirtual index, 3))
    (kk : ∀ (r : Int64) (H1 : Heap) (locs1 : List Loc), φ r → DY G A s X L f H1 locs1 → W p l e R s m args below meth c H1 locs1 (cells + mc) (slots + ms) Q (F0 m (pc + 3) ls (.long r :: rest))) : W p l e R s m args below meth c H locs cells slots Q (F0 m pc ls st0) :=
  cVl S Y hM cw hl hb hcl hq hn hR hls hst hrest hf hdg (fun r L1 f1 H1 locs1 hp Y1 => kk r H1 locs1 hp.1 (by rw [hp.2.1, hp.2.2] at Y1; exact Y1))
end LROWS
theorem lc_nz {v : Int32} {a : Int64} (e : v = lg_cmp a 0) (h : ¬ v = 0) : ¬ a = 0 := fun z => h (by rw [e, z]; decide)
theorem bn_lc (a b : Int64) : bn (-1) 1 (lg_cmp a b) := by
  unfold lg_cmp
  split
  · exact ⟨by decide, by decide⟩
  · split <;> exact ⟨by decide, by decide⟩
