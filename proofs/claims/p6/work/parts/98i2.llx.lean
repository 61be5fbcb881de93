/-! The parser's state on the stack. -/
section LLX
variable {K V : Nat → Int} {S : List LI} {i o9 j9 : Nat} {b : Bool} {cn cn2 : Nat → Int} {P p q q2 : List Int} {c l : Nat} {rr : Int × Nat} {o t top opn k r : Int} {cmp wh : Bool} {B : Nat → Int} {n : Nat}
variable {gB z gp gc g gc2 : Nat → Int32} {fr : Nat} {t0 wr pd op cg pd2 cg2 iw x y : Int32}
abbrev GIn (g : Nat → Int32) : Nat → Int := fun j => (g j).toInt
theorem XV_sha (h : XV gB fr gp gc opn cmp t0 wr pd op cg wh z) : ∃ top, SHA (pls (fun j => (gp j).toInt) pd.toInt.toNat) top opn cmp ∧ lvl (pls (fun j => (gp j).toInt) pd.toInt.toNat) = op.toInt.toNat ∧ jn (pls (fun j => (gp j).toInt) pd.toInt.toNat) = cg.toInt.toNat ∧ (0 < pd.toInt.toNat → top = (gp (pd.toInt.toNat - 1)).toInt) ∧ (wh = false → top ≠ 16) ∧ (pd.toInt.toNat = 0 → top = 40 ∧ opn = -1) ∧ (¬ askd opn → rk top = 0 ∨ 5 ≤ rk top) ∧ (0 < pd.toInt.toNat → rk top = 0 → top = opn) ∧ (cmp = true → askd opn) ∧ (opn = -1 ∨ 40 ≤ opn ∧ opn ≤ 44) ∧ (top = 16 → cmp = true) := by
  obtain ⟨hB, m, hm, n', t', top, h1, h2, h3⟩ := h
  have v := ps_inv _ _ _ _ _ _ _ _ h1
  obtain ⟨s1, s2, s3⟩ := ps_sha _ _ _ _ _ _ _ _ h1
  exact ⟨top, s1, s2, s3, v.2.2.2.2.2.2.1, h2, fun e => ⟨(v.2.2.2.2.2.2.2.2.2.2.1 e).2.2.2.1, (v.2.2.2.2.2.2.2.2.2.2.1 e).2.2.2.2⟩, v.2.2.2.2.1, v.2.2.2.2.2.1, v.2.2.2.2.2.2.2.2.1, v.2.2.2.2.2.2.2.2.2.2.2, v.2.2.2.2.2.2.2.1⟩
theorem ps_pre {gpi gci : Nat → Int} : ∀ (i : Nat) (s : PSt), ps gpi gci i s → ∀ j, j ≤ i → ∃ s', ps gpi gci j s' := by
  intro i
  induction i with
  | zero => intro s h j hj; have : j = 0 := by omega
            subst this; exact ⟨s, h⟩
  | succ i ih =>
    intro s h j hj
    by_cases e : j = i + 1
    · subst e; exact ⟨s, h⟩
    · obtain ⟨n', t', op', ju', top', opn', cmp', h1, _⟩ := h
      exact ih _ h1 j (by omega)
/-- settled from seven on: no sign waits for its operand -/
theorem nng_of (h : XV gB fr gp gc opn cmp t0 wr pd op cg wh z) (hp : pd2.toInt ≤ pd.toInt) (hx : xtp gp pd2 7) : nng (pls (fun j => (gp j).toInt) pd2.toInt.toNat) := by
  obtain ⟨hB, m, hm, n', t', top, h1, h2, h3⟩ := h
  obtain ⟨⟨n2, t2, op2, ju2, top2, opn2, cmp2⟩, h4⟩ := ps_pre _ _ h1 pd2.toInt.toNat (by omega)
  have v := ps_inv _ _ _ _ _ _ _ _ h4
  have s := (ps_sha _ _ _ _ _ _ _ _ h4).1
  have e : top2 ≠ 5 ∧ top2 ≠ 2 := by
    rcases Nat.eq_zero_or_pos pd2.toInt.toNat with w | w
    · have := (v.2.2.2.2.2.2.2.2.2.2.1 w).2.2.2.1; omega
    · rcases hx with y | y
      · omega
      · have e1 : top2 = (gp (pd2.toInt.toNat - 1)).toInt := v.2.2.2.2.2.2.1 w
        rw [← e1] at y
        constructor
        · intro z; rw [z] at y; exact absurd y (by decide)
        · intro z; rw [z] at y; exact absurd y (by decide)
  exact s.2.2.2.2.2.1 e.1 e.2
/-- may an ask stand here? -/
theorem ask_iff (hs : SHA P top opn cmp) (e0 : P = [] → top = 40 ∧ opn = -1) (e1 : ∀ t p, P = t :: p → top = t) (e2 : ¬ askd opn → rk top = 0 ∨ 5 ≤ rk top) (e3 : P ≠ [] → rk top = 0 → top = opn) : askT P ↔ (askd opn ∧ rk top ≤ 3) := by
  cases P with
  | nil =>
    obtain ⟨q1, q2⟩ := e0 rfl
    constructor
    · intro h; exact h.elim
    · rintro ⟨h, _⟩; rw [q2] at h; exact absurd h (by unfold askd; decide)
  | cons t p =>
    have et := e1 t p rfl
    subst et
    have h2 : 2 ≤ top := hs.2.2.2.2.2.2.2.1 top (List.mem_cons_self ..)
    have rc := rk_cases h2
    constructor
    · intro h
      have h : top = 41 ∨ top = 44 ∨ top = 20 ∨ top = 21 ∨ top = 22 := h
      have r3 : rk top ≤ 3 := by rcases h with r | r | r | r | r <;> (rw [r]; decide)
      refine ⟨?_, r3⟩
      by_cases a : askd opn
      · exact a
      · rcases e2 a with y | y
        · have w := e3 (by simp) y
          have : top = 41 ∨ top = 44 := by omega
          rw [← w]; exact this
        · omega
    · rintro ⟨h, r3⟩
      show top = 41 ∨ top = 44 ∨ top = 20 ∨ top = 21 ∨ top = 22
      by_cases y : rk top = 0
      · have w := e3 (by simp) y
        rw [← w] at h
        unfold askd at h; omega
      · omega
/-- where the parser stands -/
def LST (K V : Nat → Int) (b : Bool) (gp gc : Nat → Int32) (pd cg iw : Int32) (S : List LI) (i : Nat) (rr : Int × Nat) : Prop :=
  (iw.toInt = 0 → Bg K V b (fun j => (gc j).toInt) (pls (fun j => (gp j).toInt) pd.toInt.toNat) cg.toInt.toNat S i rr) ∧
  (iw.toInt = 1 → LL K V ((CA b (fun j => (gc j).toInt) (pls (fun j => (gp j).toInt) pd.toInt.toNat) cg.toInt.toNat).1 ++ S) i rr ∧ nng (pls (fun j => (gp j).toInt) pd.toInt.toNat))
/-- what a step makes of it: go on, or a fault -/
def NXT (B : Nat → Int) (n : Nat) (b : Bool) (gp gc : Nat → Int32) (pd cg iw at2 ps2 tk2 nu2 : Int32) (wd2 : Int64) (S : List LI) (rr : Int × Nat) (r : Int) : Prop :=
  ∃ j, TKN B n j at2 ps2 tk2 nu2 wd2 ∧ (r = 0 → LST (tkK B n) (tkV B n) b gp gc pd cg iw S j rr) ∧ (0 < r → rr = (r, j))
theorem pls_push {ov : Int32} (eg : g = upd gp x.toNatClampNeg ov) (ex : x.toInt = pd.toInt) (h0 : 0 ≤ pd.toInt) (ep : pd2.toInt = pd.toInt + 1) : pls (fun j => (g j).toInt) pd2.toInt.toNat = ov.toInt :: pls (fun j => (gp j).toInt) pd.toInt.toNat := by
  rw [show pd2.toInt.toNat = pd.toInt.toNat + 1 by omega]
  have e : x.toNatClampNeg = pd.toInt.toNat := by rw [tnc]; omega
  show (g pd.toInt.toNat).toInt :: _ = _
  rw [pls_ext (g := fun j => (gp j).toInt) (g2 := fun j => (g j).toInt) pd.toInt.toNat (fun k hk => by rw [eg, pk_un (by rw [e]; omega)]), eg, e, pk_us]
theorem one_riskb (h : LL K V ((kOne, o9, b) :: S) i rr) (hb : b = true) (hk : 14 ≤ K i ∧ K i ≤ 18) : rr = (5, i) := by subst hb; exact one_risk h hk
theorem ask_just2 (h : LL K V ((kAsk, lvl p, b) :: ((CA b cn p c).2 ++ S)) i rr) (hk : K i = 30) (h8 : ¬ 8 ≤ lvl p) (hj : jn p ≤ c) : (K (i + 1) ≠ 40 ∧ rr = (1, i + 1)) ∨ (K (i + 1) = 40 ∧ ∀ cn2 : Nat → Int, cn2 c = 1 → (∀ k, k < c → cn2 k = cn k) → Bg K V b cn2 (44 :: p) (c + 1) S (i + 2) rr) := by
  by_cases q : K (i + 1) = 40
  · refine Or.inr ⟨q, fun cn2 e1 e2 => ?_⟩
    rw [← CA_cn p c e2 hj] at h
    rcases ask_just h hk h8 with ⟨q2, _⟩ | ⟨_, q2⟩
    · exact absurd q q2
    · exact q2 e1
  · rcases ask_just h hk h8 with ⟨_, q2⟩ | ⟨q2, _⟩
    · exact Or.inl ⟨q, q2⟩
    · exact absurd q2 q
/-- a sign between two: what it does -/
def BTK (k top opn : Int) (cmp : Bool) (o : Int) : Prop :=
  (top ≠ 16 ∧ ((o = 6 ∧ k = 43) ∨ (o = 7 ∧ k = 45) ∨ (o = 8 ∧ k = 42) ∨ (o = 9 ∧ k = 47))) ∨ (askd opn ∧ cmp = false ∧ (10 ≤ o ∧ o ≤ 15) ∧ isCmp k) ∨ (askd opn ∧ cmp = true ∧ ((o = 21 ∧ k = 28) ∨ (o = 22 ∧ k = 27)))
def BTN (k top opn : Int) (cmp : Bool) : Prop :=
  (top = 16 ∨ ¬ (k = 43 ∨ k = 45 ∨ k = 42 ∨ k = 47)) ∧ (askd opn → (cmp = false → ¬ isCmp k) ∧ (cmp = true → k ≠ 28 ∧ k ≠ 27))
theorem bt_step (h : LL K V ((CA b cn P c).1 ++ S) i rr) (hs : SHA P top opn cmp) (hn : nng P) (hb : BTK (K i) top opn cmp o) (hl : l = if rk o = 4 then 5 else rk o) : Bg K V b cn (o :: dR l P) c S (i + 1) rr := by
  obtain ⟨a1, a2, a3, a4, a5, a6, a7, a8, a9, a10⟩ := hs
  rcases hb with ⟨h16, q⟩ | ⟨ha, hc, ho, hk⟩ | ⟨ha, hc, q⟩
  · have l5 : 5 ≤ l := by rcases q with ⟨r, _⟩ | ⟨r, _⟩ | ⟨r, _⟩ | ⟨r, _⟩ <;> (rw [hl, r]; decide)
    obtain ⟨d1, d2, d3, d4⟩ := dR_stp (b := b) (cn := cn) (c := c) l5 P a8
    rcases q with ⟨r, hk⟩ | ⟨r, hk⟩ | ⟨r, hk⟩ | ⟨r, hk⟩
    · exact ev_add h (a2 h16) (Or.inl hk) (Or.inl r) d1 (d3 hn)
    · exact ev_add h (a2 h16) (Or.inr hk) (Or.inr r) d1 (d3 hn)
    · exact ev_mul h (a2 h16) (Or.inl hk) (Or.inl r) d1 (d3 hn)
    · exact ev_mul h (a2 h16) (Or.inr hk) (Or.inr r) d1 (d3 hn)
  · have r4 : rk o = 4 := by unfold rk; rw [if_neg (by omega), if_neg (by omega), if_neg (by omega), if_neg (by omega), if_pos (by omega)]
    rw [if_pos r4] at hl
    subst hl
    have d := dR_stp (b := b) (cn := cn) (c := c) (Nat.le_refl 5) P a8
    rw [d.2.2.2 (Nat.le_refl 5)]
    exact ev_cmp h (a4 hc ha).1 hk ho
  · obtain ⟨q9, c1, c2, c3⟩ := a3 hc
    rcases q with ⟨r, hk⟩ | ⟨r, hk⟩
    · have hl : l = 2 := by rw [hl, r]; decide
      subst hl r
      have e := dR_2c (b := b) (cn := cn) (c := c) a9 a8 c2
      exact ev_and h c1 hk e.1 e.2
    · have hl : l = 1 := by rw [hl, r]; decide
      subst hl r
      exact ev_or h c1 hk (by rw [c2]) (by rw [c2])
/-- behind an operand nothing goes on: the end of the sum, or a fault -/
def PRN (k opn : Int) (cmp : Bool) : Prop :=
  (opn = 40 → k ≠ 41) ∧ (opn = 41 → ¬ (k = 24 ∧ cmp = true)) ∧ (opn = 42 → k ≠ 25) ∧ (opn = 43 → k ≠ 26) ∧ (opn = 44 → cmp = true → k ≠ 44 ∧ k ≠ 41)
theorem noar_of (hs : SHA P top opn cmp) (hb : BTN (K i) top opn cmp) (ht : top = 16 → ∃ p, P = 16 :: p) : noAr K i P := by
  rcases hb.1 with h | h
  · obtain ⟨p, e⟩ := ht h
    exact Or.inr ⟨p, by rw [e]; exact stp_n (by omega)⟩
  · exact Or.inl ⟨by omega, by omega⟩
theorem pr_none (h : LL K V ((CA b cn P c).1 ++ S) i rr) (hs : SHA P top opn cmp) (hb : BTN (K i) top opn cmp) (hp : PRN (K i) opn cmp) (ho : opn = -1 ∨ 40 ≤ opn ∧ opn ≤ 44) (hc : cmp = true → askd opn) (ht : top = 16 → cmp = true ∧ ∃ p, P = 16 :: p) : (opn = -1 → LL K V S i rr) ∧ (opn ≠ -1 → rr = (1, i)) := by
  have h40 : opn ≠ -1 → ¬ (opn = 41 ∨ opn = 44) → opn = 40 ∨ opn = 42 ∨ opn = 43 := by clear hp hb hs; omega
  have na := noar_of hs hb (fun e => (ht e).2)
  obtain ⟨a1, a2, a3, a4, a5, a6, a7, a8, a9, a10⟩ := hs
  obtain ⟨p1, p2, p3, p4, p5⟩ := hp
  by_cases ha : askd opn
  · refine ⟨fun e => (by rw [e] at ha; exact absurd ha (by unfold askd; decide)), fun _ => ?_⟩
    obtain ⟨b1, b2⟩ := hb.2 ha
    cases cmp with
    | false =>
      rcases na with ⟨n1, n2⟩ | ⟨p, n1⟩
      · exact no_cmp h (a4 rfl ha).1 (b1 rfl) n1 n2
      · exfalso
        have w := (a4 rfl ha).1
        rw [n1] at w
        have w : (16 : Int) = 41 ∨ (16 : Int) = 44 ∨ (16 : Int) = 20 ∨ (16 : Int) = 21 ∨ (16 : Int) = 22 := w
        omega
    | true =>
      obtain ⟨q9, c1, c2, q2, c3⟩ := a3 rfl
      obtain ⟨n28, n27⟩ := b2 rfl
      unfold askd at ha
      rcases ha with ha | ha
      · subst ha
        exact no_if h c1 c3 na n28 n27 (fun e => p2 rfl ⟨e, rfl⟩)
      · subst ha
        exact no_just h c1 c3 na n28 n27 (p5 rfl rfl).1 (p5 rfl rfl).2
  · have hcf : cmp = false := by
      cases cmp with
      | false => rfl
      | true => exact absurd (hc rfl) ha
    obtain ⟨s1, s2, s3⟩ := a5 ha
    have n12 : ¬ (K i = 42 ∨ K i = 47) ∧ ¬ (K i = 43 ∨ K i = 45) := by
      rcases hb.1 with e | e
      · have := (ht e).1; rw [hcf] at this; exact absurd this (by decide)
      · exact ⟨by omega, by omega⟩
    refine ⟨fun e => ev_done h (by rw [s1, s2 e]) n12.1 n12.2, fun e => ?_⟩
    obtain ⟨q2, e2⟩ := s3 e
    rw [← s1] at e2
    unfold askd at ha
    rcases h40 e ha with r | r | r
    · subst r; exact no_par h e2 (p1 rfl) n12.1 n12.2
    · subst r; exact no_then h e2 (p3 rfl) n12.1 n12.2
    · subst r; exact no_else h e2 (p4 rfl) n12.1 n12.2
theorem pr_then (h : LL K V ((CA b cn P c).1 ++ S) i rr) (hs : SHA P top 41 true) (hk : K i = 24) (e : dR 1 P = 41 :: q2) : Bg K V b cn (42 :: q2) c S (i + 1) rr := by
  obtain ⟨q9, c1, c2, _⟩ := hs.2.2.1 rfl
  exact ev_then h c1 (by rw [← c2, e]) hk
theorem pr_else (h : LL K V ((CA b cn P c).1 ++ S) i rr) (hs : SHA P top 42 cmp) (hk : K i = 25) (e : dR 1 P = 42 :: q2) : Bg K V b cn (43 :: q2) c S (i + 1) rr :=
  ev_else h (by rw [(hs.2.2.2.2.1 (by unfold askd; decide)).1, e]) hk
theorem pr_par (h : LL K V ((CA b cn P c).1 ++ S) i rr) (hs : SHA P top 40 cmp) (hk : K i = 41) (e : dR 1 P = 40 :: q2) : LL K V ((CA b cn q2 c).1 ++ S) (i + 1) rr :=
  ev_par h (by rw [(hs.2.2.2.2.1 (by unfold askd; decide)).1, e]) hk
theorem pr_end (h : LL K V ((CA b cn P c).1 ++ S) i rr) (hs : SHA P top 43 cmp) (hk : K i = 26) (e : dR 1 P = 43 :: q2) : LL K V ((CA b cn q2 c).1 ++ S) (i + 1) rr :=
  ev_end h (by rw [(hs.2.2.2.2.1 (by unfold askd; decide)).1, e]) hk
theorem pr_just (h : LL K V ((CA b cn P c).1 ++ S) i rr) (hs : SHA P top 44 true) (hk : K i = 41) (e : dR 1 P = 44 :: q2) : LL K V ((CA b cn (16 :: q2) (c - 1)).1 ++ S) (i + 1) rr := by
  obtain ⟨q9, c1, c2, _⟩ := hs.2.2.1 rfl
  exact ev_just h c1 (by rw [← c2, e]) hk
theorem pr_six (h : LL K V ((CA b cn P c).1 ++ S) i rr) (hs : SHA P top 44 true) (hk : K i = 44) (h6 : cn (c - 1) = 6) : rr = (7, i) := by
  obtain ⟨q9, c1, c2, q2, c3⟩ := hs.2.2.1 rfl
  exact ev_six h c1 c3 hk h6
theorem pr_comma (h : LL K V ((CA b cn P c).1 ++ S) i rr) (hs : SHA P top 44 true) (hk : K i = 44) (h6 : cn (c - 1) ≠ 6) (e : dR 1 P = 44 :: q2) (g1 : cn2 (c - 1) = cn (c - 1) + 1) (g2 : ∀ k, k < c - 1 → cn2 k = cn k) (hj : jn q2 ≤ c - 1) : Bg K V b cn2 (44 :: q2) c S (i + 1) rr := by
  obtain ⟨q9, c1, c2, _⟩ := hs.2.2.1 rfl
  exact ev_comma h c1 (by rw [← c2, e]) hk h6 g1 g2 hj
end LLX
theorem end98i2 : True := trivial
