/-! What each step of the parser makes of the texts' predicate. -/
section XTR
variable {gB z g ga gp gc gp2 gc2 : Nat → Int32} {P : (Nat → Int32) → Prop} {fr least n : Nat} {opn : Int} {cmp cur0 cmp0 wh : Bool} {t0 wr pd op cg wr2 pd2 op2 cg2 o v x y tk r iw : Int32}
abbrev opvP (gp : Nat → Int32) (pd : Int32) : Int := opv (fun j => (gp j).toInt) pd.toInt.toNat
abbrev cmkP (gp : Nat → Int32) (pd : Int32) : Bool := cmk (fun j => (gp j).toInt) pd.toInt.toNat
theorem XV_info (h : XV gB fr gp gc opn cmp t0 wr pd op cg wh z) (b1 : bn 0 8 op) (b2 : bn 0 8 cg) (b3 : bn 0 160 pd) : opvP gp pd = opn ∧ cmkP gp pd = cmp ∧ pd.toInt ≤ 6 * op.toInt + 5 ∧ cg.toInt ≤ op.toInt ∧ (cmp = true → askd opn) ∧ (opn = -1 ∨ 40 ≤ opn ∧ opn ≤ 44) ∧ (wh = false → pd.toInt.toNat = 0 ∨ (gp (pd.toInt.toNat - 1)).toInt ≠ 16) ∧ (pd.toInt.toNat = 0 → op.toInt.toNat = 0 ∧ opn = -1) := by
  obtain ⟨hB, m, hm, hv⟩ := h
  obtain ⟨h1, h2, h3, h4, h5, h6, h7, h8, h9⟩ := PV_room hv
  obtain ⟨o1, o2⟩ := b1
  obtain ⟨c1, c2⟩ := b2
  obtain ⟨p1, p2⟩ := b3
  refine ⟨?_, h6, by omega, by omega, h3, h4, h7, h8⟩
  show (if opk (fun j => (gp j).toInt) pd.toInt.toNat < 0 then -1 else (gp (opk (fun j => (gp j).toInt) pd.toInt.toNat).toNat).toInt) = opn
  rcases h5 with ⟨a1, a2⟩ | ⟨a1, a2, a3, a4, a5⟩
  · rw [if_pos (by omega), a2]
  · rw [if_neg (by omega)]; exact a3
theorem XR_no (h : XB gB fr t0 z) (hr : ¬ r.toInt ≤ 0) : XR r gB fr gp gc t0 wr pd op cg iw z := ⟨h, fun q => absurd q hr⟩
theorem XV_B (h : XV gB fr gp gc opn cmp t0 wr pd op cg wh z) : XB gB fr t0 z := h.1
theorem XR_f (h : XW gB fr gp gc t0 wr pd op cg false z) : XR r gB fr gp gc t0 wr pd op cg 0 z := by
  obtain ⟨a, b, c⟩ := h
  exact ⟨c.1, fun _ => ⟨a, b, c⟩⟩
theorem XR_t (h : XW gB fr gp gc t0 wr pd op cg true z) : XR r gB fr gp gc t0 wr pd op cg 1 z := by
  obtain ⟨a, b, c⟩ := h
  exact ⟨c.1, fun _ => ⟨a, b, c⟩⟩
/-! opened -/
def OPH (o : Int32) (opn : Int) (gp : Nat → Int32) (pd : Int32) : Prop := (o.toInt = 40 ∨ o.toInt = 41 ∨ o.toInt = 5 ∨ o.toInt = 2) ∨ ((o.toInt = 20 ∨ o.toInt = 44) ∧ askd opn ∧ 1 ≤ pd.toInt ∧ rk (gp (pd.toInt.toNat - 1)).toInt ≤ 3)
theorem XV_opd (h : XV gB fr gp gc opn cmp t0 wr pd op cg false z) (ho : OPH o opn gp pd) (n44 : ¬ o = 44) (eg : g = upd gp pd.toNatClampNeg o) (ed : pd2.toInt = pd.toInt + 1) (eo : op2.toInt = op.toInt + 1) (b1 : bn 0 8 op) (b3 : bn 0 160 pd) : XW gB fr g gc t0 wr pd2 op2 cg false z := by
  obtain ⟨hB, m, hm, hv⟩ := h
  obtain ⟨o1, o2⟩ := b1
  obtain ⟨p1, p2⟩ := b3
  have e : ∀ j, j < pd.toInt.toNat → (g j).toInt = (gp j).toInt := fun j hj => by rw [eg, pk_un (by rw [tnc]; omega)]
  have e2 : (g pd.toInt.toNat).toInt = o.toInt := by rw [eg, ← tnc, pk_us]
  have d1 : pd2.toInt.toNat = pd.toInt.toNat + 1 := by omega
  have d2 : op2.toInt.toNat = op.toInt.toNat + 1 := by omega
  rcases ho with ho | ⟨ho, a, hi, hk⟩
  · obtain ⟨o2, c2, h2⟩ := PV_open (gp2 := fun j => (g j).toInt) hv e (by rw [e2]; rcases ho with q | q | q | q <;> simp [q])
    exact ⟨o2, c2, hB, m, hm, by rw [d1, d2]; exact h2⟩
  · have h20 : o.toInt = 20 := by
      rcases ho with q | q
      · exact q
      · exact absurd (Int32.toInt_inj.mp (q.trans rfl)) n44
    have h2 := PV_not (gp2 := fun j => (g j).toInt) hv a hk (by omega) e (by rw [e2]; exact h20)
    exact ⟨opn, cmp, hB, m, hm, by rw [d1, d2]; exact h2⟩
theorem XV_jus (h : XV gB fr gp gc opn cmp t0 wr pd op cg false z) (ho : OPH o opn gp pd) (e44 : o = 44) (eg : g = upd gp pd.toNatClampNeg o) (ed : pd2.toInt = pd.toInt + 1) (eo : op2.toInt = op.toInt + 1) (ec : ga = upd gc cg.toNatClampNeg 1) (eg2 : cg2.toInt = cg.toInt + 1) (b1 : bn 0 8 op) (b2 : bn 0 8 cg) (b3 : bn 0 160 pd) : XW gB fr g ga t0 wr pd2 op2 cg2 false z := by
  obtain ⟨hB, m, hm, hv⟩ := h
  obtain ⟨o1, o2⟩ := b1
  obtain ⟨c1, c2⟩ := b2
  obtain ⟨p1, p2⟩ := b3
  subst e44
  have e : ∀ j, j < pd.toInt.toNat → (g j).toInt = (gp j).toInt := fun j hj => by rw [eg, pk_un (by rw [tnc]; omega)]
  have e2 : (g pd.toInt.toNat).toInt = 44 := by rw [eg, ← tnc, pk_us]; rfl
  have f : ∀ j, j < cg.toInt.toNat → (ga j).toInt = (gc j).toInt := fun j hj => by rw [ec, pk_un (by rw [tnc]; omega)]
  have f2 : (ga cg.toInt.toNat).toInt = 1 := by rw [ec, ← tnc, pk_us]; rfl
  have d1 : pd2.toInt.toNat = pd.toInt.toNat + 1 := by omega
  have d2 : op2.toInt.toNat = op.toInt.toNat + 1 := by omega
  have d3 : cg2.toInt.toNat = cg.toInt.toNat + 1 := by omega
  rcases ho with ho | ⟨ho, a, hi, hk⟩
  · rcases ho with q | q | q | q <;> exact absurd q (by decide)
  · have h2 := PV_just0 (gp2 := fun j => (g j).toInt) (gc2 := fun j => (ga j).toInt) hv a hk (by omega) e e2 f f2
    exact ⟨44, false, hB, m, hm, by rw [d1, d2, d3]; exact h2⟩
/-! between two -/
def BTW (gp : Nat → Int32) (pd tk r : Int32) : Prop := r = -1 ∨ (¬ tk = 0 ∧ ((bn 6 9 r ∧ (pd.toInt.toNat = 0 ∨ (gp (pd.toInt.toNat - 1)).toInt ≠ 16)) ∨ (bn 10 15 r ∧ askd (opvP gp pd) ∧ cmkP gp pd = false) ∨ ((r = 21 ∨ r = 22) ∧ askd (opvP gp pd) ∧ cmkP gp pd = true)))
def BTC (cur0 cmp : Bool) (o : Int32) (least : Nat) (opn : Int) : Prop := (bn 6 9 o ∧ cur0 = true ∧ least = rk o.toInt) ∨ (bn 10 15 o ∧ askd opn ∧ cmp = false ∧ cur0 = true ∧ least = 5) ∨ ((o.toInt = 21 ∧ least = 2 ∨ o.toInt = 22 ∧ least = 1) ∧ askd opn ∧ cmp = true)
theorem rk_69 {o : Int} (h : 6 ≤ o ∧ o ≤ 9) : (o = 6 ∨ o = 7) ∧ rk o = 5 ∨ (o = 8 ∨ o = 9) ∧ rk o = 6 := by
  have k : o = 6 ∨ o = 7 ∨ o = 8 ∨ o = 9 := by omega
  rcases k with rfl | rfl | rfl | rfl
  · exact Or.inl ⟨Or.inl rfl, by decide⟩
  · exact Or.inl ⟨Or.inr rfl, by decide⟩
  · exact Or.inr ⟨Or.inl rfl, by decide⟩
  · exact Or.inr ⟨Or.inr rfl, by decide⟩
theorem XV_bt (h : XV gB fr gp gc opn cmp t0 wr pd op cg true z) (e1 : opvP gp pd = opn) (e2 : cmkP gp pd = cmp) (hb : BTW gp pd tk o) (h0 : bn 0 22 o) (hl : rk o.toInt = 4 ∧ least = 5 ∨ ¬ rk o.toInt = 4 ∧ least = rk o.toInt) : ∃ cur0 : Bool, XS gB fr gp gc least opn cur0 cmp t0 wr pd op cg z ∧ BTC cur0 cmp o least opn := by
  obtain ⟨q1, q2⟩ := h0
  rcases hb with hb | ⟨_, hb | hb | hb⟩
  · rw [hb] at q1; exact absurd q1 (by decide)
  · obtain ⟨⟨b1, b2⟩, b3⟩ := hb
    have k := rk_69 ⟨b1, b2⟩
    obtain ⟨c0, h1, h2, h3⟩ := XV_SL (least := least) h (Or.inl (by omega))
    exact ⟨c0, h1, Or.inl ⟨⟨b1, b2⟩, h3 b3, by omega⟩⟩
  · obtain ⟨⟨b1, b2⟩, b3, b4⟩ := hb
    have k := rk_cmp ⟨b1, b2⟩
    obtain ⟨c0, h1, h2, h3⟩ := XV_SL (least := least) h (Or.inl (by omega))
    rw [e1] at b3
    rw [e2] at b4
    refine ⟨c0, h1, Or.inr (Or.inl ⟨⟨b1, b2⟩, b3, b4, ?_, by omega⟩)⟩
    cases c0 with
    | true => rfl
    | false => have := h2 rfl; rw [b4] at this; exact absurd this (by decide)
  · obtain ⟨b1, b3, b4⟩ := hb
    rw [e1] at b3
    rw [e2] at b4
    obtain ⟨c0, h1, h2, h3⟩ := XV_SL (least := least) h (Or.inr (Or.inl b4))
    refine ⟨c0, h1, Or.inr (Or.inr ⟨?_, b3, b4⟩)⟩
    rcases b1 with rfl | rfl
    · have k : rk (21 : Int32).toInt = 2 := by decide
      exact Or.inl ⟨rfl, by omega⟩
    · have k : rk (22 : Int32).toInt = 1 := by decide
      exact Or.inr ⟨rfl, by omega⟩
theorem XS_bt (h : XS gB fr gp gc least opn cur0 cmp t0 wr pd op cg z) (hc : BTC cur0 cmp o least opn) (hx : xtp gp pd least) (eg : g = upd gp pd.toNatClampNeg o) (ed : pd2.toInt = pd.toInt + 1) (b3 : 0 ≤ pd.toInt) : XW gB fr g gc t0 wr pd2 op cg false z := by
  obtain ⟨hB, m, hm, hv⟩ := h
  have e : ∀ j, j < pd.toInt.toNat → (g j).toInt = (gp j).toInt := fun j hj => by rw [eg, pk_un (by rw [tnc]; omega)]
  have e2 : (g pd.toInt.toNat).toInt = o.toInt := by rw [eg, ← tnc, pk_us]
  have d1 : pd2.toInt.toNat = pd.toInt.toNat + 1 := by omega
  rcases hc with ⟨⟨a1, a2⟩, a3, a4⟩ | ⟨⟨a1, a2⟩, a3, a4, a5, a6⟩ | ⟨a1, a2, a3⟩
  · subst a3
    have k := rk_69 ⟨a1, a2⟩
    have h2 := PV_bin (gp2 := fun j => (g j).toInt) hv (by omega) hx e (by rw [e2]; omega)
    exact ⟨opn, cmp, hB, m, hm, by rw [d1]; exact h2⟩
  · subst a5
    subst a4
    subst a6
    have h2 := PV_cmpo (gp2 := fun j => (g j).toInt) hv hx a3 e (by rw [e2]; omega)
    exact ⟨opn, true, hB, m, hm, by rw [d1]; exact h2⟩
  · subst a3
    obtain ⟨c2, h2⟩ := PV_andor (gp2 := fun j => (g j).toInt) hv hx a2 e (by rw [e2]; omega)
    exact ⟨opn, c2, hB, m, hm, by rw [d1]; exact h2⟩
/-! what closes, what goes on -/
def PRT (gp : Nat → Int32) (pd tk o r : Int32) : Prop := r = -1 ∨ (¬ tk = 0 ∧ ((r = 0 ∧ (o = 40 ∨ o = 43 ∨ (o = 44 ∧ cmkP gp pd = true))) ∨ (r = 42 ∧ o = 41 ∧ cmkP gp pd = true) ∨ (r = 43 ∧ o = 42) ∨ (r = 44 ∧ o = 44 ∧ cmkP gp pd = true)))
theorem ps_ju : ∀ (i n t op ju : Nat) (top opn : Int) (cmp : Bool) (gp gc : Nat → Int), ps gp gc i (n, t, op, ju, top, opn, cmp) → opn = 44 → 1 ≤ ju := by
  intro i
  induction i with
  | zero =>
    intro n t op ju top opn cmp gp gc h h44
    have h : (n, t, op, ju, top, opn, cmp) = (0, 0, 0, 0, 40, -1, false) := h
    simp only [Prod.mk.injEq] at h
    omega
  | succ i ih =>
    intro n t op ju top opn cmp gp gc h h44
    obtain ⟨n', t', op', ju', top', opn', cmp', h1, h2, h3⟩ := h
    rcases h3 with ⟨q, e⟩ | ⟨q, e⟩ | ⟨q, e⟩ | ⟨q, u1, u2, u3, u4, e⟩ | ⟨q, u1, u2, e⟩ | ⟨q, u1, u2, e⟩ | ⟨q, u1, u2, e⟩ | ⟨q, u1, u2, e⟩ | ⟨q, u1, u2, e⟩ | ⟨q, u1, e⟩ | ⟨q, u1, e⟩ | ⟨q, e⟩
    all_goals simp only [Prod.mk.injEq] at e
    all_goals first
      | omega
      | (have k := ih _ _ _ _ _ _ _ _ _ h1 (e.2.2.2.2.2.1.symm.trans h44); omega)
theorem XV_ju (h : XV gB fr gp gc 44 cmp t0 wr pd op cg wh z) : 1 ≤ cg.toInt := by
  obtain ⟨hB, m, hm, n, t, top, h1, _⟩ := h
  have := ps_ju _ _ _ _ _ _ _ _ _ _ h1 rfl
  omega
theorem PRT_w (h : PRT gp pd tk o r) (h0 : bn 0 44 r) (e1 : o.toInt = opvP gp pd) : (cmkP gp pd = true ∨ ¬ askd (opvP gp pd)) ∧ 40 ≤ opvP gp pd ∧ ¬ tk = 0 := by
  rw [← e1]
  unfold askd
  rcases h with h | ⟨h1, h⟩
  · have := h0.1; rw [h] at this; exact absurd this (by decide)
  · rcases h with ⟨_, rfl | rfl | ⟨rfl, h⟩⟩ | ⟨_, rfl, h⟩ | ⟨_, rfl⟩ | ⟨_, rfl, h⟩
    · exact ⟨Or.inr (by decide), by decide, h1⟩
    · exact ⟨Or.inr (by decide), by decide, h1⟩
    · exact ⟨Or.inl h, by decide, h1⟩
    · exact ⟨Or.inl h, by decide, h1⟩
    · exact ⟨Or.inr (by decide), by decide, h1⟩
    · exact ⟨Or.inl h, by decide, h1⟩
theorem PRT_0 (h : PRT gp pd tk o r) (h0 : r = 0) : o.toInt = 40 ∨ o.toInt = 43 ∨ (o.toInt = 44 ∧ cmkP gp pd = true) := by
  subst h0
  rcases h with h | ⟨h1, h⟩
  · exact absurd h (by decide)
  · rcases h with ⟨_, rfl | rfl | ⟨rfl, h⟩⟩ | ⟨h2, _⟩ | ⟨h2, _⟩ | ⟨h2, _⟩
    · exact Or.inl rfl
    · exact Or.inr (Or.inl rfl)
    · exact Or.inr (Or.inr ⟨rfl, h⟩)
    · exact absurd h2 (by decide)
    · exact absurd h2 (by decide)
    · exact absurd h2 (by decide)
theorem PRT_44 (h : PRT gp pd tk o r) (h0 : r = 44) : o.toInt = 44 := by
  subst h0
  rcases h with h | ⟨h1, h⟩
  · exact absurd h (by decide)
  · rcases h with ⟨h2, _⟩ | ⟨h2, _⟩ | ⟨h2, _⟩ | ⟨_, rfl, h⟩
    · exact absurd h2 (by decide)
    · exact absurd h2 (by decide)
    · exact absurd h2 (by decide)
    · rfl
/-- settled from one on, something opened: it stands on top -/
theorem XS_top (h : XS gB fr gp gc 1 opn cur0 cmp t0 wr pd op cg z) (hc : cur0 = false → cmp = true) (hx : xtp gp pd 1) (ho : 40 ≤ opn) (h44 : opn ≤ 44) : 1 ≤ pd.toInt ∧ 1 ≤ op.toInt ∧ (gp (pd.toInt.toNat - 1)).toInt = opn ∧ opk (fun j => (gp j).toInt) pd.toInt.toNat = pd.toInt - 1 ∧ (opn = 44 → 1 ≤ cg.toInt ∧ 1 ≤ (gc (cg.toInt.toNat - 1)).toInt ∧ (gc (cg.toInt.toNat - 1)).toInt ≤ 6) := by
  obtain ⟨hB, m, hm, hv⟩ := h
  obtain ⟨i', n, t, cm, e1, e2, h1, _⟩ := SL_one hv hc hx ho
  obtain ⟨n', t', op', ju', top', opn', cmp', g1, g2, g3, g4⟩ := ps_40 h1 e2 (by omega)
  rw [e1]
  refine ⟨by omega, by omega, e2, ?_, fun q => ?_⟩
  · have e3 : 40 ≤ (gp i').toInt := by
      have e2 : (gp i').toInt = opn := e2
      omega
    unfold opk
    rw [if_neg (show ¬ (gp i').toInt < 40 by omega)]
    omega
  · have k := ps_ju _ _ _ _ _ _ _ _ _ _ h1 q
    rcases g4 with ⟨a, _⟩ | ⟨a, _⟩ | ⟨a, _⟩ | ⟨a, a2, a3, a4, a5, a6, a7, a8⟩
    · omega
    · omega
    · omega
    · rw [show cg.toInt.toNat - 1 = ju' by omega]
      exact ⟨by omega, a7, a8⟩
/-- ) of a parenthesis, end: what is left is to be settled from seven on -/
theorem XT_7 (hB : XB gB fr t0 z) {m : Nat} (hm : wr.toInt = ((fr + m : Nat) : Int)) {cm : Bool} (hv : PV z (t0.toInt.toNat + 121) fr (fun j => (gp j).toInt) (fun j => (gc j).toInt) true pd.toInt.toNat op.toInt.toNat cg.toInt.toNat m opn cm) (h16 : pd.toInt.toNat = 0 ∨ (gp (pd.toInt.toNat - 1)).toInt ≠ 16) : XS gB fr gp gc 7 opn true cm t0 wr pd op cg z := by
  obtain ⟨c0, h1, _, h3⟩ := XV_SL (least := 7) (cmp := cm) (z := z) ⟨hB, m, hm, hv⟩ (Or.inl (by omega))
  rw [h3 h16] at h1
  exact h1
theorem XS_s40 (h : XS gB fr gp gc 1 opn cur0 cmp t0 wr pd op cg z) (e40 : opn = 40) (hc : cur0 = false → cmp = true) (hq : cmp = true → askd opn) (hx : xtp gp pd 1) (ex : x.toInt = pd.toInt - 1) (eo : op2.toInt = op.toInt - 1) (hp : 1 ≤ pd.toInt) : ∃ opn2 cmp2, XS gB fr gp gc 7 opn2 true cmp2 t0 wr x op2 cg z := by
  subst e40
  obtain ⟨hB, m, hm, hv⟩ := h
  rw [show pd.toInt.toNat = x.toInt.toNat + 1 by omega] at hv
  have hx2 : rk (gp x.toInt.toNat).toInt < 1 := by
    rcases hx with hx | hx
    · omega
    · rw [show pd.toInt.toNat - 1 = x.toInt.toNat by omega] at hx; exact hx
  obtain ⟨h1, o2, c2, h2, h3⟩ := PV_shut40 hv hc hq hx2
  rw [show op.toInt.toNat - 1 = op2.toInt.toNat by omega] at h2
  exact ⟨o2, c2, XT_7 hB hm h2 h3⟩
theorem XS_fi (h : EM (EM (XS gB fr gp gc 1 opn cur0 cmp t0 wr pd op cg) n o) (n + 1) v z) (en : n = t0.toInt.toNat + 121 + 2 * wr.toInt.toNat) (eo3 : o.toInt = 3) (ev : v.toInt = 0) (ew : wr2.toInt = wr.toInt + 1) (hw : bn 0 299 wr) (e43 : opn = 43) (hc : cur0 = false → cmp = true) (hq : cmp = true → askd opn) (hx : xtp gp pd 1) (ex : x.toInt = pd.toInt - 1) (eo : op2.toInt = op.toInt - 1) (hp : 1 ≤ pd.toInt) : ∃ opn2 cmp2, XS gB fr gp gc 7 opn2 true cmp2 t0 wr2 x op2 cg z := by
  subst e43
  obtain ⟨z0, ⟨hB, m, hm, hv⟩, rfl⟩ := EM_at h
  obtain ⟨w1, w2⟩ := hw
  have e2 : wr.toInt.toNat = fr + m := by omega
  rw [show pd.toInt.toNat = x.toInt.toNat + 1 by omega] at hv
  have hx2 : rk (gp x.toInt.toNat).toInt < 1 := by
    rcases hx with hx | hx
    · omega
    · rw [show pd.toInt.toNat - 1 = x.toInt.toNat by omega] at hx; exact hx
  obtain ⟨q, q2, h1, h2, h3, h4⟩ := PV_fi hv hc hq hx2
  obtain ⟨o2, c2, h5, h6⟩ := h4 (upd (upd z0 n o) (n + 1) v) (hts_up h1 (by rw [en, e2]) (by rw [eo3, ev]; exact h2))
  rw [show op.toInt.toNat - 1 = op2.toInt.toNat by omega] at h5
  exact ⟨o2, c2, XT_7 (m := m + 1) (XB_em2 hB (by omega) (by omega)) (by omega) h5 h6⟩
theorem XS_just (h : EM (EM (XS gB fr gp gc 1 opn cur0 cmp t0 wr pd op cg) n o) (n + 1) v z) (en : n = t0.toInt.toNat + 121 + 2 * wr.toInt.toNat) (eo4 : o.toInt = 4) (ev : v = gc cg2.toNatClampNeg) (ew : wr2.toInt = wr.toInt + 1) (hw : bn 0 299 wr) (e44 : opn = 44) (hcm : cmp = true) (hx : xtp gp pd 1) (eg : g = upd gp x.toNatClampNeg 16) (ex : x.toInt = pd.toInt - 1) (eo : op2.toInt = op.toInt - 1) (ec : cg2.toInt = cg.toInt - 1) (hp : 1 ≤ pd.toInt) : XW gB fr g gc t0 wr2 pd op2 cg2 true z := by
  subst e44
  subst hcm
  obtain ⟨z0, ⟨hB, m, hm, hv⟩, rfl⟩ := EM_at h
  obtain ⟨w1, w2⟩ := hw
  have e2 : wr.toInt.toNat = fr + m := by omega
  have hpd : pd.toInt.toNat = x.toInt.toNat + 1 := by omega
  rw [hpd] at hv
  have hx2 : rk (gp x.toInt.toNat).toInt < 1 := by
    rcases hx with hx | hx
    · omega
    · rw [show pd.toInt.toNat - 1 = x.toInt.toNat by omega] at hx; exact hx
  have f1 : ∀ j, j < x.toInt.toNat → (g j).toInt = (gp j).toInt := fun j hj => by rw [eg, pk_un (by rw [tnc]; omega)]
  have f2 : (g x.toInt.toNat).toInt = 16 := by rw [eg, ← tnc, pk_us]; rfl
  obtain ⟨k1, k2, k3, k4, q, q2, h1, h2, h4⟩ := PV_just (gp2 := fun j => (g j).toInt) hv hx2 f1 f2
  have ec2 : cg.toInt.toNat - 1 = cg2.toInt.toNat := by omega
  rw [ec2] at h2 h4
  obtain ⟨o2, h5⟩ := h4 (upd (upd z0 n o) (n + 1) v) (hts_up h1 (by rw [en, e2]) (by rw [eo4, ev]; exact h2))
  rw [show op.toInt.toNat - 1 = op2.toInt.toNat by omega, ← hpd] at h5
  exact ⟨o2, true, XB_em2 hB (by omega) (by omega), m + 1, by omega, h5⟩
theorem XS_part (h : XS gB fr gp gc 1 opn cur0 cmp t0 wr pd op cg z) (hc : cur0 = false → cmp = true) (hq : cmp = true → askd opn) (hx : xtp gp pd 1) (hp : 1 ≤ pd.toInt) (eg : g = upd gp x.toNatClampNeg o) (ex : x.toInt = pd.toInt - 1) (q : (o.toInt = 42 ∧ opn = 41 ∧ cmp = true ∧ ga = gc) ∨ (o.toInt = 43 ∧ opn = 42 ∧ ga = gc) ∨ (o.toInt = 44 ∧ opn = 44 ∧ cmp = true ∧ 1 ≤ cg.toInt ∧ y.toInt = cg.toInt - 1 ∧ ¬ (gc y.toNatClampNeg).toInt = 6 ∧ ga = upd gc y.toNatClampNeg v ∧ v.toInt = (gc y.toNatClampNeg).toInt + 1)) : XW gB fr g ga t0 wr pd op cg false z := by
  obtain ⟨hB, m, hm, hv⟩ := h
  have hpd : pd.toInt.toNat = x.toInt.toNat + 1 := by omega
  rw [hpd] at hv
  have hx2 : rk (gp x.toInt.toNat).toInt < 1 := by
    rcases hx with hx | hx
    · omega
    · rw [show pd.toInt.toNat - 1 = x.toInt.toNat by omega] at hx; exact hx
  have f1 : ∀ j, j < x.toInt.toNat → (g j).toInt = (gp j).toInt := fun j hj => by rw [eg, pk_un (by rw [tnc]; omega)]
  have f2 : (g x.toInt.toNat).toInt = o.toInt := by rw [eg, ← tnc, pk_us]
  rcases q with ⟨q1, rfl, rfl, rfl⟩ | ⟨q1, rfl, rfl⟩ | ⟨q1, rfl, rfl, q2, q3, q4, rfl, q5⟩
  · have h2 := PV_then (gp2 := fun j => (g j).toInt) hv hx2 f1 (f2.trans q1)
    exact ⟨42, false, hB, m, hm, by rw [hpd]; exact h2⟩
  · have h2 := PV_else (gp2 := fun j => (g j).toInt) hv hc hq hx2 f1 (f2.trans q1)
    exact ⟨43, false, hB, m, hm, by rw [hpd]; exact h2⟩
  · have hj : cg.toInt.toNat = y.toInt.toNat + 1 := by omega
    rw [hj] at hv
    have h2 := PV_comma (gp2 := fun j => (g j).toInt) (gc2 := fun j => (upd gc y.toNatClampNeg v j).toInt) hv hx2 f1 (f2.trans q1) (fun j hj => by show (upd gc y.toNatClampNeg v j).toInt = _; rw [pk_un (by rw [tnc]; omega)]) (by show (upd gc y.toNatClampNeg v y.toInt.toNat).toInt = _; rw [← tnc, pk_us]; exact q5) q4
    exact ⟨44, false, hB, m, hm, by rw [hpd, hj]; exact h2⟩
/-- the end of a sum -/
theorem XS_fin (h : XS gB fr gp gc 1 opn cur0 cmp t0 wr pd op cg z) (e1 : opn = -1) (hc : cur0 = false → cmp = true) (hq : cmp = true → askd opn) (hx : xtp gp pd 1) (hf : (fr : Int) = v.toInt) (hw : wr.toInt ≤ 303) : WFc z (t0.toInt.toNat + 121) v wr := by
  subst e1
  obtain ⟨hB, m, hm, hv⟩ := h
  obtain ⟨h1, h2⟩ := PV_fin hv hc hq hx
  refine ⟨by omega, by omega, hw, fun k hk => ?_⟩
  obtain ⟨d, rfl⟩ : ∃ d, m = k + d := ⟨m - k, by omega⟩
  rw [show v.toInt.toNat = fr by omega]
  exact hts_pre k d _ h2
theorem XW_start (hf : (fr : Int) = wr.toInt) : XW gB fr gp gc t0 wr 0 0 0 false gB := ⟨-1, false, fun _ _ => rfl, 0, by omega, PV_start⟩
end XTR
