/-! The parser's state as a predicate of the texts. -/
section XSR
variable {gB z : Nat → Int32} {gp gc gp2 gc2 : Nat → Int32} {P : (Nat → Int32) → Prop} {fr least n : Nat} {opn : Int} {cmp cur0 cmp0 wh : Bool} {t0 wr pd op cg wr2 pd2 op2 cg2 o v x : Int32}
abbrev GIf (g : Nat → Int32) : Nat → Int := fun j => (g j).toInt
def FRM (gB z : Nat → Int32) (lo hi : Nat) : Prop := ∀ k, k < lo ∨ hi ≤ k → z k = gB k
def XB (gB : Nat → Int32) (fr : Nat) (t0 : Int32) (z : Nat → Int32) : Prop := FRM gB z (t0.toInt.toNat + 121 + 2 * fr) (t0.toInt.toNat + 729)
def XS (gB : Nat → Int32) (fr : Nat) (gp gc : Nat → Int32) (least : Nat) (opn : Int) (cur0 cmp0 : Bool) (t0 wr pd op cg : Int32) (z : Nat → Int32) : Prop := XB gB fr t0 z ∧ ∃ m : Nat, wr.toInt = ((fr + m : Nat) : Int) ∧ SL z (t0.toInt.toNat + 121) fr (fun j => (gp j).toInt) (fun j => (gc j).toInt) least opn cur0 cmp0 pd.toInt.toNat op.toInt.toNat cg.toInt.toNat m
def XV (gB : Nat → Int32) (fr : Nat) (gp gc : Nat → Int32) (opn : Int) (cmp : Bool) (t0 wr pd op cg : Int32) (wh : Bool) (z : Nat → Int32) : Prop := XB gB fr t0 z ∧ ∃ m : Nat, wr.toInt = ((fr + m : Nat) : Int) ∧ PV z (t0.toInt.toNat + 121) fr (fun j => (gp j).toInt) (fun j => (gc j).toInt) wh pd.toInt.toNat op.toInt.toNat cg.toInt.toNat m opn cmp
def XW (gB : Nat → Int32) (fr : Nat) (gp gc : Nat → Int32) (t0 wr pd op cg : Int32) (wh : Bool) (z : Nat → Int32) : Prop := ∃ opn cmp, XV gB fr gp gc opn cmp t0 wr pd op cg wh z
def XR (r : Int32) (gB : Nat → Int32) (fr : Nat) (gp gc : Nat → Int32) (t0 wr pd op cg iw : Int32) (z : Nat → Int32) : Prop := XB gB fr t0 z ∧ (r.toInt ≤ 0 → XW gB fr gp gc t0 wr pd op cg (decide (iw = 1)) z)
def EM (P : (Nat → Int32) → Prop) (n : Nat) (v : Int32) (z : Nat → Int32) : Prop := ∃ z0, P z0 ∧ z = upd z0 n v
def topv (gp : Nat → Int32) (pd : Int32) : Int := (gp (pd.toInt - 1).toNat).toInt
theorem topv_e {w : Int32} (e : w = gp x.toNatClampNeg) (ex : x.toInt = pd.toInt - 1) : w.toInt = topv gp pd := by
  rw [e]
  unfold topv
  rw [← ex]
  rfl
theorem XB_em (h : XB gB fr t0 z) (k1 : t0.toInt.toNat + 121 + 2 * fr ≤ n) (k2 : n < t0.toInt.toNat + 729) : XB gB fr t0 (upd z n v) := fun k hk => by
  rw [pk_un (by omega)]
  exact h k hk
/-- one row more: where it stands, what is below -/
theorem EM_at (h : EM (EM P n o) (n + 1) v z) : ∃ z0, P z0 ∧ z = upd (upd z0 n o) (n + 1) v := by
  obtain ⟨z1, ⟨z0, h0, rfl⟩, rfl⟩ := h
  exact ⟨z0, h0, rfl⟩
theorem XB_em2 (h : XB gB fr t0 z) (k1 : t0.toInt.toNat + 121 + 2 * fr ≤ n) (k2 : n + 1 < t0.toInt.toNat + 729) : XB gB fr t0 (upd (upd z n o) (n + 1) v) := XB_em (XB_em h k1 (by omega)) (by omega) k2
theorem up2_a : upd (upd z n o) (n + 1) v n = o := by rw [pk_un (by omega), pk_us]
theorem up2_b : upd (upd z n o) (n + 1) v (n + 1) = v := by rw [pk_us]
theorem up2_c {k : Nat} (h : k < n) : upd (upd z n o) (n + 1) v k = z k := by rw [pk_un (by omega), pk_un (by omega)]
theorem hts_up {b m : Nat} {q q2 : Nat × Nat} (h : hts z b fr m = some q) (e : n = b + 2 * (fr + m)) (st : stH o.toInt v.toInt q = some q2) : hts (upd (upd z n o) (n + 1) v) b fr (m + 1) = some q2 := by
  subst e
  exact hts_emit h (fun k hk => up2_c hk) up2_a up2_b st
/-- a number or a name is written -/
theorem XV_num (h : EM (EM (XV gB fr gp gc opn cmp t0 wr pd op cg false) n o) (n + 1) v z) (en : n = t0.toInt.toNat + 121 + 2 * wr.toInt.toNat) (ho : o.toInt = 0 ∨ (o.toInt = 1 ∧ 0 ≤ v.toInt ∧ v.toInt ≤ 9)) (ew : wr2.toInt = wr.toInt + 1) (hw : bn 0 299 wr) : XS gB fr gp gc 7 opn true cmp t0 wr2 pd op cg z := by
  obtain ⟨z0, ⟨hB, m, hm, hv⟩, rfl⟩ := EM_at h
  obtain ⟨w1, w2⟩ := hw
  have e2 : wr.toInt.toNat = fr + m := by omega
  have hv2 := PV_num (gx2 := upd (upd z0 n o) (n + 1) v) hv (fun q hq => hts_up hq (by rw [en, e2]) (by
    unfold stH
    rcases ho with ho | ⟨ho, h1, h2⟩
    · rw [if_neg (by omega), if_pos (by omega), if_neg (by omega)]
    · rw [if_neg (by omega), if_pos (by omega), if_neg (by omega)]))
  obtain ⟨c0, h1, h2, h3, h4⟩ := PV_SL (least := 7) hv2 (Or.inl (by omega))
  have hr := (PV_room hv).2.2.2.2.2.2.1 rfl
  have hc : c0 = true := by
    rcases hr with e | e
    · exact h4 e
    · rcases Nat.eq_zero_or_pos pd.toInt.toNat with y | y
      · exact h4 y
      · exact h3 y e
  subst hc
  exact ⟨XB_em2 hB (by omega) (by omega), m + 1, by omega, h1⟩
/-- a whole one is to be settled -/
theorem XV_SL (h : XV gB fr gp gc opn cmp t0 wr pd op cg true z) (w : 3 < least ∨ cmp = true ∨ ¬ askd opn) : ∃ cur0 : Bool, XS gB fr gp gc least opn cur0 cmp t0 wr pd op cg z ∧ (cur0 = false → cmp = true) ∧ ((pd.toInt.toNat = 0 ∨ (gp (pd.toInt.toNat - 1)).toInt ≠ 16) → cur0 = true) := by
  obtain ⟨hB, m, hm, hv⟩ := h
  obtain ⟨c0, h1, h2, h3, h4⟩ := PV_SL hv w
  refine ⟨c0, ⟨hB, m, hm, h1⟩, h2, fun q => ?_⟩
  rcases Nat.eq_zero_or_pos pd.toInt.toNat with y | y
  · exact h4 y
  · rcases q with q | q
    · exact h4 q
    · exact h3 y q
def xtp (gp : Nat → Int32) (pd : Int32) (least : Nat) : Prop := pd.toInt.toNat = 0 ∨ rk (gp (pd.toInt.toNat - 1)).toInt < least
theorem XS_end5 (h : XS gB fr gp gc least opn true cmp t0 wr pd op cg z) (l5 : 5 ≤ least) (x : xtp gp pd least) : XW gB fr gp gc t0 wr pd op cg true z := by
  obtain ⟨hB, m, hm, hv⟩ := h
  exact ⟨opn, cmp, hB, m, hm, (PV_end5 hv l5 x).1⟩
/-- settle's loop: the one on top is asked for, and gone -/
theorem XS_16 (h : XS gB fr gp gc least opn cur0 cmp0 t0 wr pd op cg z) (ex : x.toInt = pd.toInt - 1) (hx : 0 ≤ x.toInt) (q : topv gp pd = 16) : XS gB fr gp gc least opn cur0 cmp0 t0 wr x op cg z := by
  obtain ⟨hB, m, hm, hv⟩ := h
  rw [show pd.toInt.toNat = x.toInt.toNat + 1 by omega] at hv
  unfold topv at q
  rw [show (pd.toInt - 1).toNat = x.toInt.toNat by omega] at q
  exact ⟨hB, m, hm, SL_16 hv q⟩
theorem XS_op (h : XS gB fr gp gc least opn cur0 cmp0 t0 wr pd op cg z) (hx : 1 ≤ pd.toInt) (l1 : 1 ≤ least) (hl : least ≤ rk (topv gp pd)) (q : rk (topv gp pd) = 7 ∨ topv gp pd = 20) : 1 ≤ op.toInt := by
  obtain ⟨hB, m, hm, hv⟩ := h
  rw [show pd.toInt.toNat = (pd.toInt - 1).toNat + 1 by omega] at hv
  have n16 : topv gp pd ≠ 16 := by
    intro e
    rcases q with q | q
    · rw [e] at q; exact absurd q (by decide)
    · rw [e] at q; exact absurd q (by decide)
  obtain ⟨_, _, _, _, h3, _⟩ := SL_pop hv n16 hl l1
  have := h3 q
  omega
theorem XS_pop (h : EM (EM (XS gB fr gp gc least opn cur0 cmp0 t0 wr pd op cg) n v) (n + 1) 0 z) (en : n = t0.toInt.toNat + 121 + 2 * wr.toInt.toNat) (ew : wr2.toInt = wr.toInt + 1) (hw : bn 0 299 wr) (ex : x.toInt = pd.toInt - 1) (hx : 0 ≤ x.toInt) (ev : v.toInt = topv gp pd) (n16 : topv gp pd ≠ 16) (l1 : 1 ≤ least) (hl : least ≤ rk (topv gp pd)) (eo : (rk (topv gp pd) = 7 ∨ topv gp pd = 20) ∧ op2.toInt = op.toInt - 1 ∨ ¬ (rk (topv gp pd) = 7 ∨ topv gp pd = 20) ∧ op2 = op) : XS gB fr gp gc least opn cur0 cmp0 t0 wr2 x op2 cg z := by
  obtain ⟨z0, ⟨hB, m, hm, hv⟩, rfl⟩ := EM_at h
  obtain ⟨w1, w2⟩ := hw
  have e2 : wr.toInt.toNat = fr + m := by omega
  rw [show pd.toInt.toNat = x.toInt.toNat + 1 by omega] at hv
  have et : (gp x.toInt.toNat).toInt = topv gp pd := by
    unfold topv
    rw [show (pd.toInt - 1).toNat = x.toInt.toNat by omega]
  obtain ⟨q, q2, h1, h2, h3, h4⟩ := SL_pop hv (by rw [et]; exact n16) (by rw [et]; exact hl) l1
  rw [et] at h2 h3 h4
  have h5 := h4 (upd (upd z0 n v) (n + 1) 0) (hts_up h1 (by rw [en, e2]) (by rw [ev]; exact h2))
  refine ⟨XB_em2 hB (by omega) (by omega), m + 1, by omega, ?_⟩
  rcases eo with ⟨c, e⟩ | ⟨c, e⟩
  · rw [if_pos c] at h5
    rw [show op2.toInt.toNat = op.toInt.toNat - 1 by omega]
    exact h5
  · rw [if_neg c] at h5
    rw [e]
    exact h5
end XSR
