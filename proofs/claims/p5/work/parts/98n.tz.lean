/-! The texts between two clauses. -/
section TZR
variable {g g1 g3 z : Nat → Int32} {b : Nat} {t0 wr wr2 n x s v v2 r fr to2 : Int32}
def TZ (t0 wr : Int32) (z : Nat → Int32) : Prop := TX z ∧ ∀ k : Nat, (k : Int) < (z t0.toInt.toNat).toInt → bn 0 2 (z (t0.toInt.toNat + 1 + 5 * k)) → (z (t0.toInt.toNat + 1 + 5 * k + 2)).toInt ≤ wr.toInt
def TC (r t0 wr : Int32) (z : Nat → Int32) : Prop := TX z ∧ (r = 0 → TZ t0 wr z)
def T3 (P : (Nat → Int32) → Prop) (g : Nat → Int32) : Prop := P g ∧ bn 0 3 (g 1)
def TT (t0 : Int32) : Prop := ∃ t : Nat, t < 4 ∧ t0.toInt = ((729 * t : Nat) : Int)
theorem WFc_e (h : WFc g b fr to2) (e : ∀ j, b ≤ j → j < b + 2 * to2.toInt.toNat → z j = g j) : WFc z b fr to2 := by
  obtain ⟨h1, h2, h3, h4⟩ := h
  refine ⟨h1, h2, h3, fun m hm => ?_⟩
  obtain ⟨q, hq⟩ := h4 m hm
  exact ⟨q, by rw [hts_ext m (fun k hk => ⟨e _ (by omega) (by omega), e _ (by omega) (by omega)⟩)]; exact hq⟩
theorem TX_fr {n c : Nat} (hZ : TZ t0 wr g) (ht : TT t0) (hw : 0 ≤ wr.toInt) (hn : n ≤ 23) (hn2 : (g t0.toInt.toNat).toInt = (n : Int)) (hf : ∀ k, (k < t0.toInt.toNat + 1 + 5 * n ∨ t0.toInt.toNat + 1 + 5 * n + 5 ≤ k) → (k < t0.toInt.toNat + 121 + 2 * wr.toInt.toNat ∨ t0.toInt.toNat + 729 ≤ k) → k ≠ t0.toInt.toNat → z k = g k) (hc : (z t0.toInt.toNat).toInt = (c : Int)) (hq : c = n ∨ (c = n + 1 ∧ (bn 0 2 (z (t0.toInt.toNat + 1 + 5 * n)) → WFc z (t0.toInt.toNat + 121) (z (t0.toInt.toNat + 1 + 5 * n + 1)) (z (t0.toInt.toNat + 1 + 5 * n + 2))))) : TX z := by
  obtain ⟨t, ht1, ht2⟩ := ht
  have e0 : t0.toInt.toNat = 729 * t := by omega
  rw [e0] at hn2 hf hc hq
  obtain ⟨hT, hL⟩ := hZ
  rw [e0] at hL
  intro u hu
  by_cases ut : u = t
  · subst ut
    refine ⟨⟨by omega, by omega⟩, fun k hk hb => ?_⟩
    by_cases kn : k = n
    · subst kn
      rcases hq with q | ⟨q, q2⟩
      · omega
      · exact q2 hb
    · have k1 : k < n := by omega
      rw [hf (729 * u + 1 + 5 * k) (by omega) (by omega) (by omega)] at hb
      have W := (hT u hu).2 k (by omega) hb
      have W2 := hL k (by omega) hb
      rw [hf (729 * u + 1 + 5 * k + 1) (by omega) (by omega) (by omega), hf (729 * u + 1 + 5 * k + 2) (by omega) (by omega) (by omega)]
      exact WFc_e W (fun j h1 h2 => hf j (by omega) (by omega) (by omega))
  · have far : ∀ j, 729 * u ≤ j → j < 729 * u + 729 → z j = g j := fun j h1 h2 => hf j (by omega) (by omega) (by omega)
    obtain ⟨c1, c2⟩ := hT u hu
    have f0 := far (729 * u) (by omega) (by omega)
    refine ⟨by rw [f0]; exact c1, fun k hk hb => ?_⟩
    rw [f0] at hk
    have k24 : k < 24 := by have := c1.2; omega
    rw [far (729 * u + 1 + 5 * k) (by omega) (by omega)] at hb
    have W := c2 k hk hb
    rw [far (729 * u + 1 + 5 * k + 1) (by omega) (by omega), far (729 * u + 1 + 5 * k + 2) (by omega) (by omega)]
    have W3 := W.2.2.1
    exact WFc_e W (fun j h1 h2 => far j (by omega) (by omega))
theorem TZ_n (hZ : TZ t0 wr g) (ht : TT t0) (en : n = g t0.toNatClampNeg) : bn 0 24 n := by
  obtain ⟨t, ht1, ht2⟩ := ht
  rw [en, tnc, show t0.toInt.toNat = 729 * t by omega]
  exact (hZ.1 t ht1).1
def TZN (nC : Int) (t0 wr : Int32) (z : Nat → Int32) : Prop := TZ t0 wr z ∧ (z t0.toInt.toNat).toInt = nC
def TCN (r : Int32) (nC : Int) (t0 wr : Int32) (z : Nat → Int32) : Prop := TX z ∧ (r = 0 → TZN (nC + 1) t0 wr z)
theorem TCN_no {nC nD : Int} (hZ : TZN nD t0 wr g) (hr : ¬ r = 0) : TCN r nC t0 wr2 g := ⟨hZ.1.1, fun h => absurd h hr⟩
theorem TCN_tc {nC : Int} (h : TC r t0 wr g) (hr : ¬ r = 0) : TCN r nC t0 wr g := ⟨h.1, fun e => absurd e hr⟩
theorem TC_no (hZ : TZ t0 wr g) (hr : ¬ r = 0) : TC r t0 wr2 g := ⟨hZ.1, fun h => absurd h hr⟩
theorem TC_ok (hZ : TZ t0 wr g) : TC r t0 wr g := ⟨hZ.1, fun _ => hZ⟩
theorem TZ_bd (hZ : TZ t0 wr g) (ht : TT t0) (hw : 0 ≤ wr.toInt) (en : n = g t0.toNatClampNeg) (hn : bn 0 23 n) (e1 : g1 = upd g x.toNatClampNeg s) (ex : x.toInt = t0.toInt + 1 + 5 * n.toInt) (hB : BD r g1 x.toInt.toNat t0 wr wr2 z) (hr : ¬ r = 0) : TC r t0 wr2 z := by
  refine ⟨?_, fun h => absurd h hr⟩
  obtain ⟨n1, n2⟩ := hn
  have ht' := ht
  obtain ⟨t, ht1, ht2⟩ := ht'
  have hx : x.toInt.toNat = t0.toInt.toNat + 1 + 5 * n.toInt.toNat := by omega
  have ng : (g t0.toInt.toNat).toInt = (n.toInt.toNat : Int) := by rw [← tnc, ← en]; omega
  have hg : ∀ k, k < x.toInt.toNat ∨ x.toInt.toNat + 5 ≤ k → k < t0.toInt.toNat + 121 + 2 * wr.toInt.toNat ∨ t0.toInt.toNat + 729 ≤ k → z k = g k := fun k h1 h2 => by rw [hB.1 k h1 h2, e1, pk_un (by rw [tnc]; omega)]
  exact TX_fr hZ ht hw (n := n.toInt.toNat) (c := n.toInt.toNat) (by omega) ng (fun k h1 h2 _ => hg k (by omega) h2) (by rw [hg _ (by omega) (by omega)]; exact ng) (Or.inl rfl)
theorem TZ_up (hZ : TZ t0 wr g) (ht : TT t0) (hw : 0 ≤ wr.toInt) (en : n = g t0.toNatClampNeg) (hn : bn 0 23 n) (e1 : g1 = upd g x.toNatClampNeg s) (ex : x.toInt = t0.toInt + 1 + 5 * n.toInt) (hB : BD r g1 x.toInt.toNat t0 wr wr2 z) (hr : r = 0) (e2 : v2 = z t0.toNatClampNeg) (ev : v = v2 + 1) (e3 : g3 = upd z t0.toNatClampNeg v) : TZ t0 wr2 g3 ∧ (g3 t0.toInt.toNat).toInt = n.toInt + 1 := by
  obtain ⟨n1, n2⟩ := hn
  have ht' := ht
  obtain ⟨t, ht1, ht2⟩ := ht'
  have hx : x.toInt.toNat = t0.toInt.toNat + 1 + 5 * n.toInt.toNat := by omega
  have ng : (g t0.toInt.toNat).toInt = (n.toInt.toNat : Int) := by rw [← tnc, ← en]; omega
  have hg : ∀ k, k < x.toInt.toNat ∨ x.toInt.toNat + 5 ≤ k → k < t0.toInt.toNat + 121 + 2 * wr.toInt.toNat ∨ t0.toInt.toNat + 729 ≤ k → z k = g k := fun k h1 h2 => by rw [hB.1 k h1 h2, e1, pk_un (by rw [tnc]; omega)]
  have vn : v2 = n := by rw [e2, tnc, hg _ (by omega) (by omega), ← tnc, ← en]
  have vt : v.toInt = n.toInt + 1 := by
    rw [ev, vn, ti_add (by have k : (1 : Int32).toInt = 1 := rfl; omega) (by have k : (1 : Int32).toInt = 1 := rfl; omega)]
    rfl
  have h3 : ∀ k, k ≠ t0.toInt.toNat → g3 k = z k := fun k hk => by rw [e3, pk_un (by rw [tnc]; exact hk)]
  have h30 : g3 t0.toInt.toNat = v := by rw [e3, ← tnc, pk_us]
  obtain ⟨b1, b2⟩ := hB.2 hr
  rw [hx] at b1
  have hrow : bn 0 2 (g3 (t0.toInt.toNat + 1 + 5 * n.toInt.toNat)) → WFc g3 (t0.toInt.toNat + 121) (g3 (t0.toInt.toNat + 1 + 5 * n.toInt.toNat + 1)) (g3 (t0.toInt.toNat + 1 + 5 * n.toInt.toNat + 2)) ∧ (g3 (t0.toInt.toNat + 1 + 5 * n.toInt.toNat + 2)).toInt ≤ wr2.toInt := by
    intro hb
    rw [h3 _ (by omega)] at hb
    obtain ⟨w1, w2⟩ := b1 hb
    rw [h3 (t0.toInt.toNat + 1 + 5 * n.toInt.toNat + 1) (by omega), h3 (t0.toInt.toNat + 1 + 5 * n.toInt.toNat + 2) (by omega)]
    exact ⟨WFc_ext w1 (fun k hk => h3 k (by omega)), w2⟩
  refine ⟨⟨TX_fr hZ ht hw (n := n.toInt.toNat) (c := n.toInt.toNat + 1) (by omega) ng (fun k h1 h2 h4 => by rw [h3 k h4]; exact hg k (by omega) h2) (by rw [h30]; omega) (Or.inr ⟨rfl, fun hb => (hrow hb).1⟩), fun k hk hb => ?_⟩, by rw [h30]; exact vt⟩
  rw [h30] at hk
  by_cases kn : k = n.toInt.toNat
  · subst kn; exact (hrow hb).2
  · rw [h3 (t0.toInt.toNat + 1 + 5 * k) (by omega), hg _ (by omega) (by omega)] at hb
    rw [h3 (t0.toInt.toNat + 1 + 5 * k + 2) (by omega), hg _ (by omega) (by omega)]
    have := hZ.2 k (by omega) hb
    omega
/-- a new text: no clause yet -/
theorem TZ_0 (hX : TX g) (ht : TT t0) (e : z = upd g t0.toNatClampNeg 0) : TZ t0 0 z := by
  obtain ⟨t, ht1, ht2⟩ := ht
  have e0 : t0.toInt.toNat = 729 * t := by omega
  have z0 : z (729 * t) = 0 := by rw [e, ← e0, ← tnc, pk_us]
  have z1 : ∀ k, k ≠ 729 * t → z k = g k := fun k hk => by rw [e, pk_un (by rw [tnc]; omega)]
  refine ⟨fun u hu => ?_, fun k hk => ?_⟩
  · by_cases ut : u = t
    · subst ut
      rw [z0]
      exact ⟨⟨by decide, by decide⟩, fun k hk => absurd hk (by show ¬ (k : Int) < 0; omega)⟩
    · obtain ⟨c1, c2⟩ := hX u hu
      rw [z1 (729 * u) (by omega)]
      refine ⟨c1, fun k hk hb => ?_⟩
      have k24 : k < 24 := by have := c1.2; omega
      rw [z1 _ (by omega)] at hb
      rw [z1 (729 * u + 1 + 5 * k + 1) (by omega), z1 (729 * u + 1 + 5 * k + 2) (by omega)]
      have W := c2 k hk hb
      have W3 := W.2.2.1
      exact WFc_e W (fun j h1 h2 => z1 j (by omega))
  · rw [e0, z0] at hk
    exact absurd hk (by show ¬ (k : Int) < 0; omega)
end TZR
