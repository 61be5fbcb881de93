/-! The pile as a list: what its shape is, what settle leaves of it. -/
def pls (g : Nat → Int) : Nat → List Int
  | 0 => []
  | i + 1 => g i :: pls g i
def dR (l : Nat) : List Int → List Int
  | [] => []
  | t :: p => if l ≤ rk t then dR l p else t :: p
def wfO : List Int → Prop
  | [] => True
  | t :: p => (t = 22 → dR 1 p = p) ∧ wfO p
section SHR9
variable {P p q : List Int} {t o top opn : Int} {l : Nat} {cmp b : Bool} {gp gc : Nat → Int} {c : Nat} {cn : Nat → Int}
theorem dR_y (h : l ≤ rk t) : dR l (t :: p) = dR l p := by
  show (if l ≤ rk t then dR l p else t :: p) = _
  rw [if_pos h]
theorem dR_n (h : ¬ l ≤ rk t) : dR l (t :: p) = t :: p := by
  show (if l ≤ rk t then dR l p else t :: p) = _
  rw [if_neg h]
theorem stp_n (z : ¬ (2 ≤ t ∧ t ≤ 9)) : stp (t :: p) = t :: p := by
  show (if 2 ≤ t ∧ t ≤ 9 then stp p else t :: p) = _
  rw [if_neg z]
theorem bs_y (z : 20 ≤ t ∧ t ≤ 22) : bs (t :: p) = bs p := by
  show (if 20 ≤ t ∧ t ≤ 22 then bs p else t :: p) = _
  rw [if_pos z]
theorem bs_n (z : ¬ (20 ≤ t ∧ t ≤ 22)) : bs (t :: p) = t :: p := by
  show (if 20 ≤ t ∧ t ≤ 22 then bs p else t :: p) = _
  rw [if_neg z]
/-- what is said of a pile (top, opn, cmp as ps has them) -/
def SHA (P : List Int) (top opn : Int) (cmp : Bool) : Prop :=
  (rk top ≤ 4 → stp P = P) ∧
  (top ≠ 16 → hdW P) ∧
  (cmp = true → ∃ q, cpd P q ∧ dR 1 P = bs q ∧ ∃ q2, bs q = opn :: q2) ∧
  (cmp = false → askd opn → askT (stp P) ∧ ∃ q2, dR 1 P = opn :: q2) ∧
  (¬ askd opn → stp P = dR 1 P ∧ (opn = -1 → dR 1 P = []) ∧ (opn ≠ -1 → ∃ q2, dR 1 P = opn :: q2)) ∧
  (top ≠ 5 → top ≠ 2 → nng P) ∧
  (askd opn → rk top ≤ 3 → askW P ∧ bs P = dR 1 P) ∧
  (∀ t, t ∈ P → 2 ≤ t) ∧ wfO P ∧ (rk top = 0 → dR 1 P = P)
theorem rk_cases (h : 2 ≤ t) : (rk t = 0 ↔ 40 ≤ t) ∧ (rk t = 1 ↔ t = 22) ∧ (rk t = 2 ↔ t = 21) ∧ (rk t = 3 ↔ t = 20) ∧ (5 ≤ rk t ↔ t ≤ 9) ∧ (rk t = 7 ↔ t = 5 ∨ t = 2) := by
  unfold rk
  (repeat' split) <;> omega
theorem SHA_0 : SHA [] 40 (-1) false := by
  refine ⟨fun _ => rfl, fun _ => Or.inl rfl, by simp, fun _ h => absurd h (by unfold askd; decide), fun _ => ⟨rfl, fun _ => rfl, fun h => absurd rfl h⟩, fun _ _ => trivial, fun h => absurd h (by unfold askd; decide), fun t h => absurd h (by simp), trivial, fun _ => rfl⟩
theorem mem2 (h : ∀ t, t ∈ P → 2 ≤ t) (ho : 2 ≤ o) : ∀ t, t ∈ (o :: P) → 2 ≤ t := fun t ht => by
  rcases List.mem_cons.mp ht with r | r
  · rw [r]; exact ho
  · exact h t r
theorem SHA_op (h : SHA P top opn cmp) (ho : 40 ≤ o ∧ o ≤ 44) : SHA (o :: P) o o false := by
  obtain ⟨a1, a2, a3, a4, a5, a6, a7, a8, a9, a10⟩ := h
  have r : rk o = 0 := rk0 ho.1
  have e1 : stp (o :: P) = o :: P := stp_n (by omega)
  have e2 : dR 1 (o :: P) = o :: P := dR_n (by omega)
  refine ⟨fun _ => e1, fun _ => Or.inr ⟨o, P, e1, by omega, by omega, by omega⟩, by simp, fun _ h => ⟨?_, P, e2⟩, fun _ => ⟨by rw [e1, e2], fun h => by omega, fun _ => ⟨P, e2⟩⟩, fun _ _ => fun h => by omega, fun h _ => ⟨?_, ?_⟩, mem2 a8 (by omega), ⟨fun h => by omega, a9⟩, fun _ => e2⟩
  · rw [e1]; unfold askd at h; unfold askT; omega
  · unfold askd at h; unfold askW; omega
  · rw [e2]; exact bs_n (by omega)
theorem SHA_ask (h : SHA P top opn cmp) (hc : cmp = false) (ho : o = 20 ∨ o = 21 ∨ o = 22) (ha : askd opn) (ht : rk top ≤ 3) (h22 : o = 22 → rk top = 0) : SHA (o :: P) o opn cmp := by
  obtain ⟨a1, a2, a3, a4, a5, a6, a7, a8, a9, a10⟩ := h
  subst hc
  have r : 1 ≤ rk o ∧ rk o ≤ 3 := by rcases ho with rfl | rfl | rfl <;> decide
  have e1 : stp (o :: P) = o :: P := stp_n (by omega)
  have e2 : dR 1 (o :: P) = dR 1 P := dR_y r.1
  obtain ⟨b1, b2⟩ := a7 ha ht
  refine ⟨fun _ => e1, fun _ => Or.inr ⟨o, P, e1, by omega, by omega, by omega⟩, by simp, fun _ h => ⟨by rw [e1]; unfold askT; omega, by rw [e2]; exact (a4 rfl ha).2⟩, fun h => absurd ha h, fun _ _ => fun h => by omega, fun _ _ => ⟨Or.inr (Or.inr ⟨ho, b1⟩), by rw [e2, bs_y (by omega), b2]⟩, mem2 a8 (by omega), ⟨fun z => a10 (h22 z), a9⟩, fun h => by omega⟩
theorem SHA_cmp (h : SHA P top opn cmp) (hc : cmp = false) (ho : 10 ≤ o ∧ o ≤ 16) (ha : askd opn) (ht : rk top ≤ 3) : SHA (o :: P) o opn true := by
  obtain ⟨a1, a2, a3, a4, a5, a6, a7, a8, a9, a10⟩ := h
  subst hc
  have r : rk o = 4 := by unfold rk; rw [if_neg (by omega), if_neg (by omega), if_neg (by omega), if_neg (by omega), if_pos (by omega)]
  have e1 : stp (o :: P) = o :: P := stp_n (by omega)
  have e2 : dR 1 (o :: P) = dR 1 P := dR_y (by omega)
  obtain ⟨b1, b2⟩ := a7 ha ht
  obtain ⟨b3, q2, b4⟩ := a4 rfl ha
  refine ⟨fun _ => e1, fun h => Or.inr ⟨o, P, e1, by omega, h, by omega⟩, fun _ => ⟨P, ⟨o, e1, ho.1, ho.2, b1⟩, by rw [e2, b2], q2, by rw [b2, b4]⟩, by simp, fun h => absurd ha h, fun _ _ => fun h => by omega, fun _ h => by omega, mem2 a8 (by omega), ⟨fun z => by omega, a9⟩, fun h => by omega⟩
theorem SHA_ar (h : SHA P top opn cmp) (ho : 6 ≤ o ∧ o ≤ 9) (ht : rk top ≤ 5) (hn : top ≠ 16) (h6 : o ≤ 7 → rk top ≤ 4) : SHA (o :: P) o opn cmp := by
  obtain ⟨a1, a2, a3, a4, a5, a6, a7, a8, a9, a10⟩ := h
  have r : 5 ≤ rk o ∧ rk o ≤ 6 := by unfold rk; (repeat' split) <;> omega
  have e1 : stp (o :: P) = stp P := stp_y (by omega)
  have e2 : dR 1 (o :: P) = dR 1 P := dR_y (by omega)
  have n5 : top ≠ 5 := fun z => by rw [z] at ht; exact absurd ht (by decide)
  have n2 : top ≠ 2 := fun z => by rw [z] at ht; exact absurd ht (by decide)
  refine ⟨fun h => by omega, fun _ => ?_, fun h => ?_, fun h1 h2 => ?_, fun h => ?_, fun _ _ => fun _ => ⟨ho.1, a6 n5 n2⟩, fun _ h => by omega, mem2 a8 (by omega), ⟨fun z => by omega, a9⟩, fun h => by omega⟩
  · unfold hdW; rw [e1]; exact a2 hn
  · obtain ⟨q, b1, b2, b3⟩ := a3 h
    refine ⟨q, ?_, by rw [e2, b2], b3⟩
    obtain ⟨t, c1, c2⟩ := b1
    exact ⟨t, by rw [e1]; exact c1, c2⟩
  · rw [e1, e2]; exact a4 h1 h2
  · rw [e1, e2]; exact a5 h
theorem SHA_un (h : SHA P top opn cmp) (ho : o = 5 ∨ o = 2) (hn : top ≠ 16) : SHA (o :: P) o opn cmp := by
  obtain ⟨a1, a2, a3, a4, a5, a6, a7, a8, a9, a10⟩ := h
  have r : rk o = 7 := by rcases ho with rfl | rfl <;> decide
  have e1 : stp (o :: P) = stp P := stp_y (by omega)
  have e2 : dR 1 (o :: P) = dR 1 P := dR_y (by omega)
  refine ⟨fun h => by omega, fun _ => ?_, fun h => ?_, fun h1 h2 => ?_, fun h => ?_, fun h1 h2 => by omega, fun _ h => by omega, mem2 a8 (by omega), ⟨fun z => by omega, a9⟩, fun h => by omega⟩
  · unfold hdW; rw [e1]; exact a2 hn
  · obtain ⟨q, b1, b2, b3⟩ := a3 h
    refine ⟨q, ?_, by rw [e2, b2], b3⟩
    obtain ⟨t, c1, c2⟩ := b1
    exact ⟨t, by rw [e1]; exact c1, c2⟩
  · rw [e1, e2]; exact a4 h1 h2
  · rw [e1, e2]; exact a5 h
theorem ps_sha : ∀ (i n t op ju : Nat) (top opn : Int) (cmp : Bool), ps gp gc i (n, t, op, ju, top, opn, cmp) → SHA (pls gp i) top opn cmp ∧ lvl (pls gp i) = op ∧ jn (pls gp i) = ju := by
  intro i
  induction i with
  | zero =>
    intro n t op ju top opn cmp h
    have h : (n, t, op, ju, top, opn, cmp) = (0, 0, 0, 0, 40, -1, false) := h
    simp only [Prod.mk.injEq] at h
    obtain ⟨rfl, rfl, rfl, rfl, rfl, rfl, rfl⟩ := h
    exact ⟨SHA_0, rfl, rfl⟩
  | succ i ih =>
    intro n t op ju top opn cmp h
    obtain ⟨n', t', op', ju', top', opn', cmp', h1, h2, h3⟩ := h
    obtain ⟨b1, b2, b3⟩ := ih _ _ _ _ _ _ _ h1
    have v := ps_inv _ _ _ _ _ _ _ _ h1
    have vc : rk top' ≤ 3 → cmp' = false := fun z => by
      cases cmp' with
      | false => rfl
      | true => have := v.2.2.1 rfl; omega
    show SHA (gp i :: pls gp i) top opn cmp ∧ lvl (gp i :: pls gp i) = op ∧ jn (gp i :: pls gp i) = ju
    rcases h3 with ⟨q, e⟩ | ⟨q, e⟩ | ⟨q, e⟩ | ⟨q, u1, u2, u3, u4, e⟩ | ⟨q, u1, u2, e⟩ | ⟨q, u1, u2, e⟩ | ⟨q, u1, u2, e⟩ | ⟨q, u1, u2, e⟩ | ⟨q, u1, u2, e⟩ | ⟨q, u1, e⟩ | ⟨q, u1, e⟩ | ⟨q, e⟩
    all_goals simp only [Prod.mk.injEq] at e
    all_goals obtain ⟨rfl, rfl, rfl, rfl, rfl, rfl, rfl⟩ := e
    · exact ⟨SHA_op b1 (by omega), by rw [lvl_o (by unfold isOpn; omega), b2], by rw [jn_n (by omega), b3]⟩
    · exact ⟨SHA_op b1 (by omega), by rw [lvl_o (by unfold isOpn; omega), b2], by rw [jn_n (by omega), b3]⟩
    · exact ⟨SHA_op b1 (by omega), by rw [lvl_o (by unfold isOpn; omega), b2], by rw [jn_n (by omega), b3]⟩
    · exact ⟨SHA_op b1 (by omega), by rw [lvl_o (by unfold isOpn; omega), b2], by rw [jn_y (by omega), b3]⟩
    · exact ⟨SHA_ask b1 (vc u2) (by omega) u1 u2 (by omega), by rw [lvl_o (by unfold isOpn; omega), b2], by rw [jn_n (by omega), b3]⟩
    · exact ⟨SHA_ask b1 (vc (by omega)) (by omega) u1 (by omega) (by omega), by rw [lvl_n (by unfold isOpn; omega), b2], by rw [jn_n (by omega), b3]⟩
    · exact ⟨SHA_ask b1 (vc (by omega)) (by omega) u1 (by omega) (fun _ => u2), by rw [lvl_n (by unfold isOpn; omega), b2], by rw [jn_n (by omega), b3]⟩
    · exact ⟨SHA_cmp b1 (vc u2) (by omega) u1 u2, by rw [lvl_n (by unfold isOpn; omega), b2], by rw [jn_n (by omega), b3]⟩
    · exact ⟨SHA_cmp b1 (vc u2) (by omega) u1 u2, by rw [lvl_n (by unfold isOpn; omega), b2], by rw [jn_n (by omega), b3]⟩
    · exact ⟨SHA_ar b1 (by omega) (by omega) h2 (fun _ => u1), by rw [lvl_n (by unfold isOpn; omega), b2], by rw [jn_n (by omega), b3]⟩
    · exact ⟨SHA_ar b1 (by omega) u1 h2 (fun z => by omega), by rw [lvl_n (by unfold isOpn; omega), b2], by rw [jn_n (by omega), b3]⟩
    · exact ⟨SHA_un b1 q h2, by rw [lvl_o (by unfold isOpn; omega), b2], by rw [jn_n (by omega), b3]⟩
/-! what settle leaves -/
theorem dR_stp (h5 : 5 ≤ l) : ∀ P : List Int, (∀ t, t ∈ P → 2 ≤ t) → stp (dR l P) = stp P ∧ CA b cn (dR l P) c = CA b cn P c ∧ (nng P → nng (dR l P)) ∧ (l ≤ 5 → dR l P = stp P) := by
  intro P
  induction P with
  | nil => intro _; exact ⟨rfl, rfl, fun h => h, fun _ => rfl⟩
  | cons t p ih =>
    intro h
    have h2 : 2 ≤ t := h t (List.mem_cons_self ..)
    have r := rk_cases h2
    obtain ⟨i1, i2, i3, i4⟩ := ih (fun x hx => h x (List.mem_cons_of_mem _ hx))
    by_cases z : l ≤ rk t
    · have z9 : 2 ≤ t ∧ t ≤ 9 := ⟨h2, r.2.2.2.2.1.mp (by omega)⟩
      rw [dR_y z]
      refine ⟨by rw [i1, stp_y z9], by rw [i2, CA_op z9], fun q => i3 ((q z9).2), fun q => by rw [i4 q, stp_y z9]⟩
    · rw [dR_n z]
      refine ⟨rfl, rfl, fun q => q, fun q => ?_⟩
      rw [stp_n (fun y => z (by have := r.2.2.2.2.1.mpr y.2; omega))]
theorem dR_wf : ∀ P : List Int, wfO P → wfO (dR l P) := by
  intro P
  induction P with
  | nil => intro h; exact h
  | cons t p ih =>
    intro h
    by_cases z : l ≤ rk t
    · rw [dR_y z]; exact ih h.2
    · rw [dR_n z]; exact h
theorem dR_12 : ∀ P : List Int, dR 1 (dR 2 P) = dR 1 P := by
  intro P
  induction P with
  | nil => rfl
  | cons t p ih =>
    by_cases z : 2 ≤ rk t
    · rw [dR_y z, ih, dR_y (by omega)]
    · rw [dR_n z]
theorem dR_2 (hw : wfO P) (h2 : ∀ t, t ∈ P → 2 ≤ t) : dR 2 P = dR 1 P ∨ dR 2 P = 22 :: dR 1 P := by
  have e := dR_12 P
  have w := dR_wf (l := 2) P hw
  have m : ∀ Q : List Int, (∀ t, t ∈ Q → 2 ≤ t) → dR 2 Q = [] ∨ ∃ t p, dR 2 Q = t :: p ∧ rk t < 2 ∧ 2 ≤ t := by
    intro Q
    induction Q with
    | nil => intro _; exact Or.inl rfl
    | cons t p ih =>
      intro h
      by_cases z : 2 ≤ rk t
      · rw [dR_y z]; exact ih (fun x hx => h x (List.mem_cons_of_mem _ hx))
      · rw [dR_n z]; exact Or.inr ⟨t, p, rfl, by omega, h t (List.mem_cons_self ..)⟩
  rcases m P h2 with q | ⟨t, p, q, q1, q2⟩
  · rw [q] at e ⊢; exact Or.inl e
  · rw [q] at e w ⊢
    have r := rk_cases q2
    by_cases z : rk t = 0
    · rw [dR_n (by omega)] at e; exact Or.inl e
    · have t22 : t = 22 := r.2.1.mp (by omega)
      have k := w.1 t22
      rw [dR_y (by omega), k] at e
      rw [t22, e]; exact Or.inr rfl
theorem dR_2c (hw : wfO P) (h2 : ∀ t, t ∈ P → 2 ≤ t) (e : dR 1 P = bs q) : lvl (dR 2 P) = lvl (bs q) ∧ (CA b cn (dR 2 P) c).2 = (CA b cn (bs q) c).2 := by
  rcases dR_2 hw h2 with z | z
  · rw [z, e]; exact ⟨rfl, rfl⟩
  · rw [z, e, lvl_n (by decide), CA_2 (by decide)]; exact ⟨rfl, rfl⟩
theorem pls_ext {g g2 : Nat → Int} : ∀ i, (∀ k, k < i → g2 k = g k) → pls g2 i = pls g i := by
  intro i
  induction i with
  | zero => intro _; rfl
  | succ i ih =>
    intro h
    show g2 i :: pls g2 i = g i :: pls g i
    rw [h i (Nat.lt_succ_self i), ih (fun k hk => h k (by omega))]
end SHR9
theorem end92d : True := trivial
