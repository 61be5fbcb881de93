/-! Every tape's reading ends: tokens run out, and at the end of the tape each step takes from the stack. -/
section TOT
variable {K V : Nat → Int} {S T : List LI} {x : IT} {o i n p : Nat} {b : Bool} {k v : Int} {r : Int × Nat} {B : Nat → Int}
def wI (x : IT) : Nat := if x.1 = 0 then 1 else if x.1 = 1 then 8 else if x.1 = 3 then 5 else if x.1 = 6 then 17 else if x.1 = 8 then 14 else if x.1 = 10 then 11 else if x.1 = 15 then 9 else 2
def wL : List IT → Nat
  | [] => 0
  | x :: l => wI x + wL l
def wS : List LI → Nat
  | [] => 0
  | x :: l => wI x.1 + wS l
theorem wI_1 (x : IT) : 1 ≤ wI x := by
  unfold wI
  repeat' split
  all_goals decide
theorem wI_2 (h : ¬ x.1 = 0) : 1 < wI x := by
  unfold wI
  rw [if_neg h]
  repeat' split
  all_goals decide
theorem wS_app : ∀ S T : List LI, wS (S ++ T) = wS S + wS T := by
  intro S
  induction S with
  | nil => intro T; show wS T = 0 + wS T; omega
  | cons y S ih => intro T; show wI y.1 + wS (S ++ T) = wI y.1 + wS S + wS T; rw [ih]; omega
theorem wS_lay : ∀ its : List IT, wS (lay o b its) = wL its := by
  intro its
  induction its with
  | nil => rfl
  | cons y l ih => show wI y + wS (lay o b l) = wI y + wL l; rw [ih]
def gxP (x : IT) (q : Int × Nat × List IT × Nat) : Prop := q.1 ≠ 0 ∨ q.2.1 = 1 ∨ (q.2.1 = 0 ∧ wL q.2.2.1 < wI x)
def gxQ (x : IT) (q : Int × Nat × List IT × Nat) : Prop := q.1 ≠ 0 ∨ wL q.2.2.1 < wI x
theorem gx_p : gxP x (gx x o b k v) := by
  by_cases ht : x.1 = 0
  · obtain ⟨t, a⟩ := x
    have ht : t = 0 := ht
    subst ht
    show gxP (0, a) (if k = a then (0, 1, [], 0) else (1, 0, [], 0))
    split
    · exact Or.inr (Or.inl rfl)
    · exact Or.inl (by decide)
  · have w2 := wI_2 ht
    unfold gx
    split
    all_goals repeat' split
    all_goals first
      | exact Or.inl (by decide)
      | exact Or.inr (Or.inl rfl)
      | exact absurd rfl ht
      | exact Or.inr (Or.inr ⟨rfl, w2⟩)
      | exact Or.inr (Or.inr ⟨rfl, Nat.lt_trans Nat.zero_lt_one w2⟩)
      | exact Or.inr (Or.inr ⟨rfl, (show (7 : Nat) < 8 by decide)⟩)
      | exact Or.inr (Or.inr ⟨rfl, (show (4 : Nat) < 5 by decide)⟩)
      | exact Or.inr (Or.inr ⟨rfl, (show (16 : Nat) < 17 by decide)⟩)
      | exact Or.inr (Or.inr ⟨rfl, (show (13 : Nat) < 14 by decide)⟩)
      | exact Or.inr (Or.inr ⟨rfl, (show (10 : Nat) < 11 by decide)⟩)
      | exact Or.inr (Or.inr ⟨rfl, (show (8 : Nat) < 9 by decide)⟩)
theorem gx_q (hk : k = 1002) : gxQ x (gx x o b k v) := by
  by_cases ht : x.1 = 0
  · obtain ⟨t, a⟩ := x
    have ht : t = 0 := ht
    subst ht
    show gxQ (0, a) (if k = a then (0, 1, [], 0) else (1, 0, [], 0))
    split
    · exact Or.inr (show 0 < 1 by decide)
    · exact Or.inl (by decide)
  · have w2 := wI_2 ht
    have hc : ¬ isCmp k := by unfold isCmp; omega
    unfold gx
    split
    all_goals repeat' split
    all_goals first
      | exact Or.inl (by decide)
      | exact absurd rfl ht
      | exact Or.inr w2
      | exact Or.inr (Nat.lt_trans Nat.zero_lt_one w2)
      | exact Or.inr (show (7 : Nat) < 8 by decide)
      | exact Or.inr (show (4 : Nat) < 5 by decide)
      | exact Or.inr (show (16 : Nat) < 17 by decide)
      | exact Or.inr (show (13 : Nat) < 14 by decide)
      | exact Or.inr (show (10 : Nat) < 11 by decide)
      | exact Or.inr (show (8 : Nat) < 9 by decide)
      | (exfalso; omega)
      | (exfalso; exact hc (by assumption))
theorem LL_bk (h : (gx x o b (K i) (V i)).1 = 0) (q : LL K V (lay (o + (gx x o b (K i) (V i)).2.2.2 % 100) (decide (100 ≤ (gx x o b (K i) (V i)).2.2.2) || b) (gx x o b (K i) (V i)).2.2.1 ++ S) (i + (gx x o b (K i) (V i)).2.1) r) : LL K V ((x, o, b) :: S) i r := by
  obtain ⟨m, q⟩ := q
  exact ⟨m + 1, by unfold llr; rw [if_pos h]; exact q⟩
theorem LL_ft (h : ¬ (gx x o b (K i) (V i)).1 = 0) : LL K V ((x, o, b) :: S) i ((gx x o b (K i) (V i)).1, i) := ⟨1, by unfold llr; rw [if_neg h]⟩
theorem LL_tot (N : Nat) (hE : ∀ i, N ≤ i → K i = 1002) : ∀ d w (S : List LI) i, N - i ≤ d → wS S ≤ w → ∃ r, LL K V S i r := by
  intro d
  induction d with
  | zero =>
    intro w
    induction w with
    | zero =>
      intro S i _ hw
      cases S with
      | nil => exact ⟨(0, i), 1, rfl⟩
      | cons y S => exfalso; have h1 := wI_1 y.1; have h2 : wI y.1 + wS S ≤ 0 := hw; omega
    | succ w ih =>
      intro S i hi hw
      cases S with
      | nil => exact ⟨(0, i), 1, rfl⟩
      | cons y S =>
        obtain ⟨x, o, b⟩ := y
        have hw : wI x + wS S ≤ w + 1 := hw
        by_cases z : (gx x o b (K i) (V i)).1 = 0
        · have hq : gxQ x (gx x o b (K i) (V i)) := gx_q (hE i (by omega))
          rcases hq with q | q
          · exact absurd z q
          · obtain ⟨r, hr⟩ := ih (lay (o + (gx x o b (K i) (V i)).2.2.2 % 100) (decide (100 ≤ (gx x o b (K i) (V i)).2.2.2) || b) (gx x o b (K i) (V i)).2.2.1 ++ S) (i + (gx x o b (K i) (V i)).2.1) (by omega) (by rw [wS_app, wS_lay]; omega)
            exact ⟨r, LL_bk z hr⟩
        · exact ⟨_, LL_ft z⟩
  | succ d ihd =>
    intro w
    induction w with
    | zero =>
      intro S i _ hw
      cases S with
      | nil => exact ⟨(0, i), 1, rfl⟩
      | cons y S => exfalso; have h1 := wI_1 y.1; have h2 : wI y.1 + wS S ≤ 0 := hw; omega
    | succ w ih =>
      intro S i hi hw
      cases S with
      | nil => exact ⟨(0, i), 1, rfl⟩
      | cons y S =>
        obtain ⟨x, o, b⟩ := y
        have hw : wI x + wS S ≤ w + 1 := hw
        by_cases z : (gx x o b (K i) (V i)).1 = 0
        · have hq : gxP x (gx x o b (K i) (V i)) := gx_p
          rcases hq with q | q | ⟨q, q2⟩
          · exact absurd z q
          · obtain ⟨r, hr⟩ := ihd _ (lay (o + (gx x o b (K i) (V i)).2.2.2 % 100) (decide (100 ≤ (gx x o b (K i) (V i)).2.2.2) || b) (gx x o b (K i) (V i)).2.2.1 ++ S) (i + (gx x o b (K i) (V i)).2.1) (by rw [q]; omega) (Nat.le_refl _)
            exact ⟨r, LL_bk z hr⟩
          · obtain ⟨r, hr⟩ := ih (lay (o + (gx x o b (K i) (V i)).2.2.2 % 100) (decide (100 ≤ (gx x o b (K i) (V i)).2.2.2) || b) (gx x o b (K i) (V i)).2.2.1 ++ S) (i + (gx x o b (K i) (V i)).2.1) (by rw [q]; exact hi) (by rw [wS_app, wS_lay]; omega)
            exact ⟨r, LL_bk z hr⟩
        · exact ⟨_, LL_ft z⟩
theorem tk0_up (h : p < n) : p < (tk0 B n p).2.2 ∧ (tk0 B n p).2.2 ≤ n := by
  by_cases hl : isLt (B p)
  · rw [tk0_l h hl]
    have a := ltE_ge (B := B) (n := n) n (p + 1)
    have c := ltE_le (B := B) (n := n) n p (by omega)
    rw [← ltE_s ⟨h, hl⟩] at a
    exact ⟨a, c⟩
  · by_cases hd : isDg (B p)
    · rw [tk0_d h hl hd]
      have a := dgE_ge (B := B) (n := n) n (p + 1) (min 10000 (0 * 10 + B p - 48))
      have c := dgE_le (B := B) (n := n) n p 0 (by omega)
      rw [← dgE_s ⟨h, hd⟩] at a
      exact ⟨a, c⟩
    · rw [tk0_s h hl hd]
      unfold sgT
      split
      · next w => exact ⟨show p < p + 2 by omega, show p + 2 ≤ n by omega⟩
      · exact ⟨show p < p + 1 by omega, show p + 1 ≤ n by omega⟩
theorem tkP_gr : ∀ i, n ≤ tkP B n i ∨ i ≤ tkP B n i := by
  intro i
  induction i with
  | zero => exact Or.inr (Nat.zero_le _)
  | succ i ih =>
    have g := skB_ge (B := B) (n := n) n (tk0 B n (tkP B n i)).2.2
    have g : (tk0 B n (tkP B n i)).2.2 ≤ tkP B n (i + 1) := g
    by_cases h : tkP B n i < n
    · have u := (tk0_up (B := B) h).1
      exact Or.inr (by omega)
    · rw [tk0_e (by omega)] at g
      have g : tkP B n i ≤ tkP B n (i + 1) := g
      exact Or.inl (by omega)
theorem tkK_end (h : n ≤ i) : tkK B n i = 1002 := by
  have g := tkP_gr (B := B) (n := n) i
  unfold tkK
  rw [tk0_e (by omega)]
theorem TXR_ex (B : Nat → Int) (n : Nat) : ∃ rr, TXR B n rr := LL_tot n (fun _ h => tkK_end h) n _ _ 0 (by omega) (Nat.le_refl _)
end TOT
