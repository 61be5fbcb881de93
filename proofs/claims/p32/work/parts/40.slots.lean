/-! The class's graph as it stands for ever: slot k stands at address ad k; what may stand there. Nothing is made behind the constructors. -/
def sLd (j : Nat) : Nat := 100 + 3 * j
def sSc (j : Nat) : Nat := 300 + 6 * j
def sTd (j : Nat) : Nat := 400 + 2 * j
def bd (v : Int32) (n : Int) : Prop := 0 ≤ v.toInt ∧ v.toInt ≤ n
def usd (k : Nat) : Bool := k < 10 || (20 ≤ k && k < 24) || (40 ≤ k && k < 44) || (60 ≤ k && k < 72) || (100 ≤ k && k < 289) || (300 ≤ k && k < 348) || (400 ≤ k && k < 420)
def okI (G : GG) (n : Nat) (e : va_E) : Prop := ∃ g : Nat → Int32, e = .inl (G.2 0, n, .inl g)
def okW (ad : Nat → Nat) (i : Nat) (e : va_E) : Prop := ∃ pe tc ru el st : Int32, e = .inr (10, [.ref (ad (20 + 20 * i)), .ref (ad (21 + 20 * i)), .ref (ad (22 + 20 * i)), .ref (ad (sLd (31 * i))), .ref (ad (23 + 20 * i)), .ref (ad (sTd (5 * i))), .ref (ad (sTd (5 * i + 1))), .ref (ad (sTd (5 * i + 2))), .ref (ad (sTd (5 * i + 3))), .ref (ad (sTd (5 * i + 4))), .int pe, .int tc, .int ru, .int el, .int st]) ∧ bd pe 6 ∧ bd tc 4 ∧ bd el 29 ∧ bd st 30
def okR (ad : Nat → Nat) (e : va_E) : Prop := ∃ (ln tc tr tk pl va lw : Int32) (sc : Value) (fk fp : Int32), e = .inr (5, [.ref (ad 60), .ref (ad 61), .ref (ad 62), .ref (ad 63), .int ln, .int tc, .int tr, .int tk, .int pl, .int va, .int lw, sc, .int fk, .int fp]) ∧ bd ln 300 ∧ bd tc 301 ∧ (sc = .null ∨ ∃ j, j < 8 ∧ sc = .ref (ad (sSc j)))
def okL (ad : Nat → Nat) (s : Nat) (e : va_E) : Prop := ∃ oc ac dt rn xx : Int32, e = .inr (4, [.ref (ad (s + 1)), .ref (ad (s + 2)), .int oc, .int ac, .int dt, .int rn, .int xx]) ∧ bd oc 14 ∧ bd ac 30
def okS (ad : Nat → Nat) (s : Nat) (e : va_E) : Prop := ∃ ln cc : Int32, e = .inr (7, [.ref (ad (s + 1)), .ref (ad (s + 2)), .ref (ad (s + 3)), .ref (ad (s + 4)), .ref (ad (s + 5)), .int ln, .int cc]) ∧ bd ln 300 ∧ bd cc 24
def okT (ad : Nat → Nat) (s : Nat) (e : va_E) : Prop := ∃ li ct : Int32, e = .inr (9, [.ref (ad (s + 1)), .int li, .int ct]) ∧ bd li 8 ∧ bd ct 8
def okB (G : GG) (ad : Nat → Nat) (k : Nat) (e : va_E) : Prop := match k with
  | 0 => e = .inr (11, [.ref (ad 1), .ref (ad 2), .ref (ad 3), .ref (ad 4), .ref (ad 5), .ref (ad 6), .ref (ad 7), .ref (ad 8), .ref (ad 9)])
  | 1 => okW ad 0 e
  | 2 => okW ad 1 e
  | 3 => okR ad e
  | 4 => ∃ ht : Int32, e = .inr (3, [.ref (ad 1), .ref (ad 64), .int ht])
  | 5 => ∃ be : Int32, e = .inr (6, [.ref (ad 1), .int be])
  | 6 => ∃ iy : Int32, e = .inr (1, [.ref (ad 1), .ref (ad 4), .ref (ad 5), .ref (ad 65), .int iy])
  | 7 => e = .inr (2, [.ref (ad 1), .ref (ad 4), .ref (ad 6), .ref (ad (sLd 62))])
  | 8 => ∃ mc fc sc : Int32, e = .inr (8, [.ref (ad 1), .ref (ad 4), .ref (ad (sLd 62)), .ref (ad 66), .ref (ad 67), .ref (ad 68), .ref (ad 69), .int mc, .int fc, .int sc]) ∧ bd mc 14 ∧ bd fc 6
  | 9 => e = .inr (0, [.ref (ad 1), .ref (ad 70), .ref (ad 71)])
  | 20 => okI G 6 e | 21 => okI G 6 e | 40 => okI G 6 e | 41 => okI G 6 e
  | 22 => ∃ pf : Nat → Option Nat, e = .inl (G.2 4, 4, .inr (.inr (.inr (.inr pf)))) ∧ ∀ j, j < 4 → pf j = some (ad (sSc j))
  | 42 => ∃ pf : Nat → Option Nat, e = .inl (G.2 4, 4, .inr (.inr (.inr (.inr pf)))) ∧ ∀ j, j < 4 → pf j = some (ad (sSc (4 + j)))
  | 23 => ∃ pf : Nat → Option Nat, e = .inl (G.2 3, 30, .inr (.inr (.inr (.inr pf)))) ∧ ∀ j, j < 30 → pf j = some (ad (sLd (1 + j)))
  | 43 => ∃ pf : Nat → Option Nat, e = .inl (G.2 3, 30, .inr (.inr (.inr (.inr pf)))) ∧ ∀ j, j < 30 → pf j = some (ad (sLd (32 + j)))
  | 60 => okI G 300 e | 61 => okI G 301 e | 62 => okI G 301 e | 63 => okI G 301 e | 64 => okI G 300 e | 65 => okI G 14 e
  | 66 => okI G 14 e | 67 => okI G 14 e | 68 => okI G 84 e | 69 => okI G 6 e | 70 => okI G 8 e | 71 => okI G 6 e
  | _ => False
def okF (G : GG) (ad : Nat → Nat) (k : Nat) (e : va_E) : Prop :=
  if k < 100 then okB G ad k e
  else if k < 300 then (match (k - 100) % 3 with | 0 => okL ad k e | 1 => okI G 98 e | _ => okI G 90 e)
  else if k < 400 then (match (k - 300) % 6 with | 0 => okS ad k e | 1 => okI G 300 e | 2 => okI G 300 e | 3 => okI G 3 e | 4 => okI G 3 e | _ => okI G 120 e)
  else (match (k - 400) % 2 with | 0 => okT ad k e | _ => okI G 24 e)
/-- the graph stands -/
def IX (G : GG) (ad : Nat → Nat) (L : List Nat) (f : HF) : Prop := (∀ k, usd k = true → ad k ∈ L ∧ okF G ad k (f (ad k))) ∧ ∀ k j, usd k = true → usd j = true → ad k = ad j → k = j
section IXR
variable {G : GG} {ad : Nat → Nat} {L : List Nat} {f f1 : HF} {e e1 : va_E} {j k : Nat}
theorem IX.up (I : IX G ad L f) (hk : usd k = true) (hf : f1 = va_up f (ad k) e1) (h : okF G ad k e1) : IX G ad L f1 := by
  refine ⟨fun i hi => ⟨(I.1 i hi).1, ?_⟩, I.2⟩
  by_cases q : i = k
  · subst q; rw [hf, va_up_self]; exact h
  · rw [hf, va_up_ne f e1 (fun z => q (I.2 i k hi hk z))]; exact (I.1 i hi).2
theorem IX.ne (I : IX G ad L f) (hk : usd k = true) (hj : usd j = true) (h : k ≠ j) : ad k ≠ ad j := fun z => h (I.2 k j hk hj z)
theorem IX.at_ (I : IX G ad L f) (hk : usd k = true) (h : f (ad k) = e) : pt L f (ad k) e := ⟨(I.1 k hk).1, h⟩
theorem usd_L (h : j < 63) : usd (sLd j) = true ∧ usd (sLd j + 1) = true ∧ usd (sLd j + 2) = true := by
  unfold usd sLd
  simp only [Bool.or_eq_true, Bool.and_eq_true, decide_eq_true_eq]
  omega
set_option maxRecDepth 8000 in
theorem okF_L (h : j < 63) : okF G ad (sLd j) e = okL ad (sLd j) e ∧ okF G ad (sLd j + 1) e = okI G 98 e ∧ okF G ad (sLd j + 2) e = okI G 90 e := by
  unfold okF sLd
  have a1 : ¬ 100 + 3 * j < 100 := by omega
  have a2 : 100 + 3 * j < 300 := by omega
  have b1 : ¬ 100 + 3 * j + 1 < 100 := by omega
  have b2 : 100 + 3 * j + 1 < 300 := by omega
  have c1 : ¬ 100 + 3 * j + 2 < 100 := by omega
  have c2 : 100 + 3 * j + 2 < 300 := by omega
  have d0 : (100 + 3 * j - 100) % 3 = 0 := by omega
  have d1 : (100 + 3 * j + 1 - 100) % 3 = 1 := by omega
  have d2 : (100 + 3 * j + 2 - 100) % 3 = 2 := by omega
  rw [if_neg a1, if_pos a2, if_neg b1, if_pos b2, if_neg c1, if_pos c2, d0, d1, d2]
  exact ⟨rfl, rfl, rfl⟩
/-- a Ledger with its two rows -/
theorem IX.led (I : IX G ad L f) (h : j < 63) : ∃ (oc ac dt rn xx : Int32) (g1 g2 : Nat → Int32), pt L f (ad (sLd j)) (.inr (4, [.ref (ad (sLd j + 1)), .ref (ad (sLd j + 2)), .int oc, .int ac, .int dt, .int rn, .int xx])) ∧ bd oc 14 ∧ bd ac 30 ∧ pt L f (ad (sLd j + 1)) (.inl (G.2 0, 98, .inl g1)) ∧ pt L f (ad (sLd j + 2)) (.inl (G.2 0, 90, .inl g2)) := by
  obtain ⟨u1, u2, u3⟩ := usd_L h
  have q1 := (I.1 _ u1).2; have q2 := (I.1 _ u2).2; have q3 := (I.1 _ u3).2
  rw [(okF_L h).1] at q1; rw [(okF_L h).2.1] at q2; rw [(okF_L h).2.2] at q3
  obtain ⟨oc, ac, dt, rn, xx, e1, b1, b2⟩ := q1
  obtain ⟨g1, e2⟩ := q2
  obtain ⟨g2, e3⟩ := q3
  exact ⟨oc, ac, dt, rn, xx, g1, g2, I.at_ u1 e1, b1, b2, I.at_ u2 e2, I.at_ u3 e3⟩
theorem okF_B (h : k < 100) : okF G ad k e = okB G ad k e := by unfold okF; rw [if_pos h]
theorem IX.base (I : IX G ad L f) (h : k < 100) (hu : usd k = true) : okB G ad k (f (ad k)) := by rw [← okF_B h]; exact (I.1 k hu).2
theorem usd_T (h : j < 10) : usd (sTd j) = true ∧ usd (sTd j + 1) = true := by
  unfold usd sTd
  simp only [Bool.or_eq_true, Bool.and_eq_true, decide_eq_true_eq]
  omega
set_option maxRecDepth 8000 in
theorem okF_T (h : j < 10) : okF G ad (sTd j) e = okT ad (sTd j) e ∧ okF G ad (sTd j + 1) e = okI G 24 e := by
  unfold okF sTd
  have a1 : ¬ 400 + 2 * j < 100 := by omega
  have a2 : ¬ 400 + 2 * j < 300 := by omega
  have a3 : ¬ 400 + 2 * j < 400 := by omega
  have b1 : ¬ 400 + 2 * j + 1 < 100 := by omega
  have b2 : ¬ 400 + 2 * j + 1 < 300 := by omega
  have b3 : ¬ 400 + 2 * j + 1 < 400 := by omega
  have d0 : (400 + 2 * j - 400) % 2 = 0 := by omega
  have d1 : (400 + 2 * j + 1 - 400) % 2 = 1 := by omega
  rw [if_neg a1, if_neg a2, if_neg a3, if_neg b1, if_neg b2, if_neg b3, d0, d1]
  exact ⟨rfl, rfl⟩
/-- a Told with its row -/
theorem IX.told (I : IX G ad L f) (h : j < 10) : ∃ (li ct : Int32) (g : Nat → Int32), pt L f (ad (sTd j)) (.inr (9, [.ref (ad (sTd j + 1)), .int li, .int ct])) ∧ bd li 8 ∧ bd ct 8 ∧ pt L f (ad (sTd j + 1)) (.inl (G.2 0, 24, .inl g)) := by
  obtain ⟨u1, u2⟩ := usd_T h
  have q1 := (I.1 _ u1).2; have q2 := (I.1 _ u2).2
  rw [(okF_T h).1] at q1; rw [(okF_T h).2] at q2
  obtain ⟨li, ct, e1, b1, b2⟩ := q1
  obtain ⟨g, e2⟩ := q2
  exact ⟨li, ct, g, I.at_ u1 e1, b1, b2, I.at_ u2 e2⟩
theorem usd_S (h : j < 8) : usd (sSc j) = true ∧ usd (sSc j + 1) = true ∧ usd (sSc j + 2) = true ∧ usd (sSc j + 3) = true ∧ usd (sSc j + 4) = true ∧ usd (sSc j + 5) = true := by
  unfold usd sSc
  simp only [Bool.or_eq_true, Bool.and_eq_true, decide_eq_true_eq]
  omega
set_option maxRecDepth 8000 in
theorem okF_S (h : j < 8) : okF G ad (sSc j) e = okS ad (sSc j) e ∧ okF G ad (sSc j + 1) e = okI G 300 e ∧ okF G ad (sSc j + 2) e = okI G 300 e ∧ okF G ad (sSc j + 3) e = okI G 3 e ∧ okF G ad (sSc j + 4) e = okI G 3 e ∧ okF G ad (sSc j + 5) e = okI G 120 e := by
  have key : ∀ t : Nat, t < 6 → okF G ad (300 + 6 * j + t) e = (match t with | 0 => okS ad (300 + 6 * j + t) e | 1 => okI G 300 e | 2 => okI G 300 e | 3 => okI G 3 e | 4 => okI G 3 e | _ => okI G 120 e) := by
    intro t ht
    unfold okF
    have a1 : ¬ 300 + 6 * j + t < 100 := by omega
    have a2 : ¬ 300 + 6 * j + t < 300 := by omega
    have a3 : 300 + 6 * j + t < 400 := by omega
    have d : (300 + 6 * j + t - 300) % 6 = t := by omega
    rw [if_neg a1, if_neg a2, if_pos a3, d]
  have k0 := key 0 (by decide)
  rw [Nat.add_zero] at k0
  unfold sSc
  exact ⟨k0, key 1 (by decide), key 2 (by decide), key 3 (by decide), key 4 (by decide), key 5 (by decide)⟩
/-- a Script with its rows -/
theorem IX.scr (I : IX G ad L f) (h : j < 8) : ∃ (ln cc : Int32) (g1 g2 g3 g4 g5 : Nat → Int32), pt L f (ad (sSc j)) (.inr (7, [.ref (ad (sSc j + 1)), .ref (ad (sSc j + 2)), .ref (ad (sSc j + 3)), .ref (ad (sSc j + 4)), .ref (ad (sSc j + 5)), .int ln, .int cc])) ∧ bd ln 300 ∧ bd cc 24 ∧ pt L f (ad (sSc j + 1)) (.inl (G.2 0, 300, .inl g1)) ∧ pt L f (ad (sSc j + 2)) (.inl (G.2 0, 300, .inl g2)) ∧ pt L f (ad (sSc j + 3)) (.inl (G.2 0, 3, .inl g3)) ∧ pt L f (ad (sSc j + 4)) (.inl (G.2 0, 3, .inl g4)) ∧ pt L f (ad (sSc j + 5)) (.inl (G.2 0, 120, .inl g5)) := by
  obtain ⟨u0, u1, u2, u3, u4, u5⟩ := usd_S h
  have q0 := (I.1 _ u0).2; have q1 := (I.1 _ u1).2; have q2 := (I.1 _ u2).2; have q3 := (I.1 _ u3).2; have q4 := (I.1 _ u4).2; have q5 := (I.1 _ u5).2
  obtain ⟨r0, r1, r2, r3, r4, r5⟩ := okF_S (G := G) (ad := ad) (e := f (ad (sSc j))) h
  rw [r0] at q0; rw [(okF_S h).2.1] at q1; rw [(okF_S h).2.2.1] at q2; rw [(okF_S h).2.2.2.1] at q3; rw [(okF_S h).2.2.2.2.1] at q4; rw [(okF_S h).2.2.2.2.2] at q5
  obtain ⟨ln, cc, e0, b1, b2⟩ := q0
  obtain ⟨g1, e1⟩ := q1
  obtain ⟨g2, e2⟩ := q2
  obtain ⟨g3, e3⟩ := q3
  obtain ⟨g4, e4⟩ := q4
  obtain ⟨g5, e5⟩ := q5
  exact ⟨ln, cc, g1, g2, g3, g4, g5, I.at_ u0 e0, b1, b2, I.at_ u1 e1, I.at_ u2 e2, I.at_ u3 e3, I.at_ u4 e4, I.at_ u5 e5⟩
/-- a Ledger, or a row of it, written: the graph stands -/
theorem IX.upL (I : IX G ad L f) (h : j < 63) {oc ac dt rn xx : Int32} (h1 : bd oc 14) (h2 : bd ac 30) (hf : f1 = va_up f (ad (sLd j)) (.inr (4, [.ref (ad (sLd j + 1)), .ref (ad (sLd j + 2)), .int oc, .int ac, .int dt, .int rn, .int xx]))) : IX G ad L f1 :=
  I.up (usd_L h).1 hf (by rw [(okF_L h).1]; exact ⟨oc, ac, dt, rn, xx, rfl, h1, h2⟩)
theorem IX.upLo (I : IX G ad L f) (h : j < 63) {g : Nat → Int32} (hf : f1 = va_up f (ad (sLd j + 1)) (.inl (G.2 0, 98, .inl g))) : IX G ad L f1 :=
  I.up (usd_L h).2.1 hf (by rw [(okF_L h).2.1]; exact ⟨g, rfl⟩)
theorem IX.upLa (I : IX G ad L f) (h : j < 63) {g : Nat → Int32} (hf : f1 = va_up f (ad (sLd j + 2)) (.inl (G.2 0, 90, .inl g))) : IX G ad L f1 :=
  I.up (usd_L h).2.2 hf (by rw [(okF_L h).2.2]; exact ⟨g, rfl⟩)
theorem IX.upT (I : IX G ad L f) (h : j < 10) {li ct : Int32} (h1 : bd li 8) (h2 : bd ct 8) (hf : f1 = va_up f (ad (sTd j)) (.inr (9, [.ref (ad (sTd j + 1)), .int li, .int ct]))) : IX G ad L f1 :=
  I.up (usd_T h).1 hf (by rw [(okF_T h).1]; exact ⟨li, ct, rfl, h1, h2⟩)
theorem IX.upTc (I : IX G ad L f) (h : j < 10) {g : Nat → Int32} (hf : f1 = va_up f (ad (sTd j + 1)) (.inl (G.2 0, 24, .inl g))) : IX G ad L f1 :=
  I.up (usd_T h).2 hf (by rw [(okF_T h).2]; exact ⟨g, rfl⟩)
theorem IX.upB (I : IX G ad L f) (h : k < 100) (hu : usd k = true) {e1 : va_E} (he : okB G ad k e1) (hf : f1 = va_up f (ad k) e1) : IX G ad L f1 :=
  I.up hu hf (by rw [okF_B h]; exact he)
/-- a call that leaves all but S as it was: the graph stands, if what lies in S does -/
theorem IX.kx {L1 : List Nat} {S : List Nat} (I : IX G ad L f) (q : kp L f L1 f1 S) (h : ∀ k, usd k = true → ad k ∈ S → okF G ad k (f1 (ad k))) : IX G ad L1 f1 := by
  refine ⟨fun k hk => ⟨q.2 _ (I.1 k hk).1, ?_⟩, I.2⟩
  by_cases z : ad k ∈ S
  · exact h k hk z
  · have p : pt L f (ad k) (f (ad k)) := ⟨(I.1 k hk).1, rfl⟩
    rw [(q.1 _ _ z p).2]; exact (I.1 k hk).2
theorem IX.kx0 {L1 : List Nat} (I : IX G ad L f) (q : kp L f L1 f1 []) : IX G ad L1 f1 := I.kx q (fun k hk z => by cases z)
theorem IX.kx1 {L1 : List Nat} {s : Nat} (I : IX G ad L f) (hs : usd s = true) (q : kp L f L1 f1 [ad s]) {e1 : va_E} (p1 : pt L1 f1 (ad s) e1) (o1 : okF G ad s e1) : IX G ad L1 f1 := I.kx q (fun k hk z => by
  rcases List.mem_cons.mp z with z | z
  · obtain rfl := I.2 k s hk hs z
    rw [p1.2]; exact o1
  · cases z)
theorem IX.kx2 {L1 : List Nat} {s t : Nat} (I : IX G ad L f) (hs : usd s = true) (ht : usd t = true) (q : kp L f L1 f1 [ad s, ad t]) {e1 e2 : va_E} (p1 : pt L1 f1 (ad s) e1) (o1 : okF G ad s e1) (p2 : pt L1 f1 (ad t) e2) (o2 : okF G ad t e2) : IX G ad L1 f1 := I.kx q (fun k hk z => by
  rcases List.mem_cons.mp z with z | z
  · obtain rfl := I.2 k s hk hs z
    rw [p1.2]; exact o1
  · rcases List.mem_cons.mp z with z | z
    · obtain rfl := I.2 k t hk ht z
      rw [p2.2]; exact o2
    · cases z)
theorem IX.kx3 {L1 : List Nat} {s t u : Nat} (I : IX G ad L f) (hs : usd s = true) (ht : usd t = true) (hu : usd u = true) (q : kp L f L1 f1 [ad s, ad t, ad u]) {e1 e2 e3 : va_E} (p1 : pt L1 f1 (ad s) e1) (o1 : okF G ad s e1) (p2 : pt L1 f1 (ad t) e2) (o2 : okF G ad t e2) (p3 : pt L1 f1 (ad u) e3) (o3 : okF G ad u e3) : IX G ad L1 f1 := I.kx q (fun k hk z => by
  rcases List.mem_cons.mp z with z | z
  · obtain rfl := I.2 k s hk hs z
    rw [p1.2]; exact o1
  · rcases List.mem_cons.mp z with z | z
    · obtain rfl := I.2 k t hk ht z
      rw [p2.2]; exact o2
    · rcases List.mem_cons.mp z with z | z
      · obtain rfl := I.2 k u hk hu z
        rw [p3.2]; exact o3
      · cases z)
/-- a Ledger's call: the Ledger and its rows, or some of them, changed -/
theorem IX.kxL {L1 : List Nat} (I : IX G ad L f) (h : j < 63) {oc ac dt rn xx : Int32} {g1 g2 : Nat → Int32} (q : kp L f L1 f1 [ad (sLd j), ad (sLd j + 1), ad (sLd j + 2)]) (h1 : bd oc 14) (h2 : bd ac 30) (p1 : pt L1 f1 (ad (sLd j)) (.inr (4, [.ref (ad (sLd j + 1)), .ref (ad (sLd j + 2)), .int oc, .int ac, .int dt, .int rn, .int xx]))) (p2 : pt L1 f1 (ad (sLd j + 1)) (.inl (G.2 0, 98, .inl g1))) (p3 : pt L1 f1 (ad (sLd j + 2)) (.inl (G.2 0, 90, .inl g2))) : IX G ad L1 f1 :=
  I.kx3 (usd_L h).1 (usd_L h).2.1 (usd_L h).2.2 q p1 (by rw [(okF_L h).1]; exact ⟨oc, ac, dt, rn, xx, rfl, h1, h2⟩) p2 (by rw [(okF_L h).2.1]; exact ⟨g1, rfl⟩) p3 (by rw [(okF_L h).2.2]; exact ⟨g2, rfl⟩)
theorem IX.kxT {L1 : List Nat} (I : IX G ad L f) (h : j < 10) {li ct : Int32} {g : Nat → Int32} (q : kp L f L1 f1 [ad (sTd j), ad (sTd j + 1)]) (h1 : bd li 8) (h2 : bd ct 8) (p1 : pt L1 f1 (ad (sTd j)) (.inr (9, [.ref (ad (sTd j + 1)), .int li, .int ct]))) (p2 : pt L1 f1 (ad (sTd j + 1)) (.inl (G.2 0, 24, .inl g))) : IX G ad L1 f1 :=
  I.kx2 (usd_T h).1 (usd_T h).2 q p1 (by rw [(okF_T h).1]; exact ⟨li, ct, rfl, h1, h2⟩) p2 (by rw [(okF_T h).2]; exact ⟨g, rfl⟩)
end IXR
