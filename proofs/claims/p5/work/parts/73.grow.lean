/-! A graph that grows: what is complete stands in it, what is being made doesn't. -/
section GROW
variable {G : GG} {ad ad2 : Nat → Nat → Nat} {L L1 : List Nat} {f f1 : HF} {l l2 : List Nat} {nn nn2 : Nat → Nat} {k n q : Nat} {e : va_E} {s : FS} {v : Value}
def w00 (j : Nat) : Int × Int := if j = 2 ∨ j = 7 then (0, 0) else (0, 8)
def t00 (_ : Nat) : Int × Int := (0, 0)
def q00 (_ : Nat) (_ : Nat → Int32) : Prop := True
abbrev RS0 : RS := ((NR 30 0 4, fz (pp 0) FI FI FI FI FI FI (pp (-1)) (pp (-1)), tz (EQ (fun _ => 0)) TA TA TA, sc0) : RS)
def S00 : Nat → Nat → SP := spC RS0 ((0, 6) : Int × Int) t00 w00 q00
def nL (l : List Nat) (k : Nat) : Nat := l.getD k 0
def clF (nn : Nat → Nat) (s : FS) : Prop := match s with
  | .inl _ => True
  | .inr (.inl q) => q.2 < nn q.1
  | .inr (.inr (.inl q)) => ∀ t, t < q.2.2 → q.2.1 + t < nn q.1
  | .inr (.inr (.inr _)) => True
def clFs (nn : Nat → Nat) : List FS → Prop
  | [] => True
  | s :: t => clF nn s ∧ clFs nn t
def clS (nn : Nat → Nat) (s : SP) : Prop := match s with
  | .inl q => clFs nn q.2
  | .inr (.inl _) => True
  | .inr (.inr (.inl q)) => ∀ t, t < q.2.1 → q.2.2.2 + t < nn q.2.2.1
  | .inr (.inr (.inr _)) => True
theorem clF_mono (h : ∀ a, nn a ≤ nn2 a) (c : clF nn s) : clF nn2 s := by
  rcases s with s | s | s | s
  · trivial
  · exact Nat.lt_of_lt_of_le c (h _)
  · exact fun t ht => Nat.lt_of_lt_of_le (c t ht) (h _)
  · trivial
theorem clFs_mono (h : ∀ a, nn a ≤ nn2 a) : ∀ {fs : List FS}, clFs nn fs → clFs nn2 fs
  | [], _ => trivial
  | _ :: _, c => ⟨clF_mono h c.1, clFs_mono h c.2⟩
theorem clS_mono (h : ∀ a, nn a ≤ nn2 a) {s : SP} (c : clS nn s) : clS nn2 s := by
  rcases s with s | s | s | s
  · exact clFs_mono h c
  · trivial
  · exact fun t ht => Nat.lt_of_lt_of_le (c t ht) (h _)
  · trivial
theorem okV_ext (h : ∀ a b, b < nn a → ad2 a b = ad a b) (c : clF nn s) (o : okV ad s v) : okV ad2 s v := by
  rcases s with s | s | s | s
  · exact o
  · have o : v = .ref (ad s.1 s.2) := o
    show v = .ref (ad2 s.1 s.2)
    rw [h _ _ c]; exact o
  · rcases o with o | ⟨t, ht, o⟩
    · exact Or.inl o
    · exact Or.inr ⟨t, ht, by rw [h _ _ (c t ht)]; exact o⟩
  · exact o
theorem okFs_ext (h : ∀ a b, b < nn a → ad2 a b = ad a b) : ∀ {fs : List FS} {vs : List Value}, clFs nn fs → okFs ad fs vs → okFs ad2 fs vs
  | [], _, _, o => o
  | _ :: _, _, c, ⟨v, vt, e, o1, o2⟩ => ⟨v, vt, e, okV_ext h c.1 o1, okFs_ext h c.2 o2⟩
theorem okE_ext (h : ∀ a b, b < nn a → ad2 a b = ad a b) {s : SP} (c : clS nn s) (o : okE G ad s e) : okE G ad2 s e := by
  rcases s with s | s | s | s
  · obtain ⟨vs, e1, o1⟩ := o
    exact ⟨vs, e1, okFs_ext h c o1⟩
  · exact o
  · obtain ⟨g, e1, o1⟩ := o
    exact ⟨g, e1, fun t ht => by rw [h _ _ (c t ht)]; exact o1 t ht⟩
  · exact o
def SHC (l : List Nat) (G : GG) (ad : Nat → Nat → Nat) (L : List Nat) (f : HF) : Prop := SH S00 (nL l) G ad L f ∧ ∀ a b, b < nL l a → clS (nL l) (S00 a b)
def NRg (l : List Nat) (ad : Nat → Nat → Nat) (x : Nat) : Prop := ∀ a b, b < nL l a → ad a b ≠ x
theorem nL_s {m : Nat} (h : k < l.length) : nL (l.set k m) k = m := by
  unfold nL; rw [List.getD_eq_getElem?_getD, List.getElem?_set_self h]; rfl
theorem nL_n {m j : Nat} (h : k ≠ j) : nL (l.set k m) j = nL l j := by
  unfold nL; rw [List.getD_eq_getElem?_getD, List.getElem?_set_ne h, ← List.getD_eq_getElem?_getD]
theorem SHC.nr (I : SHC l G ad L f) (h : q ∉ L) : NRg l ad q := fun a b hb e => h (by rw [← e]; exact (I.1.1 a b hb).1)
theorem SHC.kp {S : List Nat} (I : SHC l G ad L f) (k : kp L f L1 f1 S) (hS : ∀ b, b ∈ S → NRg l ad b) : SHC l G ad L1 f1 := by
  refine ⟨⟨fun a b hb => ?_, I.1.2⟩, I.2⟩
  have h := I.1.1 a b hb
  have p := k.1 (ad a b) _ (fun z => hS _ z a b hb rfl) ⟨h.1, rfl⟩
  exact ⟨p.1, by rw [p.2]; exact h.2⟩
theorem SHC.none : SHC (List.replicate 62 0) G ad L f := by
  have z : ∀ a, nL (List.replicate 62 0) a = 0 := fun a => by
    unfold nL
    rw [List.getD_eq_getElem?_getD, List.getElem?_replicate]
    split <;> rfl
  exact ⟨⟨fun a b hb => absurd hb (by rw [z]; omega), fun a b a' b' hb => absurd hb (by rw [z]; omega)⟩, fun a b hb => absurd hb (by rw [z]; omega)⟩
def EXT (l : List Nat) (ad : Nat → Nat → Nat) (l2 : List Nat) (ad2 : Nat → Nat → Nat) : Prop := (∀ a, nL l a ≤ nL l2 a) ∧ ∀ a b, b < nL l a → ad2 a b = ad a b
theorem EXT.rf : EXT l ad l ad := ⟨fun _ => Nat.le_refl _, fun _ _ _ => rfl⟩
theorem EXT.tr {l3 : List Nat} {ad3 : Nat → Nat → Nat} (h : EXT l ad l2 ad2) (k : EXT l2 ad2 l3 ad3) : EXT l ad l3 ad3 := ⟨fun a => Nat.le_trans (h.1 a) (k.1 a), fun a b hb => (k.2 a b (Nat.lt_of_lt_of_le hb (h.1 a))).trans (h.2 a b hb)⟩
/-- one more stands -/
theorem SHC.add (I : SHC l G ad L f) (hn : nL l k = n) (hk : k < l.length) (hl : l2 = l.set k (n + 1)) (hp : pt L f q e) (hq : NRg l ad q) (ho : okE G ad (S00 k n) e) (hc : clS (nL l) (S00 k n)) : ∃ ad2 : Nat → Nat → Nat, SHC l2 G ad2 L f ∧ EXT l ad l2 ad2 ∧ ad2 k n = q ∧ ∀ x, NRg l ad x → x ≠ q → NRg l2 ad2 x := by
  subst hl
  have n1 : nL (l.set k (n + 1)) k = n + 1 := nL_s hk
  have n2 : ∀ a, a ≠ k → nL (l.set k (n + 1)) a = nL l a := fun a h => nL_n (Ne.symm h)
  have mono : ∀ a, nL l a ≤ nL (l.set k (n + 1)) a := fun a => by
    by_cases z : a = k
    · rw [z, n1, hn]; omega
    · rw [n2 a z]; exact Nat.le_refl _
  have e1 : (fun a b => if a = k ∧ b = n then q else ad a b : Nat → Nat → Nat) k n = q := if_pos ⟨rfl, rfl⟩
  have e2 : ∀ a b, b < nL l a → (fun a b => if a = k ∧ b = n then q else ad a b : Nat → Nat → Nat) a b = ad a b := fun a b hb => if_neg (fun z => by rw [z.1, z.2, hn] at hb; omega)
  have dich : ∀ a b, b < nL (l.set k (n + 1)) a → b < nL l a ∨ (a = k ∧ b = n) := fun a b hb => by
    by_cases z : a = k
    · subst z
      rw [n1] at hb
      rw [hn]
      by_cases y : b = n
      · exact Or.inr ⟨rfl, y⟩
      · exact Or.inl (by omega)
    · rw [n2 a z] at hb; exact Or.inl hb
  refine ⟨fun a b => if a = k ∧ b = n then q else ad a b, ⟨⟨fun a b hb => ?_, fun a b a' b' hb hb' z => ?_⟩, fun a b hb => ?_⟩, ⟨mono, e2⟩, e1, fun x hx xq a b hb => ?_⟩
  · rcases dich a b hb with h | ⟨rfl, rfl⟩
    · have o := I.1.1 a b h
      rw [e2 a b h]
      exact ⟨o.1, okE_ext e2 (I.2 a b h) o.2⟩
    · rw [e1]
      exact ⟨hp.1, by rw [hp.2]; exact okE_ext e2 hc ho⟩
  · rcases dich a b hb with h | ⟨h1, h2⟩
    · rcases dich a' b' hb' with h' | ⟨h1', h2'⟩
      · rw [e2 a b h, e2 a' b' h'] at z
        exact I.1.2 a b a' b' h h' z
      · rw [e2 a b h, h1', h2', e1] at z
        exact absurd z (hq a b h)
    · rcases dich a' b' hb' with h' | ⟨h1', h2'⟩
      · rw [e2 a' b' h', h1, h2, e1] at z
        exact absurd z.symm (hq a' b' h')
      · exact ⟨h1.trans h1'.symm, h2.trans h2'.symm⟩
  · rcases dich a b hb with h | ⟨rfl, rfl⟩
    · exact clS_mono mono (I.2 a b h)
    · exact clS_mono mono hc
  · rcases dich a b hb with h | ⟨rfl, rfl⟩
    · rw [e2 a b h]; exact hx a b h
    · rw [e1]; exact fun z => xq z.symm
theorem okV_re {k j a : Nat} (h : ad k j = a) : okV ad (RF k j) (.ref a) := by rw [← h]; rfl
/-- a Ledger with its two rows -/
theorem SHC.led {o a b : Nat} {ga gb : Nat → Int32} (I : SHC l G ad L f) (h10 : nL l 10 = n) (h11 : nL l 11 = n) (h12 : nL l 12 = n) (hk : 12 < l.length) (hl : l2 = ((l.set 11 (n + 1)).set 12 (n + 1)).set 10 (n + 1)) (po : pt L f o (.inr (4, [.ref a, .ref b, .int 0, .int 0, .int 0, .int 0, .int 137]))) (pa : pt L f a (.inl (G.2 0, 98, .inl ga))) (pb : pt L f b (.inl (G.2 0, 90, .inl gb))) (no : NRg l ad o) (na : NRg l ad a) (nb : NRg l ad b) : ∃ ad2 : Nat → Nat → Nat, SHC l2 G ad2 L f ∧ EXT l ad l2 ad2 ∧ ad2 10 n = o ∧ ∀ x, NRg l ad x → x ≠ o → x ≠ a → x ≠ b → NRg l2 ad2 x := by
  obtain ⟨d1, I1, x1, y1, z1⟩ := SHC.add (l2 := (l.set 11 (n + 1))) I (k := 11) (n := n) h11 (by omega) rfl pa na (okE_a (g := ga) trivial) trivial
  obtain ⟨d2, I2, x2, y2, z2⟩ := SHC.add (l2 := ((l.set 11 (n + 1)).set 12 (n + 1))) I1 (k := 12) (n := n) (by rw [nL_n (by decide)]; exact h12) (by rw [List.length_set]; omega) rfl pb (z1 _ nb (pb.neN pa (by decide))) (okE_a (g := gb) trivial) trivial
  have w1 := ((x2.2 11 n (by rw [nL_s (by omega)]; omega)).trans y1)
  have c1 : n < nL ((l.set 11 (n + 1)).set 12 (n + 1)) 11 := by rw [nL_n (by decide), nL_s (by omega)]; omega
  have w2 := y2
  have c2 : n < nL ((l.set 11 (n + 1)).set 12 (n + 1)) 12 := by rw [nL_s (by rw [List.length_set]; omega)]; omega
  obtain ⟨d9, I9, x9, y9, z9⟩ := SHC.add (l2 := l2) I2 (k := 10) (n := n) (by rw [nL_n (by decide), nL_n (by decide)]; exact h10) (by rw [List.length_set, List.length_set]; omega) hl po (z2 _ (z1 _ no (po.neA pa)) (po.neA pb)) (okE_o (okFs_c (okV_re w1) (okFs_c (okV_re w2) (okFs_c (okV_i (by constructor <;> decide)) (okFs_c (okV_i (by constructor <;> decide)) (okFs_c (okV_i (by constructor <;> decide)) (okFs_c (okV_i (by constructor <;> decide)) (okFs_c (okV_i (by constructor <;> decide)) okFs_n)))))))) ⟨c1, ⟨c2, ⟨trivial, ⟨trivial, ⟨trivial, ⟨trivial, ⟨trivial, trivial⟩⟩⟩⟩⟩⟩⟩
  exact ⟨d9, I9, (EXT.tr (EXT.tr x1 x2) x9), y9, fun x hx q0 q1 q2 => z9 x (z2 x (z1 x hx q1) q2) q0⟩
/-- a Script with its five rows -/
theorem SHC.scr {o a b c d e : Nat} {ga gb gc gd ge : Nat → Int32} (I : SHC l G ad L f) (h30 : nL l 30 = n) (h31 : nL l 31 = n) (h32 : nL l 32 = n) (h33 : nL l 33 = n) (h34 : nL l 34 = n) (h35 : nL l 35 = n) (hk : 35 < l.length) (hl : l2 = (((((l.set 31 (n + 1)).set 32 (n + 1)).set 33 (n + 1)).set 34 (n + 1)).set 35 (n + 1)).set 30 (n + 1)) (po : pt L f o (.inr (7, [.ref a, .ref b, .ref c, .ref d, .ref e, .int 0, .int 0]))) (pa : pt L f a (.inl (G.2 0, 300, .inl ga))) (pb : pt L f b (.inl (G.2 0, 300, .inl gb))) (pc : pt L f c (.inl (G.2 0, 3, .inl gc))) (pd : pt L f d (.inl (G.2 0, 3, .inl gd))) (pe : pt L f e (.inl (G.2 0, 120, .inl ge))) (no : NRg l ad o) (na : NRg l ad a) (nb : NRg l ad b) (nc : NRg l ad c) (nd : NRg l ad d) (ne : NRg l ad e)(dab : a ≠ b) (dcd : c ≠ d) : ∃ ad2 : Nat → Nat → Nat, SHC l2 G ad2 L f ∧ EXT l ad l2 ad2 ∧ ad2 30 n = o ∧ ∀ x, NRg l ad x → x ≠ o → x ≠ a → x ≠ b → x ≠ c → x ≠ d → x ≠ e → NRg l2 ad2 x := by
  obtain ⟨d1, I1, x1, y1, z1⟩ := SHC.add (l2 := (l.set 31 (n + 1))) I (k := 31) (n := n) h31 (by omega) rfl pa na (okE_a (g := ga) trivial) trivial
  obtain ⟨d2, I2, x2, y2, z2⟩ := SHC.add (l2 := ((l.set 31 (n + 1)).set 32 (n + 1))) I1 (k := 32) (n := n) (by rw [nL_n (by decide)]; exact h32) (by rw [List.length_set]; omega) rfl pb (z1 _ nb (Ne.symm dab)) (okE_a (g := gb) trivial) trivial
  obtain ⟨d3, I3, x3, y3, z3⟩ := SHC.add (l2 := (((l.set 31 (n + 1)).set 32 (n + 1)).set 33 (n + 1))) I2 (k := 33) (n := n) (by rw [nL_n (by decide), nL_n (by decide)]; exact h33) (by rw [List.length_set, List.length_set]; omega) rfl pc (z2 _ (z1 _ nc (pc.neN pa (by decide))) (pc.neN pb (by decide))) (okE_a (g := gc) trivial) trivial
  obtain ⟨d4, I4, x4, y4, z4⟩ := SHC.add (l2 := ((((l.set 31 (n + 1)).set 32 (n + 1)).set 33 (n + 1)).set 34 (n + 1))) I3 (k := 34) (n := n) (by rw [nL_n (by decide), nL_n (by decide), nL_n (by decide)]; exact h34) (by rw [List.length_set, List.length_set, List.length_set]; omega) rfl pd (z3 _ (z2 _ (z1 _ nd (pd.neN pa (by decide))) (pd.neN pb (by decide))) (Ne.symm dcd)) (okE_a (g := gd) trivial) trivial
  obtain ⟨d5, I5, x5, y5, z5⟩ := SHC.add (l2 := (((((l.set 31 (n + 1)).set 32 (n + 1)).set 33 (n + 1)).set 34 (n + 1)).set 35 (n + 1))) I4 (k := 35) (n := n) (by rw [nL_n (by decide), nL_n (by decide), nL_n (by decide), nL_n (by decide)]; exact h35) (by rw [List.length_set, List.length_set, List.length_set, List.length_set]; omega) rfl pe (z4 _ (z3 _ (z2 _ (z1 _ ne (pe.neN pa (by decide))) (pe.neN pb (by decide))) (pe.neN pc (by decide))) (pe.neN pd (by decide))) (okE_a (g := ge) trivial) trivial
  have w1 := ((x5.2 31 n (by rw [nL_n (by decide), nL_n (by decide), nL_n (by decide), nL_s (by omega)]; omega)).trans ((x4.2 31 n (by rw [nL_n (by decide), nL_n (by decide), nL_s (by omega)]; omega)).trans ((x3.2 31 n (by rw [nL_n (by decide), nL_s (by omega)]; omega)).trans ((x2.2 31 n (by rw [nL_s (by omega)]; omega)).trans y1))))
  have c1 : n < nL (((((l.set 31 (n + 1)).set 32 (n + 1)).set 33 (n + 1)).set 34 (n + 1)).set 35 (n + 1)) 31 := by rw [nL_n (by decide), nL_n (by decide), nL_n (by decide), nL_n (by decide), nL_s (by omega)]; omega
  have w2 := ((x5.2 32 n (by rw [nL_n (by decide), nL_n (by decide), nL_s (by rw [List.length_set]; omega)]; omega)).trans ((x4.2 32 n (by rw [nL_n (by decide), nL_s (by rw [List.length_set]; omega)]; omega)).trans ((x3.2 32 n (by rw [nL_s (by rw [List.length_set]; omega)]; omega)).trans y2)))
  have c2 : n < nL (((((l.set 31 (n + 1)).set 32 (n + 1)).set 33 (n + 1)).set 34 (n + 1)).set 35 (n + 1)) 32 := by rw [nL_n (by decide), nL_n (by decide), nL_n (by decide), nL_s (by rw [List.length_set]; omega)]; omega
  have w3 := ((x5.2 33 n (by rw [nL_n (by decide), nL_s (by rw [List.length_set, List.length_set]; omega)]; omega)).trans ((x4.2 33 n (by rw [nL_s (by rw [List.length_set, List.length_set]; omega)]; omega)).trans y3))
  have c3 : n < nL (((((l.set 31 (n + 1)).set 32 (n + 1)).set 33 (n + 1)).set 34 (n + 1)).set 35 (n + 1)) 33 := by rw [nL_n (by decide), nL_n (by decide), nL_s (by rw [List.length_set, List.length_set]; omega)]; omega
  have w4 := ((x5.2 34 n (by rw [nL_s (by rw [List.length_set, List.length_set, List.length_set]; omega)]; omega)).trans y4)
  have c4 : n < nL (((((l.set 31 (n + 1)).set 32 (n + 1)).set 33 (n + 1)).set 34 (n + 1)).set 35 (n + 1)) 34 := by rw [nL_n (by decide), nL_s (by rw [List.length_set, List.length_set, List.length_set]; omega)]; omega
  have w5 := y5
  have c5 : n < nL (((((l.set 31 (n + 1)).set 32 (n + 1)).set 33 (n + 1)).set 34 (n + 1)).set 35 (n + 1)) 35 := by rw [nL_s (by rw [List.length_set, List.length_set, List.length_set, List.length_set]; omega)]; omega
  obtain ⟨d9, I9, x9, y9, z9⟩ := SHC.add (l2 := l2) I5 (k := 30) (n := n) (by rw [nL_n (by decide), nL_n (by decide), nL_n (by decide), nL_n (by decide), nL_n (by decide)]; exact h30) (by rw [List.length_set, List.length_set, List.length_set, List.length_set, List.length_set]; omega) hl po (z5 _ (z4 _ (z3 _ (z2 _ (z1 _ no (po.neA pa)) (po.neA pb)) (po.neA pc)) (po.neA pd)) (po.neA pe)) (okE_o (okFs_c (okV_re w1) (okFs_c (okV_re w2) (okFs_c (okV_re w3) (okFs_c (okV_re w4) (okFs_c (okV_re w5) (okFs_c (okV_p (lim_F (bn_k (by constructor <;> decide)))) (okFs_c (okV_p (lim_F (bn_k (by constructor <;> decide)))) okFs_n)))))))) ⟨c1, ⟨c2, ⟨c3, ⟨c4, ⟨c5, ⟨trivial, ⟨trivial, trivial⟩⟩⟩⟩⟩⟩⟩
  exact ⟨d9, I9, (EXT.tr (EXT.tr (EXT.tr (EXT.tr (EXT.tr x1 x2) x3) x4) x5) x9), y9, fun x hx q0 q1 q2 q3 q4 q5 => z9 x (z5 x (z4 x (z3 x (z2 x (z1 x hx q1) q2) q3) q4) q5) q0⟩
/-- families of references in an array -/
theorem fam_0 {g : Nat → Option Nat} {b : Nat} : ∀ t, t < 0 → g t = some (ad k (b + t)) := fun _ h => absurd h (Nat.not_lt_zero _)
theorem fam_x {g : Nat → Option Nat} {b i : Nat} (F : ∀ t, t < i → g t = some (ad k (b + t))) (h : EXT l ad l2 ad2) (hb : b + i ≤ nL l k) : ∀ t, t < i → g t = some (ad2 k (b + t)) := fun t ht => by rw [h.2 _ _ (by omega)]; exact F t ht
theorem fam_s {g g2 : Nat → Option Nat} {b i : Nat} (F : ∀ t, t < i → g t = some (ad k (b + t))) (hq : ad k (b + i) = q) (hg : g2 = va_up g i (some q)) : ∀ t, t < i + 1 → g2 t = some (ad k (b + t)) := fun t ht => by
  rw [hg]
  by_cases z : t = i
  · rw [z, hq]; exact va_up_self _ _ _
  · rw [va_up_ne _ _ z]; exact F t (by omega)
theorem all1 {P : Nat → Prop} {a : Nat} (h : P a) : ∀ b, b ∈ [a] → P b := fun b hb => by rw [List.mem_singleton.mp hb]; exact h
theorem all2 {P : Nat → Prop} {a c : Nat} (h : P a) (h2 : ∀ b, b ∈ [c] → P b) : ∀ b, b ∈ [a, c] → P b := fun b hb => by
  rcases List.mem_cons.mp hb with rfl | hb
  · exact h
  · exact h2 b hb
theorem all0 {P : Nat → Prop} : ∀ b, b ∈ ([] : List Nat) → P b := fun _ hb => absurd hb List.not_mem_nil
theorem allc {P : Nat → Prop} {a : Nat} {t : List Nat} (h : P a) (h2 : ∀ b, b ∈ t → P b) : ∀ b, b ∈ a :: t → P b := fun b hb => by
  rcases List.mem_cons.mp hb with rfl | hb
  · exact h
  · exact h2 b hb
theorem SH.nnE {sp : Nat → Nat → SP} (I : SH sp nn G ad L f) (h : ∀ k, nn k = nn2 k) : SH sp nn2 G ad L f := by
  rw [← funext h]; exact I
end GROW
