/-! The word 'release', byte by byte, and the mask of the laws. -/
section REL
variable {gt : Nat → Int32} {td at9 ps9 tk nu x y z u a0 a1 a2 a3 b0 b1 b2 b3 i0 i1 i2 i3 i4 i5 i6 r0 r1 r2 r3 r4 r5 r6 r : Int32} {wd : Int64} {i9 p : Nat} {k : Int}
theorem wv2_i (hx : bn 0 255 x) (hy : bn 0 255 y) : (wv2 x y).toInt = x.toInt * 256 + y.toInt := by
  have e := Int32.toInt_toInt64 x
  unfold wv2
  rw [lor8 (x := x.toInt64) (by rw [e]; exact hx.1) (by rw [e]; have := hx.2; omega) hy rfl rfl rfl, e]
theorem wv3_i (hx : bn 0 255 x) (hy : bn 0 255 y) (hz : bn 0 255 z) : (wv3 x y z).toInt = (x.toInt * 256 + y.toInt) * 256 + z.toInt := by
  have e := wv2_i hx hy
  have q1 := hx.1; have q2 := hx.2; have q3 := hy.1; have q4 := hy.2
  unfold wv3
  rw [lor8 (x := wv2 x y) (by rw [e]; omega) (by rw [e]; omega) hz rfl rfl rfl, e]
theorem wv4_i (hx : bn 0 255 x) (hy : bn 0 255 y) (hz : bn 0 255 z) (hu : bn 0 255 u) : (wv4 x y z u).toInt = ((x.toInt * 256 + y.toInt) * 256 + z.toInt) * 256 + u.toInt := by
  have e := wv3_i hx hy hz
  have q1 := hx.1; have q2 := hx.2; have q3 := hy.1; have q4 := hy.2; have q5 := hz.1; have q6 := hz.2
  unfold wv4
  rw [lor8 (x := wv3 x y z) (by rw [e]; omega) (by rw [e]; omega) hu rfl rfl rfl, e]
theorem wv3_inj (h0 : bn 0 255 a0) (h1 : bn 0 255 a1) (h2 : bn 0 255 a2) (k0 : bn 0 255 b0) (k1 : bn 0 255 b1) (k2 : bn 0 255 b2) (e : wv3 a0 a1 a2 = wv3 b0 b1 b2) : a0.toInt = b0.toInt ∧ a1.toInt = b1.toInt ∧ a2.toInt = b2.toInt := by
  have q := congrArg Int64.toInt e
  rw [wv3_i h0 h1 h2, wv3_i k0 k1 k2] at q
  obtain ⟨_, _⟩ := h0; obtain ⟨_, _⟩ := h1; obtain ⟨_, _⟩ := h2; obtain ⟨_, _⟩ := k0; obtain ⟨_, _⟩ := k1; obtain ⟨_, _⟩ := k2
  omega
theorem wv4_inj (h0 : bn 0 255 a0) (h1 : bn 0 255 a1) (h2 : bn 0 255 a2) (h3 : bn 0 255 a3) (k0 : bn 0 255 b0) (k1 : bn 0 255 b1) (k2 : bn 0 255 b2) (k3 : bn 0 255 b3) (e : wv4 a0 a1 a2 a3 = wv4 b0 b1 b2 b3) : a0.toInt = b0.toInt ∧ a1.toInt = b1.toInt ∧ a2.toInt = b2.toInt ∧ a3.toInt = b3.toInt := by
  have q := congrArg Int64.toInt e
  rw [wv4_i h0 h1 h2 h3, wv4_i k0 k1 k2 k3] at q
  obtain ⟨_, _⟩ := h0; obtain ⟨_, _⟩ := h1; obtain ⟨_, _⟩ := h2; obtain ⟨_, _⟩ := h3; obtain ⟨_, _⟩ := k0; obtain ⟨_, _⟩ := k1; obtain ⟨_, _⟩ := k2; obtain ⟨_, _⟩ := k3
  omega
/-- a word's letters are the tape's, below its length -/
theorem rel_w (h : TKN (bI gt) td.toInt.toNat i9 at9 ps9 tk nu wd) (h2 : tk = 2) : ∃ p e : Nat, ps9.toInt = (p : Int) ∧ at9.toInt = (e : Int) ∧ e ≤ td.toInt.toNat ∧ p < e ∧ tkK (bI gt) td.toInt.toNat i9 = wdF wds 0 (sl (bI gt) p e) := by
  obtain ⟨e1, e2, e3⟩ := h
  have hp : tkP (bI gt) td.toInt.toNat i9 < td.toInt.toNat := by
    rcases Nat.lt_or_ge (tkP (bI gt) td.toInt.toNat i9) td.toInt.toNat with q | q
    · exact q
    · exfalso
      have k0 : tkK (bI gt) td.toInt.toNat i9 = 1002 := by unfold tkK; rw [tk0_e q]
      have := (tk_k e3).2.2.2.2.2.1 (by rw [h2]; rfl)
      omega
  have u := tk0_up (B := bI gt) hp
  refine ⟨_, _, e1, e2, u.2, u.1, ?_⟩
  rcases e3 with ⟨q, _⟩ | ⟨q, _⟩ | ⟨_, q, _⟩ | ⟨q, _⟩ | ⟨q, _⟩ | ⟨q, _⟩ | ⟨q, _⟩
  · rw [h2] at q; exact absurd q (by decide)
  · rw [h2] at q; exact absurd q (by decide)
  · exact q
  · rw [h2] at q; exact absurd q (by decide)
  · rw [h2] at q; exact absurd q (by decide)
  · rw [h2] at q; exact absurd q (by decide)
  · rw [h2] at q; exact absurd q (by decide)
theorem sl7 {B : Nat → Int} {e : Nat} (h : e = p + 7) : sl B p e = [B p, B (p + 1), B (p + 2), B (p + 3), B (p + 4), B (p + 5), B (p + 6)] := by
  unfold sl
  rw [show e - p = 7 by omega]
  rfl
theorem wdj6 : wdj 6 = [114, 101, 108, 101, 97, 115, 101] := by decide
theorem BY_at (h0 : 0 ≤ x.toInt) (hx : x.toInt < td.toInt) : BY gt td x = gt x.toInt.toNat := by
  unfold BY
  rw [if_pos (by rw [Int32.lt_iff_toInt_lt]; exact hx)]
  rfl
/-- the seven bytes behind the place -/
def RB (gt : Nat → Int32) (td ps9 i0 i1 i2 i3 i4 i5 i6 r0 r1 r2 r3 r4 r5 r6 : Int32) : Prop :=
  (r0 = BY gt td i0 ∧ i0.toInt = ps9.toInt) ∧ (r1 = BY gt td i1 ∧ i1.toInt = ps9.toInt + 1) ∧ (r2 = BY gt td i2 ∧ i2.toInt = ps9.toInt + 2) ∧ (r3 = BY gt td i3 ∧ i3.toInt = ps9.toInt + 3) ∧ (r4 = BY gt td i4 ∧ i4.toInt = ps9.toInt + 4) ∧ (r5 = BY gt td i5 ∧ i5.toInt = ps9.toInt + 5) ∧ (r6 = BY gt td i6 ∧ i6.toInt = ps9.toInt + 6)
theorem rel_by (h : TKN (bI gt) td.toInt.toNat i9 at9 ps9 tk nu wd) (h2 : tk = 2) (h7 : at9.toInt = ps9.toInt + 7) {d : Nat} (hd : d < 7) (e : r = BY gt td x) (ex : x.toInt = ps9.toInt + (d : Int)) : r.toInt = bI gt (ps9.toInt.toNat + d) := by
  obtain ⟨p, q, e1, e2, e3, e4, _⟩ := rel_w h h2
  have ht : 0 ≤ td.toInt ∨ td.toInt < 0 := by omega
  rw [e, BY_at (by omega) (by omega), show x.toInt.toNat = ps9.toInt.toNat + d by omega]
theorem rel_sl (h : TKN (bI gt) td.toInt.toNat i9 at9 ps9 tk nu wd) (h2 : tk = 2) (h7 : at9.toInt = ps9.toInt + 7) : tkK (bI gt) td.toInt.toNat i9 = 6 ↔ ([bI gt (ps9.toInt.toNat), bI gt (ps9.toInt.toNat + 1), bI gt (ps9.toInt.toNat + 2), bI gt (ps9.toInt.toNat + 3), bI gt (ps9.toInt.toNat + 4), bI gt (ps9.toInt.toNat + 5), bI gt (ps9.toInt.toNat + 6)] : List Int) = [114, 101, 108, 101, 97, 115, 101] := by
  obtain ⟨p, q, e1, e2, _, _, e5⟩ := rel_w h h2
  have hp : ps9.toInt.toNat = p := by omega
  rw [hp, ← sl7 (B := bI gt) (p := p) (e := q) (by omega), ← wdj6, e5]
  exact wdF_iff (by decide)
theorem rel_7 (h : TKN (bI gt) td.toInt.toNat i9 at9 ps9 tk nu wd) (h2 : tk = 2) (hk : tkK (bI gt) td.toInt.toNat i9 = 6) : at9.toInt = ps9.toInt + 7 := by
  obtain ⟨p, q, e1, e2, _, e4, e5⟩ := rel_w h h2
  rw [e5] at hk
  have z := (wdF_iff (show 6 < 31 by decide)).mp hk
  have l := congrArg List.length z
  rw [wdj6] at l
  unfold sl at l
  rw [List.length_map, List.length_range] at l
  have l : q - p = 7 := l
  omega
/-- the bytes' numbers -/
theorem RB_n (h : TKN (bI gt) td.toInt.toNat i9 at9 ps9 tk nu wd) (h2 : tk = 2) (h7 : at9.toInt = ps9.toInt + 7) (hR : RB gt td ps9 i0 i1 i2 i3 i4 i5 i6 r0 r1 r2 r3 r4 r5 r6) : tkK (bI gt) td.toInt.toNat i9 = 6 ↔ (r0.toInt = 114 ∧ r1.toInt = 101 ∧ r2.toInt = 108 ∧ r3.toInt = 101 ∧ r4.toInt = 97 ∧ r5.toInt = 115 ∧ r6.toInt = 101) := by
  obtain ⟨⟨q0, p0⟩, ⟨q1, p1⟩, ⟨q2, p2⟩, ⟨q3, p3⟩, ⟨q4, p4⟩, ⟨q5, p5⟩, ⟨q6, p6⟩⟩ := hR
  rw [rel_sl h h2 h7, rel_by h h2 h7 (d := 0) (by decide) q0 (by omega), rel_by h h2 h7 (d := 1) (by decide) q1 p1, rel_by h h2 h7 (d := 2) (by decide) q2 p2, rel_by h h2 h7 (d := 3) (by decide) q3 p3, rel_by h h2 h7 (d := 4) (by decide) q4 p4, rel_by h h2 h7 (d := 5) (by decide) q5 p5, rel_by h h2 h7 (d := 6) (by decide) q6 p6]
  constructor
  · intro z
    injection z with z0 z
    injection z with z1 z
    injection z with z2 z
    injection z with z3 z
    injection z with z4 z
    injection z with z5 z
    injection z with z6 z
    exact ⟨z0, z1, z2, z3, z4, z5, z6⟩
  · rintro ⟨z0, z1, z2, z3, z4, z5, z6⟩
    rw [show ps9.toInt.toNat + 0 = ps9.toInt.toNat from rfl] at z0
    rw [z0, z1, z2, z3, z4, z5, z6]
theorem BY_255 (hB : BYT gt) (h : TKN (bI gt) td.toInt.toNat i9 at9 ps9 tk nu wd) (h2 : tk = 2) (h7 : at9.toInt = ps9.toInt + 7) {d : Nat} (hd : d < 7) (e : r = BY gt td x) (ex : x.toInt = ps9.toInt + (d : Int)) : bn 0 255 r := by
  have q := rel_by h h2 h7 hd e ex
  have z := hB (ps9.toInt.toNat + d)
  have q : r.toInt = (gt (ps9.toInt.toNat + d)).toInt := q
  exact ⟨by rw [q]; exact z.1, by rw [q]; exact z.2⟩
theorem rel_yes (hB : BYT gt) (h : TKN (bI gt) td.toInt.toNat i9 at9 ps9 tk nu wd) (h2 : tk = 2) (h7 : at9.toInt = ps9.toInt + 7) (hR : RB gt td ps9 i0 i1 i2 i3 i4 i5 i6 r0 r1 r2 r3 r4 r5 r6) (e4 : wv4 r0 r1 r2 r3 = wv4 114 101 108 101) (e3 : wv3 r4 r5 r6 = wv3 97 115 101) : tkK (bI gt) td.toInt.toNat i9 = 6 := by
  have hR' := hR
  obtain ⟨⟨q0, p0⟩, ⟨q1, p1⟩, ⟨q2, p2⟩, ⟨q3, p3⟩, ⟨q4, p4⟩, ⟨q5, p5⟩, ⟨q6, p6⟩⟩ := hR
  have u := fun (d : Nat) (hd : d < 7) (r x : Int32) => BY_255 (d := d) (r := r) (x := x) hB h h2 h7 hd
  obtain ⟨z0, z1, z2, z3⟩ := wv4_inj (u 0 (by decide) _ _ q0 (by omega)) (u 1 (by decide) _ _ q1 p1) (u 2 (by decide) _ _ q2 p2) (u 3 (by decide) _ _ q3 p3) (bn_k (by decide)) (bn_k (by decide)) (bn_k (by decide)) (bn_k (by decide)) e4
  obtain ⟨z4, z5, z6⟩ := wv3_inj (u 4 (by decide) _ _ q4 p4) (u 5 (by decide) _ _ q5 p5) (u 6 (by decide) _ _ q6 p6) (bn_k (by decide)) (bn_k (by decide)) (bn_k (by decide)) e3
  exact (RB_n h h2 h7 hR').mpr ⟨z0, z1, z2, z3, z4, z5, z6⟩
theorem rel_n4 (h : TKN (bI gt) td.toInt.toNat i9 at9 ps9 tk nu wd) (h2 : tk = 2) (h7 : at9.toInt = ps9.toInt + 7) (q0 : r0 = BY gt td i0) (p0 : i0.toInt = ps9.toInt) (q1 : r1 = BY gt td i1) (p1 : i1.toInt = ps9.toInt + 1) (q2 : r2 = BY gt td i2) (p2 : i2.toInt = ps9.toInt + 2) (q3 : r3 = BY gt td i3) (p3 : i3.toInt = ps9.toInt + 3) (n : ¬ wv4 r0 r1 r2 r3 = wv4 114 101 108 101) : tkK (bI gt) td.toInt.toNat i9 ≠ 6 := fun hk => n (by
  have z := (rel_sl h h2 h7).mp hk
  have k0 := rel_by h h2 h7 (d := 0) (by decide) q0 (by omega)
  have k1 := rel_by h h2 h7 (d := 1) (by decide) q1 p1
  have k2 := rel_by h h2 h7 (d := 2) (by decide) q2 p2
  have k3 := rel_by h h2 h7 (d := 3) (by decide) q3 p3
  injection z with z0 z
  injection z with z1 z
  injection z with z2 z
  injection z with z3 z
  rw [show r0 = 114 from Int32.toInt_inj.mp (k0.trans z0), show r1 = 101 from Int32.toInt_inj.mp (k1.trans z1), show r2 = 108 from Int32.toInt_inj.mp (k2.trans z2), show r3 = 101 from Int32.toInt_inj.mp (k3.trans z3)])
theorem rel_n3 (h : TKN (bI gt) td.toInt.toNat i9 at9 ps9 tk nu wd) (h2 : tk = 2) (h7 : at9.toInt = ps9.toInt + 7) (hR : RB gt td ps9 i0 i1 i2 i3 i4 i5 i6 r0 r1 r2 r3 r4 r5 r6) (n : ¬ wv3 r4 r5 r6 = wv3 97 115 101) : tkK (bI gt) td.toInt.toNat i9 ≠ 6 := fun hk => n (by
  obtain ⟨_, _, _, _, z4, z5, z6⟩ := (RB_n h h2 h7 hR).mp hk
  rw [show r4 = 97 from Int32.toInt_inj.mp (z4.trans rfl), show r5 = 115 from Int32.toInt_inj.mp (z5.trans rfl), show r6 = 101 from Int32.toInt_inj.mp (z6.trans rfl)])
/-- a clause's word and the reference's number for it -/
def SO8 (k s : Int) : Prop := 0 ≤ k ∧ k ≤ 9 ∧ ((k ≤ 4 ∧ s = k) ∨ (5 ≤ k ∧ s = k + 1))
theorem on_bits : ∀ a : Fin 8, ∀ c : Fin 3, (a.1.testBit c.1 = true → (if c.1 = 0 then a.1 % 2 = 1 else if c.1 = 1 then a.1 / 2 % 2 = 1 else a.1 / 4 % 2 = 1)) ∧ (a.1.testBit c.1 = false → ¬ (if c.1 = 0 then a.1 % 2 = 1 else if c.1 = 1 then a.1 / 2 % 2 = 1 else a.1 / 4 % 2 = 1)) := by decide
theorem on_or : ∀ a : Fin 8, ∀ c : Fin 3, a.1.testBit c.1 = false → ((Int32.ofNat a.1) ||| ((1 : Int32) <<< ((Int32.ofNat c.1) &&& 31))).toInt = (a.1 : Int) + (if c.1 = 0 then 1 else if c.1 = 1 then 2 else 4) := by decide
section ONC
variable {K V : Nat → Int} {rr : Int × Nat} {m s on2 : Int32} {n : Int}
theorem n32 {N : Int} (h : bn 0 N m) : Int32.ofNat m.toInt.toNat = m := by
  apply Int32.toInt_inj.mp
  have h1 := h.1
  have h2 := Int32.toInt_lt m
  rw [Int32.toInt_ofNat_of_lt (by omega)]
  omega
theorem bit_y (hm : bn 0 7 m) (hs : 0 ≤ s.toInt ∧ s.toInt ≤ 2) (h : m.toInt.toNat.testBit s.toInt.toNat = true) : if s.toInt = 0 then m.toInt % 2 = 1 else if s.toInt = 1 then m.toInt / 2 % 2 = 1 else m.toInt / 4 % 2 = 1 := by
  have h1 := hm.1
  have h2 := hm.2
  have q := (on_bits ⟨m.toInt.toNat, by omega⟩ ⟨s.toInt.toNat, by omega⟩).1 h
  dsimp only at q
  rcases (show s.toInt = 0 ∨ s.toInt = 1 ∨ s.toInt = 2 by omega) with z | z | z
  · rw [if_pos (by omega)] at q; rw [if_pos z]; omega
  · rw [if_neg (by omega), if_pos (by omega)] at q; rw [if_neg (by omega), if_pos z]; omega
  · rw [if_neg (by omega), if_neg (by omega)] at q; rw [if_neg (by omega), if_neg (by omega)]; omega
theorem bit_n (hm : bn 0 7 m) (hs : 0 ≤ s.toInt ∧ s.toInt ≤ 2) (h : m.toInt.toNat.testBit s.toInt.toNat = false) : ¬ (if s.toInt = 0 then m.toInt % 2 = 1 else if s.toInt = 1 then m.toInt / 2 % 2 = 1 else m.toInt / 4 % 2 = 1) := by
  have h1 := hm.1
  have h2 := hm.2
  have q := (on_bits ⟨m.toInt.toNat, by omega⟩ ⟨s.toInt.toNat, by omega⟩).2 h
  dsimp only at q
  rcases (show s.toInt = 0 ∨ s.toInt = 1 ∨ s.toInt = 2 by omega) with z | z | z
  · rw [if_pos (by omega)] at q; rw [if_pos z]; omega
  · rw [if_neg (by omega), if_pos (by omega)] at q; rw [if_neg (by omega), if_pos z]; omega
  · rw [if_neg (by omega), if_neg (by omega)] at q; rw [if_neg (by omega), if_neg (by omega)]; omega
theorem cl_a {n : Int} (hn : bn 0 24 x) (e : x.toInt = n) : (m.toInt * 100 + n) / 100 = m.toInt ∧ (m.toInt * 100 + n) % 100 = n := by
  obtain ⟨h1, h2⟩ := hn
  constructor <;> omega
def FRE (m s : Int32) : Prop := 2 < s.toInt ∨ m.toInt.toNat.testBit s.toInt.toNat = false
theorem hs_t {r : Int32} {c : Bool} (e : r = if c = true then 1 else 0) (h : ¬ r = 0) : c = true := by
  cases c with
  | true => rfl
  | false => exact absurd e h
theorem hs_f {r : Int32} {c : Bool} (e : r = if c = true then 1 else 0) (h : r = 0) : c = false := by
  cases c with
  | false => rfl
  | true => rw [h] at e; exact absurd e (by decide)
theorem fre_no (hm : bn 0 7 m) (hk : SO8 k s.toInt) (h : FRE m s) : ¬ (onceM m.toInt k ≠ m.toInt ∧ (if k = 0 then m.toInt % 2 = 1 else if k = 1 then m.toInt / 2 % 2 = 1 else m.toInt / 4 % 2 = 1)) := by
  obtain ⟨k0, k9, kk⟩ := hk
  rintro ⟨q1, q2⟩
  rcases h with h | h
  · apply q1
    unfold onceM
    rw [if_neg (by omega), if_neg (by omega), if_neg (by omega)]
  · by_cases z : 2 < s.toInt
    · apply q1
      unfold onceM
      rw [if_neg (by omega), if_neg (by omega), if_neg (by omega)]
    · have e : k = s.toInt := by omega
      rw [e] at q2
      exact bit_n hm ⟨by omega, by omega⟩ h q2
theorem cl_two (hL : LL K V [(kCls (m.toInt * 100 + n), 0, false)] i9 rr) (hm : bn 0 7 m) (hn : bn 0 24 x) (e : x.toInt = n) (hk : SO8 (K i9) s.toInt) (h2 : s.toInt ≤ 2) (h : m.toInt.toNat.testBit s.toInt.toNat = true) : rr = (4, i9) := by
  obtain ⟨a1, a2⟩ := cl_a (m := m) hn e
  have hk' := hk
  obtain ⟨k0, k9, kk⟩ := hk'
  have ek : K i9 = s.toInt := by omega
  refine cls_two hL ⟨k0, k9⟩ ?_
  rw [a1, ek]
  refine ⟨?_, bit_y hm ⟨by omega, h2⟩ h⟩
  unfold onceM
  repeat' split
  all_goals omega
theorem cl_full (hL : LL K V [(kCls (m.toInt * 100 + n), 0, false)] i9 rr) (hm : bn 0 7 m) (hn : bn 0 24 x) (e : x.toInt = n) (hk : SO8 (K i9) s.toInt) (h : FRE m s) (h24 : x = 24) : rr = (6, i9) := by
  obtain ⟨a1, a2⟩ := cl_a (m := m) hn e
  refine cls_full hL ⟨hk.1, hk.2.1⟩ ?_ ?_
  · rw [a1]; exact fre_no hm hk h
  · rw [a2, ← e, h24]; rfl
theorem cl_go (hL : LL K V [(kCls (m.toInt * 100 + n), 0, false)] i9 rr) (hm : bn 0 7 m) (hn : bn 0 24 x) (e : x.toInt = n) (hk : SO8 (K i9) s.toInt) (h : FRE m s) (h24 : ¬ x = 24) : LL K V (lay 0 false (cbody (K i9)) ++ [(kEx 59, 0, false), (kCls (onceM m.toInt (K i9) * 100 + n + 1), 0, false)]) (i9 + 1) rr := by
  obtain ⟨a1, a2⟩ := cl_a (m := m) hn e
  have q := cls_go hL ⟨hk.1, hk.2.1⟩ (by rw [a1]; exact fre_no hm hk h) (by rw [a2, ← e]; exact fun z => h24 (Int32.toInt_inj.mp (z.trans rfl)))
  rw [a1, a2] at q
  have l : ∀ l : List IT, lay 0 false (l ++ [kEx 59, kCls (onceM m.toInt (K i9) * 100 + n + 1)]) ++ ([] : List LI) = lay 0 false l ++ [(kEx 59, 0, false), (kCls (onceM m.toInt (K i9) * 100 + n + 1), 0, false)] := by
    intro l
    rw [List.append_nil]
    unfold lay
    rw [List.map_append]
    rfl
  rw [l] at q
  exact q
theorem on_up (hm : bn 0 7 m) (hk : SO8 k s.toInt) (h2 : s.toInt ≤ 2) (h : FRE m s) (e : on2 = m ||| ((1 : Int32) <<< (s &&& 31))) : on2.toInt = onceM m.toInt k ∧ bn 0 7 on2 := by
  obtain ⟨k0, k9, kk⟩ := hk
  have m1 := hm.1
  have m2 := hm.2
  have hb : m.toInt.toNat.testBit s.toInt.toNat = false := by
    rcases h with h | h
    · omega
    · exact h
  have q := on_or ⟨m.toInt.toNat, by omega⟩ ⟨s.toInt.toNat, by omega⟩ hb
  dsimp only at q
  rw [n32 hm, n32 (m := s) (N := 2) ⟨by omega, h2⟩, ← e] at q
  have e1 : on2.toInt = onceM m.toInt k := by
    rw [q]
    unfold onceM
    repeat' split
    all_goals omega
  have hn := fre_no (k := k) hm ⟨k0, k9, kk⟩ h
  refine ⟨e1, ?_⟩
  have hc : ∀ a : Fin 8, ∀ c : Fin 3, a.1.testBit c.1 = false → a.1 + (if c.1 = 0 then 1 else if c.1 = 1 then 2 else 4) ≤ 7 := by decide
  have q3 := hc ⟨m.toInt.toNat, by omega⟩ ⟨s.toInt.toNat, by omega⟩ hb
  dsimp only at q3
  refine ⟨?_, ?_⟩
  · rw [q]; repeat' split
    all_goals omega
  · rw [q]
    revert q3
    repeat' split
    all_goals omega
theorem on_no (hk : SO8 k s.toInt) (h2 : 2 < s.toInt) : m.toInt = onceM m.toInt k := by
  obtain ⟨k0, k9, kk⟩ := hk
  unfold onceM
  rw [if_neg (by omega), if_neg (by omega), if_neg (by omega)]
end ONC
end REL
