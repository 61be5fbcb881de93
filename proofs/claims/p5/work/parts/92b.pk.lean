/-! Words as numbers, the reference's way, and what its token says of the tape's. -/
section PKR
variable {r s W u : List Int} {b c x : Int} {j n p a : Nat} {k v : Int} {tk nu at9 ps9 : Int32} {wd w : Int64} {B : Nat → Int}
def pkR : List Int → Int
  | [] => 0
  | b :: r => if 281474976710656 ≤ pkR r then 1152921504606846976 else pkR r * 256 + b
abbrev dgs (r : List Int) : Prop := ∀ x, x ∈ r → 1 ≤ x ∧ x ≤ 255
theorem dgs_t (h : dgs (b :: r)) : (1 ≤ b ∧ b ≤ 255) ∧ dgs r := ⟨h b (List.mem_cons_self ..), fun x hx => h x (List.mem_cons_of_mem _ hx)⟩
theorem pkR_b : ∀ r : List Int, dgs r → r.length ≤ 7 → 0 ≤ pkR r ∧ pkR r < 256 ^ r.length ∧ (256 ^ r.length ≤ 256 * (pkR r) ∨ r = []) := by
  intro r
  induction r with
  | nil => intro _ _; exact ⟨Int.le_refl _, by decide, Or.inr rfl⟩
  | cons b r ih =>
    intro h hl
    obtain ⟨⟨b1, b2⟩, h2⟩ := dgs_t h
    have hl2 : r.length ≤ 6 := by simpa using hl
    obtain ⟨a1, a2, a3⟩ := ih h2 (by omega)
    have e : (256 : Int) ^ (b :: r).length = 256 * 256 ^ r.length := by rw [List.length_cons, Int.pow_succ, Int.mul_comm]
    have e6 : (256 : Int) ^ r.length ≤ 281474976710656 := by
      have q : ∀ m : Nat, m ≤ 6 → (256 : Int) ^ m ≤ 281474976710656 := by decide
      exact q _ hl2
    have e0 : (1 : Int) ≤ 256 ^ r.length := by
      have q : ∀ m : Nat, m ≤ 6 → (1 : Int) ≤ 256 ^ m := by decide
      exact q _ hl2
    rw [e]
    unfold pkR
    rw [if_neg (by omega)]
    refine ⟨by omega, by omega, Or.inl ?_⟩
    rcases a3 with a3 | a3
    · omega
    · subst a3; show 256 * (256 : Int) ^ 0 ≤ _; simp; omega
theorem pkR_lo (h : dgs r) (hl : r.length ≤ 6) : pkR r < 281474976710656 := by
  have q := (pkR_b r h (by omega)).2.1
  have e6 : (256 : Int) ^ r.length ≤ 281474976710656 := by
    have q : ∀ m : Nat, m ≤ 6 → (256 : Int) ^ m ≤ 281474976710656 := by decide
    exact q _ hl
  omega
theorem pkR_7 (h : dgs r) (hl : r.length = 7) : 281474976710656 ≤ pkR r ∧ pkR r < 72057594037927936 := by
  have q := pkR_b r h (by omega)
  rw [hl] at q
  obtain ⟨q1, q2, q3⟩ := q
  have e : (256 : Int) ^ 7 = 72057594037927936 := by decide
  rw [e] at q2 q3
  rcases q3 with q3 | q3
  · exact ⟨by omega, q2⟩
  · subst q3; exact absurd hl (by decide)
theorem pkR_8 : ∀ r : List Int, dgs r → 8 ≤ r.length → pkR r = 1152921504606846976 := by
  intro r
  induction r with
  | nil => intro _ h; exact absurd h (by decide)
  | cons b r ih =>
    intro h hl
    obtain ⟨_, h2⟩ := dgs_t h
    have hl2 : 7 ≤ r.length := by have : (b :: r).length = r.length + 1 := List.length_cons; omega
    unfold pkR
    by_cases z : r.length = 7
    · rw [if_pos (pkR_7 h2 z).1]
    · rw [if_pos (by rw [ih h2 (by omega)]; decide)]
theorem pkR_hi (h : dgs r) : 0 ≤ pkR r ∧ pkR r ≤ 1152921504606846976 := by
  by_cases z : 8 ≤ r.length
  · rw [pkR_8 r h z]; decide
  · by_cases y : r.length = 7
    · have := pkR_7 h y; omega
    · have a1 := pkR_b r h (by omega)
      have a2 := pkR_lo h (by omega)
      omega
theorem pkR_inj7 : ∀ r s : List Int, dgs r → dgs s → r.length ≤ 7 → s.length ≤ 7 → pkR r = pkR s → r = s := by
  intro r
  induction r with
  | nil =>
    intro s _ hs _ ls e
    cases s with
    | nil => rfl
    | cons c s =>
      obtain ⟨⟨c1, c2⟩, h2⟩ := dgs_t hs
      have l2 : s.length ≤ 6 := by simpa using ls
      have a := pkR_lo h2 l2
      have b0 := (pkR_b s h2 (by omega)).1
      have e : (0 : Int) = pkR (c :: s) := e
      unfold pkR at e
      rw [if_neg (by omega)] at e
      omega
  | cons b r ih =>
    intro s hr hs lr ls e
    obtain ⟨⟨b1, b2⟩, h1⟩ := dgs_t hr
    have l1 : r.length ≤ 6 := by simpa using lr
    have a1 := pkR_lo h1 l1
    have a0 := (pkR_b r h1 (by omega)).1
    cases s with
    | nil =>
      have e : pkR (b :: r) = 0 := e
      unfold pkR at e
      rw [if_neg (by omega)] at e
      omega
    | cons c s =>
      obtain ⟨⟨c1, c2⟩, h2⟩ := dgs_t hs
      have l2 : s.length ≤ 6 := by simpa using ls
      have b3 := pkR_lo h2 l2
      have b0 := (pkR_b s h2 (by omega)).1
      unfold pkR at e
      rw [if_neg (by omega), if_neg (by omega)] at e
      have e1 : b = c := by omega
      have e2 : pkR r = pkR s := by omega
      rw [e1, ih s h1 h2 (by omega) (by omega) e2]
theorem pkR_inj (hr : dgs r) (hs : dgs s) (ls : s.length ≤ 7) (e : pkR r = pkR s) : r = s := by
  by_cases z : 8 ≤ r.length
  · rw [pkR_8 r hr z] at e
    exfalso
    by_cases y : s.length = 7
    · have := pkR_7 hs y; omega
    · have := pkR_lo hs (by omega); omega
  · exact pkR_inj7 r s hr hs (by omega) ls e
/-- a word of the document's -/
abbrev wdj (j : Nat) : List Int := wds.getD j []
def wdT (j : Nat) : Bool := decide ((wdj j).length ≤ 7) && (wdj j).all (fun x => decide (1 ≤ x ∧ x ≤ 255)) && decide (wdF wds 0 (wdj j) = (j : Int))
theorem wdT_all : (List.range 31).all wdT = true := by decide +kernel
theorem wd_at (h : j < 31) : (wdj j).length ≤ 7 ∧ dgs (wdj j) ∧ wdF wds 0 (wdj j) = (j : Int) := by
  have k := List.all_eq_true.mp wdT_all j (List.mem_range.mpr h)
  unfold wdT at k
  rw [Bool.and_eq_true, Bool.and_eq_true] at k
  exact ⟨of_decide_eq_true k.1.1, fun x hx => of_decide_eq_true (List.all_eq_true.mp k.1.2 x hx), of_decide_eq_true k.2⟩
theorem wdF_or : ∀ (us : List (List Int)) (k : Int), wdF us k W = 1001 ∨ ∃ i, i < us.length ∧ wdF us k W = k + (i : Int) ∧ W = us.getD i [] := by
  intro us
  induction us with
  | nil => intro k; exact Or.inl rfl
  | cons u us ih =>
    intro k
    unfold wdF
    by_cases z : W = u
    · rw [if_pos z]; exact Or.inr ⟨0, by simp, by simp, by simpa using z⟩
    · rw [if_neg z]
      rcases ih (k + 1) with h | ⟨i, h1, h2, h3⟩
      · exact Or.inl h
      · refine Or.inr ⟨i + 1, by simpa using h1, by rw [h2]; omega, ?_⟩
        rw [h3]; rfl
theorem wdF_iff (h : j < 31) : wdF wds 0 W = (j : Int) ↔ W = wdj j := by
  constructor
  · intro e
    rcases wdF_or (W := W) wds 0 with q | ⟨i, q1, q2, q3⟩
    · rw [q] at e; omega
    · rw [q2] at e
      have : i = j := by omega
      rw [← this]; exact q3
  · intro e; rw [e]; exact (wd_at h).2.2
theorem wdF_rg : (0 ≤ wdF wds 0 W ∧ wdF wds 0 W ≤ 30) ∨ wdF wds 0 W = 1001 := by
  rcases wdF_or (W := W) wds 0 with q | ⟨i, q1, q2, q3⟩
  · exact Or.inr q
  · have : i < 31 := q1
    exact Or.inl ⟨by omega, by omega⟩
/-- the reference's token beside the tape's: W the letters -/
def TKR (W : List Int) (k v : Int) (tk nu : Int32) (wd : Int64) : Prop :=
  (tk = 0 ∧ k = 1002) ∨ (tk = 1 ∧ k = 1000 ∧ 0 ≤ nu.toInt ∧ v = min 10000 nu.toInt) ∨ (tk = 2 ∧ k = wdF wds 0 W ∧ dgs W.reverse ∧ wd.toInt = pkR W.reverse) ∨
  (tk = 4 ∧ k = 316) ∨ (tk = 5 ∧ k = 318) ∨ (tk = 3 ∧ k = 1001) ∨ (isSg tk.toInt ∧ k = tk.toInt)
theorem tk_sg (h : TKR W k v tk nu wd) (e : isSg tk.toInt) : k = tk.toInt := by
  rcases h with ⟨q, _⟩ | ⟨q, _⟩ | ⟨q, _⟩ | ⟨q, _⟩ | ⟨q, _⟩ | ⟨q, _⟩ | ⟨_, q⟩
  · rw [q] at e; exact absurd e (by decide)
  · rw [q] at e; exact absurd e (by decide)
  · rw [q] at e; exact absurd e (by decide)
  · rw [q] at e; exact absurd e (by decide)
  · rw [q] at e; exact absurd e (by decide)
  · rw [q] at e; exact absurd e (by decide)
  · exact q
/-- what the token's number says of the kind -/
theorem tk_k (h : TKR W k v tk nu wd) : (tk.toInt = 0 ↔ k = 1002) ∧ (tk.toInt = 1 ↔ k = 1000) ∧ (tk.toInt = 4 ↔ k = 316) ∧ (tk.toInt = 5 ↔ k = 318) ∧ (∀ s : Int, isSg s → (tk.toInt = s ↔ k = s)) ∧ (tk.toInt = 2 → (0 ≤ k ∧ k ≤ 30) ∨ k = 1001) ∧ ((0 ≤ k ∧ k ≤ 30) → tk.toInt = 2) := by
  rcases h with ⟨q, e⟩ | ⟨q, e, _⟩ | ⟨q, e, _⟩ | ⟨q, e⟩ | ⟨q, e⟩ | ⟨q, e⟩ | ⟨q, e⟩
  · have q : tk.toInt = 0 := by rw [q]; rfl
    exact ⟨by omega, by omega, by omega, by omega, fun s hs => by unfold isSg at hs; omega, by omega, by omega⟩
  · have q : tk.toInt = 1 := by rw [q]; rfl
    exact ⟨by omega, by omega, by omega, by omega, fun s hs => by unfold isSg at hs; omega, by omega, by omega⟩
  · have q : tk.toInt = 2 := by rw [q]; rfl
    have g := wdF_rg (W := W)
    rw [← e] at g
    exact ⟨by omega, by omega, by omega, by omega, fun s hs => by unfold isSg at hs; omega, fun _ => g, fun _ => q⟩
  · have q : tk.toInt = 4 := by rw [q]; rfl
    exact ⟨by omega, by omega, by omega, by omega, fun s hs => by unfold isSg at hs; omega, by omega, by omega⟩
  · have q : tk.toInt = 5 := by rw [q]; rfl
    exact ⟨by omega, by omega, by omega, by omega, fun s hs => by unfold isSg at hs; omega, by omega, by omega⟩
  · have q : tk.toInt = 3 := by rw [q]; rfl
    exact ⟨by omega, by omega, by omega, by omega, fun s hs => by unfold isSg at hs; omega, by omega, by omega⟩
  · unfold isSg at q
    exact ⟨by omega, by omega, by omega, by omega, fun s hs => by unfold isSg at hs; omega, by omega, by omega⟩
/-- the number's value -/
theorem tk_v (h : TKR W k v tk nu wd) (e : k = 1000) : 0 ≤ nu.toInt ∧ v = min 10000 nu.toInt := by
  have g := wdF_rg (W := W)
  rcases h with ⟨q, e2⟩ | ⟨q, e2, q2⟩ | ⟨q, e2, _⟩ | ⟨q, e2⟩ | ⟨q, e2⟩ | ⟨q, e2⟩ | ⟨q, e2⟩
  · omega
  · exact q2
  · rw [← e2] at g; omega
  · omega
  · omega
  · omega
  · unfold isSg at q; omega
/-- it is this word -/
theorem tk_w (h : TKR W k v tk nu wd) (hj : j < 31) (hw : w.toInt = pkR (wdj j).reverse) : (tk = 2 ∧ wd = w) ↔ k = (j : Int) := by
  constructor
  · rintro ⟨e1, e2⟩
    rcases h with ⟨q, _⟩ | ⟨q, _⟩ | ⟨q, q2, q3, q4⟩ | ⟨q, _⟩ | ⟨q, _⟩ | ⟨q, _⟩ | ⟨q, _⟩
    · rw [e1] at q; exact absurd q (by decide)
    · rw [e1] at q; exact absurd q (by decide)
    · rw [e2, hw] at q4
      have hd : dgs (wdj j).reverse := fun x hx => (wd_at hj).2.1 x (List.mem_reverse.mp hx)
      have e := pkR_inj (r := W.reverse) (s := (wdj j).reverse) q3 hd (by rw [List.length_reverse]; exact (wd_at hj).1) q4.symm
      have e : W = wdj j := by rw [← List.reverse_reverse W, e, List.reverse_reverse]
      rw [q2]; exact (wdF_iff hj).mpr e
    · rw [e1] at q; exact absurd q (by decide)
    · rw [e1] at q; exact absurd q (by decide)
    · rw [e1] at q; exact absurd q (by decide)
    · rw [e1] at q; exact absurd q (by decide)
  · intro e
    have k2 := (tk_k h).2.2.2.2.2.2 (by omega)
    have e1 : tk = 2 := Int32.toInt_inj.mp (k2.trans rfl)
    refine ⟨e1, ?_⟩
    rcases h with ⟨q, _⟩ | ⟨q, _⟩ | ⟨q, q2, q3, q4⟩ | ⟨q, _⟩ | ⟨q, _⟩ | ⟨q, _⟩ | ⟨q, _⟩
    · rw [e1] at q; exact absurd q (by decide)
    · rw [e1] at q; exact absurd q (by decide)
    · rw [e] at q2
      have e3 := (wdF_iff hj).mp q2.symm
      apply Int64.toInt_inj.mp
      rw [q4, hw, e3]
    · rw [e1] at q; exact absurd q (by decide)
    · rw [e1] at q; exact absurd q (by decide)
    · rw [e1] at q; exact absurd q (by decide)
    · rw [e1] at q; exact absurd q (by decide)
/-- the token where the reading stands: its place, what is behind it, what it is -/
def TKN (B : Nat → Int) (n i : Nat) (at9 ps9 tk nu : Int32) (wd : Int64) : Prop :=
  ps9.toInt = (tkP B n i : Int) ∧ at9.toInt = ((tk0 B n (tkP B n i)).2.2 : Int) ∧ TKR (sl B (tkP B n i) (tk0 B n (tkP B n i)).2.2) (tkK B n i) (tkV B n i) tk nu wd
/-- the token from a on -/
def NT9 (B : Nat → Int) (n a : Nat) (at9 ps9 tk nu : Int32) (wd : Int64) : Prop :=
  ps9.toInt = (skB B n n a : Int) ∧ at9.toInt = ((tk0 B n (skB B n n a)).2.2 : Int) ∧ TKR (sl B (skB B n n a) (tk0 B n (skB B n n a)).2.2) (tk0 B n (skB B n n a)).1 (tk0 B n (skB B n n a)).2.1 tk nu wd
theorem NT_0 (h : NT9 B n 0 at9 ps9 tk nu wd) : TKN B n 0 at9 ps9 tk nu wd := h
theorem NT_s {i : Nat} {at2 ps2 tk2 nu2 : Int32} {wd2 : Int64} (h : TKN B n i at9 ps9 tk nu wd) (h2 : NT9 B n at9.toInt.toNat at2 ps2 tk2 nu2 wd2) : TKN B n (i + 1) at2 ps2 tk2 nu2 wd2 := by
  rw [show at9.toInt.toNat = (tk0 B n (tkP B n i)).2.2 from by have := h.2.1; omega] at h2
  exact h2
end PKR
section L64
variable {x s b z t : Int64} {c : Int32} {X : Int}
theorem i64n (h : 0 ≤ x.toInt) : (x.toBitVec.toNat : Int) = x.toInt := by
  have e : x.toInt = x.toBitVec.toInt := rfl
  have l := x.toBitVec.isLt
  rw [e] at h ⊢
  rw [BitVec.toInt_eq_toNat_cond] at h ⊢
  split
  · rfl
  · next q => rw [if_neg q] at h; omega
theorem i64m {n : Nat} (h : x.toBitVec.toNat = n) (hn : n < 9223372036854775808) : x.toInt = (n : Int) := by
  have e : x.toInt = x.toBitVec.toInt := rfl
  rw [e, BitVec.toInt_eq_toNat_cond, h, if_pos (by omega)]
theorem c64 (h : bn 0 255 c) : c.toInt64.toBitVec.toNat = c.toInt.toNat := by
  have e : c.toInt64.toInt = c.toInt := Int32.toInt_toInt64 c
  have h1 := h.1
  have k := i64n (x := c.toInt64) (by omega)
  omega
theorem shl8 (h0 : 0 ≤ x.toInt) (h : x.toInt < 281474976710656) (e : s = x <<< ((8 : Int32).toInt64 &&& 63)) : s.toBitVec.toNat = x.toInt.toNat * 256 := by
  have k := i64n h0
  have e2 : s.toBitVec = x.toBitVec <<< (8#64) := by rw [e]; rfl
  rw [e2, BitVec.shiftLeft_eq', BitVec.toNat_shiftLeft, Nat.shiftLeft_eq]
  have e3 : (8#64).toNat = 8 := rfl
  rw [e3]
  omega
theorem lor8 (h0 : 0 ≤ x.toInt) (h : x.toInt < 281474976710656) (hc : bn 0 255 c) (e : s = x <<< ((8 : Int32).toInt64 &&& 63)) (eb : b = c.toInt64) (ez : z = s ||| b) : z.toInt = x.toInt * 256 + c.toInt := by
  have k := shl8 h0 h e
  have k2 := c64 hc
  have h1 := hc.1
  have h2 := hc.2
  have e2 : z.toBitVec = s.toBitVec ||| b.toBitVec := by rw [ez]; rfl
  have e3 : z.toBitVec.toNat = x.toInt.toNat * 256 + c.toInt.toNat := by
    rw [e2, BitVec.toNat_or, k, eb, k2]
    have q := Nat.shiftLeft_add_eq_or_of_lt (a := x.toInt.toNat) (b := c.toInt.toNat) (i := 8) (by show c.toInt.toNat < 256; omega)
    rw [Nat.shiftLeft_eq] at q
    exact q.symm
  rw [i64m e3 (by omega)]
  omega
theorem shr48 (h0 : 0 ≤ x.toInt) (e : t = x >>> ((48 : Int32).toInt64 &&& 63)) : t = 0 ↔ x.toInt < 281474976710656 := by
  have k := i64n h0
  have l : x.toInt < 9223372036854775808 := Int64.toInt_lt x
  have e2 : t.toBitVec = x.toBitVec.sshiftRight 48 := by rw [e]; rfl
  have hm : x.toBitVec.msb = false := by
    rw [BitVec.msb_eq_false_iff_two_mul_lt]; omega
  have e3 : t.toBitVec.toNat = x.toInt.toNat / 281474976710656 := by
    rw [e2, BitVec.sshiftRight_eq_of_msb_false hm, BitVec.toNat_ushiftRight, Nat.shiftRight_eq_div_pow]
    have e4 : x.toBitVec.toNat = x.toInt.toNat := by omega
    rw [e4]
  constructor
  · intro q
    rw [q] at e3
    have e5 : (0 : Int64).toBitVec.toNat = 0 := rfl
    rw [e5] at e3
    omega
  · intro q
    have e6 : x.toInt.toNat / 281474976710656 = 0 := by omega
    rw [e6] at e3
    apply Int64.toInt_inj.mp
    rw [i64m e3 (by decide)]; rfl
end L64
theorem end92b : True := trivial
